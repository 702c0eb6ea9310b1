/-! what the tables say of each method, each call, each field; by program -/
theorem q_w (i : Nat) {w : Cond} (h : lw_tbl[i]? = some w) (hg : goodWord w = true) : w ∈ q_words := List.mem_filter.mpr ⟨List.mem_of_getElem? h, hg⟩
theorem q_wn (i : Nat) {w : Cond} (h : lw_tbl[i]? = some w) : w ∈ lw_tbl := List.mem_of_getElem? h
theorem q_wall {ws : List Cond} (h : ws.all (fun w => decide (w ∈ lw_tbl) && goodWord w) = true) : ∀ w ∈ ws, w ∈ q_words := fun w hw => by
  have h1 := List.all_eq_true.mp h w hw
  simp only [Bool.and_eq_true, decide_eq_true_eq] at h1
  exact List.mem_filter.mpr h1
abbrev mX0_init : q_M := (yX0_init, cX0_init, 1, none)
theorem iX0_init : q_MI mX0_init 0 := ⟨⟨q_w 98 (by decide +kernel) rfl, q_w 70 (by decide +kernel) rfl, ⟨by decide +kernel, by decide +kernel, by decide +kernel⟩, by decide +kernel, by decide +kernel⟩, q_w 97 (by decide +kernel) rfl, rfl, rfl⟩
abbrev mX0_copyFrom : q_M := (yX0_copyFrom, cX0_copyFrom, 2, none)
theorem iX0_copyFrom : q_MV mX0_copyFrom 1 := ⟨⟨q_w 342 (by decide +kernel) rfl, q_w 70 (by decide +kernel) rfl, ⟨by decide +kernel, by decide +kernel, by decide +kernel⟩, by decide +kernel, by decide +kernel⟩, q_w 340 (by decide +kernel) rfl, q_w 341 (by decide +kernel) rfl⟩
abbrev mX0_hasRow : q_M := (yX0_hasRow, cX0_hasRow, 2, (some .boolean))
theorem iX0_hasRow : q_MV mX0_hasRow 1 := ⟨⟨q_w 381 (by decide +kernel) rfl, q_w 70 (by decide +kernel) rfl, ⟨by decide +kernel, by decide +kernel, by decide +kernel⟩, by decide +kernel, by decide +kernel⟩, q_w 379 (by decide +kernel) rfl, q_w 380 (by decide +kernel) rfl⟩
abbrev mX0_rightAt : q_M := (yX0_rightAt, cX0_rightAt, 3, (some .int))
theorem iX0_rightAt : q_MS mX0_rightAt 3 := ⟨⟨q_w 416 (by decide +kernel) rfl, q_w 70 (by decide +kernel) rfl, ⟨by decide +kernel, by decide +kernel, by decide +kernel⟩, by decide +kernel, by decide +kernel⟩, q_w 415 (by decide +kernel) rfl⟩
abbrev mX0_offersOf : q_M := (yX0_offersOf, cX0_offersOf, 2, (some (.object "ShadowRows$Offers")))
theorem iX0_offersOf : q_MV mX0_offersOf 1 := ⟨⟨q_w 450 (by decide +kernel) rfl, q_w 70 (by decide +kernel) rfl, ⟨by decide +kernel, by decide +kernel, by decide +kernel⟩, by decide +kernel, by decide +kernel⟩, q_w 448 (by decide +kernel) rfl, q_w 449 (by decide +kernel) rfl⟩
abbrev mX0_build : q_M := (yX0_build, cX0_build, 5, (some .int))
theorem iX0_build : q_MV mX0_build 3 := ⟨⟨q_w 354 (by decide +kernel) rfl, q_w 70 (by decide +kernel) rfl, ⟨by decide +kernel, by decide +kernel, by decide +kernel⟩, by decide +kernel, by decide +kernel⟩, q_w 352 (by decide +kernel) rfl, q_w 353 (by decide +kernel) rfl⟩
abbrev mX0_isTaken : q_M := (yX0_isTaken, cX0_isTaken, 3, (some .boolean))
theorem iX0_isTaken : q_MV mX0_isTaken 1 := ⟨⟨q_w 361 (by decide +kernel) rfl, q_w 70 (by decide +kernel) rfl, ⟨by decide +kernel, by decide +kernel, by decide +kernel⟩, by decide +kernel, by decide +kernel⟩, q_w 360 (by decide +kernel) rfl, q_w 0 (by decide +kernel) rfl⟩
abbrev mX0_changeTilt : q_M := (yX0_changeTilt, cX0_changeTilt, 4, (some .int))
theorem iX0_changeTilt : q_MV mX0_changeTilt 2 := ⟨⟨q_w 377 (by decide +kernel) rfl, q_w 70 (by decide +kernel) rfl, ⟨by decide +kernel, by decide +kernel, by decide +kernel⟩, by decide +kernel, by decide +kernel⟩, q_w 375 (by decide +kernel) rfl, q_w 376 (by decide +kernel) rfl⟩
abbrev mX0_changeWind : q_M := (yX0_changeWind, cX0_changeWind, 4, (some .int))
theorem iX0_changeWind : q_MV mX0_changeWind 2 := ⟨⟨q_w 389 (by decide +kernel) rfl, q_w 70 (by decide +kernel) rfl, ⟨by decide +kernel, by decide +kernel, by decide +kernel⟩, by decide +kernel, by decide +kernel⟩, q_w 387 (by decide +kernel) rfl, q_w 388 (by decide +kernel) rfl⟩
abbrev mX0_changeStow : q_M := (yX0_changeStow, cX0_changeStow, 3, (some .int))
theorem iX0_changeStow : q_MV mX0_changeStow 1 := ⟨⟨q_w 401 (by decide +kernel) rfl, q_w 70 (by decide +kernel) rfl, ⟨by decide +kernel, by decide +kernel, by decide +kernel⟩, by decide +kernel, by decide +kernel⟩, q_w 399 (by decide +kernel) rfl, q_w 400 (by decide +kernel) rfl⟩
abbrev mX0_rightError : q_M := (yX0_rightError, cX0_rightError, 5, (some .int))
theorem iX0_rightError : q_MV mX0_rightError 4 := ⟨⟨q_w 413 (by decide +kernel) rfl, q_w 70 (by decide +kernel) rfl, ⟨by decide +kernel, by decide +kernel, by decide +kernel⟩, by decide +kernel, by decide +kernel⟩, q_w 411 (by decide +kernel) rfl, q_w 412 (by decide +kernel) rfl⟩
abbrev mX0_changeRight : q_M := (yX0_changeRight, cX0_changeRight, 8, (some .int))
theorem iX0_changeRight : q_MV mX0_changeRight 4 := ⟨⟨q_w 409 (by decide +kernel) rfl, q_w 70 (by decide +kernel) rfl, ⟨by decide +kernel, by decide +kernel, by decide +kernel⟩, by decide +kernel, by decide +kernel⟩, q_w 407 (by decide +kernel) rfl, q_w 408 (by decide +kernel) rfl⟩
abbrev mX1_init : q_M := (yX1_init, cX1_init, 2, none)
theorem iX1_init : q_MI mX1_init 0 := ⟨⟨q_w 289 (by decide +kernel) rfl, q_w 77 (by decide +kernel) rfl, ⟨by decide +kernel, by decide +kernel, by decide +kernel⟩, by decide +kernel, by decide +kernel⟩, q_w 288 (by decide +kernel) rfl, rfl, rfl⟩
abbrev mX1_mark : q_M := (yX1_mark, cX1_mark, 2, none)
theorem iX1_mark : q_MV mX1_mark 1 := ⟨⟨q_w 338 (by decide +kernel) rfl, q_w 77 (by decide +kernel) rfl, ⟨by decide +kernel, by decide +kernel, by decide +kernel⟩, by decide +kernel, by decide +kernel⟩, q_w 336 (by decide +kernel) rfl, q_w 337 (by decide +kernel) rfl⟩
abbrev mX1_keep : q_M := (yX1_keep, cX1_keep, 2, (some .int))
theorem iX1_keep : q_MV mX1_keep 1 := ⟨⟨q_w 365 (by decide +kernel) rfl, q_w 77 (by decide +kernel) rfl, ⟨by decide +kernel, by decide +kernel, by decide +kernel⟩, by decide +kernel, by decide +kernel⟩, q_w 363 (by decide +kernel) rfl, q_w 364 (by decide +kernel) rfl⟩
abbrev mX1_dropOldest : q_M := (yX1_dropOldest, cX1_dropOldest, 3, none)
theorem iX1_dropOldest : q_MV mX1_dropOldest 0 := ⟨⟨q_w 369 (by decide +kernel) rfl, q_w 77 (by decide +kernel) rfl, ⟨by decide +kernel, by decide +kernel, by decide +kernel⟩, by decide +kernel, by decide +kernel⟩, q_w 368 (by decide +kernel) rfl, q_w 1 (by decide +kernel) rfl⟩
abbrev mX1_goBack : q_M := (yX1_goBack, cX1_goBack, 2, (some .int))
theorem iX1_goBack : q_MV mX1_goBack 1 := ⟨⟨q_w 844 (by decide +kernel) rfl, q_w 77 (by decide +kernel) rfl, ⟨by decide +kernel, by decide +kernel, by decide +kernel⟩, by decide +kernel, by decide +kernel⟩, q_w 842 (by decide +kernel) rfl, q_w 843 (by decide +kernel) rfl⟩
abbrev mX2_init : q_M := (yX2_init, cX2_init, 2, none)
theorem iX2_init : q_MI mX2_init 1 := ⟨⟨q_w 183 (by decide +kernel) rfl, q_w 72 (by decide +kernel) rfl, ⟨by decide +kernel, by decide +kernel, by decide +kernel⟩, by decide +kernel, by decide +kernel⟩, q_w 182 (by decide +kernel) rfl, rfl, rfl⟩
abbrev mX2_look : q_M := (yX2_look, cX2_look, 4, none)
theorem iX2_look : q_MV mX2_look 1 := ⟨⟨q_w 518 (by decide +kernel) rfl, q_w 72 (by decide +kernel) rfl, ⟨by decide +kernel, by decide +kernel, by decide +kernel⟩, by decide +kernel, by decide +kernel⟩, q_w 516 (by decide +kernel) rfl, q_w 517 (by decide +kernel) rfl⟩
abbrev mX2_isFlat : q_M := (yX2_isFlat, cX2_isFlat, 1, (some .boolean))
theorem iX2_isFlat : q_MV mX2_isFlat 0 := ⟨⟨q_w 536 (by decide +kernel) rfl, q_w 72 (by decide +kernel) rfl, ⟨by decide +kernel, by decide +kernel, by decide +kernel⟩, by decide +kernel, by decide +kernel⟩, q_w 534 (by decide +kernel) rfl, q_w 535 (by decide +kernel) rfl⟩
abbrev mX2_sun : q_M := (yX2_sun, cX2_sun, 1, (some .int))
theorem iX2_sun : q_MV mX2_sun 0 := ⟨⟨q_w 554 (by decide +kernel) rfl, q_w 72 (by decide +kernel) rfl, ⟨by decide +kernel, by decide +kernel, by decide +kernel⟩, by decide +kernel, by decide +kernel⟩, q_w 552 (by decide +kernel) rfl, q_w 553 (by decide +kernel) rfl⟩
abbrev mX2_ahead : q_M := (yX2_ahead, cX2_ahead, 4, (some .int))
theorem iX2_ahead : q_MV mX2_ahead 2 := ⟨⟨q_w 526 (by decide +kernel) rfl, q_w 72 (by decide +kernel) rfl, ⟨by decide +kernel, by decide +kernel, by decide +kernel⟩, by decide +kernel, by decide +kernel⟩, q_w 524 (by decide +kernel) rfl, q_w 525 (by decide +kernel) rfl⟩
abbrev mX2_lossBetween : q_M := (yX2_lossBetween, cX2_lossBetween, 5, (some .int))
theorem iX2_lossBetween : q_MV mX2_lossBetween 2 := ⟨⟨q_w 522 (by decide +kernel) rfl, q_w 72 (by decide +kernel) rfl, ⟨by decide +kernel, by decide +kernel, by decide +kernel⟩, by decide +kernel, by decide +kernel⟩, q_w 521 (by decide +kernel) rfl, q_w 6 (by decide +kernel) rfl⟩
abbrev mX2_limitOf : q_M := (yX2_limitOf, cX2_limitOf, 5, (some .int))
theorem iX2_limitOf : q_MV mX2_limitOf 1 := ⟨⟨q_w 532 (by decide +kernel) rfl, q_w 72 (by decide +kernel) rfl, ⟨by decide +kernel, by decide +kernel, by decide +kernel⟩, by decide +kernel, by decide +kernel⟩, q_w 531 (by decide +kernel) rfl, q_w 7 (by decide +kernel) rfl⟩
abbrev mX2_tiltOf : q_M := (yX2_tiltOf, cX2_tiltOf, 2, (some .int))
theorem iX2_tiltOf : q_MV mX2_tiltOf 1 := ⟨⟨q_w 542 (by decide +kernel) rfl, q_w 72 (by decide +kernel) rfl, ⟨by decide +kernel, by decide +kernel, by decide +kernel⟩, by decide +kernel, by decide +kernel⟩, q_w 540 (by decide +kernel) rfl, q_w 541 (by decide +kernel) rfl⟩
abbrev mX2_shadow : q_M := (yX2_shadow, cX2_shadow, 4, (some .int))
theorem iX2_shadow : q_MV mX2_shadow 3 := ⟨⟨q_w 568 (by decide +kernel) rfl, q_w 72 (by decide +kernel) rfl, ⟨by decide +kernel, by decide +kernel, by decide +kernel⟩, by decide +kernel, by decide +kernel⟩, q_w 566 (by decide +kernel) rfl, q_w 567 (by decide +kernel) rfl⟩
abbrev mX2_toBlame : q_M := (yX2_toBlame, cX2_toBlame, 8, (some .int))
theorem iX2_toBlame : q_MV mX2_toBlame 1 := ⟨⟨q_w 564 (by decide +kernel) rfl, q_w 72 (by decide +kernel) rfl, ⟨by decide +kernel, by decide +kernel, by decide +kernel⟩, by decide +kernel, by decide +kernel⟩, q_w 562 (by decide +kernel) rfl, q_w 563 (by decide +kernel) rfl⟩
abbrev mX2_shade : q_M := (yX2_shade, cX2_shade, 3, (some .int))
theorem iX2_shade : q_MV mX2_shade 1 := ⟨⟨q_w 560 (by decide +kernel) rfl, q_w 72 (by decide +kernel) rfl, ⟨by decide +kernel, by decide +kernel, by decide +kernel⟩, by decide +kernel, by decide +kernel⟩, q_w 558 (by decide +kernel) rfl, q_w 559 (by decide +kernel) rfl⟩
abbrev mX2_unshadedYield : q_M := (yX2_unshadedYield, cX2_unshadedYield, 2, (some .int))
theorem iX2_unshadedYield : q_MV mX2_unshadedYield 1 := ⟨⟨q_w 550 (by decide +kernel) rfl, q_w 72 (by decide +kernel) rfl, ⟨by decide +kernel, by decide +kernel, by decide +kernel⟩, by decide +kernel, by decide +kernel⟩, q_w 548 (by decide +kernel) rfl, q_w 549 (by decide +kernel) rfl⟩
abbrev mX2_yieldNow : q_M := (yX2_yieldNow, cX2_yieldNow, 2, (some .int))
theorem iX2_yieldNow : q_MV mX2_yieldNow 1 := ⟨⟨q_w 546 (by decide +kernel) rfl, q_w 72 (by decide +kernel) rfl, ⟨by decide +kernel, by decide +kernel, by decide +kernel⟩, by decide +kernel, by decide +kernel⟩, q_w 544 (by decide +kernel) rfl, q_w 545 (by decide +kernel) rfl⟩
abbrev mX2_yieldOfDay : q_M := (yX2_yieldOfDay, cX2_yieldOfDay, 4, (some .int))
theorem iX2_yieldOfDay : q_MV mX2_yieldOfDay 1 := ⟨⟨q_w 514 (by decide +kernel) rfl, q_w 72 (by decide +kernel) rfl, ⟨by decide +kernel, by decide +kernel, by decide +kernel⟩, by decide +kernel, by decide +kernel⟩, q_w 512 (by decide +kernel) rfl, q_w 513 (by decide +kernel) rfl⟩
abbrev mX2_unshadedYieldOfDay : q_M := (yX2_unshadedYieldOfDay, cX2_unshadedYieldOfDay, 4, (some .int))
theorem iX2_unshadedYieldOfDay : q_MV mX2_unshadedYieldOfDay 1 := ⟨⟨q_w 575 (by decide +kernel) rfl, q_w 72 (by decide +kernel) rfl, ⟨by decide +kernel, by decide +kernel, by decide +kernel⟩, by decide +kernel, by decide +kernel⟩, q_w 573 (by decide +kernel) rfl, q_w 574 (by decide +kernel) rfl⟩
abbrev mX2_yieldOfAll : q_M := (yX2_yieldOfAll, cX2_yieldOfAll, 4, (some .int))
theorem iX2_yieldOfAll : q_MV mX2_yieldOfAll 0 := ⟨⟨q_w 617 (by decide +kernel) rfl, q_w 72 (by decide +kernel) rfl, ⟨by decide +kernel, by decide +kernel, by decide +kernel⟩, by decide +kernel, by decide +kernel⟩, q_w 615 (by decide +kernel) rfl, q_w 616 (by decide +kernel) rfl⟩
abbrev mX2_hoursLowered : q_M := (yX2_hoursLowered, cX2_hoursLowered, 4, (some .int))
theorem iX2_hoursLowered : q_MV mX2_hoursLowered 1 := ⟨⟨q_w 579 (by decide +kernel) rfl, q_w 72 (by decide +kernel) rfl, ⟨by decide +kernel, by decide +kernel, by decide +kernel⟩, by decide +kernel, by decide +kernel⟩, q_w 577 (by decide +kernel) rfl, q_w 578 (by decide +kernel) rfl⟩
abbrev mX2_hoursShaded : q_M := (yX2_hoursShaded, cX2_hoursShaded, 4, (some .int))
theorem iX2_hoursShaded : q_MV mX2_hoursShaded 1 := ⟨⟨q_w 583 (by decide +kernel) rfl, q_w 72 (by decide +kernel) rfl, ⟨by decide +kernel, by decide +kernel, by decide +kernel⟩, by decide +kernel, by decide +kernel⟩, q_w 581 (by decide +kernel) rfl, q_w 582 (by decide +kernel) rfl⟩
abbrev mX2_mostToBlame : q_M := (yX2_mostToBlame, cX2_mostToBlame, 4, (some .int))
theorem iX2_mostToBlame : q_MV mX2_mostToBlame 1 := ⟨⟨q_w 587 (by decide +kernel) rfl, q_w 72 (by decide +kernel) rfl, ⟨by decide +kernel, by decide +kernel, by decide +kernel⟩, by decide +kernel, by decide +kernel⟩, q_w 585 (by decide +kernel) rfl, q_w 586 (by decide +kernel) rfl⟩
abbrev mX3_init : q_M := (yX3_init, cX3_init, 2, none)
theorem iX3_init : q_MI mX3_init 1 := ⟨⟨q_w 210 (by decide +kernel) rfl, q_w 73 (by decide +kernel) rfl, ⟨by decide +kernel, by decide +kernel, by decide +kernel⟩, by decide +kernel, by decide +kernel⟩, q_w 209 (by decide +kernel) rfl, rfl, rfl⟩
abbrev mX3_addAsk : q_M := (yX3_addAsk, cX3_addAsk, 5, (some .int))
theorem iX3_addAsk : q_MV mX3_addAsk 4 := ⟨⟨q_w 424 (by decide +kernel) rfl, q_w 73 (by decide +kernel) rfl, ⟨by decide +kernel, by decide +kernel, by decide +kernel⟩, by decide +kernel, by decide +kernel⟩, q_w 422 (by decide +kernel) rfl, q_w 423 (by decide +kernel) rfl⟩
abbrev mX3_addBid : q_M := (yX3_addBid, cX3_addBid, 6, (some .int))
theorem iX3_addBid : q_MV mX3_addBid 5 := ⟨⟨q_w 442 (by decide +kernel) rfl, q_w 73 (by decide +kernel) rfl, ⟨by decide +kernel, by decide +kernel, by decide +kernel⟩, by decide +kernel, by decide +kernel⟩, q_w 440 (by decide +kernel) rfl, q_w 441 (by decide +kernel) rfl⟩
abbrev mX3_isBadOffer : q_M := (yX3_isBadOffer, cX3_isBadOffer, 2, (some .boolean))
theorem iX3_isBadOffer : q_MS mX3_isBadOffer 2 := ⟨⟨q_w 429 (by decide +kernel) rfl, q_w 73 (by decide +kernel) rfl, ⟨by decide +kernel, by decide +kernel, by decide +kernel⟩, by decide +kernel, by decide +kernel⟩, q_w 428 (by decide +kernel) rfl⟩
abbrev mX3_tradeAll : q_M := (yX3_tradeAll, cX3_tradeAll, 4, (some .int))
theorem iX3_tradeAll : q_MV mX3_tradeAll 0 := ⟨⟨q_w 471 (by decide +kernel) rfl, q_w 73 (by decide +kernel) rfl, ⟨by decide +kernel, by decide +kernel, by decide +kernel⟩, by decide +kernel, by decide +kernel⟩, q_w 469 (by decide +kernel) rfl, q_w 470 (by decide +kernel) rfl⟩
abbrev mX3_serve : q_M := (yX3_serve, cX3_serve, 5, (some .int))
theorem iX3_serve : q_MV mX3_serve 1 := ⟨⟨q_w 483 (by decide +kernel) rfl, q_w 73 (by decide +kernel) rfl, ⟨by decide +kernel, by decide +kernel, by decide +kernel⟩, by decide +kernel, by decide +kernel⟩, q_w 482 (by decide +kernel) rfl, q_w 3 (by decide +kernel) rfl⟩
abbrev mX3_suits : q_M := (yX3_suits, cX3_suits, 5, (some .boolean))
theorem iX3_suits : q_MV mX3_suits 2 := ⟨⟨q_w 487 (by decide +kernel) rfl, q_w 73 (by decide +kernel) rfl, ⟨by decide +kernel, by decide +kernel, by decide +kernel⟩, by decide +kernel, by decide +kernel⟩, q_w 486 (by decide +kernel) rfl, q_w 4 (by decide +kernel) rfl⟩
abbrev mX3_trade : q_M := (yX3_trade, cX3_trade, 9, (some .int))
theorem iX3_trade : q_MV mX3_trade 2 := ⟨⟨q_w 492 (by decide +kernel) rfl, q_w 73 (by decide +kernel) rfl, ⟨by decide +kernel, by decide +kernel, by decide +kernel⟩, by decide +kernel, by decide +kernel⟩, q_w 491 (by decide +kernel) rfl, q_w 5 (by decide +kernel) rfl⟩
abbrev mX4_init : q_M := (yX4_init, cX4_init, 1, none)
theorem iX4_init : q_MI mX4_init 0 := ⟨⟨q_w 104 (by decide +kernel) rfl, q_w 71 (by decide +kernel) rfl, ⟨by decide +kernel, by decide +kernel, by decide +kernel⟩, by decide +kernel, by decide +kernel⟩, q_w 103 (by decide +kernel) rfl, rfl, rfl⟩
abbrev mX4_copyFrom : q_M := (yX4_copyFrom, cX4_copyFrom, 2, none)
theorem iX4_copyFrom : q_MV mX4_copyFrom 1 := ⟨⟨q_w 349 (by decide +kernel) rfl, q_w 71 (by decide +kernel) rfl, ⟨by decide +kernel, by decide +kernel, by decide +kernel⟩, by decide +kernel, by decide +kernel⟩, q_w 347 (by decide +kernel) rfl, q_w 348 (by decide +kernel) rfl⟩
abbrev mX4_has : q_M := (yX4_has, cX4_has, 2, (some .boolean))
theorem iX4_has : q_MV mX4_has 1 := ⟨⟨q_w 458 (by decide +kernel) rfl, q_w 71 (by decide +kernel) rfl, ⟨by decide +kernel, by decide +kernel, by decide +kernel⟩, by decide +kernel, by decide +kernel⟩, q_w 456 (by decide +kernel) rfl, q_w 457 (by decide +kernel) rfl⟩
abbrev mX4_get : q_M := (yX4_get, cX4_get, 3, (some .int))
theorem iX4_get : q_MV mX4_get 2 := ⟨⟨q_w 479 (by decide +kernel) rfl, q_w 71 (by decide +kernel) rfl, ⟨by decide +kernel, by decide +kernel, by decide +kernel⟩, by decide +kernel, by decide +kernel⟩, q_w 477 (by decide +kernel) rfl, q_w 478 (by decide +kernel) rfl⟩
abbrev mX4_add : q_M := (yX4_add, cX4_add, 7, (some .int))
theorem iX4_add : q_MV mX4_add 5 := ⟨⟨q_w 434 (by decide +kernel) rfl, q_w 71 (by decide +kernel) rfl, ⟨by decide +kernel, by decide +kernel, by decide +kernel⟩, by decide +kernel, by decide +kernel⟩, q_w 432 (by decide +kernel) rfl, q_w 433 (by decide +kernel) rfl⟩
abbrev mX4_remove : q_M := (yX4_remove, cX4_remove, 2, (some .int))
theorem iX4_remove : q_MV mX4_remove 1 := ⟨⟨q_w 454 (by decide +kernel) rfl, q_w 71 (by decide +kernel) rfl, ⟨by decide +kernel, by decide +kernel, by decide +kernel⟩, by decide +kernel, by decide +kernel⟩, q_w 452 (by decide +kernel) rfl, q_w 453 (by decide +kernel) rfl⟩
abbrev mX4_close : q_M := (yX4_close, cX4_close, 3, none)
theorem iX4_close : q_MV mX4_close 1 := ⟨⟨q_w 463 (by decide +kernel) rfl, q_w 71 (by decide +kernel) rfl, ⟨by decide +kernel, by decide +kernel, by decide +kernel⟩, by decide +kernel, by decide +kernel⟩, q_w 462 (by decide +kernel) rfl, q_w 2 (by decide +kernel) rfl⟩
abbrev mX4_take : q_M := (yX4_take, cX4_take, 3, none)
theorem iX4_take : q_MV mX4_take 2 := ⟨⟨q_w 500 (by decide +kernel) rfl, q_w 71 (by decide +kernel) rfl, ⟨by decide +kernel, by decide +kernel, by decide +kernel⟩, by decide +kernel, by decide +kernel⟩, q_w 498 (by decide +kernel) rfl, q_w 499 (by decide +kernel) rfl⟩
abbrev mX4_removeEmpty : q_M := (yX4_removeEmpty, cX4_removeEmpty, 2, none)
theorem iX4_removeEmpty : q_MV mX4_removeEmpty 0 := ⟨⟨q_w 504 (by decide +kernel) rfl, q_w 71 (by decide +kernel) rfl, ⟨by decide +kernel, by decide +kernel, by decide +kernel⟩, by decide +kernel, by decide +kernel⟩, q_w 502 (by decide +kernel) rfl, q_w 503 (by decide +kernel) rfl⟩
abbrev mX4_sortByPrice : q_M := (yX4_sortByPrice, cX4_sortByPrice, 5, none)
theorem iX4_sortByPrice : q_MV mX4_sortByPrice 1 := ⟨⟨q_w 475 (by decide +kernel) rfl, q_w 71 (by decide +kernel) rfl, ⟨by decide +kernel, by decide +kernel, by decide +kernel⟩, by decide +kernel, by decide +kernel⟩, q_w 473 (by decide +kernel) rfl, q_w 474 (by decide +kernel) rfl⟩
abbrev mX5_init : q_M := (yX5_init, cX5_init, 2, none)
theorem iX5_init : q_MI mX5_init 1 := ⟨⟨q_w 265 (by decide +kernel) rfl, q_w 76 (by decide +kernel) rfl, ⟨by decide +kernel, by decide +kernel, by decide +kernel⟩, by decide +kernel, by decide +kernel⟩, q_w 264 (by decide +kernel) rfl, rfl, rfl⟩
abbrev mX5_start : q_M := (yX5_start, cX5_start, 1, none)
theorem iX5_start : q_MV mX5_start 0 := ⟨⟨q_w 709 (by decide +kernel) rfl, q_w 76 (by decide +kernel) rfl, ⟨by decide +kernel, by decide +kernel, by decide +kernel⟩, by decide +kernel, by decide +kernel⟩, q_w 707 (by decide +kernel) rfl, q_w 708 (by decide +kernel) rfl⟩
abbrev mX5_findFault : q_M := (yX5_findFault, cX5_findFault, 2, (some .int))
theorem iX5_findFault : q_MV mX5_findFault 0 := ⟨⟨q_w 705 (by decide +kernel) rfl, q_w 76 (by decide +kernel) rfl, ⟨by decide +kernel, by decide +kernel, by decide +kernel⟩, by decide +kernel, by decide +kernel⟩, q_w 703 (by decide +kernel) rfl, q_w 704 (by decide +kernel) rfl⟩
abbrev mX5_readOrder : q_M := (yX5_readOrder, cX5_readOrder, 1, (some .boolean))
theorem iX5_readOrder : q_MV mX5_readOrder 0 := ⟨⟨q_w 713 (by decide +kernel) rfl, q_w 76 (by decide +kernel) rfl, ⟨by decide +kernel, by decide +kernel, by decide +kernel⟩, by decide +kernel, by decide +kernel⟩, q_w 711 (by decide +kernel) rfl, q_w 712 (by decide +kernel) rfl⟩
abbrev mX5_readTerms : q_M := (yX5_readTerms, cX5_readTerms, 1, (some .boolean))
theorem iX5_readTerms : q_MV mX5_readTerms 0 := ⟨⟨q_w 816 (by decide +kernel) rfl, q_w 76 (by decide +kernel) rfl, ⟨by decide +kernel, by decide +kernel, by decide +kernel⟩, by decide +kernel, by decide +kernel⟩, q_w 815 (by decide +kernel) rfl, q_w 16 (by decide +kernel) rfl⟩
abbrev mX5_readSign : q_M := (yX5_readSign, cX5_readSign, 2, (some .boolean))
theorem iX5_readSign : q_MV mX5_readSign 1 := ⟨⟨q_w 812 (by decide +kernel) rfl, q_w 76 (by decide +kernel) rfl, ⟨by decide +kernel, by decide +kernel, by decide +kernel⟩, by decide +kernel, by decide +kernel⟩, q_w 810 (by decide +kernel) rfl, q_w 811 (by decide +kernel) rfl⟩
abbrev mX5_readDigit : q_M := (yX5_readDigit, cX5_readDigit, 3, (some .boolean))
theorem iX5_readDigit : q_MV mX5_readDigit 1 := ⟨⟨q_w 800 (by decide +kernel) rfl, q_w 76 (by decide +kernel) rfl, ⟨by decide +kernel, by decide +kernel, by decide +kernel⟩, by decide +kernel, by decide +kernel⟩, q_w 799 (by decide +kernel) rfl, q_w 13 (by decide +kernel) rfl⟩
abbrev mX5_readNumber : q_M := (yX5_readNumber, cX5_readNumber, 3, (some .boolean))
theorem iX5_readNumber : q_MV mX5_readNumber 0 := ⟨⟨q_w 820 (by decide +kernel) rfl, q_w 76 (by decide +kernel) rfl, ⟨by decide +kernel, by decide +kernel, by decide +kernel⟩, by decide +kernel, by decide +kernel⟩, q_w 819 (by decide +kernel) rfl, q_w 17 (by decide +kernel) rfl⟩
abbrev mX5_digitHere : q_M := (yX5_digitHere, cX5_digitHere, 1, (some .int))
theorem iX5_digitHere : q_MV mX5_digitHere 0 := ⟨⟨q_w 804 (by decide +kernel) rfl, q_w 76 (by decide +kernel) rfl, ⟨by decide +kernel, by decide +kernel, by decide +kernel⟩, by decide +kernel, by decide +kernel⟩, q_w 803 (by decide +kernel) rfl, q_w 14 (by decide +kernel) rfl⟩
abbrev mX5_keepNumber : q_M := (yX5_keepNumber, cX5_keepNumber, 2, none)
theorem iX5_keepNumber : q_MV mX5_keepNumber 1 := ⟨⟨q_w 808 (by decide +kernel) rfl, q_w 76 (by decide +kernel) rfl, ⟨by decide +kernel, by decide +kernel, by decide +kernel⟩, by decide +kernel, by decide +kernel⟩, q_w 807 (by decide +kernel) rfl, q_w 15 (by decide +kernel) rfl⟩
abbrev mX6_init : q_M := (yX6_init, cX6_init, 1, none)
theorem iX6_init : q_MI mX6_init 0 := ⟨⟨q_w 248 (by decide +kernel) rfl, q_w 75 (by decide +kernel) rfl, ⟨by decide +kernel, by decide +kernel, by decide +kernel⟩, by decide +kernel, by decide +kernel⟩, q_w 247 (by decide +kernel) rfl, rfl, rfl⟩
abbrev mX6_append : q_M := (yX6_append, cX6_append, 7, (some .int))
theorem iX6_append : q_MV mX6_append 1 := ⟨⟨q_w 683 (by decide +kernel) rfl, q_w 75 (by decide +kernel) rfl, ⟨by decide +kernel, by decide +kernel, by decide +kernel⟩, by decide +kernel, by decide +kernel⟩, q_w 681 (by decide +kernel) rfl, q_w 682 (by decide +kernel) rfl⟩
abbrev mX6_countSigns : q_M := (yX6_countSigns, cX6_countSigns, 7, (some .int))
theorem iX6_countSigns : q_MS mX6_countSigns 1 := ⟨⟨q_w 686 (by decide +kernel) rfl, q_w 75 (by decide +kernel) rfl, ⟨by decide +kernel, by decide +kernel, by decide +kernel⟩, by decide +kernel, by decide +kernel⟩, q_w 685 (by decide +kernel) rfl⟩
abbrev mX6_clear : q_M := (yX6_clear, cX6_clear, 2, (some .int))
theorem iX6_clear : q_MV mX6_clear 0 := ⟨⟨q_w 697 (by decide +kernel) rfl, q_w 75 (by decide +kernel) rfl, ⟨by decide +kernel, by decide +kernel, by decide +kernel⟩, by decide +kernel, by decide +kernel⟩, q_w 695 (by decide +kernel) rfl, q_w 696 (by decide +kernel) rfl⟩
abbrev mX7_init : q_M := (yX7_init, cX7_init, 3, none)
theorem iX7_init : q_MI mX7_init 2 := ⟨⟨q_w 220 (by decide +kernel) rfl, q_w 74 (by decide +kernel) rfl, ⟨by decide +kernel, by decide +kernel, by decide +kernel⟩, by decide +kernel, by decide +kernel⟩, q_w 219 (by decide +kernel) rfl, rfl, rfl⟩
abbrev mX7_run : q_M := (yX7_run, cX7_run, 3, none)
theorem iX7_run : q_MV mX7_run 0 := ⟨⟨q_w 639 (by decide +kernel) rfl, q_w 74 (by decide +kernel) rfl, ⟨by decide +kernel, by decide +kernel, by decide +kernel⟩, by decide +kernel, by decide +kernel⟩, q_w 637 (by decide +kernel) rfl, q_w 638 (by decide +kernel) rfl⟩
abbrev mX7_bestTiltOf : q_M := (yX7_bestTiltOf, cX7_bestTiltOf, 2, (some .int))
theorem iX7_bestTiltOf : q_MV mX7_bestTiltOf 1 := ⟨⟨q_w 675 (by decide +kernel) rfl, q_w 74 (by decide +kernel) rfl, ⟨by decide +kernel, by decide +kernel, by decide +kernel⟩, by decide +kernel, by decide +kernel⟩, q_w 673 (by decide +kernel) rfl, q_w 674 (by decide +kernel) rfl⟩
abbrev mX7_bestYields : q_M := (yX7_bestYields, cX7_bestYields, 3, (some .int))
theorem iX7_bestYields : q_MV mX7_bestYields 0 := ⟨⟨q_w 671 (by decide +kernel) rfl, q_w 74 (by decide +kernel) rfl, ⟨by decide +kernel, by decide +kernel, by decide +kernel⟩, by decide +kernel, by decide +kernel⟩, q_w 669 (by decide +kernel) rfl, q_w 670 (by decide +kernel) rfl⟩
abbrev mX7_stepOf : q_M := (yX7_stepOf, cX7_stepOf, 2, (some .int))
theorem iX7_stepOf : q_MV mX7_stepOf 1 := ⟨⟨q_w 665 (by decide +kernel) rfl, q_w 74 (by decide +kernel) rfl, ⟨by decide +kernel, by decide +kernel, by decide +kernel⟩, by decide +kernel, by decide +kernel⟩, q_w 664 (by decide +kernel) rfl, q_w 12 (by decide +kernel) rfl⟩
abbrev mX7_findTops : q_M := (yX7_findTops, cX7_findTops, 3, none)
theorem iX7_findTops : q_MV mX7_findTops 0 := ⟨⟨q_w 645 (by decide +kernel) rfl, q_w 74 (by decide +kernel) rfl, ⟨by decide +kernel, by decide +kernel, by decide +kernel⟩, by decide +kernel, by decide +kernel⟩, q_w 644 (by decide +kernel) rfl, q_w 9 (by decide +kernel) rfl⟩
abbrev mX7_sortRows : q_M := (yX7_sortRows, cX7_sortRows, 3, none)
theorem iX7_sortRows : q_MV mX7_sortRows 0 := ⟨⟨q_w 652 (by decide +kernel) rfl, q_w 74 (by decide +kernel) rfl, ⟨by decide +kernel, by decide +kernel, by decide +kernel⟩, by decide +kernel, by decide +kernel⟩, q_w 651 (by decide +kernel) rfl, q_w 10 (by decide +kernel) rfl⟩
abbrev mX7_layRows : q_M := (yX7_layRows, cX7_layRows, 13, none)
theorem iX7_layRows : q_MS mX7_layRows 4 := ⟨⟨q_w 656 (by decide +kernel) rfl, q_w 74 (by decide +kernel) rfl, ⟨by decide +kernel, by decide +kernel, by decide +kernel⟩, by decide +kernel, by decide +kernel⟩, q_w 655 (by decide +kernel) rfl⟩
abbrev mX7_shadeOn : q_M := (yX7_shadeOn, cX7_shadeOn, 6, (some .int))
theorem iX7_shadeOn : q_MV mX7_shadeOn 2 := ⟨⟨q_w 660 (by decide +kernel) rfl, q_w 74 (by decide +kernel) rfl, ⟨by decide +kernel, by decide +kernel, by decide +kernel⟩, by decide +kernel, by decide +kernel⟩, q_w 659 (by decide +kernel) rfl, q_w 11 (by decide +kernel) rfl⟩
abbrev mX8_init : q_M := (yX8_init, cX8_init, 1, none)
theorem iX8_init : q_MI mX8_init 0 := ⟨⟨q_w 90 (by decide +kernel) rfl, q_w 69 (by decide +kernel) rfl, ⟨by decide +kernel, by decide +kernel, by decide +kernel⟩, by decide +kernel, by decide +kernel⟩, q_w 89 (by decide +kernel) rfl, rfl, rfl⟩
abbrev mX8_row : q_M := (yX8_row, cX8_row, 4, (some .int))
theorem iX8_row : q_MV mX8_row 3 := ⟨⟨q_w 334 (by decide +kernel) rfl, q_w 69 (by decide +kernel) rfl, ⟨by decide +kernel, by decide +kernel, by decide +kernel⟩, by decide +kernel, by decide +kernel⟩, q_w 332 (by decide +kernel) rfl, q_w 333 (by decide +kernel) rfl⟩
abbrev mX8_tilt : q_M := (yX8_tilt, cX8_tilt, 3, (some .int))
theorem iX8_tilt : q_MV mX8_tilt 2 := ⟨⟨q_w 373 (by decide +kernel) rfl, q_w 69 (by decide +kernel) rfl, ⟨by decide +kernel, by decide +kernel, by decide +kernel⟩, by decide +kernel, by decide +kernel⟩, q_w 371 (by decide +kernel) rfl, q_w 372 (by decide +kernel) rfl⟩
abbrev mX8_wind : q_M := (yX8_wind, cX8_wind, 3, (some .int))
theorem iX8_wind : q_MV mX8_wind 2 := ⟨⟨q_w 385 (by decide +kernel) rfl, q_w 69 (by decide +kernel) rfl, ⟨by decide +kernel, by decide +kernel, by decide +kernel⟩, by decide +kernel, by decide +kernel⟩, q_w 383 (by decide +kernel) rfl, q_w 384 (by decide +kernel) rfl⟩
abbrev mX8_stow : q_M := (yX8_stow, cX8_stow, 2, (some .int))
theorem iX8_stow : q_MV mX8_stow 1 := ⟨⟨q_w 397 (by decide +kernel) rfl, q_w 69 (by decide +kernel) rfl, ⟨by decide +kernel, by decide +kernel, by decide +kernel⟩, by decide +kernel, by decide +kernel⟩, q_w 395 (by decide +kernel) rfl, q_w 396 (by decide +kernel) rfl⟩
abbrev mX8_grant : q_M := (yX8_grant, cX8_grant, 5, (some .int))
theorem iX8_grant : q_MV mX8_grant 4 := ⟨⟨q_w 405 (by decide +kernel) rfl, q_w 69 (by decide +kernel) rfl, ⟨by decide +kernel, by decide +kernel, by decide +kernel⟩, by decide +kernel, by decide +kernel⟩, q_w 403 (by decide +kernel) rfl, q_w 404 (by decide +kernel) rfl⟩
abbrev mX8_ask : q_M := (yX8_ask, cX8_ask, 5, (some .int))
theorem iX8_ask : q_MV mX8_ask 4 := ⟨⟨q_w 420 (by decide +kernel) rfl, q_w 69 (by decide +kernel) rfl, ⟨by decide +kernel, by decide +kernel, by decide +kernel⟩, by decide +kernel, by decide +kernel⟩, q_w 418 (by decide +kernel) rfl, q_w 419 (by decide +kernel) rfl⟩
abbrev mX8_bid : q_M := (yX8_bid, cX8_bid, 6, (some .int))
theorem iX8_bid : q_MV mX8_bid 5 := ⟨⟨q_w 438 (by decide +kernel) rfl, q_w 69 (by decide +kernel) rfl, ⟨by decide +kernel, by decide +kernel, by decide +kernel⟩, by decide +kernel, by decide +kernel⟩, q_w 436 (by decide +kernel) rfl, q_w 437 (by decide +kernel) rfl⟩
abbrev mX8_takeBack : q_M := (yX8_takeBack, cX8_takeBack, 3, (some .int))
theorem iX8_takeBack : q_MV mX8_takeBack 2 := ⟨⟨q_w 446 (by decide +kernel) rfl, q_w 69 (by decide +kernel) rfl, ⟨by decide +kernel, by decide +kernel, by decide +kernel⟩, by decide +kernel, by decide +kernel⟩, q_w 444 (by decide +kernel) rfl, q_w 445 (by decide +kernel) rfl⟩
abbrev mX8_match : q_M := (yX8_match, cX8_match, 1, (some .int))
theorem iX8_match : q_MV mX8_match 0 := ⟨⟨q_w 467 (by decide +kernel) rfl, q_w 69 (by decide +kernel) rfl, ⟨by decide +kernel, by decide +kernel, by decide +kernel⟩, by decide +kernel, by decide +kernel⟩, q_w 465 (by decide +kernel) rfl, q_w 466 (by decide +kernel) rfl⟩
abbrev mX8_ofRow : q_M := (yX8_ofRow, cX8_ofRow, 3, (some .int))
theorem iX8_ofRow : q_MV mX8_ofRow 2 := ⟨⟨q_w 508 (by decide +kernel) rfl, q_w 69 (by decide +kernel) rfl, ⟨by decide +kernel, by decide +kernel, by decide +kernel⟩, by decide +kernel, by decide +kernel⟩, q_w 506 (by decide +kernel) rfl, q_w 507 (by decide +kernel) rfl⟩
abbrev mX8_inHour : q_M := (yX8_inHour, cX8_inHour, 4, (some .int))
theorem iX8_inHour : q_MV mX8_inHour 3 := ⟨⟨q_w 591 (by decide +kernel) rfl, q_w 69 (by decide +kernel) rfl, ⟨by decide +kernel, by decide +kernel, by decide +kernel⟩, by decide +kernel, by decide +kernel⟩, q_w 589 (by decide +kernel) rfl, q_w 590 (by decide +kernel) rfl⟩
abbrev mX8_over : q_M := (yX8_over, cX8_over, 5, (some .int))
theorem iX8_over : q_MV mX8_over 4 := ⟨⟨q_w 601 (by decide +kernel) rfl, q_w 69 (by decide +kernel) rfl, ⟨by decide +kernel, by decide +kernel, by decide +kernel⟩, by decide +kernel, by decide +kernel⟩, q_w 599 (by decide +kernel) rfl, q_w 600 (by decide +kernel) rfl⟩
abbrev mX8_offer : q_M := (yX8_offer, cX8_offer, 5, (some .int))
theorem iX8_offer : q_MV mX8_offer 3 := ⟨⟨q_w 607 (by decide +kernel) rfl, q_w 69 (by decide +kernel) rfl, ⟨by decide +kernel, by decide +kernel, by decide +kernel⟩, by decide +kernel, by decide +kernel⟩, q_w 605 (by decide +kernel) rfl, q_w 606 (by decide +kernel) rfl⟩
abbrev mX8_count : q_M := (yX8_count, cX8_count, 2, (some .int))
theorem iX8_count : q_MV mX8_count 1 := ⟨⟨q_w 613 (by decide +kernel) rfl, q_w 69 (by decide +kernel) rfl, ⟨by decide +kernel, by decide +kernel, by decide +kernel⟩, by decide +kernel, by decide +kernel⟩, q_w 611 (by decide +kernel) rfl, q_w 612 (by decide +kernel) rfl⟩
abbrev mX8_worth : q_M := (yX8_worth, cX8_worth, 10, (some .int))
theorem iX8_worth : q_MV mX8_worth 5 := ⟨⟨q_w 621 (by decide +kernel) rfl, q_w 69 (by decide +kernel) rfl, ⟨by decide +kernel, by decide +kernel, by decide +kernel⟩, by decide +kernel, by decide +kernel⟩, q_w 619 (by decide +kernel) rfl, q_w 620 (by decide +kernel) rfl⟩
abbrev mX8_gainMeasure : q_M := (yX8_gainMeasure, cX8_gainMeasure, 4, (some .int))
theorem iX8_gainMeasure : q_MV mX8_gainMeasure 3 := ⟨⟨q_w 626 (by decide +kernel) rfl, q_w 69 (by decide +kernel) rfl, ⟨by decide +kernel, by decide +kernel, by decide +kernel⟩, by decide +kernel, by decide +kernel⟩, q_w 625 (by decide +kernel) rfl, q_w 8 (by decide +kernel) rfl⟩
abbrev mX8_bestTilt : q_M := (yX8_bestTilt, cX8_bestTilt, 8, (some .int))
theorem iX8_bestTilt : q_MV mX8_bestTilt 2 := ⟨⟨q_w 631 (by decide +kernel) rfl, q_w 69 (by decide +kernel) rfl, ⟨by decide +kernel, by decide +kernel, by decide +kernel⟩, by decide +kernel, by decide +kernel⟩, q_w 629 (by decide +kernel) rfl, q_w 630 (by decide +kernel) rfl⟩
abbrev mX8_bestTilts : q_M := (yX8_bestTilts, cX8_bestTilts, 2, (some .int))
theorem iX8_bestTilts : q_MV mX8_bestTilts 1 := ⟨⟨q_w 635 (by decide +kernel) rfl, q_w 69 (by decide +kernel) rfl, ⟨by decide +kernel, by decide +kernel, by decide +kernel⟩, by decide +kernel, by decide +kernel⟩, q_w 633 (by decide +kernel) rfl, q_w 634 (by decide +kernel) rfl⟩
abbrev mX8_put : q_M := (yX8_put, cX8_put, 3, (some .int))
theorem iX8_put : q_MV mX8_put 1 := ⟨⟨q_w 679 (by decide +kernel) rfl, q_w 69 (by decide +kernel) rfl, ⟨by decide +kernel, by decide +kernel, by decide +kernel⟩, by decide +kernel, by decide +kernel⟩, q_w 677 (by decide +kernel) rfl, q_w 678 (by decide +kernel) rfl⟩
abbrev mX8_wipe : q_M := (yX8_wipe, cX8_wipe, 1, (some .int))
theorem iX8_wipe : q_MV mX8_wipe 0 := ⟨⟨q_w 693 (by decide +kernel) rfl, q_w 69 (by decide +kernel) rfl, ⟨by decide +kernel, by decide +kernel, by decide +kernel⟩, by decide +kernel, by decide +kernel⟩, q_w 691 (by decide +kernel) rfl, q_w 692 (by decide +kernel) rfl⟩
abbrev mX8_fault : q_M := (yX8_fault, cX8_fault, 1, (some .int))
theorem iX8_fault : q_MV mX8_fault 0 := ⟨⟨q_w 701 (by decide +kernel) rfl, q_w 69 (by decide +kernel) rfl, ⟨by decide +kernel, by decide +kernel, by decide +kernel⟩, by decide +kernel, by decide +kernel⟩, q_w 699 (by decide +kernel) rfl, q_w 700 (by decide +kernel) rfl⟩
abbrev mX8_carryOut : q_M := (yX8_carryOut, cX8_carryOut, 2, (some .int))
theorem iX8_carryOut : q_MV mX8_carryOut 0 := ⟨⟨q_w 825 (by decide +kernel) rfl, q_w 69 (by decide +kernel) rfl, ⟨by decide +kernel, by decide +kernel, by decide +kernel⟩, by decide +kernel, by decide +kernel⟩, q_w 823 (by decide +kernel) rfl, q_w 824 (by decide +kernel) rfl⟩
abbrev mX8_carryOrdersOut : q_M := (yX8_carryOrdersOut, cX8_carryOrdersOut, 3, (some .int))
theorem iX8_carryOrdersOut : q_MV mX8_carryOrdersOut 0 := ⟨⟨q_w 829 (by decide +kernel) rfl, q_w 69 (by decide +kernel) rfl, ⟨by decide +kernel, by decide +kernel, by decide +kernel⟩, by decide +kernel, by decide +kernel⟩, q_w 828 (by decide +kernel) rfl, q_w 18 (by decide +kernel) rfl⟩
abbrev mX8_carryOneOut : q_M := (yX8_carryOneOut, cX8_carryOneOut, 2, (some .int))
theorem iX8_carryOneOut : q_MV mX8_carryOneOut 0 := ⟨⟨q_w 835 (by decide +kernel) rfl, q_w 69 (by decide +kernel) rfl, ⟨by decide +kernel, by decide +kernel, by decide +kernel⟩, by decide +kernel, by decide +kernel⟩, q_w 834 (by decide +kernel) rfl, q_w 19 (by decide +kernel) rfl⟩
abbrev mX8_undo : q_M := (yX8_undo, cX8_undo, 1, (some .int))
theorem iX8_undo : q_MV mX8_undo 0 := ⟨⟨q_w 840 (by decide +kernel) rfl, q_w 69 (by decide +kernel) rfl, ⟨by decide +kernel, by decide +kernel, by decide +kernel⟩, by decide +kernel, by decide +kernel⟩, q_w 838 (by decide +kernel) rfl, q_w 839 (by decide +kernel) rfl⟩
abbrev mX8_save : q_M := (yX8_save, cX8_save, 2, (some .int))
theorem iX8_save : q_MV mX8_save 1 := ⟨⟨q_w 848 (by decide +kernel) rfl, q_w 69 (by decide +kernel) rfl, ⟨by decide +kernel, by decide +kernel, by decide +kernel⟩, by decide +kernel, by decide +kernel⟩, q_w 846 (by decide +kernel) rfl, q_w 847 (by decide +kernel) rfl⟩
abbrev mX8_restore : q_M := (yX8_restore, cX8_restore, 2, (some .int))
theorem iX8_restore : q_MV mX8_restore 1 := ⟨⟨q_w 853 (by decide +kernel) rfl, q_w 69 (by decide +kernel) rfl, ⟨by decide +kernel, by decide +kernel, by decide +kernel⟩, by decide +kernel, by decide +kernel⟩, q_w 851 (by decide +kernel) rfl, q_w 852 (by decide +kernel) rfl⟩
abbrev mX8_outside : q_M := (yX8_outside, cX8_outside, 3, (some .boolean))
theorem iX8_outside : q_MS mX8_outside 3 := ⟨⟨q_w 357 (by decide +kernel) rfl, q_w 69 (by decide +kernel) rfl, ⟨by decide +kernel, by decide +kernel, by decide +kernel⟩, by decide +kernel, by decide +kernel⟩, q_w 356 (by decide +kernel) rfl⟩
abbrev mX8_isHour : q_M := (yX8_isHour, cX8_isHour, 1, (some .boolean))
theorem iX8_isHour : q_MS mX8_isHour 1 := ⟨⟨q_w 392 (by decide +kernel) rfl, q_w 69 (by decide +kernel) rfl, ⟨by decide +kernel, by decide +kernel, by decide +kernel⟩, by decide +kernel, by decide +kernel⟩, q_w 391 (by decide +kernel) rfl⟩
abbrev mX9_init : q_M := (yX9_init, cX9_init, 1, none)
theorem iX9_init : q_MI mX9_init 0 := ⟨⟨q_w 858 (by decide +kernel) rfl, q_w 78 (by decide +kernel) rfl, ⟨by decide +kernel, by decide +kernel, by decide +kernel⟩, by decide +kernel, by decide +kernel⟩, q_w 857 (by decide +kernel) rfl, rfl, rfl⟩
abbrev mX9_copy : q_M := (yX9_copy, cX9_copy, 5, none)
theorem iX9_copy : q_MS mX9_copy 4 := ⟨⟨q_w 933 (by decide +kernel) rfl, q_w 78 (by decide +kernel) rfl, ⟨by decide +kernel, by decide +kernel, by decide +kernel⟩, by decide +kernel, by decide +kernel⟩, q_w 932 (by decide +kernel) rfl⟩
abbrev mX9_within : q_M := (yX9_within, cX9_within, 3, (some .boolean))
theorem iX9_within : q_MS mX9_within 3 := ⟨⟨q_w 918 (by decide +kernel) rfl, q_w 78 (by decide +kernel) rfl, ⟨by decide +kernel, by decide +kernel, by decide +kernel⟩, by decide +kernel, by decide +kernel⟩, q_w 917 (by decide +kernel) rfl⟩
abbrev mX9_record : q_M := (yX9_record, cX9_record, 2, none)
theorem iX9_record : q_MV mX9_record 0 := ⟨⟨q_w 930 (by decide +kernel) rfl, q_w 78 (by decide +kernel) rfl, ⟨by decide +kernel, by decide +kernel, by decide +kernel⟩, by decide +kernel, by decide +kernel⟩, q_w 929 (by decide +kernel) rfl, q_w 22 (by decide +kernel) rfl⟩
abbrev mX9_isRow : q_M := (yX9_isRow, cX9_isRow, 2, (some .boolean))
theorem iX9_isRow : q_MV mX9_isRow 1 := ⟨⟨q_w 945 (by decide +kernel) rfl, q_w 78 (by decide +kernel) rfl, ⟨by decide +kernel, by decide +kernel, by decide +kernel⟩, by decide +kernel, by decide +kernel⟩, q_w 944 (by decide +kernel) rfl, q_w 24 (by decide +kernel) rfl⟩
abbrev mX9_isHour : q_M := (yX9_isHour, cX9_isHour, 1, (some .boolean))
theorem iX9_isHour : q_MS mX9_isHour 1 := ⟨⟨q_w 956 (by decide +kernel) rfl, q_w 78 (by decide +kernel) rfl, ⟨by decide +kernel, by decide +kernel, by decide +kernel⟩, by decide +kernel, by decide +kernel⟩, q_w 955 (by decide +kernel) rfl⟩
abbrev mX9_part : q_M := (yX9_part, cX9_part, 3, (some .int))
theorem iX9_part : q_MV mX9_part 2 := ⟨⟨q_w 926 (by decide +kernel) rfl, q_w 78 (by decide +kernel) rfl, ⟨by decide +kernel, by decide +kernel, by decide +kernel⟩, by decide +kernel, by decide +kernel⟩, q_w 925 (by decide +kernel) rfl, q_w 21 (by decide +kernel) rfl⟩
abbrev mX9_rightOf : q_M := (yX9_rightOf, cX9_rightOf, 4, (some .int))
theorem iX9_rightOf : q_MV mX9_rightOf 3 := ⟨⟨q_w 972 (by decide +kernel) rfl, q_w 78 (by decide +kernel) rfl, ⟨by decide +kernel, by decide +kernel, by decide +kernel⟩, by decide +kernel, by decide +kernel⟩, q_w 971 (by decide +kernel) rfl, q_w 27 (by decide +kernel) rfl⟩
abbrev mX9_setRight : q_M := (yX9_setRight, cX9_setRight, 5, none)
theorem iX9_setRight : q_MV mX9_setRight 4 := ⟨⟨q_w 976 (by decide +kernel) rfl, q_w 78 (by decide +kernel) rfl, ⟨by decide +kernel, by decide +kernel, by decide +kernel⟩, by decide +kernel, by decide +kernel⟩, q_w 975 (by decide +kernel) rfl, q_w 28 (by decide +kernel) rfl⟩
abbrev mX9_slopeOf : q_M := (yX9_slopeOf, cX9_slopeOf, 2, (some .int))
theorem iX9_slopeOf : q_MS mX9_slopeOf 1 := ⟨⟨q_w 1079 (by decide +kernel) rfl, q_w 78 (by decide +kernel) rfl, ⟨by decide +kernel, by decide +kernel, by decide +kernel⟩, by decide +kernel, by decide +kernel⟩, q_w 1078 (by decide +kernel) rfl⟩
abbrev mX9_sunOf : q_M := (yX9_sunOf, cX9_sunOf, 1, (some .int))
theorem iX9_sunOf : q_MS mX9_sunOf 1 := ⟨⟨q_w 1098 (by decide +kernel) rfl, q_w 78 (by decide +kernel) rfl, ⟨by decide +kernel, by decide +kernel, by decide +kernel⟩, by decide +kernel, by decide +kernel⟩, q_w 1097 (by decide +kernel) rfl⟩
abbrev mX9_shadow : q_M := (yX9_shadow, cX9_shadow, 8, (some .int))
theorem iX9_shadow : q_MV mX9_shadow 4 := ⟨⟨q_w 1076 (by decide +kernel) rfl, q_w 78 (by decide +kernel) rfl, ⟨by decide +kernel, by decide +kernel, by decide +kernel⟩, by decide +kernel, by decide +kernel⟩, q_w 1075 (by decide +kernel) rfl, q_w 47 (by decide +kernel) rfl⟩
abbrev mX9_isFlat : q_M := (yX9_isFlat, cX9_isFlat, 2, (some .boolean))
theorem iX9_isFlat : q_MV mX9_isFlat 1 := ⟨⟨q_w 1068 (by decide +kernel) rfl, q_w 78 (by decide +kernel) rfl, ⟨by decide +kernel, by decide +kernel, by decide +kernel⟩, by decide +kernel, by decide +kernel⟩, q_w 1067 (by decide +kernel) rfl, q_w 45 (by decide +kernel) rfl⟩
abbrev mX9_keepsRights : q_M := (yX9_keepsRights, cX9_keepsRights, 6, (some .boolean))
theorem iX9_keepsRights : q_MV mX9_keepsRights 3 := ⟨⟨q_w 1072 (by decide +kernel) rfl, q_w 78 (by decide +kernel) rfl, ⟨by decide +kernel, by decide +kernel, by decide +kernel⟩, by decide +kernel, by decide +kernel⟩, q_w 1071 (by decide +kernel) rfl, q_w 46 (by decide +kernel) rfl⟩
abbrev mX9_tiltIn : q_M := (yX9_tiltIn, cX9_tiltIn, 5, (some .int))
theorem iX9_tiltIn : q_MV mX9_tiltIn 3 := ⟨⟨q_w 1064 (by decide +kernel) rfl, q_w 78 (by decide +kernel) rfl, ⟨by decide +kernel, by decide +kernel, by decide +kernel⟩, by decide +kernel, by decide +kernel⟩, q_w 1063 (by decide +kernel) rfl, q_w 44 (by decide +kernel) rfl⟩
abbrev mX9_heightIn : q_M := (yX9_heightIn, cX9_heightIn, 3, (some .int))
theorem iX9_heightIn : q_MV mX9_heightIn 2 := ⟨⟨q_w 1060 (by decide +kernel) rfl, q_w 78 (by decide +kernel) rfl, ⟨by decide +kernel, by decide +kernel, by decide +kernel⟩, by decide +kernel, by decide +kernel⟩, q_w 1059 (by decide +kernel) rfl, q_w 43 (by decide +kernel) rfl⟩
abbrev mX9_shadowIn : q_M := (yX9_shadowIn, cX9_shadowIn, 4, (some .int))
theorem iX9_shadowIn : q_MV mX9_shadowIn 3 := ⟨⟨q_w 1091 (by decide +kernel) rfl, q_w 78 (by decide +kernel) rfl, ⟨by decide +kernel, by decide +kernel, by decide +kernel⟩, by decide +kernel, by decide +kernel⟩, q_w 1090 (by decide +kernel) rfl, q_w 50 (by decide +kernel) rfl⟩
abbrev mX9_far : q_M := (yX9_far, cX9_far, 4, (some .int))
theorem iX9_far : q_MV mX9_far 2 := ⟨⟨q_w 1095 (by decide +kernel) rfl, q_w 78 (by decide +kernel) rfl, ⟨by decide +kernel, by decide +kernel, by decide +kernel⟩, by decide +kernel, by decide +kernel⟩, q_w 1094 (by decide +kernel) rfl, q_w 51 (by decide +kernel) rfl⟩
abbrev mX9_blamed : q_M := (yX9_blamed, cX9_blamed, 8, (some .int))
theorem iX9_blamed : q_MV mX9_blamed 2 := ⟨⟨q_w 1087 (by decide +kernel) rfl, q_w 78 (by decide +kernel) rfl, ⟨by decide +kernel, by decide +kernel, by decide +kernel⟩, by decide +kernel, by decide +kernel⟩, q_w 1086 (by decide +kernel) rfl, q_w 49 (by decide +kernel) rfl⟩
abbrev mX9_shadeOf : q_M := (yX9_shadeOf, cX9_shadeOf, 6, (some .int))
theorem iX9_shadeOf : q_MV mX9_shadeOf 2 := ⟨⟨q_w 1083 (by decide +kernel) rfl, q_w 78 (by decide +kernel) rfl, ⟨by decide +kernel, by decide +kernel, by decide +kernel⟩, by decide +kernel, by decide +kernel⟩, q_w 1082 (by decide +kernel) rfl, q_w 48 (by decide +kernel) rfl⟩
abbrev mX9_yieldIn : q_M := (yX9_yieldIn, cX9_yieldIn, 3, (some .int))
theorem iX9_yieldIn : q_MV mX9_yieldIn 2 := ⟨⟨q_w 1056 (by decide +kernel) rfl, q_w 78 (by decide +kernel) rfl, ⟨by decide +kernel, by decide +kernel, by decide +kernel⟩, by decide +kernel, by decide +kernel⟩, q_w 1055 (by decide +kernel) rfl, q_w 42 (by decide +kernel) rfl⟩
abbrev mX9_yieldOf : q_M := (yX9_yieldOf, cX9_yieldOf, 4, (some .int))
theorem iX9_yieldOf : q_MV mX9_yieldOf 1 := ⟨⟨q_w 1052 (by decide +kernel) rfl, q_w 78 (by decide +kernel) rfl, ⟨by decide +kernel, by decide +kernel, by decide +kernel⟩, by decide +kernel, by decide +kernel⟩, q_w 1051 (by decide +kernel) rfl, q_w 41 (by decide +kernel) rfl⟩
abbrev mX9_allYields : q_M := (yX9_allYields, cX9_allYields, 3, (some .int))
theorem iX9_allYields : q_MV mX9_allYields 0 := ⟨⟨q_w 1138 (by decide +kernel) rfl, q_w 78 (by decide +kernel) rfl, ⟨by decide +kernel, by decide +kernel, by decide +kernel⟩, by decide +kernel, by decide +kernel⟩, q_w 1137 (by decide +kernel) rfl, q_w 57 (by decide +kernel) rfl⟩
abbrev mX9_isPlaceTaken : q_M := (yX9_isPlaceTaken, cX9_isPlaceTaken, 4, (some .boolean))
theorem iX9_isPlaceTaken : q_MV mX9_isPlaceTaken 1 := ⟨⟨q_w 922 (by decide +kernel) rfl, q_w 78 (by decide +kernel) rfl, ⟨by decide +kernel, by decide +kernel, by decide +kernel⟩, by decide +kernel, by decide +kernel⟩, q_w 921 (by decide +kernel) rfl, q_w 20 (by decide +kernel) rfl⟩
abbrev mX9_row : q_M := (yX9_row, cX9_row, 5, (some .int))
theorem iX9_row : q_MV mX9_row 3 := ⟨⟨q_w 915 (by decide +kernel) rfl, q_w 78 (by decide +kernel) rfl, ⟨by decide +kernel, by decide +kernel, by decide +kernel⟩, by decide +kernel, by decide +kernel⟩, q_w 913 (by decide +kernel) rfl, q_w 914 (by decide +kernel) rfl⟩
abbrev mX9_whyNotTilted : q_M := (yX9_whyNotTilted, cX9_whyNotTilted, 3, (some .int))
theorem iX9_whyNotTilted : q_MV mX9_whyNotTilted 2 := ⟨⟨q_w 941 (by decide +kernel) rfl, q_w 78 (by decide +kernel) rfl, ⟨by decide +kernel, by decide +kernel, by decide +kernel⟩, by decide +kernel, by decide +kernel⟩, q_w 940 (by decide +kernel) rfl, q_w 23 (by decide +kernel) rfl⟩
abbrev mX9_tilted : q_M := (yX9_tilted, cX9_tilted, 4, (some .int))
theorem iX9_tilted : q_MV mX9_tilted 2 := ⟨⟨q_w 949 (by decide +kernel) rfl, q_w 78 (by decide +kernel) rfl, ⟨by decide +kernel, by decide +kernel, by decide +kernel⟩, by decide +kernel, by decide +kernel⟩, q_w 948 (by decide +kernel) rfl, q_w 25 (by decide +kernel) rfl⟩
abbrev mX9_tilt : q_M := (yX9_tilt, cX9_tilt, 4, (some .int))
theorem iX9_tilt : q_MV mX9_tilt 2 := ⟨⟨q_w 937 (by decide +kernel) rfl, q_w 78 (by decide +kernel) rfl, ⟨by decide +kernel, by decide +kernel, by decide +kernel⟩, by decide +kernel, by decide +kernel⟩, q_w 935 (by decide +kernel) rfl, q_w 936 (by decide +kernel) rfl⟩
abbrev mX9_wind : q_M := (yX9_wind, cX9_wind, 4, (some .int))
theorem iX9_wind : q_MV mX9_wind 2 := ⟨⟨q_w 953 (by decide +kernel) rfl, q_w 78 (by decide +kernel) rfl, ⟨by decide +kernel, by decide +kernel, by decide +kernel⟩, by decide +kernel, by decide +kernel⟩, q_w 951 (by decide +kernel) rfl, q_w 952 (by decide +kernel) rfl⟩
abbrev mX9_stow : q_M := (yX9_stow, cX9_stow, 3, (some .int))
theorem iX9_stow : q_MV mX9_stow 1 := ⟨⟨q_w 960 (by decide +kernel) rfl, q_w 78 (by decide +kernel) rfl, ⟨by decide +kernel, by decide +kernel, by decide +kernel⟩, by decide +kernel, by decide +kernel⟩, q_w 958 (by decide +kernel) rfl, q_w 959 (by decide +kernel) rfl⟩
abbrev mX9_whyNotGranted : q_M := (yX9_whyNotGranted, cX9_whyNotGranted, 5, (some .int))
theorem iX9_whyNotGranted : q_MV mX9_whyNotGranted 4 := ⟨⟨q_w 968 (by decide +kernel) rfl, q_w 78 (by decide +kernel) rfl, ⟨by decide +kernel, by decide +kernel, by decide +kernel⟩, by decide +kernel, by decide +kernel⟩, q_w 967 (by decide +kernel) rfl, q_w 26 (by decide +kernel) rfl⟩
abbrev mX9_grant : q_M := (yX9_grant, cX9_grant, 7, (some .int))
theorem iX9_grant : q_MV mX9_grant 4 := ⟨⟨q_w 964 (by decide +kernel) rfl, q_w 78 (by decide +kernel) rfl, ⟨by decide +kernel, by decide +kernel, by decide +kernel⟩, by decide +kernel, by decide +kernel⟩, q_w 962 (by decide +kernel) rfl, q_w 963 (by decide +kernel) rfl⟩
abbrev mX9_areUnits : q_M := (yX9_areUnits, cX9_areUnits, 2, (some .boolean))
theorem iX9_areUnits : q_MS mX9_areUnits 2 := ⟨⟨q_w 987 (by decide +kernel) rfl, q_w 78 (by decide +kernel) rfl, ⟨by decide +kernel, by decide +kernel, by decide +kernel⟩, by decide +kernel, by decide +kernel⟩, q_w 986 (by decide +kernel) rfl⟩
abbrev mX9_whyNotAsked : q_M := (yX9_whyNotAsked, cX9_whyNotAsked, 5, (some .int))
theorem iX9_whyNotAsked : q_MV mX9_whyNotAsked 4 := ⟨⟨q_w 984 (by decide +kernel) rfl, q_w 78 (by decide +kernel) rfl, ⟨by decide +kernel, by decide +kernel, by decide +kernel⟩, by decide +kernel, by decide +kernel⟩, q_w 983 (by decide +kernel) rfl, q_w 29 (by decide +kernel) rfl⟩
abbrev mX9_asked : q_M := (yX9_asked, cX9_asked, 6, (some .int))
theorem iX9_asked : q_MV mX9_asked 4 := ⟨⟨q_w 991 (by decide +kernel) rfl, q_w 78 (by decide +kernel) rfl, ⟨by decide +kernel, by decide +kernel, by decide +kernel⟩, by decide +kernel, by decide +kernel⟩, q_w 990 (by decide +kernel) rfl, q_w 30 (by decide +kernel) rfl⟩
abbrev mX9_ask : q_M := (yX9_ask, cX9_ask, 6, (some .int))
theorem iX9_ask : q_MV mX9_ask 4 := ⟨⟨q_w 980 (by decide +kernel) rfl, q_w 78 (by decide +kernel) rfl, ⟨by decide +kernel, by decide +kernel, by decide +kernel⟩, by decide +kernel, by decide +kernel⟩, q_w 978 (by decide +kernel) rfl, q_w 979 (by decide +kernel) rfl⟩
abbrev mX9_whyNotBid : q_M := (yX9_whyNotBid, cX9_whyNotBid, 6, (some .int))
theorem iX9_whyNotBid : q_MV mX9_whyNotBid 5 := ⟨⟨q_w 999 (by decide +kernel) rfl, q_w 78 (by decide +kernel) rfl, ⟨by decide +kernel, by decide +kernel, by decide +kernel⟩, by decide +kernel, by decide +kernel⟩, q_w 998 (by decide +kernel) rfl, q_w 31 (by decide +kernel) rfl⟩
abbrev mX9_bought : q_M := (yX9_bought, cX9_bought, 7, (some .int))
theorem iX9_bought : q_MV mX9_bought 5 := ⟨⟨q_w 1003 (by decide +kernel) rfl, q_w 78 (by decide +kernel) rfl, ⟨by decide +kernel, by decide +kernel, by decide +kernel⟩, by decide +kernel, by decide +kernel⟩, q_w 1002 (by decide +kernel) rfl, q_w 32 (by decide +kernel) rfl⟩
abbrev mX9_bid : q_M := (yX9_bid, cX9_bid, 7, (some .int))
theorem iX9_bid : q_MV mX9_bid 5 := ⟨⟨q_w 995 (by decide +kernel) rfl, q_w 78 (by decide +kernel) rfl, ⟨by decide +kernel, by decide +kernel, by decide +kernel⟩, by decide +kernel, by decide +kernel⟩, q_w 993 (by decide +kernel) rfl, q_w 994 (by decide +kernel) rfl⟩
abbrev mX9_dropAsk : q_M := (yX9_dropAsk, cX9_dropAsk, 3, none)
theorem iX9_dropAsk : q_MV mX9_dropAsk 1 := ⟨⟨q_w 1011 (by decide +kernel) rfl, q_w 78 (by decide +kernel) rfl, ⟨by decide +kernel, by decide +kernel, by decide +kernel⟩, by decide +kernel, by decide +kernel⟩, q_w 1010 (by decide +kernel) rfl, q_w 33 (by decide +kernel) rfl⟩
abbrev mX9_dropBid : q_M := (yX9_dropBid, cX9_dropBid, 3, none)
theorem iX9_dropBid : q_MV mX9_dropBid 1 := ⟨⟨q_w 1015 (by decide +kernel) rfl, q_w 78 (by decide +kernel) rfl, ⟨by decide +kernel, by decide +kernel, by decide +kernel⟩, by decide +kernel, by decide +kernel⟩, q_w 1014 (by decide +kernel) rfl, q_w 34 (by decide +kernel) rfl⟩
abbrev mX9_takeBack : q_M := (yX9_takeBack, cX9_takeBack, 3, (some .int))
theorem iX9_takeBack : q_MV mX9_takeBack 2 := ⟨⟨q_w 1007 (by decide +kernel) rfl, q_w 78 (by decide +kernel) rfl, ⟨by decide +kernel, by decide +kernel, by decide +kernel⟩, by decide +kernel, by decide +kernel⟩, q_w 1005 (by decide +kernel) rfl, q_w 1006 (by decide +kernel) rfl⟩
abbrev mX9_askPart : q_M := (yX9_askPart, cX9_askPart, 3, (some .int))
theorem iX9_askPart : q_MV mX9_askPart 2 := ⟨⟨q_w 1043 (by decide +kernel) rfl, q_w 78 (by decide +kernel) rfl, ⟨by decide +kernel, by decide +kernel, by decide +kernel⟩, by decide +kernel, by decide +kernel⟩, q_w 1042 (by decide +kernel) rfl, q_w 40 (by decide +kernel) rfl⟩
abbrev mX9_bidPart : q_M := (yX9_bidPart, cX9_bidPart, 3, (some .int))
theorem iX9_bidPart : q_MV mX9_bidPart 2 := ⟨⟨q_w 1031 (by decide +kernel) rfl, q_w 78 (by decide +kernel) rfl, ⟨by decide +kernel, by decide +kernel, by decide +kernel⟩, by decide +kernel, by decide +kernel⟩, q_w 1030 (by decide +kernel) rfl, q_w 37 (by decide +kernel) rfl⟩
abbrev mX9_placeOfBid : q_M := (yX9_placeOfBid, cX9_placeOfBid, 5, (some .int))
theorem iX9_placeOfBid : q_MV mX9_placeOfBid 1 := ⟨⟨q_w 1027 (by decide +kernel) rfl, q_w 78 (by decide +kernel) rfl, ⟨by decide +kernel, by decide +kernel, by decide +kernel⟩, by decide +kernel, by decide +kernel⟩, q_w 1026 (by decide +kernel) rfl, q_w 36 (by decide +kernel) rfl⟩
abbrev mX9_nextAsk : q_M := (yX9_nextAsk, cX9_nextAsk, 5, (some .int))
theorem iX9_nextAsk : q_MV mX9_nextAsk 1 := ⟨⟨q_w 1039 (by decide +kernel) rfl, q_w 78 (by decide +kernel) rfl, ⟨by decide +kernel, by decide +kernel, by decide +kernel⟩, by decide +kernel, by decide +kernel⟩, q_w 1038 (by decide +kernel) rfl, q_w 39 (by decide +kernel) rfl⟩
abbrev mX9_tradedBy : q_M := (yX9_tradedBy, cX9_tradedBy, 10, (some .int))
theorem iX9_tradedBy : q_MV mX9_tradedBy 1 := ⟨⟨q_w 1035 (by decide +kernel) rfl, q_w 78 (by decide +kernel) rfl, ⟨by decide +kernel, by decide +kernel, by decide +kernel⟩, by decide +kernel, by decide +kernel⟩, q_w 1034 (by decide +kernel) rfl, q_w 38 (by decide +kernel) rfl⟩
abbrev mX9_matched : q_M := (yX9_matched, cX9_matched, 4, (some .int))
theorem iX9_matched : q_MV mX9_matched 0 := ⟨⟨q_w 1023 (by decide +kernel) rfl, q_w 78 (by decide +kernel) rfl, ⟨by decide +kernel, by decide +kernel, by decide +kernel⟩, by decide +kernel, by decide +kernel⟩, q_w 1022 (by decide +kernel) rfl, q_w 35 (by decide +kernel) rfl⟩
abbrev mX9_match : q_M := (yX9_match, cX9_match, 1, (some .int))
theorem iX9_match : q_MV mX9_match 0 := ⟨⟨q_w 1019 (by decide +kernel) rfl, q_w 78 (by decide +kernel) rfl, ⟨by decide +kernel, by decide +kernel, by decide +kernel⟩, by decide +kernel, by decide +kernel⟩, q_w 1017 (by decide +kernel) rfl, q_w 1018 (by decide +kernel) rfl⟩
abbrev mX9_fullYield : q_M := (yX9_fullYield, cX9_fullYield, 4, (some .int))
theorem iX9_fullYield : q_MV mX9_fullYield 1 := ⟨⟨q_w 1102 (by decide +kernel) rfl, q_w 78 (by decide +kernel) rfl, ⟨by decide +kernel, by decide +kernel, by decide +kernel⟩, by decide +kernel, by decide +kernel⟩, q_w 1101 (by decide +kernel) rfl, q_w 52 (by decide +kernel) rfl⟩
abbrev mX9_lowHours : q_M := (yX9_lowHours, cX9_lowHours, 4, (some .int))
theorem iX9_lowHours : q_MV mX9_lowHours 1 := ⟨⟨q_w 1106 (by decide +kernel) rfl, q_w 78 (by decide +kernel) rfl, ⟨by decide +kernel, by decide +kernel, by decide +kernel⟩, by decide +kernel, by decide +kernel⟩, q_w 1105 (by decide +kernel) rfl, q_w 53 (by decide +kernel) rfl⟩
abbrev mX9_shadeHours : q_M := (yX9_shadeHours, cX9_shadeHours, 4, (some .int))
theorem iX9_shadeHours : q_MV mX9_shadeHours 1 := ⟨⟨q_w 1110 (by decide +kernel) rfl, q_w 78 (by decide +kernel) rfl, ⟨by decide +kernel, by decide +kernel, by decide +kernel⟩, by decide +kernel, by decide +kernel⟩, q_w 1109 (by decide +kernel) rfl, q_w 54 (by decide +kernel) rfl⟩
abbrev mX9_blamedHours : q_M := (yX9_blamedHours, cX9_blamedHours, 5, (some .int))
theorem iX9_blamedHours : q_MV mX9_blamedHours 2 := ⟨⟨q_w 1118 (by decide +kernel) rfl, q_w 78 (by decide +kernel) rfl, ⟨by decide +kernel, by decide +kernel, by decide +kernel⟩, by decide +kernel, by decide +kernel⟩, q_w 1117 (by decide +kernel) rfl, q_w 56 (by decide +kernel) rfl⟩
abbrev mX9_mostBlamed : q_M := (yX9_mostBlamed, cX9_mostBlamed, 6, (some .int))
theorem iX9_mostBlamed : q_MV mX9_mostBlamed 1 := ⟨⟨q_w 1114 (by decide +kernel) rfl, q_w 78 (by decide +kernel) rfl, ⟨by decide +kernel, by decide +kernel, by decide +kernel⟩, by decide +kernel, by decide +kernel⟩, q_w 1113 (by decide +kernel) rfl, q_w 55 (by decide +kernel) rfl⟩
abbrev mX9_ofRow : q_M := (yX9_ofRow, cX9_ofRow, 3, (some .int))
theorem iX9_ofRow : q_MV mX9_ofRow 2 := ⟨⟨q_w 1047 (by decide +kernel) rfl, q_w 78 (by decide +kernel) rfl, ⟨by decide +kernel, by decide +kernel, by decide +kernel⟩, by decide +kernel, by decide +kernel⟩, q_w 1045 (by decide +kernel) rfl, q_w 1046 (by decide +kernel) rfl⟩
abbrev mX9_inHour : q_M := (yX9_inHour, cX9_inHour, 4, (some .int))
theorem iX9_inHour : q_MV mX9_inHour 3 := ⟨⟨q_w 1122 (by decide +kernel) rfl, q_w 78 (by decide +kernel) rfl, ⟨by decide +kernel, by decide +kernel, by decide +kernel⟩, by decide +kernel, by decide +kernel⟩, q_w 1120 (by decide +kernel) rfl, q_w 1121 (by decide +kernel) rfl⟩
abbrev mX9_over : q_M := (yX9_over, cX9_over, 5, (some .int))
theorem iX9_over : q_MV mX9_over 4 := ⟨⟨q_w 1126 (by decide +kernel) rfl, q_w 78 (by decide +kernel) rfl, ⟨by decide +kernel, by decide +kernel, by decide +kernel⟩, by decide +kernel, by decide +kernel⟩, q_w 1124 (by decide +kernel) rfl, q_w 1125 (by decide +kernel) rfl⟩
abbrev mX9_offer : q_M := (yX9_offer, cX9_offer, 4, (some .int))
theorem iX9_offer : q_MV mX9_offer 3 := ⟨⟨q_w 1130 (by decide +kernel) rfl, q_w 78 (by decide +kernel) rfl, ⟨by decide +kernel, by decide +kernel, by decide +kernel⟩, by decide +kernel, by decide +kernel⟩, q_w 1128 (by decide +kernel) rfl, q_w 1129 (by decide +kernel) rfl⟩
abbrev mX9_count : q_M := (yX9_count, cX9_count, 2, (some .int))
theorem iX9_count : q_MV mX9_count 1 := ⟨⟨q_w 1134 (by decide +kernel) rfl, q_w 78 (by decide +kernel) rfl, ⟨by decide +kernel, by decide +kernel, by decide +kernel⟩, by decide +kernel, by decide +kernel⟩, q_w 1132 (by decide +kernel) rfl, q_w 1133 (by decide +kernel) rfl⟩
abbrev mX9_worth : q_M := (yX9_worth, cX9_worth, 10, (some .int))
theorem iX9_worth : q_MV mX9_worth 5 := ⟨⟨q_w 1142 (by decide +kernel) rfl, q_w 78 (by decide +kernel) rfl, ⟨by decide +kernel, by decide +kernel, by decide +kernel⟩, by decide +kernel, by decide +kernel⟩, q_w 1140 (by decide +kernel) rfl, q_w 1141 (by decide +kernel) rfl⟩
abbrev mX9_bestTilt : q_M := (yX9_bestTilt, cX9_bestTilt, 8, (some .int))
theorem iX9_bestTilt : q_MV mX9_bestTilt 2 := ⟨⟨q_w 1147 (by decide +kernel) rfl, q_w 78 (by decide +kernel) rfl, ⟨by decide +kernel, by decide +kernel, by decide +kernel⟩, by decide +kernel, by decide +kernel⟩, q_w 1145 (by decide +kernel) rfl, q_w 1146 (by decide +kernel) rfl⟩
abbrev mX9_lyingAt : q_M := (yX9_lyingAt, cX9_lyingAt, 3, (some .int))
theorem iX9_lyingAt : q_MS mX9_lyingAt 3 := ⟨⟨q_w 1158 (by decide +kernel) rfl, q_w 78 (by decide +kernel) rfl, ⟨by decide +kernel, by decide +kernel, by decide +kernel⟩, by decide +kernel, by decide +kernel⟩, q_w 1157 (by decide +kernel) rfl⟩
abbrev mX9_heightAt : q_M := (yX9_heightAt, cX9_heightAt, 4, (some .int))
theorem iX9_heightAt : q_MS mX9_heightAt 4 := ⟨⟨q_w 1161 (by decide +kernel) rfl, q_w 78 (by decide +kernel) rfl, ⟨by decide +kernel, by decide +kernel, by decide +kernel⟩, by decide +kernel, by decide +kernel⟩, q_w 1160 (by decide +kernel) rfl⟩
abbrev mX9_findHeights : q_M := (yX9_findHeights, cX9_findHeights, 5, none)
theorem iX9_findHeights : q_MV mX9_findHeights 0 := ⟨⟨q_w 1155 (by decide +kernel) rfl, q_w 78 (by decide +kernel) rfl, ⟨by decide +kernel, by decide +kernel, by decide +kernel⟩, by decide +kernel, by decide +kernel⟩, q_w 1154 (by decide +kernel) rfl, q_w 58 (by decide +kernel) rfl⟩
abbrev mX9_yieldsBy : q_M := (yX9_yieldsBy, cX9_yieldsBy, 7, (some .int))
theorem iX9_yieldsBy : q_MV mX9_yieldsBy 0 := ⟨⟨q_w 1165 (by decide +kernel) rfl, q_w 78 (by decide +kernel) rfl, ⟨by decide +kernel, by decide +kernel, by decide +kernel⟩, by decide +kernel, by decide +kernel⟩, q_w 1164 (by decide +kernel) rfl, q_w 59 (by decide +kernel) rfl⟩
abbrev mX9_bestTilts : q_M := (yX9_bestTilts, cX9_bestTilts, 9, (some .int))
theorem iX9_bestTilts : q_MV mX9_bestTilts 1 := ⟨⟨q_w 1151 (by decide +kernel) rfl, q_w 78 (by decide +kernel) rfl, ⟨by decide +kernel, by decide +kernel, by decide +kernel⟩, by decide +kernel, by decide +kernel⟩, q_w 1149 (by decide +kernel) rfl, q_w 1150 (by decide +kernel) rfl⟩
abbrev mX9_put : q_M := (yX9_put, cX9_put, 8, (some .int))
theorem iX9_put : q_MV mX9_put 1 := ⟨⟨q_w 1169 (by decide +kernel) rfl, q_w 78 (by decide +kernel) rfl, ⟨by decide +kernel, by decide +kernel, by decide +kernel⟩, by decide +kernel, by decide +kernel⟩, q_w 1167 (by decide +kernel) rfl, q_w 1168 (by decide +kernel) rfl⟩
abbrev mX9_wipe : q_M := (yX9_wipe, cX9_wipe, 2, (some .int))
theorem iX9_wipe : q_MV mX9_wipe 0 := ⟨⟨q_w 1174 (by decide +kernel) rfl, q_w 78 (by decide +kernel) rfl, ⟨by decide +kernel, by decide +kernel, by decide +kernel⟩, by decide +kernel, by decide +kernel⟩, q_w 1172 (by decide +kernel) rfl, q_w 1173 (by decide +kernel) rfl⟩
abbrev mX9_character : q_M := (yX9_character, cX9_character, 2, (some .int))
theorem iX9_character : q_MV mX9_character 1 := ⟨⟨q_w 1190 (by decide +kernel) rfl, q_w 78 (by decide +kernel) rfl, ⟨by decide +kernel, by decide +kernel, by decide +kernel⟩, by decide +kernel, by decide +kernel⟩, q_w 1189 (by decide +kernel) rfl, q_w 62 (by decide +kernel) rfl⟩
abbrev mX9_takeDigit : q_M := (yX9_takeDigit, cX9_takeDigit, 3, (some .int))
theorem iX9_takeDigit : q_MV mX9_takeDigit 1 := ⟨⟨q_w 1194 (by decide +kernel) rfl, q_w 78 (by decide +kernel) rfl, ⟨by decide +kernel, by decide +kernel, by decide +kernel⟩, by decide +kernel, by decide +kernel⟩, q_w 1193 (by decide +kernel) rfl, q_w 63 (by decide +kernel) rfl⟩
abbrev mX9_takes : q_M := (yX9_takes, cX9_takes, 3, (some .boolean))
theorem iX9_takes : q_MV mX9_takes 1 := ⟨⟨q_w 1198 (by decide +kernel) rfl, q_w 78 (by decide +kernel) rfl, ⟨by decide +kernel, by decide +kernel, by decide +kernel⟩, by decide +kernel, by decide +kernel⟩, q_w 1197 (by decide +kernel) rfl, q_w 64 (by decide +kernel) rfl⟩
abbrev mX9_takeNumber : q_M := (yX9_takeNumber, cX9_takeNumber, 2, (some .int))
theorem iX9_takeNumber : q_MV mX9_takeNumber 0 := ⟨⟨q_w 1206 (by decide +kernel) rfl, q_w 78 (by decide +kernel) rfl, ⟨by decide +kernel, by decide +kernel, by decide +kernel⟩, by decide +kernel, by decide +kernel⟩, q_w 1205 (by decide +kernel) rfl, q_w 66 (by decide +kernel) rfl⟩
abbrev mX9_takesDeal : q_M := (yX9_takesDeal, cX9_takesDeal, 2, (some .boolean))
theorem iX9_takesDeal : q_MV mX9_takesDeal 0 := ⟨⟨q_w 1202 (by decide +kernel) rfl, q_w 78 (by decide +kernel) rfl, ⟨by decide +kernel, by decide +kernel, by decide +kernel⟩, by decide +kernel, by decide +kernel⟩, q_w 1201 (by decide +kernel) rfl, q_w 65 (by decide +kernel) rfl⟩
abbrev mX9_readsOrder : q_M := (yX9_readsOrder, cX9_readsOrder, 1, (some .boolean))
theorem iX9_readsOrder : q_MV mX9_readsOrder 0 := ⟨⟨q_w 1186 (by decide +kernel) rfl, q_w 78 (by decide +kernel) rfl, ⟨by decide +kernel, by decide +kernel, by decide +kernel⟩, by decide +kernel, by decide +kernel⟩, q_w 1185 (by decide +kernel) rfl, q_w 61 (by decide +kernel) rfl⟩
abbrev mX9_findFault : q_M := (yX9_findFault, cX9_findFault, 1, (some .int))
theorem iX9_findFault : q_MV mX9_findFault 0 := ⟨⟨q_w 1182 (by decide +kernel) rfl, q_w 78 (by decide +kernel) rfl, ⟨by decide +kernel, by decide +kernel, by decide +kernel⟩, by decide +kernel, by decide +kernel⟩, q_w 1181 (by decide +kernel) rfl, q_w 60 (by decide +kernel) rfl⟩
abbrev mX9_fault : q_M := (yX9_fault, cX9_fault, 1, (some .int))
theorem iX9_fault : q_MV mX9_fault 0 := ⟨⟨q_w 1178 (by decide +kernel) rfl, q_w 78 (by decide +kernel) rfl, ⟨by decide +kernel, by decide +kernel, by decide +kernel⟩, by decide +kernel, by decide +kernel⟩, q_w 1176 (by decide +kernel) rfl, q_w 1177 (by decide +kernel) rfl⟩
abbrev mX9_does : q_M := (yX9_does, cX9_does, 2, (some .boolean))
theorem iX9_does : q_MV mX9_does 0 := ⟨⟨q_w 1214 (by decide +kernel) rfl, q_w 78 (by decide +kernel) rfl, ⟨by decide +kernel, by decide +kernel, by decide +kernel⟩, by decide +kernel, by decide +kernel⟩, q_w 1213 (by decide +kernel) rfl, q_w 67 (by decide +kernel) rfl⟩
abbrev mX9_carryOut : q_M := (yX9_carryOut, cX9_carryOut, 3, (some .int))
theorem iX9_carryOut : q_MV mX9_carryOut 0 := ⟨⟨q_w 1210 (by decide +kernel) rfl, q_w 78 (by decide +kernel) rfl, ⟨by decide +kernel, by decide +kernel, by decide +kernel⟩, by decide +kernel, by decide +kernel⟩, q_w 1208 (by decide +kernel) rfl, q_w 1209 (by decide +kernel) rfl⟩
abbrev mX9_undo : q_M := (yX9_undo, cX9_undo, 1, (some .int))
theorem iX9_undo : q_MV mX9_undo 0 := ⟨⟨q_w 1218 (by decide +kernel) rfl, q_w 78 (by decide +kernel) rfl, ⟨by decide +kernel, by decide +kernel, by decide +kernel⟩, by decide +kernel, by decide +kernel⟩, q_w 1216 (by decide +kernel) rfl, q_w 1217 (by decide +kernel) rfl⟩
abbrev mX9_save : q_M := (yX9_save, cX9_save, 2, (some .int))
theorem iX9_save : q_MV mX9_save 1 := ⟨⟨q_w 1222 (by decide +kernel) rfl, q_w 78 (by decide +kernel) rfl, ⟨by decide +kernel, by decide +kernel, by decide +kernel⟩, by decide +kernel, by decide +kernel⟩, q_w 1220 (by decide +kernel) rfl, q_w 1221 (by decide +kernel) rfl⟩
abbrev mX9_restore : q_M := (yX9_restore, cX9_restore, 2, (some .int))
theorem iX9_restore : q_MV mX9_restore 1 := ⟨⟨q_w 1226 (by decide +kernel) rfl, q_w 78 (by decide +kernel) rfl, ⟨by decide +kernel, by decide +kernel, by decide +kernel⟩, by decide +kernel, by decide +kernel⟩, q_w 1224 (by decide +kernel) rfl, q_w 1225 (by decide +kernel) rfl⟩
abbrev mJ11_isValidCodePoint_9a6ad : q_M := (yJ11_isValidCodePoint_9a6ad, cJ11_isValidCodePoint_9a6ad, 2, (some .boolean))
theorem iJ11_isValidCodePoint_9a6ad : q_MS mJ11_isValidCodePoint_9a6ad 1 := ⟨⟨q_w 788 (by decide +kernel) rfl, q_w 85 (by decide +kernel) rfl, ⟨by decide +kernel, by decide +kernel, by decide +kernel⟩, by decide +kernel, by decide +kernel⟩, q_w 787 (by decide +kernel) rfl⟩
abbrev mJ11_highSurrogate_5068e : q_M := (yJ11_highSurrogate_5068e, cJ11_highSurrogate_5068e, 1, (some .char))
theorem iJ11_highSurrogate_5068e : q_MS mJ11_highSurrogate_5068e 1 := ⟨⟨q_w 791 (by decide +kernel) rfl, q_w 85 (by decide +kernel) rfl, ⟨by decide +kernel, by decide +kernel, by decide +kernel⟩, by decide +kernel, by decide +kernel⟩, q_w 790 (by decide +kernel) rfl⟩
abbrev mJ11_lowSurrogate_5068e : q_M := (yJ11_lowSurrogate_5068e, cJ11_lowSurrogate_5068e, 1, (some .char))
theorem iJ11_lowSurrogate_5068e : q_MS mJ11_lowSurrogate_5068e 1 := ⟨⟨q_w 795 (by decide +kernel) rfl, q_w 85 (by decide +kernel) rfl, ⟨by decide +kernel, by decide +kernel, by decide +kernel⟩, by decide +kernel, by decide +kernel⟩, q_w 794 (by decide +kernel) rfl⟩
abbrev mJ9_max_7cf53 : q_M := (yJ9_max_7cf53, cJ9_max_7cf53, 2, (some .int))
abbrev mJ9_min_7cf53 : q_M := (yJ9_min_7cf53, cJ9_min_7cf53, 2, (some .int))
abbrev mJ0_length_8abf5 : q_M := (yJ0_length_8abf5, cJ0_length_8abf5, 1, (some .int))
theorem iJ0_length_8abf5 : q_MV mJ0_length_8abf5 0 := ⟨⟨q_w 732 (by decide +kernel) rfl, q_w 81 (by decide +kernel) rfl, ⟨by decide +kernel, by decide +kernel, by decide +kernel⟩, by decide +kernel, by decide +kernel⟩, q_w 730 (by decide +kernel) rfl, q_w 731 (by decide +kernel) rfl⟩
abbrev mJ0_indexOf_0f7a4 : q_M := (yJ0_indexOf_0f7a4, cJ0_indexOf_0f7a4, 2, (some .int))
theorem iJ0_indexOf_0f7a4 : q_MV mJ0_indexOf_0f7a4 1 := ⟨⟨q_w 718 (by decide +kernel) rfl, q_w 81 (by decide +kernel) rfl, ⟨by decide +kernel, by decide +kernel, by decide +kernel⟩, by decide +kernel, by decide +kernel⟩, q_w 716 (by decide +kernel) rfl, q_w 717 (by decide +kernel) rfl⟩
abbrev mJ0_indexOf_7cf53 : q_M := (yJ0_indexOf_7cf53, cJ0_indexOf_7cf53, 3, (some .int))
theorem iJ0_indexOf_7cf53 : q_MV mJ0_indexOf_7cf53 2 := ⟨⟨q_w 722 (by decide +kernel) rfl, q_w 81 (by decide +kernel) rfl, ⟨by decide +kernel, by decide +kernel, by decide +kernel⟩, by decide +kernel, by decide +kernel⟩, q_w 720 (by decide +kernel) rfl, q_w 721 (by decide +kernel) rfl⟩
abbrev mJ0_coder_7d493 : q_M := (yJ0_coder_7d493, cJ0_coder_7d493, 1, (some .byte))
theorem iJ0_coder_7d493 : q_MV mJ0_coder_7d493 0 := ⟨⟨q_w 736 (by decide +kernel) rfl, q_w 81 (by decide +kernel) rfl, ⟨by decide +kernel, by decide +kernel, by decide +kernel⟩, by decide +kernel, by decide +kernel⟩, q_w 734 (by decide +kernel) rfl, q_w 735 (by decide +kernel) rfl⟩
abbrev mJ0_isLatin1_aae02 : q_M := (yJ0_isLatin1_aae02, cJ0_isLatin1_aae02, 1, (some .boolean))
theorem iJ0_isLatin1_aae02 : q_MV mJ0_isLatin1_aae02 0 := ⟨⟨q_w 726 (by decide +kernel) rfl, q_w 81 (by decide +kernel) rfl, ⟨by decide +kernel, by decide +kernel, by decide +kernel⟩, by decide +kernel, by decide +kernel⟩, q_w 724 (by decide +kernel) rfl, q_w 725 (by decide +kernel) rfl⟩
abbrev mJ0_checkBoundsBeginEnd_23922 : q_M := (yJ0_checkBoundsBeginEnd_23922, cJ0_checkBoundsBeginEnd_23922, 3, none)
theorem iJ0_checkBoundsBeginEnd_23922 : q_MS mJ0_checkBoundsBeginEnd_23922 3 := ⟨⟨q_w 765 (by decide +kernel) rfl, q_w 81 (by decide +kernel) rfl, ⟨by decide +kernel, by decide +kernel, by decide +kernel⟩, by decide +kernel, by decide +kernel⟩, q_w 764 (by decide +kernel) rfl⟩
abbrev mJ1_canEncode_9a6ad : q_M := (yJ1_canEncode_9a6ad, cJ1_canEncode_9a6ad, 1, (some .boolean))
theorem iJ1_canEncode_9a6ad : q_MS mJ1_canEncode_9a6ad 1 := ⟨⟨q_w 742 (by decide +kernel) rfl, q_w 82 (by decide +kernel) rfl, ⟨by decide +kernel, by decide +kernel, by decide +kernel⟩, by decide +kernel, by decide +kernel⟩, q_w 741 (by decide +kernel) rfl⟩
abbrev mJ1_indexOf_4cfef : q_M := (yJ1_indexOf_4cfef, cJ1_indexOf_4cfef, 4, (some .int))
theorem iJ1_indexOf_4cfef : q_MS mJ1_indexOf_4cfef 4 := ⟨⟨q_w 739 (by decide +kernel) rfl, q_w 82 (by decide +kernel) rfl, ⟨by decide +kernel, by decide +kernel, by decide +kernel⟩, by decide +kernel, by decide +kernel⟩, q_w 738 (by decide +kernel) rfl⟩
abbrev mJ1_indexOfChar_4cfef : q_M := (yJ1_indexOfChar_4cfef, cJ1_indexOfChar_4cfef, 6, (some .int))
theorem iJ1_indexOfChar_4cfef : q_MS mJ1_indexOfChar_4cfef 4 := ⟨⟨q_w 747 (by decide +kernel) rfl, q_w 82 (by decide +kernel) rfl, ⟨by decide +kernel, by decide +kernel, by decide +kernel⟩, by decide +kernel, by decide +kernel⟩, q_w 746 (by decide +kernel) rfl⟩
abbrev mJ2_getChar_3b067 : q_M := (yJ2_getChar_3b067, cJ2_getChar_3b067, 2, (some .char))
theorem iJ2_getChar_3b067 : q_MS mJ2_getChar_3b067 2 := ⟨⟨q_w 776 (by decide +kernel) rfl, q_w 83 (by decide +kernel) rfl, ⟨by decide +kernel, by decide +kernel, by decide +kernel⟩, by decide +kernel, by decide +kernel⟩, q_w 775 (by decide +kernel) rfl⟩
abbrev mJ2_length_9d52b : q_M := (yJ2_length_9d52b, cJ2_length_9d52b, 1, (some .int))
theorem iJ2_length_9d52b : q_MS mJ2_length_9d52b 1 := ⟨⟨q_w 762 (by decide +kernel) rfl, q_w 83 (by decide +kernel) rfl, ⟨by decide +kernel, by decide +kernel, by decide +kernel⟩, by decide +kernel, by decide +kernel⟩, q_w 761 (by decide +kernel) rfl⟩
abbrev mJ2_indexOf_4cfef : q_M := (yJ2_indexOf_4cfef, cJ2_indexOf_4cfef, 4, (some .int))
theorem iJ2_indexOf_4cfef : q_MS mJ2_indexOf_4cfef 4 := ⟨⟨q_w 750 (by decide +kernel) rfl, q_w 83 (by decide +kernel) rfl, ⟨by decide +kernel, by decide +kernel, by decide +kernel⟩, by decide +kernel, by decide +kernel⟩, q_w 749 (by decide +kernel) rfl⟩
abbrev mJ2_indexOfChar_4cfef : q_M := (yJ2_indexOfChar_4cfef, cJ2_indexOfChar_4cfef, 4, (some .int))
theorem iJ2_indexOfChar_4cfef : q_MS mJ2_indexOfChar_4cfef 4 := ⟨⟨q_w 756 (by decide +kernel) rfl, q_w 83 (by decide +kernel) rfl, ⟨by decide +kernel, by decide +kernel, by decide +kernel⟩, by decide +kernel, by decide +kernel⟩, q_w 755 (by decide +kernel) rfl⟩
abbrev mJ2_indexOfCharUnsafe_4cfef : q_M := (yJ2_indexOfCharUnsafe_4cfef, cJ2_indexOfCharUnsafe_4cfef, 5, (some .int))
theorem iJ2_indexOfCharUnsafe_4cfef : q_MS mJ2_indexOfCharUnsafe_4cfef 4 := ⟨⟨q_w 773 (by decide +kernel) rfl, q_w 83 (by decide +kernel) rfl, ⟨by decide +kernel, by decide +kernel, by decide +kernel⟩, by decide +kernel, by decide +kernel⟩, q_w 772 (by decide +kernel) rfl⟩
abbrev mJ2_indexOfSupplementary_4cfef : q_M := (yJ2_indexOfSupplementary_4cfef, cJ2_indexOfSupplementary_4cfef, 7, (some .int))
theorem iJ2_indexOfSupplementary_4cfef : q_MS mJ2_indexOfSupplementary_4cfef 4 := ⟨⟨q_w 785 (by decide +kernel) rfl, q_w 83 (by decide +kernel) rfl, ⟨by decide +kernel, by decide +kernel, by decide +kernel⟩, by decide +kernel, by decide +kernel⟩, q_w 784 (by decide +kernel) rfl⟩
abbrev mJ2_checkBoundsBeginEnd_d044e : q_M := (yJ2_checkBoundsBeginEnd_d044e, cJ2_checkBoundsBeginEnd_d044e, 3, none)
theorem iJ2_checkBoundsBeginEnd_d044e : q_MS mJ2_checkBoundsBeginEnd_d044e 3 := ⟨⟨q_w 759 (by decide +kernel) rfl, q_w 83 (by decide +kernel) rfl, ⟨by decide +kernel, by decide +kernel, by decide +kernel⟩, by decide +kernel, by decide +kernel⟩, q_w 758 (by decide +kernel) rfl⟩
abbrev mJ3_checkFromToIndex_8c36e : q_M := (yJ3_checkFromToIndex_8c36e, cJ3_checkFromToIndex_8c36e, 4, (some .int))
theorem iJ3_checkFromToIndex_8c36e : q_MS mJ3_checkFromToIndex_8c36e 4 := ⟨⟨q_w 770 (by decide +kernel) rfl, q_w 84 (by decide +kernel) rfl, ⟨by decide +kernel, by decide +kernel, by decide +kernel⟩, by decide +kernel, by decide +kernel⟩, q_w 769 (by decide +kernel) rfl⟩
abbrev mL_law : q_M := (yL_law, cL_law, 4, some .boolean)
theorem lX8_9 : q_Lk RX8 9 mX0_init := Or.inr ⟨_, q_wn 96 (by decide +kernel : _ = some (Cond.methodLinkNest RX8 9 mX0_init.1 "ShadowRows"))⟩
theorem lX8_18 : q_Lk RX8 18 mX2_init := Or.inl (q_w 181 (by decide +kernel) rfl)
theorem lX8_27 : q_Lk RX8 27 mX3_init := Or.inl (q_w 208 (by decide +kernel) rfl)
theorem lX8_34 : q_Lk RX8 34 mX7_init := Or.inl (q_w 218 (by decide +kernel) rfl)
theorem lX8_43 : q_Lk RX8 43 mX6_init := Or.inr ⟨_, q_wn 246 (by decide +kernel : _ = some (Cond.methodLinkNest RX8 43 mX6_init.1 "ShadowRows"))⟩
theorem lX8_50 : q_Lk RX8 50 mX5_init := Or.inl (q_w 263 (by decide +kernel) rfl)
theorem lX8_59 : q_Lk RX8 59 mX1_init := Or.inl (q_w 287 (by decide +kernel) rfl)
theorem lX8_72 : q_Lk RX8 72 mX1_mark := Or.inl (q_w 335 (by decide +kernel) rfl)
theorem lX8_75 : q_Lk RX8 75 mX0_build := Or.inl (q_w 351 (by decide +kernel) rfl)
theorem lX8_79 : q_Lk RX8 79 mX1_keep := Or.inl (q_w 362 (by decide +kernel) rfl)
theorem lX8_83 : q_Lk RX8 83 mX0_changeTilt := Or.inl (q_w 374 (by decide +kernel) rfl)
theorem lX8_87 : q_Lk RX8 87 mX0_changeWind := Or.inl (q_w 386 (by decide +kernel) rfl)
theorem lX8_90 : q_Lk RX8 90 mX0_changeStow := Or.inl (q_w 398 (by decide +kernel) rfl)
theorem lX8_93 : q_Lk RX8 93 mX0_changeRight := Or.inl (q_w 406 (by decide +kernel) rfl)
theorem lX8_97 : q_Lk RX8 97 mX3_addAsk := Or.inl (q_w 421 (by decide +kernel) rfl)
theorem lX8_100 : q_Lk RX8 100 mX3_addBid := Or.inl (q_w 439 (by decide +kernel) rfl)
theorem lX8_104 : q_Lk RX8 104 mX8_outside := Or.inl (q_w 393 (by decide +kernel) rfl)
theorem lX8_108 : q_Lk RX8 108 mX0_offersOf := Or.inl (q_w 447 (by decide +kernel) rfl)
theorem lX8_112 : q_Lk RX8 112 mX4_remove := Or.inl (q_w 451 (by decide +kernel) rfl)
theorem lX8_117 : q_Lk RX8 117 mX3_tradeAll := Or.inl (q_w 468 (by decide +kernel) rfl)
theorem lX8_121 : q_Lk RX8 121 mX0_hasRow := Or.inl (q_w 509 (by decide +kernel) rfl)
theorem lX8_139 : q_Lk RX8 139 mX2_yieldOfDay := Or.inl (q_w 511 (by decide +kernel) rfl)
theorem lX8_142 : q_Lk RX8 142 mX2_unshadedYieldOfDay := Or.inl (q_w 572 (by decide +kernel) rfl)
theorem lX8_145 : q_Lk RX8 145 mX2_hoursLowered := Or.inl (q_w 576 (by decide +kernel) rfl)
theorem lX8_148 : q_Lk RX8 148 mX2_hoursShaded := Or.inl (q_w 580 (by decide +kernel) rfl)
theorem lX8_151 : q_Lk RX8 151 mX2_mostToBlame := Or.inl (q_w 584 (by decide +kernel) rfl)
theorem lX8_154 : q_Lk RX8 154 mX8_isHour := Or.inl (q_w 592 (by decide +kernel) rfl)
theorem lX8_157 : q_Lk RX8 157 mX2_look := Or.inl (q_w 593 (by decide +kernel) rfl)
theorem lX8_161 : q_Lk RX8 161 mX2_tiltOf := Or.inl (q_w 594 (by decide +kernel) rfl)
theorem lX8_167 : q_Lk RX8 167 mX2_shade := Or.inl (q_w 595 (by decide +kernel) rfl)
theorem lX8_170 : q_Lk RX8 170 mX2_toBlame := Or.inl (q_w 596 (by decide +kernel) rfl)
theorem lX8_173 : q_Lk RX8 173 mX2_yieldNow := Or.inl (q_w 597 (by decide +kernel) rfl)
theorem lX8_179 : q_Lk RX8 179 mX0_rightAt := Or.inl (q_w 602 (by decide +kernel) rfl)
theorem lX8_182 : q_Lk RX8 182 mX2_shadow := Or.inl (q_w 603 (by decide +kernel) rfl)
theorem lX8_185 : q_Lk RX8 185 mX4_has := Or.inl (q_w 608 (by decide +kernel) rfl)
theorem lX8_188 : q_Lk RX8 188 mX4_get := Or.inl (q_w 609 (by decide +kernel) rfl)
theorem lX8_205 : q_Lk RX8 205 mX2_yieldOfAll := Or.inl (q_w 614 (by decide +kernel) rfl)
theorem lX8_220 : q_Lk RX8 220 mX0_rightError := Or.inl (q_w 622 (by decide +kernel) rfl)
theorem lX8_223 : q_Lk RX8 223 mX8_gainMeasure := Or.inl (q_w 623 (by decide +kernel) rfl)
theorem lX8_227 : q_Lk RX8 227 mX7_run := Or.inl (q_w 636 (by decide +kernel) rfl)
theorem lX8_230 : q_Lk RX8 230 mX7_bestYields := Or.inl (q_w 668 (by decide +kernel) rfl)
theorem lX8_233 : q_Lk RX8 233 mX7_bestTiltOf := Or.inl (q_w 672 (by decide +kernel) rfl)
theorem lX8_236 : q_Lk RX8 236 mX6_append := Or.inl (q_w 680 (by decide +kernel) rfl)
theorem lX8_240 : q_Lk RX8 240 mX6_clear := Or.inl (q_w 694 (by decide +kernel) rfl)
theorem lX8_243 : q_Lk RX8 243 mX5_findFault := Or.inl (q_w 702 (by decide +kernel) rfl)
theorem lX8_246 : q_Lk RX8 246 mX8_carryOrdersOut := Or.inl (q_w 826 (by decide +kernel) rfl)
theorem lX8_249 : q_Lk RX8 249 mX5_start := Or.inl (q_w 830 (by decide +kernel) rfl)
theorem lX8_252 : q_Lk RX8 252 mX5_readOrder := Or.inl (q_w 831 (by decide +kernel) rfl)
theorem lX8_256 : q_Lk RX8 256 mX8_carryOneOut := Or.inl (q_w 832 (by decide +kernel) rfl)
theorem lX8_259 : q_Lk RX8 259 mX5_readSign := Or.inl (q_w 836 (by decide +kernel) rfl)
theorem lX8_270 : q_Lk RX8 270 mX1_goBack := Or.inl (q_w 841 (by decide +kernel) rfl)
theorem lX8_274 : q_Lk RX8 274 mX0_copyFrom := Or.inl (q_w 849 (by decide +kernel) rfl)
theorem lX0_39 : q_Lk RX0 39 mX4_init := Or.inr ⟨_, q_wn 102 (by decide +kernel : _ = some (Cond.methodLinkNest RX0 39 mX4_init.1 "ShadowRows"))⟩
theorem lX0_56 : q_Lk RX0 56 mX4_copyFrom := Or.inl (q_w 346 (by decide +kernel) rfl)
theorem lX0_60 : q_Lk RX0 60 mX8_outside := Or.inr ⟨_, q_wn 355 (by decide +kernel : _ = some (Cond.methodLinkNest RX0 60 mX8_outside.1 "ShadowRows"))⟩
theorem lX0_64 : q_Lk RX0 64 mX0_isTaken := Or.inl (q_w 358 (by decide +kernel) rfl)
theorem lX0_68 : q_Lk RX0 68 mX0_hasRow := Or.inl (q_w 378 (by decide +kernel) rfl)
theorem lX0_71 : q_Lk RX0 71 mX8_isHour := Or.inr ⟨_, q_wn 390 (by decide +kernel : _ = some (Cond.methodLinkNest RX0 71 mX8_isHour.1 "ShadowRows"))⟩
theorem lX0_74 : q_Lk RX0 74 mX0_rightError := Or.inl (q_w 410 (by decide +kernel) rfl)
theorem lX0_78 : q_Lk RX0 78 mX0_rightAt := Or.inl (q_w 414 (by decide +kernel) rfl)
theorem lX1_21 : q_Lk RX1 21 mX0_init := Or.inr ⟨_, q_wn 293 (by decide +kernel : _ = some (Cond.methodLinkNest RX1 21 mX0_init.1 "ShadowRows"))⟩
theorem lX1_22 : q_Lk RX1 22 mX0_copyFrom := Or.inl (q_w 339 (by decide +kernel) rfl)
theorem lX1_26 : q_Lk RX1 26 mX1_dropOldest := Or.inl (q_w 366 (by decide +kernel) rfl)
theorem lX2_37 : q_Lk RX2 37 mX2_lossBetween := Or.inl (q_w 519 (by decide +kernel) rfl)
theorem lX2_41 : q_Lk RX2 41 mX2_limitOf := Or.inl (q_w 529 (by decide +kernel) rfl)
theorem lX2_48 : q_Lk RX2 48 mX2_tiltOf := Or.inl (q_w 539 (by decide +kernel) rfl)
theorem lX2_63 : q_Lk RX2 63 mX2_ahead := Or.inl (q_w 523 (by decide +kernel) rfl)
theorem lX2_69 : q_Lk RX2 69 mX2_isFlat := Or.inl (q_w 533 (by decide +kernel) rfl)
theorem lX2_76 : q_Lk RX2 76 mX0_rightAt := Or.inl (q_w 537 (by decide +kernel) rfl)
theorem lX2_80 : q_Lk RX2 80 mJ9_min_7cf53 := Or.inl (q_w 538 (by decide +kernel) rfl)
theorem lX2_88 : q_Lk RX2 88 mJ9_max_7cf53 := Or.inl (q_w 569 (by decide +kernel) rfl)
theorem lX2_91 : q_Lk RX2 91 mX2_shadow := Or.inl (q_w 565 (by decide +kernel) rfl)
theorem lX2_94 : q_Lk RX2 94 mX2_toBlame := Or.inl (q_w 561 (by decide +kernel) rfl)
theorem lX2_97 : q_Lk RX2 97 mX2_sun := Or.inl (q_w 551 (by decide +kernel) rfl)
theorem lX2_101 : q_Lk RX2 101 mX2_unshadedYield := Or.inl (q_w 547 (by decide +kernel) rfl)
theorem lX2_104 : q_Lk RX2 104 mX2_shade := Or.inl (q_w 557 (by decide +kernel) rfl)
theorem lX2_107 : q_Lk RX2 107 mX2_look := Or.inl (q_w 515 (by decide +kernel) rfl)
theorem lX2_111 : q_Lk RX2 111 mX2_yieldNow := Or.inl (q_w 543 (by decide +kernel) rfl)
theorem lX3_15 : q_Lk RX3 15 mX0_hasRow := Or.inl (q_w 425 (by decide +kernel) rfl)
theorem lX3_21 : q_Lk RX3 21 mX8_isHour := Or.inr ⟨_, q_wn 426 (by decide +kernel : _ = some (Cond.methodLinkNest RX3 21 mX8_isHour.1 "ShadowRows"))⟩
theorem lX3_24 : q_Lk RX3 24 mX3_isBadOffer := Or.inl (q_w 427 (by decide +kernel) rfl)
theorem lX3_32 : q_Lk RX3 32 mX4_add := Or.inl (q_w 431 (by decide +kernel) rfl)
theorem lX3_41 : q_Lk RX3 41 mX8_outside := Or.inr ⟨_, q_wn 430 (by decide +kernel : _ = some (Cond.methodLinkNest RX3 41 mX8_outside.1 "ShadowRows"))⟩
theorem lX3_45 : q_Lk RX3 45 mX4_sortByPrice := Or.inl (q_w 472 (by decide +kernel) rfl)
theorem lX3_57 : q_Lk RX3 57 mX3_serve := Or.inl (q_w 480 (by decide +kernel) rfl)
theorem lX3_61 : q_Lk RX3 61 mX4_removeEmpty := Or.inl (q_w 501 (by decide +kernel) rfl)
theorem lX3_67 : q_Lk RX3 67 mX3_suits := Or.inl (q_w 484 (by decide +kernel) rfl)
theorem lX3_70 : q_Lk RX3 70 mX3_trade := Or.inl (q_w 489 (by decide +kernel) rfl)
theorem lX3_74 : q_Lk RX3 74 mX4_get := Or.inl (q_w 488 (by decide +kernel) rfl)
theorem lX3_77 : q_Lk RX3 77 mX0_rightAt := Or.inl (q_w 493 (by decide +kernel) rfl)
theorem lX3_81 : q_Lk RX3 81 mJ9_min_7cf53 := Or.inl (q_w 494 (by decide +kernel) rfl)
theorem lX3_92 : q_Lk RX3 92 mX4_take := Or.inl (q_w 497 (by decide +kernel) rfl)
theorem lX4_28 : q_Lk RX4 28 mX8_outside := Or.inr ⟨_, q_wn 459 (by decide +kernel : _ = some (Cond.methodLinkNest RX4 28 mX8_outside.1 "ShadowRows"))⟩
theorem lX4_32 : q_Lk RX4 32 mX4_has := Or.inl (q_w 455 (by decide +kernel) rfl)
theorem lX4_36 : q_Lk RX4 36 mX4_close := Or.inl (q_w 460 (by decide +kernel) rfl)
theorem lX4_40 : q_Lk RX4 40 mX4_get := Or.inl (q_w 476 (by decide +kernel) rfl)
theorem lX5_30 : q_Lk RX5 30 mX5_start := Or.inl (q_w 706 (by decide +kernel) rfl)
theorem lX5_33 : q_Lk RX5 33 mX5_readOrder := Or.inl (q_w 710 (by decide +kernel) rfl)
theorem lX5_42 : q_Lk RX5 42 mX5_readSign := Or.inl (q_w 809 (by decide +kernel) rfl)
theorem lX5_52 : q_Lk RX5 52 mJ0_indexOf_0f7a4 := Or.inl (q_w 715 (by decide +kernel) rfl)
theorem lX5_58 : q_Lk RX5 58 mX5_readDigit := Or.inl (q_w 797 (by decide +kernel) rfl)
theorem lX5_62 : q_Lk RX5 62 mX5_readTerms := Or.inl (q_w 813 (by decide +kernel) rfl)
theorem lX5_65 : q_Lk RX5 65 mX5_readNumber := Or.inl (q_w 817 (by decide +kernel) rfl)
theorem lX5_68 : q_Lk RX5 68 mX5_digitHere := Or.inl (q_w 801 (by decide +kernel) rfl)
theorem lX5_72 : q_Lk RX5 72 mX5_keepNumber := Or.inl (q_w 805 (by decide +kernel) rfl)
theorem lX6_19 : q_Lk RX6 19 mX6_countSigns := Or.inl (q_w 684 (by decide +kernel) rfl)
theorem lX7_44 : q_Lk RX7 44 mX7_findTops := Or.inl (q_w 642 (by decide +kernel) rfl)
theorem lX7_47 : q_Lk RX7 47 mX2_look := Or.inl (q_w 646 (by decide +kernel) rfl)
theorem lX7_53 : q_Lk RX7 53 mX2_isFlat := Or.inl (q_w 648 (by decide +kernel) rfl)
theorem lX7_57 : q_Lk RX7 57 mX7_sortRows := Or.inl (q_w 649 (by decide +kernel) rfl)
theorem lX7_60 : q_Lk RX7 60 mX7_layRows := Or.inl (q_w 654 (by decide +kernel) rfl)
theorem lX7_64 : q_Lk RX7 64 mX7_stepOf := Or.inl (q_w 662 (by decide +kernel) rfl)
theorem lX7_74 : q_Lk RX7 74 mJ9_max_7cf53 := Or.inl (q_w 647 (by decide +kernel) rfl)
theorem lX7_80 : q_Lk RX7 80 mX2_ahead := Or.inl (q_w 653 (by decide +kernel) rfl)
theorem lX7_83 : q_Lk RX7 83 mX7_shadeOn := Or.inl (q_w 657 (by decide +kernel) rfl)
theorem lX7_86 : q_Lk RX7 86 mX2_sun := Or.inl (q_w 666 (by decide +kernel) rfl)
theorem lX7_90 : q_Lk RX7 90 mJ9_min_7cf53 := Or.inl (q_w 667 (by decide +kernel) rfl)
theorem lX7_93 : q_Lk RX7 93 mX2_shadow := Or.inl (q_w 661 (by decide +kernel) rfl)
theorem lL_9 : q_Lk RL 9 mX8_init := Or.inl (q_w 88 (by decide +kernel) rfl)
theorem lL_12 : q_Lk RL 12 mX9_init := Or.inl (q_w 856 (by decide +kernel) rfl)
theorem lL_13 : q_Lk RL 13 mX8_row := Or.inl (q_w 331 (by decide +kernel) rfl)
theorem lL_17 : q_Lk RL 17 mX9_row := Or.inl (q_w 912 (by decide +kernel) rfl)
theorem lL_18 : q_Lk RL 18 mX8_tilt := Or.inl (q_w 370 (by decide +kernel) rfl)
theorem lL_22 : q_Lk RL 22 mX9_tilt := Or.inl (q_w 934 (by decide +kernel) rfl)
theorem lL_23 : q_Lk RL 23 mX8_wind := Or.inl (q_w 382 (by decide +kernel) rfl)
theorem lL_26 : q_Lk RL 26 mX9_wind := Or.inl (q_w 950 (by decide +kernel) rfl)
theorem lL_27 : q_Lk RL 27 mX8_stow := Or.inl (q_w 394 (by decide +kernel) rfl)
theorem lL_31 : q_Lk RL 31 mX9_stow := Or.inl (q_w 957 (by decide +kernel) rfl)
theorem lL_32 : q_Lk RL 32 mX8_grant := Or.inl (q_w 402 (by decide +kernel) rfl)
theorem lL_36 : q_Lk RL 36 mX9_grant := Or.inl (q_w 961 (by decide +kernel) rfl)
theorem lL_37 : q_Lk RL 37 mX8_ask := Or.inl (q_w 417 (by decide +kernel) rfl)
theorem lL_40 : q_Lk RL 40 mX9_ask := Or.inl (q_w 977 (by decide +kernel) rfl)
theorem lL_41 : q_Lk RL 41 mX8_bid := Or.inl (q_w 435 (by decide +kernel) rfl)
theorem lL_45 : q_Lk RL 45 mX9_bid := Or.inl (q_w 992 (by decide +kernel) rfl)
theorem lL_46 : q_Lk RL 46 mX8_takeBack := Or.inl (q_w 443 (by decide +kernel) rfl)
theorem lL_49 : q_Lk RL 49 mX9_takeBack := Or.inl (q_w 1004 (by decide +kernel) rfl)
theorem lL_50 : q_Lk RL 50 mX8_match := Or.inl (q_w 464 (by decide +kernel) rfl)
theorem lL_54 : q_Lk RL 54 mX9_match := Or.inl (q_w 1016 (by decide +kernel) rfl)
theorem lL_55 : q_Lk RL 55 mX8_ofRow := Or.inl (q_w 505 (by decide +kernel) rfl)
theorem lL_58 : q_Lk RL 58 mX9_ofRow := Or.inl (q_w 1044 (by decide +kernel) rfl)
theorem lL_59 : q_Lk RL 59 mX8_inHour := Or.inl (q_w 588 (by decide +kernel) rfl)
theorem lL_62 : q_Lk RL 62 mX9_inHour := Or.inl (q_w 1119 (by decide +kernel) rfl)
theorem lL_63 : q_Lk RL 63 mX8_over := Or.inl (q_w 598 (by decide +kernel) rfl)
theorem lL_66 : q_Lk RL 66 mX9_over := Or.inl (q_w 1123 (by decide +kernel) rfl)
theorem lL_67 : q_Lk RL 67 mX8_offer := Or.inl (q_w 604 (by decide +kernel) rfl)
theorem lL_70 : q_Lk RL 70 mX9_offer := Or.inl (q_w 1127 (by decide +kernel) rfl)
theorem lL_71 : q_Lk RL 71 mX8_count := Or.inl (q_w 610 (by decide +kernel) rfl)
theorem lL_74 : q_Lk RL 74 mX9_count := Or.inl (q_w 1131 (by decide +kernel) rfl)
theorem lL_75 : q_Lk RL 75 mX8_worth := Or.inl (q_w 618 (by decide +kernel) rfl)
theorem lL_78 : q_Lk RL 78 mX9_worth := Or.inl (q_w 1139 (by decide +kernel) rfl)
theorem lL_79 : q_Lk RL 79 mX8_bestTilt := Or.inl (q_w 628 (by decide +kernel) rfl)
theorem lL_82 : q_Lk RL 82 mX9_bestTilt := Or.inl (q_w 1144 (by decide +kernel) rfl)
theorem lL_83 : q_Lk RL 83 mX8_bestTilts := Or.inl (q_w 632 (by decide +kernel) rfl)
theorem lL_86 : q_Lk RL 86 mX9_bestTilts := Or.inl (q_w 1148 (by decide +kernel) rfl)
theorem lL_89 : q_Lk RL 89 mX8_put := Or.inl (q_w 676 (by decide +kernel) rfl)
theorem lL_93 : q_Lk RL 93 mX9_put := Or.inl (q_w 1166 (by decide +kernel) rfl)
theorem lL_94 : q_Lk RL 94 mX8_wipe := Or.inl (q_w 690 (by decide +kernel) rfl)
theorem lL_97 : q_Lk RL 97 mX9_wipe := Or.inl (q_w 1171 (by decide +kernel) rfl)
theorem lL_98 : q_Lk RL 98 mX8_fault := Or.inl (q_w 698 (by decide +kernel) rfl)
theorem lL_101 : q_Lk RL 101 mX9_fault := Or.inl (q_w 1175 (by decide +kernel) rfl)
theorem lL_102 : q_Lk RL 102 mX8_carryOut := Or.inl (q_w 822 (by decide +kernel) rfl)
theorem lL_105 : q_Lk RL 105 mX9_carryOut := Or.inl (q_w 1207 (by decide +kernel) rfl)
theorem lL_106 : q_Lk RL 106 mX8_undo := Or.inl (q_w 837 (by decide +kernel) rfl)
theorem lL_109 : q_Lk RL 109 mX9_undo := Or.inl (q_w 1215 (by decide +kernel) rfl)
theorem lL_110 : q_Lk RL 110 mX8_save := Or.inl (q_w 845 (by decide +kernel) rfl)
theorem lL_113 : q_Lk RL 113 mX9_save := Or.inl (q_w 1219 (by decide +kernel) rfl)
theorem lL_114 : q_Lk RL 114 mX8_restore := Or.inl (q_w 850 (by decide +kernel) rfl)
theorem lL_117 : q_Lk RL 117 mX9_restore := Or.inl (q_w 1223 (by decide +kernel) rfl)
theorem lX9_38 : q_Lk RX9 38 mX9_copy := Or.inl (q_w 931 (by decide +kernel) rfl)
theorem lX9_42 : q_Lk RX9 42 mX9_within := Or.inl (q_w 916 (by decide +kernel) rfl)
theorem lX9_46 : q_Lk RX9 46 mX9_part := Or.inl (q_w 923 (by decide +kernel) rfl)
theorem lX9_50 : q_Lk RX9 50 mX9_slopeOf := Or.inl (q_w 1077 (by decide +kernel) rfl)
theorem lX9_54 : q_Lk RX9 54 mX9_shadow := Or.inl (q_w 1073 (by decide +kernel) rfl)
theorem lX9_58 : q_Lk RX9 58 mX9_rightOf := Or.inl (q_w 969 (by decide +kernel) rfl)
theorem lX9_62 : q_Lk RX9 62 mX9_isFlat := Or.inl (q_w 1065 (by decide +kernel) rfl)
theorem lX9_66 : q_Lk RX9 66 mX9_keepsRights := Or.inl (q_w 1069 (by decide +kernel) rfl)
theorem lX9_69 : q_Lk RX9 69 mX9_tiltIn := Or.inl (q_w 1061 (by decide +kernel) rfl)
theorem lX9_72 : q_Lk RX9 72 mX9_shadowIn := Or.inl (q_w 1088 (by decide +kernel) rfl)
theorem lX9_75 : q_Lk RX9 75 mX9_far := Or.inl (q_w 1092 (by decide +kernel) rfl)
theorem lX9_78 : q_Lk RX9 78 mX9_blamed := Or.inl (q_w 1084 (by decide +kernel) rfl)
theorem lX9_81 : q_Lk RX9 81 mX9_heightIn := Or.inl (q_w 1057 (by decide +kernel) rfl)
theorem lX9_84 : q_Lk RX9 84 mX9_shadeOf := Or.inl (q_w 1080 (by decide +kernel) rfl)
theorem lX9_87 : q_Lk RX9 87 mX9_sunOf := Or.inl (q_w 1096 (by decide +kernel) rfl)
theorem lX9_90 : q_Lk RX9 90 mX9_yieldIn := Or.inl (q_w 1053 (by decide +kernel) rfl)
theorem lX9_93 : q_Lk RX9 93 mX9_yieldOf := Or.inl (q_w 1049 (by decide +kernel) rfl)
theorem lX9_96 : q_Lk RX9 96 mX9_isPlaceTaken := Or.inl (q_w 919 (by decide +kernel) rfl)
theorem lX9_99 : q_Lk RX9 99 mX9_record := Or.inl (q_w 927 (by decide +kernel) rfl)
theorem lX9_102 : q_Lk RX9 102 mX9_isRow := Or.inl (q_w 942 (by decide +kernel) rfl)
theorem lX9_105 : q_Lk RX9 105 mX9_whyNotTilted := Or.inl (q_w 938 (by decide +kernel) rfl)
theorem lX9_108 : q_Lk RX9 108 mX9_tilted := Or.inl (q_w 946 (by decide +kernel) rfl)
theorem lX9_111 : q_Lk RX9 111 mX9_isHour := Or.inl (q_w 954 (by decide +kernel) rfl)
theorem lX9_114 : q_Lk RX9 114 mX9_whyNotGranted := Or.inl (q_w 965 (by decide +kernel) rfl)
theorem lX9_117 : q_Lk RX9 117 mX9_setRight := Or.inl (q_w 973 (by decide +kernel) rfl)
theorem lX9_121 : q_Lk RX9 121 mX9_areUnits := Or.inl (q_w 985 (by decide +kernel) rfl)
theorem lX9_125 : q_Lk RX9 125 mX9_whyNotAsked := Or.inl (q_w 981 (by decide +kernel) rfl)
theorem lX9_128 : q_Lk RX9 128 mX9_asked := Or.inl (q_w 988 (by decide +kernel) rfl)
theorem lX9_131 : q_Lk RX9 131 mX9_whyNotBid := Or.inl (q_w 996 (by decide +kernel) rfl)
theorem lX9_135 : q_Lk RX9 135 mX9_bought := Or.inl (q_w 1000 (by decide +kernel) rfl)
theorem lX9_138 : q_Lk RX9 138 mX9_dropAsk := Or.inl (q_w 1008 (by decide +kernel) rfl)
theorem lX9_142 : q_Lk RX9 142 mX9_dropBid := Or.inl (q_w 1012 (by decide +kernel) rfl)
theorem lX9_145 : q_Lk RX9 145 mX9_bidPart := Or.inl (q_w 1028 (by decide +kernel) rfl)
theorem lX9_148 : q_Lk RX9 148 mX9_askPart := Or.inl (q_w 1040 (by decide +kernel) rfl)
theorem lX9_151 : q_Lk RX9 151 mX9_nextAsk := Or.inl (q_w 1036 (by decide +kernel) rfl)
theorem lX9_154 : q_Lk RX9 154 mX9_placeOfBid := Or.inl (q_w 1024 (by decide +kernel) rfl)
theorem lX9_157 : q_Lk RX9 157 mX9_tradedBy := Or.inl (q_w 1032 (by decide +kernel) rfl)
theorem lX9_160 : q_Lk RX9 160 mX9_matched := Or.inl (q_w 1020 (by decide +kernel) rfl)
theorem lX9_164 : q_Lk RX9 164 mX9_blamedHours := Or.inl (q_w 1115 (by decide +kernel) rfl)
theorem lX9_168 : q_Lk RX9 168 mX9_fullYield := Or.inl (q_w 1099 (by decide +kernel) rfl)
theorem lX9_171 : q_Lk RX9 171 mX9_lowHours := Or.inl (q_w 1103 (by decide +kernel) rfl)
theorem lX9_174 : q_Lk RX9 174 mX9_shadeHours := Or.inl (q_w 1107 (by decide +kernel) rfl)
theorem lX9_177 : q_Lk RX9 177 mX9_mostBlamed := Or.inl (q_w 1111 (by decide +kernel) rfl)
theorem lX9_180 : q_Lk RX9 180 mX9_allYields := Or.inl (q_w 1135 (by decide +kernel) rfl)
theorem lX9_187 : q_Lk RX9 187 mX9_lyingAt := Or.inl (q_w 1156 (by decide +kernel) rfl)
theorem lX9_190 : q_Lk RX9 190 mX9_heightAt := Or.inl (q_w 1159 (by decide +kernel) rfl)
theorem lX9_193 : q_Lk RX9 193 mX9_findHeights := Or.inl (q_w 1152 (by decide +kernel) rfl)
theorem lX9_196 : q_Lk RX9 196 mX9_yieldsBy := Or.inl (q_w 1162 (by decide +kernel) rfl)
theorem lX9_204 : q_Lk RX9 204 mX9_character := Or.inl (q_w 1187 (by decide +kernel) rfl)
theorem lX9_207 : q_Lk RX9 207 mX9_takeDigit := Or.inl (q_w 1191 (by decide +kernel) rfl)
theorem lX9_210 : q_Lk RX9 210 mX9_takes := Or.inl (q_w 1195 (by decide +kernel) rfl)
theorem lX9_216 : q_Lk RX9 216 mX9_takeNumber := Or.inl (q_w 1203 (by decide +kernel) rfl)
theorem lX9_234 : q_Lk RX9 234 mX9_takesDeal := Or.inl (q_w 1199 (by decide +kernel) rfl)
theorem lX9_238 : q_Lk RX9 238 mX9_readsOrder := Or.inl (q_w 1183 (by decide +kernel) rfl)
theorem lX9_241 : q_Lk RX9 241 mX9_findFault := Or.inl (q_w 1179 (by decide +kernel) rfl)
theorem lX9_244 : q_Lk RX9 244 mX9_does := Or.inl (q_w 1211 (by decide +kernel) rfl)
theorem lJ0_335 : q_Lk RJ0 335 mJ0_coder_7d493 := Or.inl (q_w 733 (by decide +kernel) rfl)
theorem lJ0_492 : q_Lk RJ0 492 mJ0_isLatin1_aae02 := Or.inl (q_w 723 (by decide +kernel) rfl)
theorem lJ0_505 : q_Lk RJ0 505 mJ0_length_8abf5 := Or.inl (q_w 729 (by decide +kernel) rfl)
theorem lJ0_633 : q_Lk RJ0 633 mJ0_indexOf_7cf53 := Or.inl (q_w 719 (by decide +kernel) rfl)
theorem lJ0_637 : q_Lk RJ0 637 mJ1_indexOf_4cfef := Or.inl (q_w 737 (by decide +kernel) rfl)
theorem lJ0_640 : q_Lk RJ0 640 mJ2_indexOf_4cfef := Or.inl (q_w 748 (by decide +kernel) rfl)
theorem lJ0_1062 : q_Lk RJ0 1062 mJ3_checkFromToIndex_8c36e := Or.inl (q_w 768 (by decide +kernel) rfl)
theorem lJ1_38 : q_Lk RJ1 38 mJ9_min_7cf53 := Or.inl (q_w 744 (by decide +kernel) rfl)
theorem lJ1_88 : q_Lk RJ1 88 mJ1_canEncode_9a6ad := Or.inl (q_w 740 (by decide +kernel) rfl)
theorem lJ1_92 : q_Lk RJ1 92 mJ9_max_7cf53 := Or.inl (q_w 743 (by decide +kernel) rfl)
theorem lJ1_95 : q_Lk RJ1 95 mJ1_indexOfChar_4cfef := Or.inl (q_w 745 (by decide +kernel) rfl)
theorem lJ2_48 : q_Lk RJ2 48 mJ2_length_9d52b := Or.inl (q_w 760 (by decide +kernel) rfl)
theorem lJ2_71 : q_Lk RJ2 71 mJ2_getChar_3b067 := Or.inl (q_w 774 (by decide +kernel) rfl)
theorem lJ2_96 : q_Lk RJ2 96 mJ2_checkBoundsBeginEnd_d044e := Or.inl (q_w 757 (by decide +kernel) rfl)
theorem lJ2_157 : q_Lk RJ2 157 mJ11_highSurrogate_5068e := Or.inl (q_w 789 (by decide +kernel) rfl)
theorem lJ2_161 : q_Lk RJ2 161 mJ11_lowSurrogate_5068e := Or.inl (q_w 793 (by decide +kernel) rfl)
theorem lJ2_164 : q_Lk RJ2 164 mJ11_isValidCodePoint_9a6ad := Or.inl (q_w 786 (by decide +kernel) rfl)
theorem lJ2_183 : q_Lk RJ2 183 mJ9_min_7cf53 := Or.inl (q_w 752 (by decide +kernel) rfl)
theorem lJ2_224 : q_Lk RJ2 224 mJ9_max_7cf53 := Or.inl (q_w 751 (by decide +kernel) rfl)
theorem lJ2_228 : q_Lk RJ2 228 mJ2_indexOfChar_4cfef := Or.inl (q_w 754 (by decide +kernel) rfl)
theorem lJ2_232 : q_Lk RJ2 232 mJ2_indexOfSupplementary_4cfef := Or.inl (q_w 783 (by decide +kernel) rfl)
theorem lJ2_241 : q_Lk RJ2 241 mJ0_checkBoundsBeginEnd_23922 := Or.inl (q_w 763 (by decide +kernel) rfl)
theorem lJ2_244 : q_Lk RJ2 244 mJ2_indexOfCharUnsafe_4cfef := Or.inl (q_w 771 (by decide +kernel) rfl)
theorem kX0 : q_Cl 0 RX0 TX0 11 := ⟨rfl, q_wall (by decide +kernel), ⟨tyX0, tyX0_ok⟩, nmX0⟩
theorem kX1 : q_Cl 1 RX1 TX1 2 := ⟨rfl, q_wall (by decide +kernel), ⟨tyX1, tyX1_ok⟩, nmX1⟩
theorem kX2 : q_Cl 2 RX2 TX2 6 := ⟨rfl, q_wall (by decide +kernel), ⟨tyX2, tyX2_ok⟩, nmX2⟩
theorem kX3 : q_Cl 3 RX3 TX3 1 := ⟨rfl, q_wall (by decide +kernel), ⟨tyX3, tyX3_ok⟩, nmX3⟩
theorem kX4 : q_Cl 4 RX4 TX4 3 := ⟨rfl, q_wall (by decide +kernel), ⟨tyX4, tyX4_ok⟩, nmX4⟩
theorem kX5 : q_Cl 5 RX5 TX5 5 := ⟨rfl, q_wall (by decide +kernel), ⟨tyX5, tyX5_ok⟩, nmX5⟩
theorem kX6 : q_Cl 6 RX6 TX6 2 := ⟨rfl, q_wall (by decide +kernel), ⟨tyX6, tyX6_ok⟩, nmX6⟩
theorem kX7 : q_Cl 7 RX7 TX7 7 := ⟨rfl, q_wall (by decide +kernel), ⟨tyX7, tyX7_ok⟩, nmX7⟩
theorem kX8 : q_Cl 8 RX8 TX8 9 := ⟨rfl, q_wall (by decide +kernel), ⟨tyX8, tyX8_ok⟩, nmX8⟩
theorem kX9 : q_Cl 9 RX9 TX9 17 := ⟨rfl, q_wall (by decide +kernel), ⟨tyX9, tyX9_ok⟩, nmX9⟩
theorem fX8_10 : q_F RX8 10 8 0 (.object "ShadowRows$Field") true := ⟨RX8, TX8, 9, kX8, by decide, rfl, tyX8_ok 0 (by decide), Or.inl (q_w 302 (by decide +kernel) rfl)⟩
theorem oX8_10 : q_FO RX8 10 8 0 (.object "ShadowRows$Field") true := ⟨RX8, TX8, 9, kX8, by decide, rfl, tyX8_ok 0 (by decide), rfl, q_w 302 (by decide +kernel) rfl⟩
theorem fX8_21 : q_F RX8 21 8 1 (.object "ShadowRows$Light") true := ⟨RX8, TX8, 9, kX8, by decide, rfl, tyX8_ok 1 (by decide), Or.inl (q_w 303 (by decide +kernel) rfl)⟩
theorem oX8_21 : q_FO RX8 21 8 1 (.object "ShadowRows$Light") true := ⟨RX8, TX8, 9, kX8, by decide, rfl, tyX8_ok 1 (by decide), rfl, q_w 303 (by decide +kernel) rfl⟩
theorem fX8_28 : q_F RX8 28 8 2 (.object "ShadowRows$Market") true := ⟨RX8, TX8, 9, kX8, by decide, rfl, tyX8_ok 2 (by decide), Or.inl (q_w 304 (by decide +kernel) rfl)⟩
theorem oX8_28 : q_FO RX8 28 8 2 (.object "ShadowRows$Market") true := ⟨RX8, TX8, 9, kX8, by decide, rfl, tyX8_ok 2 (by decide), rfl, q_w 304 (by decide +kernel) rfl⟩
theorem fX8_37 : q_F RX8 37 8 3 (.object "ShadowRows$TiltSearch") true := ⟨RX8, TX8, 9, kX8, by decide, rfl, tyX8_ok 3 (by decide), Or.inl (q_w 305 (by decide +kernel) rfl)⟩
theorem oX8_37 : q_FO RX8 37 8 3 (.object "ShadowRows$TiltSearch") true := ⟨RX8, TX8, 9, kX8, by decide, rfl, tyX8_ok 3 (by decide), rfl, q_w 305 (by decide +kernel) rfl⟩
theorem fX8_44 : q_F RX8 44 8 4 (.object "ShadowRows$Pad") true := ⟨RX8, TX8, 9, kX8, by decide, rfl, tyX8_ok 4 (by decide), Or.inl (q_w 306 (by decide +kernel) rfl)⟩
theorem oX8_44 : q_FO RX8 44 8 4 (.object "ShadowRows$Pad") true := ⟨RX8, TX8, 9, kX8, by decide, rfl, tyX8_ok 4 (by decide), rfl, q_w 306 (by decide +kernel) rfl⟩
theorem fX8_53 : q_F RX8 53 8 5 (.object "ShadowRows$OrderReader") true := ⟨RX8, TX8, 9, kX8, by decide, rfl, tyX8_ok 5 (by decide), Or.inl (q_w 307 (by decide +kernel) rfl)⟩
theorem oX8_53 : q_FO RX8 53 8 5 (.object "ShadowRows$OrderReader") true := ⟨RX8, TX8, 9, kX8, by decide, rfl, tyX8_ok 5 (by decide), rfl, q_w 307 (by decide +kernel) rfl⟩
theorem fX8_60 : q_F RX8 60 8 6 (.object "ShadowRows$History") true := ⟨RX8, TX8, 9, kX8, by decide, rfl, tyX8_ok 6 (by decide), Or.inl (q_w 308 (by decide +kernel) rfl)⟩
theorem oX8_60 : q_FO RX8 60 8 6 (.object "ShadowRows$History") true := ⟨RX8, TX8, 9, kX8, by decide, rfl, tyX8_ok 6 (by decide), rfl, q_w 308 (by decide +kernel) rfl⟩
theorem fX8_64 : q_F RX8 64 8 7 (.array (.object "ShadowRows$Field")) true := ⟨RX8, TX8, 9, kX8, by decide, rfl, tyX8_ok 7 (by decide), Or.inl (q_w 309 (by decide +kernel) rfl)⟩
theorem oX8_64 : q_FO RX8 64 8 7 (.array (.object "ShadowRows$Field")) true := ⟨RX8, TX8, 9, kX8, by decide, rfl, tyX8_ok 7 (by decide), rfl, q_w 309 (by decide +kernel) rfl⟩
theorem fX8_68 : q_F RX8 68 8 8 (.array .boolean) true := ⟨RX8, TX8, 9, kX8, by decide, rfl, tyX8_ok 8 (by decide), Or.inl (q_w 310 (by decide +kernel) rfl)⟩
theorem oX8_68 : q_FO RX8 68 8 8 (.array .boolean) true := ⟨RX8, TX8, 9, kX8, by decide, rfl, tyX8_ok 8 (by decide), rfl, q_w 310 (by decide +kernel) rfl⟩
theorem fX8_125 : q_F RX8 125 0 1 (.array .int) true := ⟨RX0, TX0, 11, kX0, by decide, rfl, tyX0_ok 1 (by decide), Or.inr ⟨"ShadowRows", q_wn 126 (by decide +kernel)⟩⟩
theorem fX8_129 : q_F RX8 129 0 2 (.array .int) true := ⟨RX0, TX0, 11, kX0, by decide, rfl, tyX0_ok 2 (by decide), Or.inr ⟨"ShadowRows", q_wn 130 (by decide +kernel)⟩⟩
theorem fX8_132 : q_F RX8 132 0 3 (.array .int) true := ⟨RX0, TX0, 11, kX0, by decide, rfl, tyX0_ok 3 (by decide), Or.inr ⟨"ShadowRows", q_wn 133 (by decide +kernel)⟩⟩
theorem fX8_135 : q_F RX8 135 0 4 (.array .int) true := ⟨RX0, TX0, 11, kX0, by decide, rfl, tyX0_ok 4 (by decide), Or.inr ⟨"ShadowRows", q_wn 136 (by decide +kernel)⟩⟩
theorem fX8_164 : q_F RX8 164 2 4 (.array .int) true := ⟨RX2, TX2, 6, kX2, by decide, rfl, tyX2_ok 4 (by decide), Or.inr ⟨"ShadowRows", q_wn 191 (by decide +kernel)⟩⟩
theorem fX8_176 : q_F RX8 176 0 7 (.array .int) true := ⟨RX0, TX0, 11, kX0, by decide, rfl, tyX0_ok 7 (by decide), Or.inr ⟨"ShadowRows", q_wn 146 (by decide +kernel)⟩⟩
theorem fX8_191 : q_F RX8 191 0 0 .int false := ⟨RX0, TX0, 11, kX0, by decide, rfl, tyX0_ok 0 (by decide), Or.inr ⟨"ShadowRows", q_wn 123 (by decide +kernel)⟩⟩
theorem fX8_195 : q_F RX8 195 0 8 (.object "ShadowRows$Offers") true := ⟨RX0, TX0, 11, kX0, by decide, rfl, tyX0_ok 8 (by decide), Or.inr ⟨"ShadowRows", q_wn 149 (by decide +kernel)⟩⟩
theorem fX8_199 : q_F RX8 199 4 0 .int false := ⟨RX4, TX4, 3, kX4, by decide, rfl, tyX4_ok 0 (by decide), Or.inr ⟨"ShadowRows", q_wn 108 (by decide +kernel)⟩⟩
theorem fX8_202 : q_F RX8 202 0 9 (.object "ShadowRows$Offers") true := ⟨RX0, TX0, 11, kX0, by decide, rfl, tyX0_ok 9 (by decide), Or.inr ⟨"ShadowRows", q_wn 152 (by decide +kernel)⟩⟩
theorem fX8_208 : q_F RX8 208 0 10 .int false := ⟨RX0, TX0, 11, kX0, by decide, rfl, tyX0_ok 10 (by decide), Or.inr ⟨"ShadowRows", q_wn 155 (by decide +kernel)⟩⟩
theorem fX8_211 : q_F RX8 211 0 6 .int false := ⟨RX0, TX0, 11, kX0, by decide, rfl, tyX0_ok 6 (by decide), Or.inr ⟨"ShadowRows", q_wn 142 (by decide +kernel)⟩⟩
theorem fX8_214 : q_F RX8 214 6 1 .int false := ⟨RX6, TX6, 2, kX6, by decide, rfl, tyX6_ok 1 (by decide), Or.inr ⟨"ShadowRows", q_wn 254 (by decide +kernel)⟩⟩
theorem fX8_216 : q_F RX8 216 1 0 .int false := ⟨RX1, TX1, 2, kX1, by decide, rfl, tyX1_ok 0 (by decide), Or.inr ⟨"ShadowRows", q_wn 295 (by decide +kernel)⟩⟩
theorem fX8_217 : q_F RX8 217 0 5 (.array .int) true := ⟨RX0, TX0, 11, kX0, by decide, rfl, tyX0_ok 5 (by decide), Or.inr ⟨"ShadowRows", q_wn 139 (by decide +kernel)⟩⟩
theorem fX8_263 : q_F RX8 263 5 3 (.array .int) true := ⟨RX5, TX5, 5, kX5, by decide, rfl, tyX5_ok 3 (by decide), Or.inr ⟨"ShadowRows", q_wn 272 (by decide +kernel)⟩⟩
theorem fX8_266 : q_F RX8 266 5 2 .char false := ⟨RX5, TX5, 5, kX5, by decide, rfl, tyX5_ok 2 (by decide), Or.inr ⟨"ShadowRows", q_wn 270 (by decide +kernel)⟩⟩
theorem fX0_9 : q_F RX0 9 0 0 .int false := ⟨RX0, TX0, 11, kX0, by decide, rfl, tyX0_ok 0 (by decide), Or.inl (q_w 120 (by decide +kernel) rfl)⟩
theorem fX0_15 : q_F RX0 15 0 1 (.array .int) true := ⟨RX0, TX0, 11, kX0, by decide, rfl, tyX0_ok 1 (by decide), Or.inl (q_w 124 (by decide +kernel) rfl)⟩
theorem oX0_15 : q_FO RX0 15 0 1 (.array .int) true := ⟨RX0, TX0, 11, kX0, by decide, rfl, tyX0_ok 1 (by decide), rfl, q_w 124 (by decide +kernel) rfl⟩
theorem fX0_19 : q_F RX0 19 0 2 (.array .int) true := ⟨RX0, TX0, 11, kX0, by decide, rfl, tyX0_ok 2 (by decide), Or.inl (q_w 127 (by decide +kernel) rfl)⟩
theorem oX0_19 : q_FO RX0 19 0 2 (.array .int) true := ⟨RX0, TX0, 11, kX0, by decide, rfl, tyX0_ok 2 (by decide), rfl, q_w 127 (by decide +kernel) rfl⟩
theorem fX0_22 : q_F RX0 22 0 3 (.array .int) true := ⟨RX0, TX0, 11, kX0, by decide, rfl, tyX0_ok 3 (by decide), Or.inl (q_w 131 (by decide +kernel) rfl)⟩
theorem oX0_22 : q_FO RX0 22 0 3 (.array .int) true := ⟨RX0, TX0, 11, kX0, by decide, rfl, tyX0_ok 3 (by decide), rfl, q_w 131 (by decide +kernel) rfl⟩
theorem fX0_25 : q_F RX0 25 0 4 (.array .int) true := ⟨RX0, TX0, 11, kX0, by decide, rfl, tyX0_ok 4 (by decide), Or.inl (q_w 134 (by decide +kernel) rfl)⟩
theorem oX0_25 : q_FO RX0 25 0 4 (.array .int) true := ⟨RX0, TX0, 11, kX0, by decide, rfl, tyX0_ok 4 (by decide), rfl, q_w 134 (by decide +kernel) rfl⟩
theorem fX0_28 : q_F RX0 28 0 5 (.array .int) true := ⟨RX0, TX0, 11, kX0, by decide, rfl, tyX0_ok 5 (by decide), Or.inl (q_w 137 (by decide +kernel) rfl)⟩
theorem oX0_28 : q_FO RX0 28 0 5 (.array .int) true := ⟨RX0, TX0, 11, kX0, by decide, rfl, tyX0_ok 5 (by decide), rfl, q_w 137 (by decide +kernel) rfl⟩
theorem fX0_31 : q_F RX0 31 0 6 .int false := ⟨RX0, TX0, 11, kX0, by decide, rfl, tyX0_ok 6 (by decide), Or.inl (q_w 140 (by decide +kernel) rfl)⟩
theorem fX0_34 : q_F RX0 34 0 7 (.array .int) true := ⟨RX0, TX0, 11, kX0, by decide, rfl, tyX0_ok 7 (by decide), Or.inl (q_w 143 (by decide +kernel) rfl)⟩
theorem oX0_34 : q_FO RX0 34 0 7 (.array .int) true := ⟨RX0, TX0, 11, kX0, by decide, rfl, tyX0_ok 7 (by decide), rfl, q_w 143 (by decide +kernel) rfl⟩
theorem fX0_40 : q_F RX0 40 0 8 (.object "ShadowRows$Offers") true := ⟨RX0, TX0, 11, kX0, by decide, rfl, tyX0_ok 8 (by decide), Or.inl (q_w 147 (by decide +kernel) rfl)⟩
theorem oX0_40 : q_FO RX0 40 0 8 (.object "ShadowRows$Offers") true := ⟨RX0, TX0, 11, kX0, by decide, rfl, tyX0_ok 8 (by decide), rfl, q_w 147 (by decide +kernel) rfl⟩
theorem fX0_44 : q_F RX0 44 0 9 (.object "ShadowRows$Offers") true := ⟨RX0, TX0, 11, kX0, by decide, rfl, tyX0_ok 9 (by decide), Or.inl (q_w 150 (by decide +kernel) rfl)⟩
theorem oX0_44 : q_FO RX0 44 0 9 (.object "ShadowRows$Offers") true := ⟨RX0, TX0, 11, kX0, by decide, rfl, tyX0_ok 9 (by decide), rfl, q_w 150 (by decide +kernel) rfl⟩
theorem fX0_47 : q_F RX0 47 0 10 .int false := ⟨RX0, TX0, 11, kX0, by decide, rfl, tyX0_ok 10 (by decide), Or.inl (q_w 153 (by decide +kernel) rfl)⟩
theorem fX1_9 : q_F RX1 9 1 0 .int false := ⟨RX1, TX1, 2, kX1, by decide, rfl, tyX1_ok 0 (by decide), Or.inl (q_w 294 (by decide +kernel) rfl)⟩
theorem fX1_17 : q_F RX1 17 1 1 (.array (.object "ShadowRows$Field")) true := ⟨RX1, TX1, 2, kX1, by decide, rfl, tyX1_ok 1 (by decide), Or.inl (q_w 296 (by decide +kernel) rfl)⟩
theorem oX1_17 : q_FO RX1 17 1 1 (.array (.object "ShadowRows$Field")) true := ⟨RX1, TX1, 2, kX1, by decide, rfl, tyX1_ok 1 (by decide), rfl, q_w 296 (by decide +kernel) rfl⟩
theorem fX2_9 : q_F RX2 9 2 1 .int false := ⟨RX2, TX2, 6, kX2, by decide, rfl, tyX2_ok 1 (by decide), Or.inl (q_w 186 (by decide +kernel) rfl)⟩
theorem fX2_15 : q_F RX2 15 2 2 (.array .int) true := ⟨RX2, TX2, 6, kX2, by decide, rfl, tyX2_ok 2 (by decide), Or.inl (q_w 187 (by decide +kernel) rfl)⟩
theorem oX2_15 : q_FO RX2 15 2 2 (.array .int) true := ⟨RX2, TX2, 6, kX2, by decide, rfl, tyX2_ok 2 (by decide), rfl, q_w 187 (by decide +kernel) rfl⟩
theorem fX2_19 : q_F RX2 19 2 3 (.array .int) true := ⟨RX2, TX2, 6, kX2, by decide, rfl, tyX2_ok 3 (by decide), Or.inl (q_w 188 (by decide +kernel) rfl)⟩
theorem oX2_19 : q_FO RX2 19 2 3 (.array .int) true := ⟨RX2, TX2, 6, kX2, by decide, rfl, tyX2_ok 3 (by decide), rfl, q_w 188 (by decide +kernel) rfl⟩
theorem fX2_22 : q_F RX2 22 2 4 (.array .int) true := ⟨RX2, TX2, 6, kX2, by decide, rfl, tyX2_ok 4 (by decide), Or.inl (q_w 190 (by decide +kernel) rfl)⟩
theorem oX2_22 : q_FO RX2 22 2 4 (.array .int) true := ⟨RX2, TX2, 6, kX2, by decide, rfl, tyX2_ok 4 (by decide), rfl, q_w 190 (by decide +kernel) rfl⟩
theorem fX2_25 : q_F RX2 25 2 5 (.array .int) true := ⟨RX2, TX2, 6, kX2, by decide, rfl, tyX2_ok 5 (by decide), Or.inl (q_w 192 (by decide +kernel) rfl)⟩
theorem oX2_25 : q_FO RX2 25 2 5 (.array .int) true := ⟨RX2, TX2, 6, kX2, by decide, rfl, tyX2_ok 5 (by decide), rfl, q_w 192 (by decide +kernel) rfl⟩
theorem fX2_28 : q_F RX2 28 2 0 (.object "ShadowRows$Field") true := ⟨RX2, TX2, 6, kX2, by decide, rfl, tyX2_ok 0 (by decide), Or.inl (q_w 185 (by decide +kernel) rfl)⟩
theorem oX2_28 : q_FO RX2 28 2 0 (.object "ShadowRows$Field") true := ⟨RX2, TX2, 6, kX2, by decide, rfl, tyX2_ok 0 (by decide), rfl, q_w 185 (by decide +kernel) rfl⟩
theorem fX2_32 : q_F RX2 32 0 0 .int false := ⟨RX0, TX0, 11, kX0, by decide, rfl, tyX0_ok 0 (by decide), Or.inr ⟨"ShadowRows", q_wn 122 (by decide +kernel)⟩⟩
theorem fX2_45 : q_F RX2 45 0 2 (.array .int) true := ⟨RX0, TX0, 11, kX0, by decide, rfl, tyX0_ok 2 (by decide), Or.inr ⟨"ShadowRows", q_wn 128 (by decide +kernel)⟩⟩
theorem fX2_51 : q_F RX2 51 0 5 (.array .int) true := ⟨RX0, TX0, 11, kX0, by decide, rfl, tyX0_ok 5 (by decide), Or.inr ⟨"ShadowRows", q_wn 138 (by decide +kernel)⟩⟩
theorem fX2_54 : q_F RX2 54 0 6 .int false := ⟨RX0, TX0, 11, kX0, by decide, rfl, tyX0_ok 6 (by decide), Or.inr ⟨"ShadowRows", q_wn 141 (by decide +kernel)⟩⟩
theorem fX2_60 : q_F RX2 60 0 1 (.array .int) true := ⟨RX0, TX0, 11, kX0, by decide, rfl, tyX0_ok 1 (by decide), Or.inr ⟨"ShadowRows", q_wn 125 (by decide +kernel)⟩⟩
theorem fX2_73 : q_F RX2 73 0 7 (.array .int) true := ⟨RX0, TX0, 11, kX0, by decide, rfl, tyX0_ok 7 (by decide), Or.inr ⟨"ShadowRows", q_wn 144 (by decide +kernel)⟩⟩
theorem fX2_85 : q_F RX2 85 0 3 (.array .int) true := ⟨RX0, TX0, 11, kX0, by decide, rfl, tyX0_ok 3 (by decide), Or.inr ⟨"ShadowRows", q_wn 132 (by decide +kernel)⟩⟩
theorem fX3_9 : q_F RX3 9 3 0 (.object "ShadowRows$Field") true := ⟨RX3, TX3, 1, kX3, by decide, rfl, tyX3_ok 0 (by decide), Or.inl (q_w 212 (by decide +kernel) rfl)⟩
theorem oX3_9 : q_FO RX3 9 3 0 (.object "ShadowRows$Field") true := ⟨RX3, TX3, 1, kX3, by decide, rfl, tyX3_ok 0 (by decide), rfl, q_w 212 (by decide +kernel) rfl⟩
theorem fX3_28 : q_F RX3 28 0 8 (.object "ShadowRows$Offers") true := ⟨RX0, TX0, 11, kX0, by decide, rfl, tyX0_ok 8 (by decide), Or.inr ⟨"ShadowRows", q_wn 148 (by decide +kernel)⟩⟩
theorem fX3_38 : q_F RX3 38 0 9 (.object "ShadowRows$Offers") true := ⟨RX0, TX0, 11, kX0, by decide, rfl, tyX0_ok 9 (by decide), Or.inr ⟨"ShadowRows", q_wn 151 (by decide +kernel)⟩⟩
theorem fX3_49 : q_F RX3 49 4 0 .int false := ⟨RX4, TX4, 3, kX4, by decide, rfl, tyX4_ok 0 (by decide), Or.inr ⟨"ShadowRows", q_wn 107 (by decide +kernel)⟩⟩
theorem fX3_53 : q_F RX3 53 4 2 (.array .int) true := ⟨RX4, TX4, 3, kX4, by decide, rfl, tyX4_ok 2 (by decide), Or.inr ⟨"ShadowRows", q_wn 111 (by decide +kernel)⟩⟩
theorem fX3_64 : q_F RX3 64 0 10 .int false := ⟨RX0, TX0, 11, kX0, by decide, rfl, tyX0_ok 10 (by decide), Or.inr ⟨"ShadowRows", q_wn 154 (by decide +kernel)⟩⟩
theorem fX3_86 : q_F RX3 86 0 7 (.array .int) true := ⟨RX0, TX0, 11, kX0, by decide, rfl, tyX0_ok 7 (by decide), Or.inr ⟨"ShadowRows", q_wn 145 (by decide +kernel)⟩⟩
theorem fX3_89 : q_F RX3 89 0 4 (.array .int) true := ⟨RX0, TX0, 11, kX0, by decide, rfl, tyX0_ok 4 (by decide), Or.inr ⟨"ShadowRows", q_wn 135 (by decide +kernel)⟩⟩
theorem fX4_9 : q_F RX4 9 4 0 .int false := ⟨RX4, TX4, 3, kX4, by decide, rfl, tyX4_ok 0 (by decide), Or.inl (q_w 106 (by decide +kernel) rfl)⟩
theorem fX4_15 : q_F RX4 15 4 1 (.array .int) true := ⟨RX4, TX4, 3, kX4, by decide, rfl, tyX4_ok 1 (by decide), Or.inl (q_w 109 (by decide +kernel) rfl)⟩
theorem oX4_15 : q_FO RX4 15 4 1 (.array .int) true := ⟨RX4, TX4, 3, kX4, by decide, rfl, tyX4_ok 1 (by decide), rfl, q_w 109 (by decide +kernel) rfl⟩
theorem fX4_19 : q_F RX4 19 4 2 (.array .int) true := ⟨RX4, TX4, 3, kX4, by decide, rfl, tyX4_ok 2 (by decide), Or.inl (q_w 110 (by decide +kernel) rfl)⟩
theorem oX4_19 : q_FO RX4 19 4 2 (.array .int) true := ⟨RX4, TX4, 3, kX4, by decide, rfl, tyX4_ok 2 (by decide), rfl, q_w 110 (by decide +kernel) rfl⟩
theorem fX5_9 : q_F RX5 9 5 1 .int false := ⟨RX5, TX5, 5, kX5, by decide, rfl, tyX5_ok 1 (by decide), Or.inl (q_w 268 (by decide +kernel) rfl)⟩
theorem fX5_15 : q_F RX5 15 5 2 .char false := ⟨RX5, TX5, 5, kX5, by decide, rfl, tyX5_ok 2 (by decide), Or.inl (q_w 269 (by decide +kernel) rfl)⟩
theorem fX5_19 : q_F RX5 19 5 3 (.array .int) true := ⟨RX5, TX5, 5, kX5, by decide, rfl, tyX5_ok 3 (by decide), Or.inl (q_w 271 (by decide +kernel) rfl)⟩
theorem oX5_19 : q_FO RX5 19 5 3 (.array .int) true := ⟨RX5, TX5, 5, kX5, by decide, rfl, tyX5_ok 3 (by decide), rfl, q_w 271 (by decide +kernel) rfl⟩
theorem fX5_23 : q_F RX5 23 5 4 .int false := ⟨RX5, TX5, 5, kX5, by decide, rfl, tyX5_ok 4 (by decide), Or.inl (q_w 273 (by decide +kernel) rfl)⟩
theorem fX5_26 : q_F RX5 26 5 0 (.object "ShadowRows$Pad") true := ⟨RX5, TX5, 5, kX5, by decide, rfl, tyX5_ok 0 (by decide), Or.inl (q_w 267 (by decide +kernel) rfl)⟩
theorem oX5_26 : q_FO RX5 26 5 0 (.object "ShadowRows$Pad") true := ⟨RX5, TX5, 5, kX5, by decide, rfl, tyX5_ok 0 (by decide), rfl, q_w 267 (by decide +kernel) rfl⟩
theorem fX5_37 : q_F RX5 37 6 1 .int false := ⟨RX6, TX6, 2, kX6, by decide, rfl, tyX6_ok 1 (by decide), Or.inr ⟨"ShadowRows", q_wn 253 (by decide +kernel)⟩⟩
theorem fX5_48 : q_F RX5 48 6 0 (.array .char) true := ⟨RX6, TX6, 2, kX6, by decide, rfl, tyX6_ok 0 (by decide), Or.inr ⟨"ShadowRows", q_wn 251 (by decide +kernel)⟩⟩
theorem fX6_9 : q_F RX6 9 6 0 (.array .char) true := ⟨RX6, TX6, 2, kX6, by decide, rfl, tyX6_ok 0 (by decide), Or.inl (q_w 250 (by decide +kernel) rfl)⟩
theorem oX6_9 : q_FO RX6 9 6 0 (.array .char) true := ⟨RX6, TX6, 2, kX6, by decide, rfl, tyX6_ok 0 (by decide), rfl, q_w 250 (by decide +kernel) rfl⟩
theorem fX6_15 : q_F RX6 15 6 1 .int false := ⟨RX6, TX6, 2, kX6, by decide, rfl, tyX6_ok 1 (by decide), Or.inl (q_w 252 (by decide +kernel) rfl)⟩
theorem fX7_9 : q_F RX7 9 7 2 (.array .int) true := ⟨RX7, TX7, 7, kX7, by decide, rfl, tyX7_ok 2 (by decide), Or.inl (q_w 224 (by decide +kernel) rfl)⟩
theorem oX7_9 : q_FO RX7 9 7 2 (.array .int) true := ⟨RX7, TX7, 7, kX7, by decide, rfl, tyX7_ok 2 (by decide), rfl, q_w 224 (by decide +kernel) rfl⟩
theorem fX7_15 : q_F RX7 15 7 3 .int false := ⟨RX7, TX7, 7, kX7, by decide, rfl, tyX7_ok 3 (by decide), Or.inl (q_w 225 (by decide +kernel) rfl)⟩
theorem fX7_19 : q_F RX7 19 7 4 (.array .int) true := ⟨RX7, TX7, 7, kX7, by decide, rfl, tyX7_ok 4 (by decide), Or.inl (q_w 226 (by decide +kernel) rfl)⟩
theorem oX7_19 : q_FO RX7 19 7 4 (.array .int) true := ⟨RX7, TX7, 7, kX7, by decide, rfl, tyX7_ok 4 (by decide), rfl, q_w 226 (by decide +kernel) rfl⟩
theorem fX7_22 : q_F RX7 22 7 5 (.array .int) true := ⟨RX7, TX7, 7, kX7, by decide, rfl, tyX7_ok 5 (by decide), Or.inl (q_w 227 (by decide +kernel) rfl)⟩
theorem oX7_22 : q_FO RX7 22 7 5 (.array .int) true := ⟨RX7, TX7, 7, kX7, by decide, rfl, tyX7_ok 5 (by decide), rfl, q_w 227 (by decide +kernel) rfl⟩
theorem fX7_25 : q_F RX7 25 7 6 (.array .int) true := ⟨RX7, TX7, 7, kX7, by decide, rfl, tyX7_ok 6 (by decide), Or.inl (q_w 228 (by decide +kernel) rfl)⟩
theorem oX7_25 : q_FO RX7 25 7 6 (.array .int) true := ⟨RX7, TX7, 7, kX7, by decide, rfl, tyX7_ok 6 (by decide), rfl, q_w 228 (by decide +kernel) rfl⟩
theorem fX7_28 : q_F RX7 28 7 0 (.object "ShadowRows$Field") true := ⟨RX7, TX7, 7, kX7, by decide, rfl, tyX7_ok 0 (by decide), Or.inl (q_w 222 (by decide +kernel) rfl)⟩
theorem oX7_28 : q_FO RX7 28 7 0 (.object "ShadowRows$Field") true := ⟨RX7, TX7, 7, kX7, by decide, rfl, tyX7_ok 0 (by decide), rfl, q_w 222 (by decide +kernel) rfl⟩
theorem fX7_32 : q_F RX7 32 7 1 (.object "ShadowRows$Light") true := ⟨RX7, TX7, 7, kX7, by decide, rfl, tyX7_ok 1 (by decide), Or.inl (q_w 223 (by decide +kernel) rfl)⟩
theorem oX7_32 : q_FO RX7 32 7 1 (.object "ShadowRows$Light") true := ⟨RX7, TX7, 7, kX7, by decide, rfl, tyX7_ok 1 (by decide), rfl, q_w 223 (by decide +kernel) rfl⟩
theorem fX7_39 : q_F RX7 39 0 0 .int false := ⟨RX0, TX0, 11, kX0, by decide, rfl, tyX0_ok 0 (by decide), Or.inr ⟨"ShadowRows", q_wn 121 (by decide +kernel)⟩⟩
theorem fX7_68 : q_F RX7 68 0 2 (.array .int) true := ⟨RX0, TX0, 11, kX0, by decide, rfl, tyX0_ok 2 (by decide), Or.inr ⟨"ShadowRows", q_wn 129 (by decide +kernel)⟩⟩
theorem fX7_71 : q_F RX7 71 2 3 (.array .int) true := ⟨RX2, TX2, 6, kX2, by decide, rfl, tyX2_ok 3 (by decide), Or.inr ⟨"ShadowRows", q_wn 189 (by decide +kernel)⟩⟩
theorem fX9_7 : q_F RX9 7 9 0 (.array .int) true := ⟨RX9, TX9, 17, kX9, by decide, rfl, tyX9_ok 0 (by decide), Or.inl (q_w 860 (by decide +kernel) rfl)⟩
theorem oX9_7 : q_FO RX9 7 9 0 (.array .int) true := ⟨RX9, TX9, 17, kX9, by decide, rfl, tyX9_ok 0 (by decide), rfl, q_w 860 (by decide +kernel) rfl⟩
theorem fX9_13 : q_F RX9 13 9 1 (.array .int) true := ⟨RX9, TX9, 17, kX9, by decide, rfl, tyX9_ok 1 (by decide), Or.inl (q_w 861 (by decide +kernel) rfl)⟩
theorem oX9_13 : q_FO RX9 13 9 1 (.array .int) true := ⟨RX9, TX9, 17, kX9, by decide, rfl, tyX9_ok 1 (by decide), rfl, q_w 861 (by decide +kernel) rfl⟩
theorem fX9_16 : q_F RX9 16 9 3 (.array .int) true := ⟨RX9, TX9, 17, kX9, by decide, rfl, tyX9_ok 3 (by decide), Or.inl (q_w 863 (by decide +kernel) rfl)⟩
theorem oX9_16 : q_FO RX9 16 9 3 (.array .int) true := ⟨RX9, TX9, 17, kX9, by decide, rfl, tyX9_ok 3 (by decide), rfl, q_w 863 (by decide +kernel) rfl⟩
theorem fX9_19 : q_F RX9 19 9 4 (.array .int) true := ⟨RX9, TX9, 17, kX9, by decide, rfl, tyX9_ok 4 (by decide), Or.inl (q_w 864 (by decide +kernel) rfl)⟩
theorem oX9_19 : q_FO RX9 19 9 4 (.array .int) true := ⟨RX9, TX9, 17, kX9, by decide, rfl, tyX9_ok 4 (by decide), rfl, q_w 864 (by decide +kernel) rfl⟩
theorem fX9_22 : q_F RX9 22 9 5 (.array .int) true := ⟨RX9, TX9, 17, kX9, by decide, rfl, tyX9_ok 5 (by decide), Or.inl (q_w 865 (by decide +kernel) rfl)⟩
theorem oX9_22 : q_FO RX9 22 9 5 (.array .int) true := ⟨RX9, TX9, 17, kX9, by decide, rfl, tyX9_ok 5 (by decide), rfl, q_w 865 (by decide +kernel) rfl⟩
theorem fX9_25 : q_F RX9 25 9 7 (.array .int) true := ⟨RX9, TX9, 17, kX9, by decide, rfl, tyX9_ok 7 (by decide), Or.inl (q_w 867 (by decide +kernel) rfl)⟩
theorem oX9_25 : q_FO RX9 25 9 7 (.array .int) true := ⟨RX9, TX9, 17, kX9, by decide, rfl, tyX9_ok 7 (by decide), rfl, q_w 867 (by decide +kernel) rfl⟩
theorem fX9_28 : q_F RX9 28 9 8 (.array .int) true := ⟨RX9, TX9, 17, kX9, by decide, rfl, tyX9_ok 8 (by decide), Or.inl (q_w 868 (by decide +kernel) rfl)⟩
theorem oX9_28 : q_FO RX9 28 9 8 (.array .int) true := ⟨RX9, TX9, 17, kX9, by decide, rfl, tyX9_ok 8 (by decide), rfl, q_w 868 (by decide +kernel) rfl⟩
theorem fX9_31 : q_F RX9 31 9 9 (.array .int) true := ⟨RX9, TX9, 17, kX9, by decide, rfl, tyX9_ok 9 (by decide), Or.inl (q_w 869 (by decide +kernel) rfl)⟩
theorem oX9_31 : q_FO RX9 31 9 9 (.array .int) true := ⟨RX9, TX9, 17, kX9, by decide, rfl, tyX9_ok 9 (by decide), rfl, q_w 869 (by decide +kernel) rfl⟩
theorem fX9_34 : q_F RX9 34 9 2 .int false := ⟨RX9, TX9, 17, kX9, by decide, rfl, tyX9_ok 2 (by decide), Or.inl (q_w 862 (by decide +kernel) rfl)⟩
theorem fX9_183 : q_F RX9 183 9 6 .int false := ⟨RX9, TX9, 17, kX9, by decide, rfl, tyX9_ok 6 (by decide), Or.inl (q_w 866 (by decide +kernel) rfl)⟩
theorem fX9_201 : q_F RX9 201 9 10 .int false := ⟨RX9, TX9, 17, kX9, by decide, rfl, tyX9_ok 10 (by decide), Or.inl (q_w 870 (by decide +kernel) rfl)⟩
theorem fX9_213 : q_F RX9 213 9 14 .int false := ⟨RX9, TX9, 17, kX9, by decide, rfl, tyX9_ok 14 (by decide), Or.inl (q_w 874 (by decide +kernel) rfl)⟩
theorem fX9_219 : q_F RX9 219 9 15 .int false := ⟨RX9, TX9, 17, kX9, by decide, rfl, tyX9_ok 15 (by decide), Or.inl (q_w 875 (by decide +kernel) rfl)⟩
theorem fX9_222 : q_F RX9 222 9 16 .int false := ⟨RX9, TX9, 17, kX9, by decide, rfl, tyX9_ok 16 (by decide), Or.inl (q_w 876 (by decide +kernel) rfl)⟩
theorem fX9_225 : q_F RX9 225 9 11 .int false := ⟨RX9, TX9, 17, kX9, by decide, rfl, tyX9_ok 11 (by decide), Or.inl (q_w 871 (by decide +kernel) rfl)⟩
theorem fX9_228 : q_F RX9 228 9 12 .int false := ⟨RX9, TX9, 17, kX9, by decide, rfl, tyX9_ok 12 (by decide), Or.inl (q_w 872 (by decide +kernel) rfl)⟩
theorem fX9_231 : q_F RX9 231 9 13 .int false := ⟨RX9, TX9, 17, kX9, by decide, rfl, tyX9_ok 13 (by decide), Or.inl (q_w 873 (by decide +kernel) rfl)⟩
theorem wX8_1 : Cond.methodLink RX8 1 Lib.objectInit ∈ q_words := q_w 91 (by decide +kernel) rfl
theorem wX0_3 : Cond.methodLink RX0 3 Lib.objectInit ∈ q_words := q_w 99 (by decide +kernel) rfl
theorem wX0_50 : Cond.methodLink RX0 50 arraycopyName ∈ q_words := q_w 343 (by decide +kernel) rfl
theorem wX1_3 : Cond.methodLink RX1 3 Lib.objectInit ∈ q_words := q_w 290 (by decide +kernel) rfl
theorem wX2_3 : Cond.methodLink RX2 3 Lib.objectInit ∈ q_words := q_w 184 (by decide +kernel) rfl
theorem wX2_80 : Cond.methodLink RX2 80 Lib.Math.min.name ∈ q_words := q_w 538 (by decide +kernel) rfl
theorem wX2_88 : Cond.methodLink RX2 88 Lib.Math.max.name ∈ q_words := q_w 569 (by decide +kernel) rfl
theorem wX3_3 : Cond.methodLink RX3 3 Lib.objectInit ∈ q_words := q_w 211 (by decide +kernel) rfl
theorem wX3_81 : Cond.methodLink RX3 81 Lib.Math.min.name ∈ q_words := q_w 494 (by decide +kernel) rfl
theorem wX4_3 : Cond.methodLink RX4 3 Lib.objectInit ∈ q_words := q_w 105 (by decide +kernel) rfl
theorem wX4_22 : Cond.methodLink RX4 22 arraycopyName ∈ q_words := q_w 350 (by decide +kernel) rfl
theorem wX5_3 : Cond.methodLink RX5 3 Lib.objectInit ∈ q_words := q_w 266 (by decide +kernel) rfl
theorem wX6_3 : Cond.methodLink RX6 3 Lib.objectInit ∈ q_words := q_w 249 (by decide +kernel) rfl
theorem wX7_3 : Cond.methodLink RX7 3 Lib.objectInit ∈ q_words := q_w 221 (by decide +kernel) rfl
theorem wX7_74 : Cond.methodLink RX7 74 Lib.Math.max.name ∈ q_words := q_w 647 (by decide +kernel) rfl
theorem wX7_90 : Cond.methodLink RX7 90 Lib.Math.min.name ∈ q_words := q_w 667 (by decide +kernel) rfl
theorem wX9_1 : Cond.methodLink RX9 1 Lib.objectInit ∈ q_words := q_w 859 (by decide +kernel) rfl
theorem wX2_57 : Cond.fieldLink RX2 57 (q_stn 1).1 (q_stn 1).2 "[I" ∈ q_words := q_w 555 (by decide +kernel) rfl
theorem wX2_66 : Cond.fieldLink RX2 66 (q_stn 0).1 (q_stn 0).2 "[I" ∈ q_words := q_w 527 (by decide +kernel) rfl
theorem wX7_36 : Cond.fieldLink RX7 36 (q_stn 2).1 (q_stn 2).2 "[I" ∈ q_words := q_w 640 (by decide +kernel) rfl
theorem w_native : Cond.native arraycopyName ∈ q_words := q_w 345 (by decide +kernel) rfl
theorem w_copyS : Cond.static arraycopyName ∈ q_words := q_w 344 (by decide +kernel) rfl
theorem w_sys : Cond.initialized "java/lang/System" ∈ q_words := q_w 79 (by decide +kernel) rfl
theorem w_math : Cond.initialized "java/lang/Math" ∈ q_words := q_w 80 (by decide +kernel) rfl
theorem w_maxS : Cond.static Lib.Math.max.name ∈ q_words := q_w 570 (by decide +kernel) rfl
theorem w_maxC : Cond.code Lib.Math.max.name Lib.Math.max.code 2 (some .int) ∈ q_words := q_w 571 (by decide +kernel) rfl
theorem w_minS : Cond.static Lib.Math.min.name ∈ q_words := q_w 495 (by decide +kernel) rfl
theorem w_minC : Cond.code Lib.Math.min.name Lib.Math.min.code 2 (some .int) ∈ q_words := q_w 496 (by decide +kernel) rfl
theorem w_objI : Cond.instanceMethod Lib.objectInit ∈ q_words := q_w 92 (by decide +kernel) rfl
theorem w_objC : Cond.code Lib.objectInit ⟨#[0xb1]⟩ 1 none ∈ q_words := q_w 93 (by decide +kernel) rfl
theorem w_ini_L : Cond.initialized RL ∈ q_words := q_w 68 (by decide +kernel) rfl
theorem w_ini_X8 : Cond.initialized RX8 ∈ q_words := q_w 69 (by decide +kernel) rfl
theorem w_ini_X0 : Cond.initialized RX0 ∈ q_words := q_w 70 (by decide +kernel) rfl
theorem w_ini_X4 : Cond.initialized RX4 ∈ q_words := q_w 71 (by decide +kernel) rfl
theorem w_ini_X2 : Cond.initialized RX2 ∈ q_words := q_w 72 (by decide +kernel) rfl
theorem w_ini_X3 : Cond.initialized RX3 ∈ q_words := q_w 73 (by decide +kernel) rfl
theorem w_ini_X7 : Cond.initialized RX7 ∈ q_words := q_w 74 (by decide +kernel) rfl
theorem w_ini_X6 : Cond.initialized RX6 ∈ q_words := q_w 75 (by decide +kernel) rfl
theorem w_ini_X5 : Cond.initialized RX5 ∈ q_words := q_w 76 (by decide +kernel) rfl
theorem w_ini_X1 : Cond.initialized RX1 ∈ q_words := q_w 77 (by decide +kernel) rfl
theorem w_ini_X9 : Cond.initialized RX9 ∈ q_words := q_w 78 (by decide +kernel) rfl
theorem w_ini_J10 : Cond.initialized RJ10 ∈ q_words := q_w 79 (by decide +kernel) rfl
theorem w_ini_J9 : Cond.initialized RJ9 ∈ q_words := q_w 80 (by decide +kernel) rfl
theorem w_ini_J0 : Cond.initialized RJ0 ∈ q_words := q_w 81 (by decide +kernel) rfl
theorem w_ini_J1 : Cond.initialized RJ1 ∈ q_words := q_w 82 (by decide +kernel) rfl
theorem w_ini_J2 : Cond.initialized RJ2 ∈ q_words := q_w 83 (by decide +kernel) rfl
theorem w_ini_J3 : Cond.initialized RJ3 ∈ q_words := q_w 84 (by decide +kernel) rfl
theorem w_ini_J11 : Cond.initialized RJ11 ∈ q_words := q_w 85 (by decide +kernel) rfl
theorem wL_7 : Cond.classLink RL 7 "ShadowRows" ∈ q_words := q_w 86 (by decide +kernel) rfl
theorem w_new_X8 : Cond.instantiable RX8 9 ∈ q_words := q_w 87 (by decide +kernel) rfl
theorem wX8_7 : Cond.classLink RX8 7 "ShadowRows$Field" ∈ q_words := q_w 94 (by decide +kernel) rfl
theorem w_new_X0 : Cond.instantiable RX0 11 ∈ q_words := q_w 95 (by decide +kernel) rfl
theorem wX0_37 : Cond.classLink RX0 37 "ShadowRows$Offers" ∈ q_words := q_w 100 (by decide +kernel) rfl
theorem w_new_X4 : Cond.instantiable RX4 3 ∈ q_words := q_w 101 (by decide +kernel) rfl
theorem wX8_16 : Cond.classLink RX8 16 "ShadowRows$Light" ∈ q_words := q_w 179 (by decide +kernel) rfl
theorem w_new_X2 : Cond.instantiable RX2 6 ∈ q_words := q_w 180 (by decide +kernel) rfl
theorem wX8_25 : Cond.classLink RX8 25 "ShadowRows$Market" ∈ q_words := q_w 206 (by decide +kernel) rfl
theorem w_new_X3 : Cond.instantiable RX3 1 ∈ q_words := q_w 207 (by decide +kernel) rfl
theorem wX8_32 : Cond.classLink RX8 32 "ShadowRows$TiltSearch" ∈ q_words := q_w 216 (by decide +kernel) rfl
theorem w_new_X7 : Cond.instantiable RX7 7 ∈ q_words := q_w 217 (by decide +kernel) rfl
theorem wX8_41 : Cond.classLink RX8 41 "ShadowRows$Pad" ∈ q_words := q_w 244 (by decide +kernel) rfl
theorem w_new_X6 : Cond.instantiable RX6 2 ∈ q_words := q_w 245 (by decide +kernel) rfl
theorem wX8_48 : Cond.classLink RX8 48 "ShadowRows$OrderReader" ∈ q_words := q_w 261 (by decide +kernel) rfl
theorem w_new_X5 : Cond.instantiable RX5 5 ∈ q_words := q_w 262 (by decide +kernel) rfl
theorem wX8_57 : Cond.classLink RX8 57 "ShadowRows$History" ∈ q_words := q_w 285 (by decide +kernel) rfl
theorem w_new_X1 : Cond.instantiable RX1 2 ∈ q_words := q_w 286 (by decide +kernel) rfl
theorem wX1_15 : Cond.classLink RX1 15 "ShadowRows$Field" ∈ q_words := q_w 291 (by decide +kernel) rfl
theorem wL_10 : Cond.classLink RL 10 "ShadowRowsModel" ∈ q_words := q_w 854 (by decide +kernel) rfl
theorem w_new_X9 : Cond.instantiable RX9 17 ∈ q_words := q_w 855 (by decide +kernel) rfl
theorem w_arr_int : Cond.arrayClass .int ∈ q_words := q_w 119 (by decide +kernel) rfl
theorem w_arr_char : Cond.arrayClass .char ∈ q_words := q_w 260 (by decide +kernel) rfl
theorem w_arr_boolean : Cond.arrayClass .boolean ∈ q_words := q_w 330 (by decide +kernel) rfl
theorem wX8_138 : Cond.constant RX8 138 (Int32.ofInt 1000000000) ∈ q_words := q_w 510 (by decide +kernel) rfl
theorem wX8_226 : Cond.constant RX8 226 (Int32.ofInt 1000000) ∈ q_words := q_w 627 (by decide +kernel) rfl
theorem wX6_23 : Cond.constantLong RX6 23 255 ∈ q_words := q_w 687 (by decide +kernel) rfl
theorem wX6_25 : Cond.constantLong RX6 25 33 ∈ q_words := q_w 688 (by decide +kernel) rfl
theorem wX6_27 : Cond.constantLong RX6 27 126 ∈ q_words := q_w 689 (by decide +kernel) rfl
theorem wJ2_227 : Cond.constant RJ2 227 (Int32.ofInt 65536) ∈ q_words := q_w 753 (by decide +kernel) rfl
theorem wJ11_110 : Cond.constant RJ11 110 (Int32.ofInt 55232) ∈ q_words := q_w 792 (by decide +kernel) rfl
theorem wJ11_76 : Cond.constant RJ11 76 (Int32.ofInt 56320) ∈ q_words := q_w 796 (by decide +kernel) rfl
theorem w_arr_byte : Cond.arrayClass .byte ∈ q_words := q_w 821 (by decide +kernel) rfl
theorem wX9_167 : Cond.constant RX9 167 (Int32.ofInt 1000000000) ∈ q_words := q_w 1048 (by decide +kernel) rfl
theorem wX9_186 : Cond.constant RX9 186 (Int32.ofInt 1000000) ∈ q_words := q_w 1143 (by decide +kernel) rfl
theorem wX9_199 : Cond.constantLong RX9 199 255 ∈ q_words := q_w 1170 (by decide +kernel) rfl
theorem wL_87 : Cond.constantLong RL 87 4294967295 ∈ q_words := q_w 1227 (by decide +kernel) rfl
/-- the cells: a field's block, and all of them -/
def q_kF (f : Nat) : List Nat := [0, f + 3, f + 4, f + 5, f + 6, f + 7, 0, f + 8, f + 9, f + 12, 0]
def q_kO (f : Nat) : List Nat := [0, f + 3, f + 4]
def q_blk (f : Nat) : List q_K := [.inl (0, q_kF f), .inr (0, 6), .inr (0, 6), .inr (0, 6), .inr (0, 6), .inr (0, 10), .inr (0, 360), .inl (4, q_kO (f + 7)), .inr (0, 50), .inr (0, 10), .inl (4, q_kO (f + 10)), .inr (0, 50), .inr (0, 10)]
def KC : List q_K := [.inl (8, [3, 16, 21, 22, 27, 29, 31, 124, 151])] ++ q_blk 1 ++ [.inl (2, [3, 0, 17, 18, 19, 20]), .inr (0, 36), .inr (0, 6), .inr (0, 6), .inr (0, 6), .inl (3, [3]), .inl (7, [3, 16, 23, 0, 24, 25, 26]), .inr (0, 15625), .inr (0, 6), .inr (0, 6), .inr (0, 6), .inl (6, [28, 0]), .inr (2, 80), .inl (5, [27, 0, 0, 30, 0]), .inr (0, 5), .inl (1, [0, 32]), .inr (3, 7)] ++
  q_blk 31 ++ q_blk 44 ++ q_blk 57 ++ q_blk 70 ++ q_blk 83 ++ q_blk 96 ++ q_blk 109 ++ [.inr (3, 2)] ++ q_blk 123 ++ q_blk 136 ++ [.inr (1, 2)] ++
  [.inl (9, [153, 154, 0, 155, 156, 157, 0, 158, 159, 160, 0, 0, 0, 0, 0, 0, 0]), .inr (0, 489), .inr (0, 2934), .inr (0, 978), .inr (0, 2), .inr (0, 80), .inr (0, 300), .inr (0, 1800), .inr (0, 6)]
theorem KC_len : KC.length = 159 := by decide +kernel
theorem kc0 : KC[0]? = some (.inl (8, [3, 16, 21, 22, 27, 29, 31, 124, 151])) := by decide +kernel
theorem kc1 : KC[1]? = some (.inl (0, q_kF 1)) := by decide +kernel
theorem kc2 : KC[2]? = some (.inr (0, 6)) := by decide +kernel
theorem kc3 : KC[3]? = some (.inr (0, 6)) := by decide +kernel
theorem kc4 : KC[4]? = some (.inr (0, 6)) := by decide +kernel
theorem kc5 : KC[5]? = some (.inr (0, 6)) := by decide +kernel
theorem kc6 : KC[6]? = some (.inr (0, 10)) := by decide +kernel
theorem kc7 : KC[7]? = some (.inr (0, 360)) := by decide +kernel
theorem kc8 : KC[8]? = some (.inl (4, q_kO 8)) := by decide +kernel
theorem kc9 : KC[9]? = some (.inr (0, 50)) := by decide +kernel
theorem kc10 : KC[10]? = some (.inr (0, 10)) := by decide +kernel
theorem kc11 : KC[11]? = some (.inl (4, q_kO 11)) := by decide +kernel
theorem kc12 : KC[12]? = some (.inr (0, 50)) := by decide +kernel
theorem kc13 : KC[13]? = some (.inr (0, 10)) := by decide +kernel
theorem kc14 : KC[14]? = some (.inl (2, [3, 0, 17, 18, 19, 20])) := by decide +kernel
theorem kc15 : KC[15]? = some (.inr (0, 36)) := by decide +kernel
theorem kc16 : KC[16]? = some (.inr (0, 6)) := by decide +kernel
theorem kc17 : KC[17]? = some (.inr (0, 6)) := by decide +kernel
theorem kc18 : KC[18]? = some (.inr (0, 6)) := by decide +kernel
theorem kc19 : KC[19]? = some (.inl (3, [3])) := by decide +kernel
theorem kc20 : KC[20]? = some (.inl (7, [3, 16, 23, 0, 24, 25, 26])) := by decide +kernel
theorem kc21 : KC[21]? = some (.inr (0, 15625)) := by decide +kernel
theorem kc22 : KC[22]? = some (.inr (0, 6)) := by decide +kernel
theorem kc23 : KC[23]? = some (.inr (0, 6)) := by decide +kernel
theorem kc24 : KC[24]? = some (.inr (0, 6)) := by decide +kernel
theorem kc25 : KC[25]? = some (.inl (6, [28, 0])) := by decide +kernel
theorem kc26 : KC[26]? = some (.inr (2, 80)) := by decide +kernel
theorem kc27 : KC[27]? = some (.inl (5, [27, 0, 0, 30, 0])) := by decide +kernel
theorem kc28 : KC[28]? = some (.inr (0, 5)) := by decide +kernel
theorem kc29 : KC[29]? = some (.inl (1, [0, 32])) := by decide +kernel
theorem kc30 : KC[30]? = some (.inr (3, 7)) := by decide +kernel
theorem kc31 : KC[31]? = some (.inl (0, q_kF 31)) := by decide +kernel
theorem kc32 : KC[32]? = some (.inr (0, 6)) := by decide +kernel
theorem kc33 : KC[33]? = some (.inr (0, 6)) := by decide +kernel
theorem kc34 : KC[34]? = some (.inr (0, 6)) := by decide +kernel
theorem kc35 : KC[35]? = some (.inr (0, 6)) := by decide +kernel
theorem kc36 : KC[36]? = some (.inr (0, 10)) := by decide +kernel
theorem kc37 : KC[37]? = some (.inr (0, 360)) := by decide +kernel
theorem kc38 : KC[38]? = some (.inl (4, q_kO 38)) := by decide +kernel
theorem kc39 : KC[39]? = some (.inr (0, 50)) := by decide +kernel
theorem kc40 : KC[40]? = some (.inr (0, 10)) := by decide +kernel
theorem kc41 : KC[41]? = some (.inl (4, q_kO 41)) := by decide +kernel
theorem kc42 : KC[42]? = some (.inr (0, 50)) := by decide +kernel
theorem kc43 : KC[43]? = some (.inr (0, 10)) := by decide +kernel
theorem kc44 : KC[44]? = some (.inl (0, q_kF 44)) := by decide +kernel
theorem kc45 : KC[45]? = some (.inr (0, 6)) := by decide +kernel
theorem kc46 : KC[46]? = some (.inr (0, 6)) := by decide +kernel
theorem kc47 : KC[47]? = some (.inr (0, 6)) := by decide +kernel
theorem kc48 : KC[48]? = some (.inr (0, 6)) := by decide +kernel
theorem kc49 : KC[49]? = some (.inr (0, 10)) := by decide +kernel
theorem kc50 : KC[50]? = some (.inr (0, 360)) := by decide +kernel
theorem kc51 : KC[51]? = some (.inl (4, q_kO 51)) := by decide +kernel
theorem kc52 : KC[52]? = some (.inr (0, 50)) := by decide +kernel
theorem kc53 : KC[53]? = some (.inr (0, 10)) := by decide +kernel
theorem kc54 : KC[54]? = some (.inl (4, q_kO 54)) := by decide +kernel
theorem kc55 : KC[55]? = some (.inr (0, 50)) := by decide +kernel
theorem kc56 : KC[56]? = some (.inr (0, 10)) := by decide +kernel
theorem kc57 : KC[57]? = some (.inl (0, q_kF 57)) := by decide +kernel
theorem kc58 : KC[58]? = some (.inr (0, 6)) := by decide +kernel
theorem kc59 : KC[59]? = some (.inr (0, 6)) := by decide +kernel
theorem kc60 : KC[60]? = some (.inr (0, 6)) := by decide +kernel
theorem kc61 : KC[61]? = some (.inr (0, 6)) := by decide +kernel
theorem kc62 : KC[62]? = some (.inr (0, 10)) := by decide +kernel
theorem kc63 : KC[63]? = some (.inr (0, 360)) := by decide +kernel
theorem kc64 : KC[64]? = some (.inl (4, q_kO 64)) := by decide +kernel
theorem kc65 : KC[65]? = some (.inr (0, 50)) := by decide +kernel
theorem kc66 : KC[66]? = some (.inr (0, 10)) := by decide +kernel
theorem kc67 : KC[67]? = some (.inl (4, q_kO 67)) := by decide +kernel
theorem kc68 : KC[68]? = some (.inr (0, 50)) := by decide +kernel
theorem kc69 : KC[69]? = some (.inr (0, 10)) := by decide +kernel
theorem kc70 : KC[70]? = some (.inl (0, q_kF 70)) := by decide +kernel
theorem kc71 : KC[71]? = some (.inr (0, 6)) := by decide +kernel
theorem kc72 : KC[72]? = some (.inr (0, 6)) := by decide +kernel
theorem kc73 : KC[73]? = some (.inr (0, 6)) := by decide +kernel
theorem kc74 : KC[74]? = some (.inr (0, 6)) := by decide +kernel
theorem kc75 : KC[75]? = some (.inr (0, 10)) := by decide +kernel
theorem kc76 : KC[76]? = some (.inr (0, 360)) := by decide +kernel
theorem kc77 : KC[77]? = some (.inl (4, q_kO 77)) := by decide +kernel
theorem kc78 : KC[78]? = some (.inr (0, 50)) := by decide +kernel
theorem kc79 : KC[79]? = some (.inr (0, 10)) := by decide +kernel
theorem kc80 : KC[80]? = some (.inl (4, q_kO 80)) := by decide +kernel
theorem kc81 : KC[81]? = some (.inr (0, 50)) := by decide +kernel
theorem kc82 : KC[82]? = some (.inr (0, 10)) := by decide +kernel
theorem kc83 : KC[83]? = some (.inl (0, q_kF 83)) := by decide +kernel
theorem kc84 : KC[84]? = some (.inr (0, 6)) := by decide +kernel
theorem kc85 : KC[85]? = some (.inr (0, 6)) := by decide +kernel
theorem kc86 : KC[86]? = some (.inr (0, 6)) := by decide +kernel
theorem kc87 : KC[87]? = some (.inr (0, 6)) := by decide +kernel
theorem kc88 : KC[88]? = some (.inr (0, 10)) := by decide +kernel
theorem kc89 : KC[89]? = some (.inr (0, 360)) := by decide +kernel
theorem kc90 : KC[90]? = some (.inl (4, q_kO 90)) := by decide +kernel
theorem kc91 : KC[91]? = some (.inr (0, 50)) := by decide +kernel
theorem kc92 : KC[92]? = some (.inr (0, 10)) := by decide +kernel
theorem kc93 : KC[93]? = some (.inl (4, q_kO 93)) := by decide +kernel
theorem kc94 : KC[94]? = some (.inr (0, 50)) := by decide +kernel
theorem kc95 : KC[95]? = some (.inr (0, 10)) := by decide +kernel
theorem kc96 : KC[96]? = some (.inl (0, q_kF 96)) := by decide +kernel
theorem kc97 : KC[97]? = some (.inr (0, 6)) := by decide +kernel
theorem kc98 : KC[98]? = some (.inr (0, 6)) := by decide +kernel
theorem kc99 : KC[99]? = some (.inr (0, 6)) := by decide +kernel
theorem kc100 : KC[100]? = some (.inr (0, 6)) := by decide +kernel
theorem kc101 : KC[101]? = some (.inr (0, 10)) := by decide +kernel
theorem kc102 : KC[102]? = some (.inr (0, 360)) := by decide +kernel
theorem kc103 : KC[103]? = some (.inl (4, q_kO 103)) := by decide +kernel
theorem kc104 : KC[104]? = some (.inr (0, 50)) := by decide +kernel
theorem kc105 : KC[105]? = some (.inr (0, 10)) := by decide +kernel
theorem kc106 : KC[106]? = some (.inl (4, q_kO 106)) := by decide +kernel
theorem kc107 : KC[107]? = some (.inr (0, 50)) := by decide +kernel
theorem kc108 : KC[108]? = some (.inr (0, 10)) := by decide +kernel
theorem kc109 : KC[109]? = some (.inl (0, q_kF 109)) := by decide +kernel
theorem kc110 : KC[110]? = some (.inr (0, 6)) := by decide +kernel
theorem kc111 : KC[111]? = some (.inr (0, 6)) := by decide +kernel
theorem kc112 : KC[112]? = some (.inr (0, 6)) := by decide +kernel
theorem kc113 : KC[113]? = some (.inr (0, 6)) := by decide +kernel
theorem kc114 : KC[114]? = some (.inr (0, 10)) := by decide +kernel
theorem kc115 : KC[115]? = some (.inr (0, 360)) := by decide +kernel
theorem kc116 : KC[116]? = some (.inl (4, q_kO 116)) := by decide +kernel
theorem kc117 : KC[117]? = some (.inr (0, 50)) := by decide +kernel
theorem kc118 : KC[118]? = some (.inr (0, 10)) := by decide +kernel
theorem kc119 : KC[119]? = some (.inl (4, q_kO 119)) := by decide +kernel
theorem kc120 : KC[120]? = some (.inr (0, 50)) := by decide +kernel
theorem kc121 : KC[121]? = some (.inr (0, 10)) := by decide +kernel
theorem kc122 : KC[122]? = some (.inr (3, 2)) := by decide +kernel
theorem kc123 : KC[123]? = some (.inl (0, q_kF 123)) := by decide +kernel
theorem kc124 : KC[124]? = some (.inr (0, 6)) := by decide +kernel
theorem kc125 : KC[125]? = some (.inr (0, 6)) := by decide +kernel
theorem kc126 : KC[126]? = some (.inr (0, 6)) := by decide +kernel
theorem kc127 : KC[127]? = some (.inr (0, 6)) := by decide +kernel
theorem kc128 : KC[128]? = some (.inr (0, 10)) := by decide +kernel
theorem kc129 : KC[129]? = some (.inr (0, 360)) := by decide +kernel
theorem kc130 : KC[130]? = some (.inl (4, q_kO 130)) := by decide +kernel
theorem kc131 : KC[131]? = some (.inr (0, 50)) := by decide +kernel
theorem kc132 : KC[132]? = some (.inr (0, 10)) := by decide +kernel
theorem kc133 : KC[133]? = some (.inl (4, q_kO 133)) := by decide +kernel
theorem kc134 : KC[134]? = some (.inr (0, 50)) := by decide +kernel
theorem kc135 : KC[135]? = some (.inr (0, 10)) := by decide +kernel
theorem kc136 : KC[136]? = some (.inl (0, q_kF 136)) := by decide +kernel
theorem kc137 : KC[137]? = some (.inr (0, 6)) := by decide +kernel
theorem kc138 : KC[138]? = some (.inr (0, 6)) := by decide +kernel
theorem kc139 : KC[139]? = some (.inr (0, 6)) := by decide +kernel
theorem kc140 : KC[140]? = some (.inr (0, 6)) := by decide +kernel
theorem kc141 : KC[141]? = some (.inr (0, 10)) := by decide +kernel
theorem kc142 : KC[142]? = some (.inr (0, 360)) := by decide +kernel
theorem kc143 : KC[143]? = some (.inl (4, q_kO 143)) := by decide +kernel
theorem kc144 : KC[144]? = some (.inr (0, 50)) := by decide +kernel
theorem kc145 : KC[145]? = some (.inr (0, 10)) := by decide +kernel
theorem kc146 : KC[146]? = some (.inl (4, q_kO 146)) := by decide +kernel
theorem kc147 : KC[147]? = some (.inr (0, 50)) := by decide +kernel
theorem kc148 : KC[148]? = some (.inr (0, 10)) := by decide +kernel
theorem kc149 : KC[149]? = some (.inr (1, 2)) := by decide +kernel
theorem kc150 : KC[150]? = some (.inl (9, [153, 154, 0, 155, 156, 157, 0, 158, 159, 160, 0, 0, 0, 0, 0, 0, 0])) := by decide +kernel
theorem kc151 : KC[151]? = some (.inr (0, 489)) := by decide +kernel
theorem kc152 : KC[152]? = some (.inr (0, 2934)) := by decide +kernel
theorem kc153 : KC[153]? = some (.inr (0, 978)) := by decide +kernel
theorem kc154 : KC[154]? = some (.inr (0, 2)) := by decide +kernel
theorem kc155 : KC[155]? = some (.inr (0, 80)) := by decide +kernel
theorem kc156 : KC[156]? = some (.inr (0, 300)) := by decide +kernel
theorem kc157 : KC[157]? = some (.inr (0, 1800)) := by decide +kernel
theorem kc158 : KC[158]? = some (.inr (0, 6)) := by decide +kernel
