theorem inG0 : ∀ w ∈ u_ws RX0 TX0 7, w ∈ lw_good := by decide +kernel
theorem inG1 : ∀ w ∈ u_ws RX1 TX1 3, w ∈ lw_good := by decide +kernel
theorem inG2 : ∀ w ∈ u_ws RX2 TX2 4, w ∈ lw_good := by decide +kernel
theorem inG3 : ∀ w ∈ u_ws RX3 TX3 2, w ∈ lw_good := by decide +kernel
theorem inG4 : ∀ w ∈ u_ws RX4 TX4 9, w ∈ lw_good := by decide +kernel
theorem inG5 : ∀ w ∈ u_ws RX5 TX5 12, w ∈ lw_good := by decide +kernel
theorem inG6 : ∀ w ∈ u_ws RX6 TX6 25, w ∈ lw_good := by decide +kernel
def mX0_has : PM := (yX0_has, cX0_has, 2, some .boolean, 2)
theorem iX0_has : iOk mX0_has 1 := ⟨⟨by decide +kernel, mg 435 (by decide +kernel) (by decide +kernel), mg 75 (by decide +kernel) (by decide +kernel), ⟨by decide +kernel, by decide +kernel, by decide +kernel⟩, by decide⟩, mg 434 (by decide +kernel) (by decide +kernel), mg 19 (by decide +kernel) (by decide +kernel)⟩
def mX0_part : PM := (yX0_part, cX0_part, 3, some .int, 1)
theorem iX0_part : iOk mX0_part 2 := ⟨⟨by decide +kernel, mg 444 (by decide +kernel) (by decide +kernel), mg 75 (by decide +kernel) (by decide +kernel), ⟨by decide +kernel, by decide +kernel, by decide +kernel⟩, by decide⟩, mg 443 (by decide +kernel) (by decide +kernel), mg 21 (by decide +kernel) (by decide +kernel)⟩
def mX0_change : PM := (yX0_change, cX0_change, 5, some .int, 3)
theorem iX0_change : iOk mX0_change 3 := ⟨⟨by decide +kernel, mg 452 (by decide +kernel) (by decide +kernel), mg 75 (by decide +kernel) (by decide +kernel), ⟨by decide +kernel, by decide +kernel, by decide +kernel⟩, by decide⟩, mg 451 (by decide +kernel) (by decide +kernel), mg 22 (by decide +kernel) (by decide +kernel)⟩
def mX0_set : PM := (yX0_set, cX0_set, 4, none, 1)
theorem iX0_set : iOk mX0_set 3 := ⟨⟨by decide +kernel, mg 465 (by decide +kernel) (by decide +kernel), mg 75 (by decide +kernel) (by decide +kernel), ⟨by decide +kernel, by decide +kernel, by decide +kernel⟩, by decide⟩, mg 464 (by decide +kernel) (by decide +kernel), mg 24 (by decide +kernel) (by decide +kernel)⟩
def mX0_mayEverBe : PM := (yX0_mayEverBe, cX0_mayEverBe, 2, some .boolean, 2)
theorem jX0_mayEverBe : jOk mX0_mayEverBe 2 := ⟨⟨by decide +kernel, mg 456 (by decide +kernel) (by decide +kernel), mg 75 (by decide +kernel) (by decide +kernel), ⟨by decide +kernel, by decide +kernel, by decide +kernel⟩, by decide⟩, mg 455 (by decide +kernel) (by decide +kernel)⟩
def mX0_mayBe : PM := (yX0_mayBe, cX0_mayBe, 4, some .boolean, 1)
theorem iX0_mayBe : iOk mX0_mayBe 3 := ⟨⟨by decide +kernel, mg 460 (by decide +kernel) (by decide +kernel), mg 75 (by decide +kernel) (by decide +kernel), ⟨by decide +kernel, by decide +kernel, by decide +kernel⟩, by decide⟩, mg 459 (by decide +kernel) (by decide +kernel), mg 23 (by decide +kernel) (by decide +kernel)⟩
def mX0_append : PM := (yX0_append, cX0_append, 5, none, 1)
theorem iX0_append : iOk mX0_append 4 := ⟨⟨by decide +kernel, mg 390 (by decide +kernel) (by decide +kernel), mg 75 (by decide +kernel) (by decide +kernel), ⟨by decide +kernel, by decide +kernel, by decide +kernel⟩, by decide⟩, mg 389 (by decide +kernel) (by decide +kernel), mg 12 (by decide +kernel) (by decide +kernel)⟩
def mX0_copyOf : PM := (yX0_copyOf, cX0_copyOf, 3, none, 1)
theorem iX0_copyOf : iOk mX0_copyOf 1 := ⟨⟨by decide +kernel, mg 394 (by decide +kernel) (by decide +kernel), mg 75 (by decide +kernel) (by decide +kernel), ⟨by decide +kernel, by decide +kernel, by decide +kernel⟩, by decide⟩, mg 393 (by decide +kernel) (by decide +kernel), mg 13 (by decide +kernel) (by decide +kernel)⟩
def mX0_exchange : PM := (yX0_exchange, cX0_exchange, 3, none, 2)
theorem iX0_exchange : iOk mX0_exchange 2 := ⟨⟨by decide +kernel, mg 555 (by decide +kernel) (by decide +kernel), mg 75 (by decide +kernel) (by decide +kernel), ⟨by decide +kernel, by decide +kernel, by decide +kernel⟩, by decide⟩, mg 554 (by decide +kernel) (by decide +kernel), mg 32 (by decide +kernel) (by decide +kernel)⟩
def mX0_exchangeIn : PM := (yX0_exchangeIn, cX0_exchangeIn, 4, none, 1)
theorem jX0_exchangeIn : jOk mX0_exchangeIn 3 := ⟨⟨by decide +kernel, mg 558 (by decide +kernel) (by decide +kernel), mg 75 (by decide +kernel) (by decide +kernel), ⟨by decide +kernel, by decide +kernel, by decide +kernel⟩, by decide⟩, mg 557 (by decide +kernel) (by decide +kernel)⟩
def mX0_nextDigit : PM := (yX0_nextDigit, cX0_nextDigit, 3, some .int, 1)
theorem iX0_nextDigit : iOk mX0_nextDigit 1 := ⟨⟨by decide +kernel, mg 440 (by decide +kernel) (by decide +kernel), mg 75 (by decide +kernel) (by decide +kernel), ⟨by decide +kernel, by decide +kernel, by decide +kernel⟩, by decide⟩, mg 439 (by decide +kernel) (by decide +kernel), mg 20 (by decide +kernel) (by decide +kernel)⟩
def mX0_wouldCarry : PM := (yX0_wouldCarry, cX0_wouldCarry, 3, some .boolean, 1)
theorem iX0_wouldCarry : iOk mX0_wouldCarry 1 := ⟨⟨by decide +kernel, mg 427 (by decide +kernel) (by decide +kernel), mg 75 (by decide +kernel) (by decide +kernel), ⟨by decide +kernel, by decide +kernel, by decide +kernel⟩, by decide⟩, mg 426 (by decide +kernel) (by decide +kernel), mg 18 (by decide +kernel) (by decide +kernel)⟩
def mX0_turnFrom : PM := (yX0_turnFrom, cX0_turnFrom, 4, none, 2)
theorem iX0_turnFrom : iOk mX0_turnFrom 1 := ⟨⟨by decide +kernel, mg 482 (by decide +kernel) (by decide +kernel), mg 75 (by decide +kernel) (by decide +kernel), ⟨by decide +kernel, by decide +kernel, by decide +kernel⟩, by decide⟩, mg 481 (by decide +kernel) (by decide +kernel), mg 25 (by decide +kernel) (by decide +kernel)⟩
def mX0_pushOnce : PM := (yX0_pushOnce, cX0_pushOnce, 1, none, 3)
theorem iX0_pushOnce : iOk mX0_pushOnce 0 := ⟨⟨by decide +kernel, mg 500 (by decide +kernel) (by decide +kernel), mg 75 (by decide +kernel) (by decide +kernel), ⟨by decide +kernel, by decide +kernel, by decide +kernel⟩, by decide⟩, mg 499 (by decide +kernel) (by decide +kernel), mg 27 (by decide +kernel) (by decide +kernel)⟩
def mX0_push : PM := (yX0_push, cX0_push, 3, none, 4)
theorem iX0_push : iOk mX0_push 1 := ⟨⟨by decide +kernel, mg 496 (by decide +kernel) (by decide +kernel), mg 75 (by decide +kernel) (by decide +kernel), ⟨by decide +kernel, by decide +kernel, by decide +kernel⟩, by decide⟩, mg 495 (by decide +kernel) (by decide +kernel), mg 26 (by decide +kernel) (by decide +kernel)⟩
def mX0_takeDigitAndPush : PM := (yX0_takeDigitAndPush, cX0_takeDigitAndPush, 3, some .boolean, 4)
theorem iX0_takeDigitAndPush : iOk mX0_takeDigitAndPush 2 := ⟨⟨by decide +kernel, mg 687 (by decide +kernel) (by decide +kernel), mg 75 (by decide +kernel) (by decide +kernel), ⟨by decide +kernel, by decide +kernel, by decide +kernel⟩, by decide⟩, mg 686 (by decide +kernel) (by decide +kernel), mg 45 (by decide +kernel) (by decide +kernel)⟩
def mX0_reading : PM := (yX0_reading, cX0_reading, 4, some .int, 1)
theorem iX0_reading : iOk mX0_reading 0 := ⟨⟨by decide +kernel, mg 406 (by decide +kernel) (by decide +kernel), mg 75 (by decide +kernel) (by decide +kernel), ⟨by decide +kernel, by decide +kernel, by decide +kernel⟩, by decide⟩, mg 405 (by decide +kernel) (by decide +kernel), mg 14 (by decide +kernel) (by decide +kernel)⟩
def mX0_product : PM := (yX0_product, cX0_product, 3, some .int, 1)
theorem iX0_product : iOk mX0_product 0 := ⟨⟨by decide +kernel, mg 410 (by decide +kernel) (by decide +kernel), mg 75 (by decide +kernel) (by decide +kernel), ⟨by decide +kernel, by decide +kernel, by decide +kernel⟩, by decide⟩, mg 409 (by decide +kernel) (by decide +kernel), mg 15 (by decide +kernel) (by decide +kernel)⟩
def mX0_error : PM := (yX0_error, cX0_error, 3, some .int, 2)
theorem iX0_error : iOk mX0_error 0 := ⟨⟨by decide +kernel, mg 414 (by decide +kernel) (by decide +kernel), mg 75 (by decide +kernel) (by decide +kernel), ⟨by decide +kernel, by decide +kernel, by decide +kernel⟩, by decide⟩, mg 413 (by decide +kernel) (by decide +kernel), mg 16 (by decide +kernel) (by decide +kernel)⟩
def mX0_carrying : PM := (yX0_carrying, cX0_carrying, 3, some .int, 2)
theorem iX0_carrying : iOk mX0_carrying 0 := ⟨⟨by decide +kernel, mg 423 (by decide +kernel) (by decide +kernel), mg 75 (by decide +kernel) (by decide +kernel), ⟨by decide +kernel, by decide +kernel, by decide +kernel⟩, by decide⟩, mg 422 (by decide +kernel) (by decide +kernel), mg 17 (by decide +kernel) (by decide +kernel)⟩
def mX0_isAllZero : PM := (yX0_isAllZero, cX0_isAllZero, 2, some .boolean, 1)
theorem iX0_isAllZero : iOk mX0_isAllZero 0 := ⟨⟨by decide +kernel, mg 513 (by decide +kernel) (by decide +kernel), mg 75 (by decide +kernel) (by decide +kernel), ⟨by decide +kernel, by decide +kernel, by decide +kernel⟩, by decide⟩, mg 512 (by decide +kernel) (by decide +kernel), mg 28 (by decide +kernel) (by decide +kernel)⟩
def mX0_showsAs : PM := (yX0_showsAs, cX0_showsAs, 3, some .boolean, 1)
theorem iX0_showsAs : iOk mX0_showsAs 1 := ⟨⟨by decide +kernel, mg 534 (by decide +kernel) (by decide +kernel), mg 75 (by decide +kernel) (by decide +kernel), ⟨by decide +kernel, by decide +kernel, by decide +kernel⟩, by decide⟩, mg 533 (by decide +kernel) (by decide +kernel), mg 29 (by decide +kernel) (by decide +kernel)⟩
def mX0_teethInAll : PM := (yX0_teethInAll, cX0_teethInAll, 3, some .int, 1)
theorem iX0_teethInAll : iOk mX0_teethInAll 0 := ⟨⟨by decide +kernel, mg 701 (by decide +kernel) (by decide +kernel), mg 75 (by decide +kernel) (by decide +kernel), ⟨by decide +kernel, by decide +kernel, by decide +kernel⟩, by decide⟩, mg 700 (by decide +kernel) (by decide +kernel), mg 46 (by decide +kernel) (by decide +kernel)⟩
def mX0_brokenInAll : PM := (yX0_brokenInAll, cX0_brokenInAll, 3, some .int, 1)
theorem iX0_brokenInAll : iOk mX0_brokenInAll 0 := ⟨⟨by decide +kernel, mg 705 (by decide +kernel) (by decide +kernel), mg 75 (by decide +kernel) (by decide +kernel), ⟨by decide +kernel, by decide +kernel, by decide +kernel⟩, by decide⟩, mg 704 (by decide +kernel) (by decide +kernel), mg 47 (by decide +kernel) (by decide +kernel)⟩
def mX1_fits : PM := (yX1_fits, cX1_fits, 4, some .boolean, 4)
theorem iX1_fits : iOk mX1_fits 1 := ⟨⟨by decide +kernel, mg 612 (by decide +kernel) (by decide +kernel), mg 78 (by decide +kernel) (by decide +kernel), ⟨by decide +kernel, by decide +kernel, by decide +kernel⟩, by decide⟩, mg 611 (by decide +kernel) (by decide +kernel), mg 36 (by decide +kernel) (by decide +kernel)⟩
def mX1_isAgainst : PM := (yX1_isAgainst, cX1_isAgainst, 4, some .boolean, 2)
theorem iX1_isAgainst : iOk mX1_isAgainst 2 := ⟨⟨by decide +kernel, mg 617 (by decide +kernel) (by decide +kernel), mg 78 (by decide +kernel) (by decide +kernel), ⟨by decide +kernel, by decide +kernel, by decide +kernel⟩, by decide⟩, mg 616 (by decide +kernel) (by decide +kernel), mg 37 (by decide +kernel) (by decide +kernel)⟩
def mX2_renew : PM := (yX2_renew, cX2_renew, 4, none, 1)
theorem iX2_renew : iOk mX2_renew 2 := ⟨⟨by decide +kernel, mg 661 (by decide +kernel) (by decide +kernel), mg 79 (by decide +kernel) (by decide +kernel), ⟨by decide +kernel, by decide +kernel, by decide +kernel⟩, by decide⟩, mg 660 (by decide +kernel) (by decide +kernel), mg 41 (by decide +kernel) (by decide +kernel)⟩
def mX2_faultAt : PM := (yX2_faultAt, cX2_faultAt, 3, some .int, 2)
theorem iX2_faultAt : iOk mX2_faultAt 2 := ⟨⟨by decide +kernel, mg 669 (by decide +kernel) (by decide +kernel), mg 79 (by decide +kernel) (by decide +kernel), ⟨by decide +kernel, by decide +kernel, by decide +kernel⟩, by decide⟩, mg 668 (by decide +kernel) (by decide +kernel), mg 42 (by decide +kernel) (by decide +kernel)⟩
def mX2_faultAtPair : PM := (yX2_faultAtPair, cX2_faultAtPair, 4, some .int, 3)
theorem iX2_faultAtPair : iOk mX2_faultAtPair 2 := ⟨⟨by decide +kernel, mg 682 (by decide +kernel) (by decide +kernel), mg 79 (by decide +kernel) (by decide +kernel), ⟨by decide +kernel, by decide +kernel, by decide +kernel⟩, by decide⟩, mg 681 (by decide +kernel) (by decide +kernel), mg 44 (by decide +kernel) (by decide +kernel)⟩
def mX2_put : PM := (yX2_put, cX2_put, 3, none, 1)
theorem iX2_put : iOk mX2_put 2 := ⟨⟨by decide +kernel, mg 674 (by decide +kernel) (by decide +kernel), mg 79 (by decide +kernel) (by decide +kernel), ⟨by decide +kernel, by decide +kernel, by decide +kernel⟩, by decide⟩, mg 673 (by decide +kernel) (by decide +kernel), mg 43 (by decide +kernel) (by decide +kernel)⟩
def mX4_tell : PM := (yX4_tell, cX4_tell, 3, some .boolean, 9)
theorem iX4_tell : iOk mX4_tell 1 := ⟨⟨by decide +kernel, mg 288 (by decide +kernel) (by decide +kernel), mg 76 (by decide +kernel) (by decide +kernel), ⟨by decide +kernel, by decide +kernel, by decide +kernel⟩, by decide⟩, mg 287 (by decide +kernel) (by decide +kernel), mg 0 (by decide +kernel) (by decide +kernel)⟩
def mX4_tellLine : PM := (yX4_tellLine, cX4_tellLine, 3, some .boolean, 8)
theorem iX4_tellLine : iOk mX4_tellLine 1 := ⟨⟨by decide +kernel, mg 309 (by decide +kernel) (by decide +kernel), mg 76 (by decide +kernel) (by decide +kernel), ⟨by decide +kernel, by decide +kernel, by decide +kernel⟩, by decide⟩, mg 308 (by decide +kernel) (by decide +kernel), mg 5 (by decide +kernel) (by decide +kernel)⟩
def mX4_tellCount : PM := (yX4_tellCount, cX4_tellCount, 2, some .boolean, 5)
theorem iX4_tellCount : iOk mX4_tellCount 1 := ⟨⟨by decide +kernel, mg 366 (by decide +kernel) (by decide +kernel), mg 76 (by decide +kernel) (by decide +kernel), ⟨by decide +kernel, by decide +kernel, by decide +kernel⟩, by decide⟩, mg 365 (by decide +kernel) (by decide +kernel), mg 7 (by decide +kernel) (by decide +kernel)⟩
def mX4_tellWheel : PM := (yX4_tellWheel, cX4_tellWheel, 6, some .boolean, 5)
theorem iX4_tellWheel : iOk mX4_tellWheel 2 := ⟨⟨by decide +kernel, mg 386 (by decide +kernel) (by decide +kernel), mg 76 (by decide +kernel) (by decide +kernel), ⟨by decide +kernel, by decide +kernel, by decide +kernel⟩, by decide⟩, mg 385 (by decide +kernel) (by decide +kernel), mg 11 (by decide +kernel) (by decide +kernel)⟩
def mX4_nextNumber : PM := (yX4_nextNumber, cX4_nextNumber, 3, some .boolean, 4)
theorem iX4_nextNumber : iOk mX4_nextNumber 2 := ⟨⟨by decide +kernel, mg 370 (by decide +kernel) (by decide +kernel), mg 76 (by decide +kernel) (by decide +kernel), ⟨by decide +kernel, by decide +kernel, by decide +kernel⟩, by decide⟩, mg 369 (by decide +kernel) (by decide +kernel), mg 8 (by decide +kernel) (by decide +kernel)⟩
def mX4_lineEnds : PM := (yX4_lineEnds, cX4_lineEnds, 1, some .boolean, 2)
theorem iX4_lineEnds : iOk mX4_lineEnds 0 := ⟨⟨by decide +kernel, mg 374 (by decide +kernel) (by decide +kernel), mg 76 (by decide +kernel) (by decide +kernel), ⟨by decide +kernel, by decide +kernel, by decide +kernel⟩, by decide⟩, mg 373 (by decide +kernel) (by decide +kernel), mg 9 (by decide +kernel) (by decide +kernel)⟩
def mX4_nextToken : PM := (yX4_nextToken, cX4_nextToken, 2, some .boolean, 3)
theorem iX4_nextToken : iOk mX4_nextToken 0 := ⟨⟨by decide +kernel, mg 292 (by decide +kernel) (by decide +kernel), mg 76 (by decide +kernel) (by decide +kernel), ⟨by decide +kernel, by decide +kernel, by decide +kernel⟩, by decide⟩, mg 291 (by decide +kernel) (by decide +kernel), mg 1 (by decide +kernel) (by decide +kernel)⟩
def mX4_valueOfFigures : PM := (yX4_valueOfFigures, cX4_valueOfFigures, 3, some .int, 1)
theorem iX4_valueOfFigures : iOk mX4_valueOfFigures 0 := ⟨⟨by decide +kernel, mg 305 (by decide +kernel) (by decide +kernel), mg 76 (by decide +kernel) (by decide +kernel), ⟨by decide +kernel, by decide +kernel, by decide +kernel⟩, by decide⟩, mg 304 (by decide +kernel) (by decide +kernel), mg 4 (by decide +kernel) (by decide +kernel)⟩
def mX4_endOfRun : PM := (yX4_endOfRun, cX4_endOfRun, 4, some .int, 2)
theorem iX4_endOfRun : iOk mX4_endOfRun 2 := ⟨⟨by decide +kernel, mg 297 (by decide +kernel) (by decide +kernel), mg 76 (by decide +kernel) (by decide +kernel), ⟨by decide +kernel, by decide +kernel, by decide +kernel⟩, by decide⟩, mg 296 (by decide +kernel) (by decide +kernel), mg 2 (by decide +kernel) (by decide +kernel)⟩
def mX4_kindNamed : PM := (yX4_kindNamed, cX4_kindNamed, 1, some .int, 7)
theorem iX4_kindNamed : iOk mX4_kindNamed 0 := ⟨⟨by decide +kernel, mg 378 (by decide +kernel) (by decide +kernel), mg 76 (by decide +kernel) (by decide +kernel), ⟨by decide +kernel, by decide +kernel, by decide +kernel⟩, by decide⟩, mg 377 (by decide +kernel) (by decide +kernel), mg 10 (by decide +kernel) (by decide +kernel)⟩
def mX4_isName : PM := (yX4_isName, cX4_isName, 3, some .boolean, 6)
theorem iX4_isName : iOk mX4_isName 1 := ⟨⟨by decide +kernel, mg 314 (by decide +kernel) (by decide +kernel), mg 76 (by decide +kernel) (by decide +kernel), ⟨by decide +kernel, by decide +kernel, by decide +kernel⟩, by decide⟩, mg 313 (by decide +kernel) (by decide +kernel), mg 6 (by decide +kernel) (by decide +kernel)⟩
def mX4_fail : PM := (yX4_fail, cX4_fail, 2, some .boolean, 1)
theorem iX4_fail : iOk mX4_fail 1 := ⟨⟨by decide +kernel, mg 301 (by decide +kernel) (by decide +kernel), mg 76 (by decide +kernel) (by decide +kernel), ⟨by decide +kernel, by decide +kernel, by decide +kernel⟩, by decide⟩, mg 300 (by decide +kernel) (by decide +kernel), mg 3 (by decide +kernel) (by decide +kernel)⟩
def mX5_feed : PM := (yX5_feed, cX5_feed, 2, some .int, 2)
theorem iX5_feed : iOk mX5_feed 1 := ⟨⟨by decide +kernel, mg 273 (by decide +kernel) (by decide +kernel), mg 74 (by decide +kernel) (by decide +kernel), ⟨by decide +kernel, by decide +kernel, by decide +kernel⟩, by decide⟩, mg 271 (by decide +kernel) (by decide +kernel), mg 272 (by decide +kernel) (by decide +kernel)⟩
def mX5_end : PM := (yX5_end, cX5_end, 3, some .int, 2)
theorem iX5_end : iOk mX5_end 1 := ⟨⟨by decide +kernel, mg 280 (by decide +kernel) (by decide +kernel), mg 74 (by decide +kernel) (by decide +kernel), ⟨by decide +kernel, by decide +kernel, by decide +kernel⟩, by decide⟩, mg 278 (by decide +kernel) (by decide +kernel), mg 279 (by decide +kernel) (by decide +kernel)⟩
def mX5_text : PM := (yX5_text, cX5_text, 3, some .int, 10)
theorem iX5_text : iOk mX5_text 0 := ⟨⟨by decide +kernel, mg 284 (by decide +kernel) (by decide +kernel), mg 74 (by decide +kernel) (by decide +kernel), ⟨by decide +kernel, by decide +kernel, by decide +kernel⟩, by decide⟩, mg 282 (by decide +kernel) (by decide +kernel), mg 283 (by decide +kernel) (by decide +kernel)⟩
def mX5_fault : PM := (yX5_fault, cX5_fault, 1, some .int, 1)
theorem iX5_fault : iOk mX5_fault 0 := ⟨⟨by decide +kernel, mg 398 (by decide +kernel) (by decide +kernel), mg 74 (by decide +kernel) (by decide +kernel), ⟨by decide +kernel, by decide +kernel, by decide +kernel⟩, by decide⟩, mg 396 (by decide +kernel) (by decide +kernel), mg 397 (by decide +kernel) (by decide +kernel)⟩
def mX5_rule : PM := (yX5_rule, cX5_rule, 2, some .int, 3)
theorem iX5_rule : iOk mX5_rule 1 := ⟨⟨by decide +kernel, mg 402 (by decide +kernel) (by decide +kernel), mg 74 (by decide +kernel) (by decide +kernel), ⟨by decide +kernel, by decide +kernel, by decide +kernel⟩, by decide⟩, mg 400 (by decide +kernel) (by decide +kernel), mg 401 (by decide +kernel) (by decide +kernel)⟩
def mX5_wheel : PM := (yX5_wheel, cX5_wheel, 3, some .int, 3)
theorem iX5_wheel : iOk mX5_wheel 2 := ⟨⟨by decide +kernel, mg 431 (by decide +kernel) (by decide +kernel), mg 74 (by decide +kernel) (by decide +kernel), ⟨by decide +kernel, by decide +kernel, by decide +kernel⟩, by decide⟩, mg 429 (by decide +kernel) (by decide +kernel), mg 430 (by decide +kernel) (by decide +kernel)⟩
def mX5_alter : PM := (yX5_alter, cX5_alter, 4, some .int, 4)
theorem iX5_alter : iOk mX5_alter 3 := ⟨⟨by decide +kernel, mg 448 (by decide +kernel) (by decide +kernel), mg 74 (by decide +kernel) (by decide +kernel), ⟨by decide +kernel, by decide +kernel, by decide +kernel⟩, by decide⟩, mg 446 (by decide +kernel) (by decide +kernel), mg 447 (by decide +kernel) (by decide +kernel)⟩
def mX5_add : PM := (yX5_add, cX5_add, 3, some .int, 2)
theorem iX5_add : iOk mX5_add 2 := ⟨⟨by decide +kernel, mg 469 (by decide +kernel) (by decide +kernel), mg 74 (by decide +kernel) (by decide +kernel), ⟨by decide +kernel, by decide +kernel, by decide +kernel⟩, by decide⟩, mg 467 (by decide +kernel) (by decide +kernel), mg 468 (by decide +kernel) (by decide +kernel)⟩
def mX5_cut : PM := (yX5_cut, cX5_cut, 3, some .int, 2)
theorem iX5_cut : iOk mX5_cut 1 := ⟨⟨by decide +kernel, mg 474 (by decide +kernel) (by decide +kernel), mg 74 (by decide +kernel) (by decide +kernel), ⟨by decide +kernel, by decide +kernel, by decide +kernel⟩, by decide⟩, mg 472 (by decide +kernel) (by decide +kernel), mg 473 (by decide +kernel) (by decide +kernel)⟩
def mX5_turn : PM := (yX5_turn, cX5_turn, 2, some .int, 3)
theorem iX5_turn : iOk mX5_turn 1 := ⟨⟨by decide +kernel, mg 478 (by decide +kernel) (by decide +kernel), mg 74 (by decide +kernel) (by decide +kernel), ⟨by decide +kernel, by decide +kernel, by decide +kernel⟩, by decide⟩, mg 476 (by decide +kernel) (by decide +kernel), mg 477 (by decide +kernel) (by decide +kernel)⟩
def mX5_clear : PM := (yX5_clear, cX5_clear, 3, some .int, 2)
theorem iX5_clear : iOk mX5_clear 0 := ⟨⟨by decide +kernel, mg 487 (by decide +kernel) (by decide +kernel), mg 74 (by decide +kernel) (by decide +kernel), ⟨by decide +kernel, by decide +kernel, by decide +kernel⟩, by decide⟩, mg 485 (by decide +kernel) (by decide +kernel), mg 486 (by decide +kernel) (by decide +kernel)⟩
def mX5_pushes : PM := (yX5_pushes, cX5_pushes, 2, some .int, 5)
theorem iX5_pushes : iOk mX5_pushes 1 := ⟨⟨by decide +kernel, mg 491 (by decide +kernel) (by decide +kernel), mg 74 (by decide +kernel) (by decide +kernel), ⟨by decide +kernel, by decide +kernel, by decide +kernel⟩, by decide⟩, mg 489 (by decide +kernel) (by decide +kernel), mg 490 (by decide +kernel) (by decide +kernel)⟩
def mX5_runs : PM := (yX5_runs, cX5_runs, 6, some .int, 4)
theorem iX5_runs : iOk mX5_runs 2 := ⟨⟨by decide +kernel, mg 505 (by decide +kernel) (by decide +kernel), mg 74 (by decide +kernel) (by decide +kernel), ⟨by decide +kernel, by decide +kernel, by decide +kernel⟩, by decide⟩, mg 503 (by decide +kernel) (by decide +kernel), mg 504 (by decide +kernel) (by decide +kernel)⟩
def mX5_ahead : PM := (yX5_ahead, cX5_ahead, 3, some .int, 5)
theorem iX5_ahead : iOk mX5_ahead 2 := ⟨⟨by decide +kernel, mg 517 (by decide +kernel) (by decide +kernel), mg 74 (by decide +kernel) (by decide +kernel), ⟨by decide +kernel, by decide +kernel, by decide +kernel⟩, by decide⟩, mg 515 (by decide +kernel) (by decide +kernel), mg 516 (by decide +kernel) (by decide +kernel)⟩
def mX5_when : PM := (yX5_when, cX5_when, 3, some .int, 4)
theorem iX5_when : iOk mX5_when 1 := ⟨⟨by decide +kernel, mg 521 (by decide +kernel) (by decide +kernel), mg 74 (by decide +kernel) (by decide +kernel), ⟨by decide +kernel, by decide +kernel, by decide +kernel⟩, by decide⟩, mg 519 (by decide +kernel) (by decide +kernel), mg 520 (by decide +kernel) (by decide +kernel)⟩
def mX5_shows : PM := (yX5_shows, cX5_shows, 4, some .int, 4)
theorem iX5_shows : iOk mX5_shows 2 := ⟨⟨by decide +kernel, mg 526 (by decide +kernel) (by decide +kernel), mg 74 (by decide +kernel) (by decide +kernel), ⟨by decide +kernel, by decide +kernel, by decide +kernel⟩, by decide⟩, mg 524 (by decide +kernel) (by decide +kernel), mg 525 (by decide +kernel) (by decide +kernel)⟩
def mX5_again : PM := (yX5_again, cX5_again, 2, some .int, 4)
theorem iX5_again : iOk mX5_again 0 := ⟨⟨by decide +kernel, mg 530 (by decide +kernel) (by decide +kernel), mg 74 (by decide +kernel) (by decide +kernel), ⟨by decide +kernel, by decide +kernel, by decide +kernel⟩, by decide⟩, mg 528 (by decide +kernel) (by decide +kernel), mg 529 (by decide +kernel) (by decide +kernel)⟩
def mX5_mend : PM := (yX5_mend, cX5_mend, 7, some .int, 6)
theorem iX5_mend : iOk mX5_mend 2 := ⟨⟨by decide +kernel, mg 538 (by decide +kernel) (by decide +kernel), mg 74 (by decide +kernel) (by decide +kernel), ⟨by decide +kernel, by decide +kernel, by decide +kernel⟩, by decide⟩, mg 536 (by decide +kernel) (by decide +kernel), mg 537 (by decide +kernel) (by decide +kernel)⟩
def mX5_swap : PM := (yX5_swap, cX5_swap, 8, some .int, 6)
theorem iX5_swap : iOk mX5_swap 2 := ⟨⟨by decide +kernel, mg 551 (by decide +kernel) (by decide +kernel), mg 74 (by decide +kernel) (by decide +kernel), ⟨by decide +kernel, by decide +kernel, by decide +kernel⟩, by decide⟩, mg 549 (by decide +kernel) (by decide +kernel), mg 550 (by decide +kernel) (by decide +kernel)⟩
def mX5_kind : PM := (yX5_kind, cX5_kind, 4, some .int, 6)
theorem iX5_kind : iOk mX5_kind 3 := ⟨⟨by decide +kernel, mg 562 (by decide +kernel) (by decide +kernel), mg 74 (by decide +kernel) (by decide +kernel), ⟨by decide +kernel, by decide +kernel, by decide +kernel⟩, by decide⟩, mg 560 (by decide +kernel) (by decide +kernel), mg 561 (by decide +kernel) (by decide +kernel)⟩
def mX5_begin : PM := (yX5_begin, cX5_begin, 4, some .int, 6)
theorem iX5_begin : iOk mX5_begin 3 := ⟨⟨by decide +kernel, mg 571 (by decide +kernel) (by decide +kernel), mg 74 (by decide +kernel) (by decide +kernel), ⟨by decide +kernel, by decide +kernel, by decide +kernel⟩, by decide⟩, mg 569 (by decide +kernel) (by decide +kernel), mg 570 (by decide +kernel) (by decide +kernel)⟩
def mX5_file : PM := (yX5_file, cX5_file, 4, some .int, 6)
theorem iX5_file : iOk mX5_file 3 := ⟨⟨by decide +kernel, mg 575 (by decide +kernel) (by decide +kernel), mg 74 (by decide +kernel) (by decide +kernel), ⟨by decide +kernel, by decide +kernel, by decide +kernel⟩, by decide⟩, mg 573 (by decide +kernel) (by decide +kernel), mg 574 (by decide +kernel) (by decide +kernel)⟩
def mX5_luck : PM := (yX5_luck, cX5_luck, 11, some .long, 4)
theorem iX5_luck : iOk mX5_luck 5 := ⟨⟨by decide +kernel, mg 579 (by decide +kernel) (by decide +kernel), mg 74 (by decide +kernel) (by decide +kernel), ⟨by decide +kernel, by decide +kernel, by decide +kernel⟩, by decide⟩, mg 577 (by decide +kernel) (by decide +kernel), mg 578 (by decide +kernel) (by decide +kernel)⟩
def mX5_mean : PM := (yX5_mean, cX5_mean, 9, some .long, 4)
theorem iX5_mean : iOk mX5_mean 3 := ⟨⟨by decide +kernel, mg 592 (by decide +kernel) (by decide +kernel), mg 74 (by decide +kernel) (by decide +kernel), ⟨by decide +kernel, by decide +kernel, by decide +kernel⟩, by decide⟩, mg 590 (by decide +kernel) (by decide +kernel), mg 591 (by decide +kernel) (by decide +kernel)⟩
def mX5_see : PM := (yX5_see, cX5_see, 3, some .int, 2)
theorem iX5_see : iOk mX5_see 2 := ⟨⟨by decide +kernel, mg 596 (by decide +kernel) (by decide +kernel), mg 74 (by decide +kernel) (by decide +kernel), ⟨by decide +kernel, by decide +kernel, by decide +kernel⟩, by decide⟩, mg 594 (by decide +kernel) (by decide +kernel), mg 595 (by decide +kernel) (by decide +kernel)⟩
def mX5_forget : PM := (yX5_forget, cX5_forget, 3, some .int, 2)
theorem iX5_forget : iOk mX5_forget 1 := ⟨⟨by decide +kernel, mg 600 (by decide +kernel) (by decide +kernel), mg 74 (by decide +kernel) (by decide +kernel), ⟨by decide +kernel, by decide +kernel, by decide +kernel⟩, by decide⟩, mg 598 (by decide +kernel) (by decide +kernel), mg 599 (by decide +kernel) (by decide +kernel)⟩
def mX5_kinds : PM := (yX5_kinds, cX5_kinds, 4, some .int, 6)
theorem iX5_kinds : iOk mX5_kinds 1 := ⟨⟨by decide +kernel, mg 604 (by decide +kernel) (by decide +kernel), mg 74 (by decide +kernel) (by decide +kernel), ⟨by decide +kernel, by decide +kernel, by decide +kernel⟩, by decide⟩, mg 602 (by decide +kernel) (by decide +kernel), mg 603 (by decide +kernel) (by decide +kernel)⟩
def mX5_broken : PM := (yX5_broken, cX5_broken, 4, some .int, 6)
theorem iX5_broken : iOk mX5_broken 1 := ⟨⟨by decide +kernel, mg 623 (by decide +kernel) (by decide +kernel), mg 74 (by decide +kernel) (by decide +kernel), ⟨by decide +kernel, by decide +kernel, by decide +kernel⟩, by decide⟩, mg 621 (by decide +kernel) (by decide +kernel), mg 622 (by decide +kernel) (by decide +kernel)⟩
def mX5_ask : PM := (yX5_ask, cX5_ask, 8, some .int, 7)
theorem iX5_ask : iOk mX5_ask 2 := ⟨⟨by decide +kernel, mg 627 (by decide +kernel) (by decide +kernel), mg 74 (by decide +kernel) (by decide +kernel), ⟨by decide +kernel, by decide +kernel, by decide +kernel⟩, by decide⟩, mg 625 (by decide +kernel) (by decide +kernel), mg 626 (by decide +kernel) (by decide +kernel)⟩
def mX5_drift : PM := (yX5_drift, cX5_drift, 7, some .int, 3)
theorem iX5_drift : iOk mX5_drift 3 := ⟨⟨by decide +kernel, mg 644 (by decide +kernel) (by decide +kernel), mg 74 (by decide +kernel) (by decide +kernel), ⟨by decide +kernel, by decide +kernel, by decide +kernel⟩, by decide⟩, mg 642 (by decide +kernel) (by decide +kernel), mg 643 (by decide +kernel) (by decide +kernel)⟩
def mX5_keep : PM := (yX5_keep, cX5_keep, 3, some .int, 2)
theorem iX5_keep : iOk mX5_keep 1 := ⟨⟨by decide +kernel, mg 649 (by decide +kernel) (by decide +kernel), mg 74 (by decide +kernel) (by decide +kernel), ⟨by decide +kernel, by decide +kernel, by decide +kernel⟩, by decide⟩, mg 647 (by decide +kernel) (by decide +kernel), mg 648 (by decide +kernel) (by decide +kernel)⟩
def mX5_back : PM := (yX5_back, cX5_back, 2, some .int, 2)
theorem iX5_back : iOk mX5_back 1 := ⟨⟨by decide +kernel, mg 653 (by decide +kernel) (by decide +kernel), mg 74 (by decide +kernel) (by decide +kernel), ⟨by decide +kernel, by decide +kernel, by decide +kernel⟩, by decide⟩, mg 651 (by decide +kernel) (by decide +kernel), mg 652 (by decide +kernel) (by decide +kernel)⟩
def mX5_sheet : PM := (yX5_sheet, cX5_sheet, 4, some .int, 2)
theorem iX5_sheet : iOk mX5_sheet 3 := ⟨⟨by decide +kernel, mg 657 (by decide +kernel) (by decide +kernel), mg 74 (by decide +kernel) (by decide +kernel), ⟨by decide +kernel, by decide +kernel, by decide +kernel⟩, by decide⟩, mg 655 (by decide +kernel) (by decide +kernel), mg 656 (by decide +kernel) (by decide +kernel)⟩
def mX5_lay : PM := (yX5_lay, cX5_lay, 5, some .int, 3)
theorem iX5_lay : iOk mX5_lay 3 := ⟨⟨by decide +kernel, mg 665 (by decide +kernel) (by decide +kernel), mg 74 (by decide +kernel) (by decide +kernel), ⟨by decide +kernel, by decide +kernel, by decide +kernel⟩, by decide⟩, mg 663 (by decide +kernel) (by decide +kernel), mg 664 (by decide +kernel) (by decide +kernel)⟩
def mX5_read : PM := (yX5_read, cX5_read, 9, some .int, 5)
theorem iX5_read : iOk mX5_read 4 := ⟨⟨by decide +kernel, mg 678 (by decide +kernel) (by decide +kernel), mg 74 (by decide +kernel) (by decide +kernel), ⟨by decide +kernel, by decide +kernel, by decide +kernel⟩, by decide⟩, mg 676 (by decide +kernel) (by decide +kernel), mg 677 (by decide +kernel) (by decide +kernel)⟩
def mX5_torn : PM := (yX5_torn, cX5_torn, 1, some .int, 1)
theorem iX5_torn : iOk mX5_torn 0 := ⟨⟨by decide +kernel, mg 693 (by decide +kernel) (by decide +kernel), mg 74 (by decide +kernel) (by decide +kernel), ⟨by decide +kernel, by decide +kernel, by decide +kernel⟩, by decide⟩, mg 691 (by decide +kernel) (by decide +kernel), mg 692 (by decide +kernel) (by decide +kernel)⟩
def mX5_count : PM := (yX5_count, cX5_count, 2, some .int, 2)
theorem iX5_count : iOk mX5_count 1 := ⟨⟨by decide +kernel, mg 697 (by decide +kernel) (by decide +kernel), mg 74 (by decide +kernel) (by decide +kernel), ⟨by decide +kernel, by decide +kernel, by decide +kernel⟩, by decide⟩, mg 695 (by decide +kernel) (by decide +kernel), mg 696 (by decide +kernel) (by decide +kernel)⟩
def mX5_within : PM := (yX5_within, cX5_within, 3, some .boolean, 1)
theorem jX5_within : jOk mX5_within 3 := ⟨⟨by decide +kernel, mg 276 (by decide +kernel) (by decide +kernel), mg 74 (by decide +kernel) (by decide +kernel), ⟨by decide +kernel, by decide +kernel, by decide +kernel⟩, by decide⟩, mg 275 (by decide +kernel) (by decide +kernel)⟩
def mX5_tryPart : PM := (yX5_tryPart, cX5_tryPart, 4, none, 2)
theorem iX5_tryPart : iOk mX5_tryPart 3 := ⟨⟨by decide +kernel, mg 546 (by decide +kernel) (by decide +kernel), mg 74 (by decide +kernel) (by decide +kernel), ⟨by decide +kernel, by decide +kernel, by decide +kernel⟩, by decide⟩, mg 545 (by decide +kernel) (by decide +kernel), mg 31 (by decide +kernel) (by decide +kernel)⟩
def mX5_trialErrorBehind : PM := (yX5_trialErrorBehind, cX5_trialErrorBehind, 2, some .int, 5)
theorem iX5_trialErrorBehind : iOk mX5_trialErrorBehind 1 := ⟨⟨by decide +kernel, mg 542 (by decide +kernel) (by decide +kernel), mg 74 (by decide +kernel) (by decide +kernel), ⟨by decide +kernel, by decide +kernel, by decide +kernel⟩, by decide⟩, mg 541 (by decide +kernel) (by decide +kernel), mg 30 (by decide +kernel) (by decide +kernel)⟩
def mX5_bestPart : PM := (yX5_bestPart, cX5_bestPart, 10, some .int, 5)
theorem iX5_bestPart : iOk mX5_bestPart 4 := ⟨⟨by decide +kernel, mg 566 (by decide +kernel) (by decide +kernel), mg 74 (by decide +kernel) (by decide +kernel), ⟨by decide +kernel, by decide +kernel, by decide +kernel⟩, by decide⟩, mg 565 (by decide +kernel) (by decide +kernel), mg 33 (by decide +kernel) (by decide +kernel)⟩
def mX5_fitsWith : PM := (yX5_fitsWith, cX5_fitsWith, 4, some .boolean, 5)
theorem iX5_fitsWith : iOk mX5_fitsWith 3 := ⟨⟨by decide +kernel, mg 608 (by decide +kernel) (by decide +kernel), mg 74 (by decide +kernel) (by decide +kernel), ⟨by decide +kernel, by decide +kernel, by decide +kernel⟩, by decide⟩, mg 607 (by decide +kernel) (by decide +kernel), mg 35 (by decide +kernel) (by decide +kernel)⟩
def mX5_countWays : PM := (yX5_countWays, cX5_countWays, 7, some .long, 1)
theorem iX5_countWays : iOk mX5_countWays 2 := ⟨⟨by decide +kernel, mg 584 (by decide +kernel) (by decide +kernel), mg 74 (by decide +kernel) (by decide +kernel), ⟨by decide +kernel, by decide +kernel, by decide +kernel⟩, by decide⟩, mg 583 (by decide +kernel) (by decide +kernel), mg 34 (by decide +kernel) (by decide +kernel)⟩
def mX5_partOfFraction : PM := (yX5_partOfFraction, cX5_partOfFraction, 12, some .long, 1)
theorem jX5_partOfFraction : jOk mX5_partOfFraction 3 := ⟨⟨by decide +kernel, mg 588 (by decide +kernel) (by decide +kernel), mg 74 (by decide +kernel) (by decide +kernel), ⟨by decide +kernel, by decide +kernel, by decide +kernel⟩, by decide⟩, mg 587 (by decide +kernel) (by decide +kernel)⟩
def mX5_listTeethLeft : PM := (yX5_listTeethLeft, cX5_listTeethLeft, 4, some .int, 1)
theorem iX5_listTeethLeft : iOk mX5_listTeethLeft 1 := ⟨⟨by decide +kernel, mg 632 (by decide +kernel) (by decide +kernel), mg 74 (by decide +kernel) (by decide +kernel), ⟨by decide +kernel, by decide +kernel, by decide +kernel⟩, by decide⟩, mg 631 (by decide +kernel) (by decide +kernel), mg 38 (by decide +kernel) (by decide +kernel)⟩
def mX5_fillReadings : PM := (yX5_fillReadings, cX5_fillReadings, 5, none, 4)
theorem iX5_fillReadings : iOk mX5_fillReadings 3 := ⟨⟨by decide +kernel, mg 636 (by decide +kernel) (by decide +kernel), mg 74 (by decide +kernel) (by decide +kernel), ⟨by decide +kernel, by decide +kernel, by decide +kernel⟩, by decide⟩, mg 635 (by decide +kernel) (by decide +kernel), mg 39 (by decide +kernel) (by decide +kernel)⟩
def mX5_mostAlike : PM := (yX5_mostAlike, cX5_mostAlike, 7, some .int, 2)
theorem iX5_mostAlike : iOk mX5_mostAlike 2 := ⟨⟨by decide +kernel, mg 640 (by decide +kernel) (by decide +kernel), mg 74 (by decide +kernel) (by decide +kernel), ⟨by decide +kernel, by decide +kernel, by decide +kernel⟩, by decide⟩, mg 639 (by decide +kernel) (by decide +kernel), mg 40 (by decide +kernel) (by decide +kernel)⟩
def mX6_in : PM := (yX6_in, cX6_in, 6, some .boolean, 1)
theorem jX6_in : jOk mX6_in 3 := ⟨⟨by decide +kernel, mg 795 (by decide +kernel) (by decide +kernel), mg 80 (by decide +kernel) (by decide +kernel), ⟨by decide +kernel, by decide +kernel, by decide +kernel⟩, by decide⟩, mg 794 (by decide +kernel) (by decide +kernel)⟩
def mX6_feed : PM := (yX6_feed, cX6_feed, 2, some .int, 2)
theorem iX6_feed : iOk mX6_feed 1 := ⟨⟨by decide +kernel, mg 791 (by decide +kernel) (by decide +kernel), mg 80 (by decide +kernel) (by decide +kernel), ⟨by decide +kernel, by decide +kernel, by decide +kernel⟩, by decide⟩, mg 789 (by decide +kernel) (by decide +kernel), mg 790 (by decide +kernel) (by decide +kernel)⟩
def mX6_end : PM := (yX6_end, cX6_end, 3, some .int, 2)
theorem iX6_end : iOk mX6_end 1 := ⟨⟨by decide +kernel, mg 799 (by decide +kernel) (by decide +kernel), mg 80 (by decide +kernel) (by decide +kernel), ⟨by decide +kernel, by decide +kernel, by decide +kernel⟩, by decide⟩, mg 797 (by decide +kernel) (by decide +kernel), mg 798 (by decide +kernel) (by decide +kernel)⟩
def mX6_byteAt : PM := (yX6_byteAt, cX6_byteAt, 2, some .int, 1)
theorem iX6_byteAt : iOk mX6_byteAt 1 := ⟨⟨by decide +kernel, mg 811 (by decide +kernel) (by decide +kernel), mg 80 (by decide +kernel) (by decide +kernel), ⟨by decide +kernel, by decide +kernel, by decide +kernel⟩, by decide⟩, mg 810 (by decide +kernel) (by decide +kernel), mg 49 (by decide +kernel) (by decide +kernel)⟩
def mX6_fails : PM := (yX6_fails, cX6_fails, 2, none, 1)
theorem iX6_fails : iOk mX6_fails 1 := ⟨⟨by decide +kernel, mg 819 (by decide +kernel) (by decide +kernel), mg 80 (by decide +kernel) (by decide +kernel), ⟨by decide +kernel, by decide +kernel, by decide +kernel⟩, by decide⟩, mg 818 (by decide +kernel) (by decide +kernel), mg 50 (by decide +kernel) (by decide +kernel)⟩
def mX6_nameHere : PM := (yX6_nameHere, cX6_nameHere, 4, some .int, 2)
theorem iX6_nameHere : iOk mX6_nameHere 0 := ⟨⟨by decide +kernel, mg 827 (by decide +kernel) (by decide +kernel), mg 80 (by decide +kernel) (by decide +kernel), ⟨by decide +kernel, by decide +kernel, by decide +kernel⟩, by decide⟩, mg 826 (by decide +kernel) (by decide +kernel), mg 52 (by decide +kernel) (by decide +kernel)⟩
def mX6_step : PM := (yX6_step, cX6_step, 2, none, 2)
theorem iX6_step : iOk mX6_step 0 := ⟨⟨by decide +kernel, mg 807 (by decide +kernel) (by decide +kernel), mg 80 (by decide +kernel) (by decide +kernel), ⟨by decide +kernel, by decide +kernel, by decide +kernel⟩, by decide⟩, mg 806 (by decide +kernel) (by decide +kernel), mg 48 (by decide +kernel) (by decide +kernel)⟩
def mX6_number : PM := (yX6_number, cX6_number, 4, some .int, 3)
theorem iX6_number : iOk mX6_number 2 := ⟨⟨by decide +kernel, mg 836 (by decide +kernel) (by decide +kernel), mg 80 (by decide +kernel) (by decide +kernel), ⟨by decide +kernel, by decide +kernel, by decide +kernel⟩, by decide⟩, mg 835 (by decide +kernel) (by decide +kernel), mg 54 (by decide +kernel) (by decide +kernel)⟩
def mX6_readMore : PM := (yX6_readMore, cX6_readMore, 4, none, 4)
theorem iX6_readMore : iOk mX6_readMore 1 := ⟨⟨by decide +kernel, mg 832 (by decide +kernel) (by decide +kernel), mg 80 (by decide +kernel) (by decide +kernel), ⟨by decide +kernel, by decide +kernel, by decide +kernel⟩, by decide⟩, mg 831 (by decide +kernel) (by decide +kernel), mg 53 (by decide +kernel) (by decide +kernel)⟩
def mX6_readLine : PM := (yX6_readLine, cX6_readLine, 2, none, 5)
theorem iX6_readLine : iOk mX6_readLine 0 := ⟨⟨by decide +kernel, mg 823 (by decide +kernel) (by decide +kernel), mg 80 (by decide +kernel) (by decide +kernel), ⟨by decide +kernel, by decide +kernel, by decide +kernel⟩, by decide⟩, mg 822 (by decide +kernel) (by decide +kernel), mg 51 (by decide +kernel) (by decide +kernel)⟩
def mX6_text : PM := (yX6_text, cX6_text, 3, some .int, 6)
theorem iX6_text : iOk mX6_text 0 := ⟨⟨by decide +kernel, mg 803 (by decide +kernel) (by decide +kernel), mg 80 (by decide +kernel) (by decide +kernel), ⟨by decide +kernel, by decide +kernel, by decide +kernel⟩, by decide⟩, mg 801 (by decide +kernel) (by decide +kernel), mg 802 (by decide +kernel) (by decide +kernel)⟩
def mX6_fault : PM := (yX6_fault, cX6_fault, 1, some .int, 1)
theorem iX6_fault : iOk mX6_fault 0 := ⟨⟨by decide +kernel, mg 840 (by decide +kernel) (by decide +kernel), mg 80 (by decide +kernel) (by decide +kernel), ⟨by decide +kernel, by decide +kernel, by decide +kernel⟩, by decide⟩, mg 838 (by decide +kernel) (by decide +kernel), mg 839 (by decide +kernel) (by decide +kernel)⟩
def mX6_isWheel : PM := (yX6_isWheel, cX6_isWheel, 2, some .boolean, 2)
theorem iX6_isWheel : iOk mX6_isWheel 1 := ⟨⟨by decide +kernel, mg 868 (by decide +kernel) (by decide +kernel), mg 80 (by decide +kernel) (by decide +kernel), ⟨by decide +kernel, by decide +kernel, by decide +kernel⟩, by decide⟩, mg 867 (by decide +kernel) (by decide +kernel), mg 59 (by decide +kernel) (by decide +kernel)⟩
def mX6_isDigit : PM := (yX6_isDigit, cX6_isDigit, 1, some .boolean, 2)
theorem jX6_isDigit : jOk mX6_isDigit 1 := ⟨⟨by decide +kernel, mg 886 (by decide +kernel) (by decide +kernel), mg 80 (by decide +kernel) (by decide +kernel), ⟨by decide +kernel, by decide +kernel, by decide +kernel⟩, by decide⟩, mg 885 (by decide +kernel) (by decide +kernel)⟩
def mX6_isReading : PM := (yX6_isReading, cX6_isReading, 1, some .boolean, 2)
theorem jX6_isReading : jOk mX6_isReading 1 := ⟨⟨by decide +kernel, mg 940 (by decide +kernel) (by decide +kernel), mg 80 (by decide +kernel) (by decide +kernel), ⟨by decide +kernel, by decide +kernel, by decide +kernel⟩, by decide⟩, mg 939 (by decide +kernel) (by decide +kernel)⟩
def mX6_turnsOn : PM := (yX6_turnsOn, cX6_turnsOn, 6, some .int, 1)
theorem iX6_turnsOn : iOk mX6_turnsOn 2 := ⟨⟨by decide +kernel, mg 872 (by decide +kernel) (by decide +kernel), mg 80 (by decide +kernel) (by decide +kernel), ⟨by decide +kernel, by decide +kernel, by decide +kernel⟩, by decide⟩, mg 871 (by decide +kernel) (by decide +kernel), mg 60 (by decide +kernel) (by decide +kernel)⟩
def mX6_carriesOn : PM := (yX6_carriesOn, cX6_carriesOn, 7, some .boolean, 1)
theorem iX6_carriesOn : iOk mX6_carriesOn 2 := ⟨⟨by decide +kernel, mg 848 (by decide +kernel) (by decide +kernel), mg 80 (by decide +kernel) (by decide +kernel), ⟨by decide +kernel, by decide +kernel, by decide +kernel⟩, by decide⟩, mg 847 (by decide +kernel) (by decide +kernel), mg 55 (by decide +kernel) (by decide +kernel)⟩
def mX6_turnedOn : PM := (yX6_turnedOn, cX6_turnedOn, 5, none, 2)
theorem iX6_turnedOn : iOk mX6_turnedOn 2 := ⟨⟨by decide +kernel, mg 903 (by decide +kernel) (by decide +kernel), mg 80 (by decide +kernel) (by decide +kernel), ⟨by decide +kernel, by decide +kernel, by decide +kernel⟩, by decide⟩, mg 902 (by decide +kernel) (by decide +kernel), mg 62 (by decide +kernel) (by decide +kernel)⟩
def mX6_pushOn : PM := (yX6_pushOn, cX6_pushOn, 2, none, 3)
theorem iX6_pushOn : iOk mX6_pushOn 1 := ⟨⟨by decide +kernel, mg 917 (by decide +kernel) (by decide +kernel), mg 80 (by decide +kernel) (by decide +kernel), ⟨by decide +kernel, by decide +kernel, by decide +kernel⟩, by decide⟩, mg 916 (by decide +kernel) (by decide +kernel), mg 63 (by decide +kernel) (by decide +kernel)⟩
def mX6_allOn : PM := (yX6_allOn, cX6_allOn, 4, some .int, 1)
theorem iX6_allOn : iOk mX6_allOn 1 := ⟨⟨by decide +kernel, mg 856 (by decide +kernel) (by decide +kernel), mg 80 (by decide +kernel) (by decide +kernel), ⟨by decide +kernel, by decide +kernel, by decide +kernel⟩, by decide⟩, mg 855 (by decide +kernel) (by decide +kernel), mg 57 (by decide +kernel) (by decide +kernel)⟩
def mX6_readsOn : PM := (yX6_readsOn, cX6_readsOn, 5, some .int, 1)
theorem iX6_readsOn : iOk mX6_readsOn 1 := ⟨⟨by decide +kernel, mg 852 (by decide +kernel) (by decide +kernel), mg 80 (by decide +kernel) (by decide +kernel), ⟨by decide +kernel, by decide +kernel, by decide +kernel⟩, by decide⟩, mg 851 (by decide +kernel) (by decide +kernel), mg 56 (by decide +kernel) (by decide +kernel)⟩
def mX6_errorOn : PM := (yX6_errorOn, cX6_errorOn, 3, some .int, 2)
theorem iX6_errorOn : iOk mX6_errorOn 1 := ⟨⟨by decide +kernel, mg 860 (by decide +kernel) (by decide +kernel), mg 80 (by decide +kernel) (by decide +kernel), ⟨by decide +kernel, by decide +kernel, by decide +kernel⟩, by decide⟩, mg 859 (by decide +kernel) (by decide +kernel), mg 58 (by decide +kernel) (by decide +kernel)⟩
def mX6_rule : PM := (yX6_rule, cX6_rule, 4, some .int, 3)
theorem iX6_rule : iOk mX6_rule 1 := ⟨⟨by decide +kernel, mg 844 (by decide +kernel) (by decide +kernel), mg 80 (by decide +kernel) (by decide +kernel), ⟨by decide +kernel, by decide +kernel, by decide +kernel⟩, by decide⟩, mg 842 (by decide +kernel) (by decide +kernel), mg 843 (by decide +kernel) (by decide +kernel)⟩
def mX6_wheel : PM := (yX6_wheel, cX6_wheel, 3, some .int, 3)
theorem iX6_wheel : iOk mX6_wheel 2 := ⟨⟨by decide +kernel, mg 864 (by decide +kernel) (by decide +kernel), mg 80 (by decide +kernel) (by decide +kernel), ⟨by decide +kernel, by decide +kernel, by decide +kernel⟩, by decide⟩, mg 862 (by decide +kernel) (by decide +kernel), mg 863 (by decide +kernel) (by decide +kernel)⟩
def mX6_alters : PM := (yX6_alters, cX6_alters, 10, some .int, 3)
theorem iX6_alters : iOk mX6_alters 3 := ⟨⟨by decide +kernel, mg 880 (by decide +kernel) (by decide +kernel), mg 80 (by decide +kernel) (by decide +kernel), ⟨by decide +kernel, by decide +kernel, by decide +kernel⟩, by decide⟩, mg 879 (by decide +kernel) (by decide +kernel), mg 61 (by decide +kernel) (by decide +kernel)⟩
def mX6_alter : PM := (yX6_alter, cX6_alter, 4, some .int, 4)
theorem iX6_alter : iOk mX6_alter 3 := ⟨⟨by decide +kernel, mg 876 (by decide +kernel) (by decide +kernel), mg 80 (by decide +kernel) (by decide +kernel), ⟨by decide +kernel, by decide +kernel, by decide +kernel⟩, by decide⟩, mg 874 (by decide +kernel) (by decide +kernel), mg 875 (by decide +kernel) (by decide +kernel)⟩
def mX6_add : PM := (yX6_add, cX6_add, 4, some .int, 2)
theorem iX6_add : iOk mX6_add 2 := ⟨⟨by decide +kernel, mg 891 (by decide +kernel) (by decide +kernel), mg 80 (by decide +kernel) (by decide +kernel), ⟨by decide +kernel, by decide +kernel, by decide +kernel⟩, by decide⟩, mg 889 (by decide +kernel) (by decide +kernel), mg 890 (by decide +kernel) (by decide +kernel)⟩
def mX6_cut : PM := (yX6_cut, cX6_cut, 3, some .int, 2)
theorem iX6_cut : iOk mX6_cut 1 := ⟨⟨by decide +kernel, mg 895 (by decide +kernel) (by decide +kernel), mg 80 (by decide +kernel) (by decide +kernel), ⟨by decide +kernel, by decide +kernel, by decide +kernel⟩, by decide⟩, mg 893 (by decide +kernel) (by decide +kernel), mg 894 (by decide +kernel) (by decide +kernel)⟩
def mX6_turn : PM := (yX6_turn, cX6_turn, 2, some .int, 3)
theorem iX6_turn : iOk mX6_turn 1 := ⟨⟨by decide +kernel, mg 899 (by decide +kernel) (by decide +kernel), mg 80 (by decide +kernel) (by decide +kernel), ⟨by decide +kernel, by decide +kernel, by decide +kernel⟩, by decide⟩, mg 897 (by decide +kernel) (by decide +kernel), mg 898 (by decide +kernel) (by decide +kernel)⟩
def mX6_clear : PM := (yX6_clear, cX6_clear, 3, some .int, 2)
theorem iX6_clear : iOk mX6_clear 0 := ⟨⟨by decide +kernel, mg 907 (by decide +kernel) (by decide +kernel), mg 80 (by decide +kernel) (by decide +kernel), ⟨by decide +kernel, by decide +kernel, by decide +kernel⟩, by decide⟩, mg 905 (by decide +kernel) (by decide +kernel), mg 906 (by decide +kernel) (by decide +kernel)⟩
def mX6_pushes : PM := (yX6_pushes, cX6_pushes, 3, some .int, 4)
theorem iX6_pushes : iOk mX6_pushes 1 := ⟨⟨by decide +kernel, mg 911 (by decide +kernel) (by decide +kernel), mg 80 (by decide +kernel) (by decide +kernel), ⟨by decide +kernel, by decide +kernel, by decide +kernel⟩, by decide⟩, mg 909 (by decide +kernel) (by decide +kernel), mg 910 (by decide +kernel) (by decide +kernel)⟩
def mX6_copies : PM := (yX6_copies, cX6_copies, 4, none, 1)
theorem iX6_copies : iOk mX6_copies 2 := ⟨⟨by decide +kernel, mg 929 (by decide +kernel) (by decide +kernel), mg 80 (by decide +kernel) (by decide +kernel), ⟨by decide +kernel, by decide +kernel, by decide +kernel⟩, by decide⟩, mg 928 (by decide +kernel) (by decide +kernel), mg 65 (by decide +kernel) (by decide +kernel)⟩
def mX6_pushesGo : PM := (yX6_pushesGo, cX6_pushesGo, 5, some .int, 4)
theorem iX6_pushesGo : iOk mX6_pushesGo 2 := ⟨⟨by decide +kernel, mg 925 (by decide +kernel) (by decide +kernel), mg 80 (by decide +kernel) (by decide +kernel), ⟨by decide +kernel, by decide +kernel, by decide +kernel⟩, by decide⟩, mg 924 (by decide +kernel) (by decide +kernel), mg 64 (by decide +kernel) (by decide +kernel)⟩
def mX6_runs : PM := (yX6_runs, cX6_runs, 4, some .int, 5)
theorem iX6_runs : iOk mX6_runs 2 := ⟨⟨by decide +kernel, mg 921 (by decide +kernel) (by decide +kernel), mg 80 (by decide +kernel) (by decide +kernel), ⟨by decide +kernel, by decide +kernel, by decide +kernel⟩, by decide⟩, mg 919 (by decide +kernel) (by decide +kernel), mg 920 (by decide +kernel) (by decide +kernel)⟩
def mX6_ahead : PM := (yX6_ahead, cX6_ahead, 3, some .int, 5)
theorem iX6_ahead : iOk mX6_ahead 2 := ⟨⟨by decide +kernel, mg 933 (by decide +kernel) (by decide +kernel), mg 80 (by decide +kernel) (by decide +kernel), ⟨by decide +kernel, by decide +kernel, by decide +kernel⟩, by decide⟩, mg 931 (by decide +kernel) (by decide +kernel), mg 932 (by decide +kernel) (by decide +kernel)⟩
def mX6_firstTime : PM := (yX6_firstTime, cX6_firstTime, 6, some .int, 4)
theorem iX6_firstTime : iOk mX6_firstTime 3 := ⟨⟨by decide +kernel, mg 945 (by decide +kernel) (by decide +kernel), mg 80 (by decide +kernel) (by decide +kernel), ⟨by decide +kernel, by decide +kernel, by decide +kernel⟩, by decide⟩, mg 944 (by decide +kernel) (by decide +kernel), mg 66 (by decide +kernel) (by decide +kernel)⟩
def mX6_when : PM := (yX6_when, cX6_when, 2, some .int, 5)
theorem iX6_when : iOk mX6_when 1 := ⟨⟨by decide +kernel, mg 937 (by decide +kernel) (by decide +kernel), mg 80 (by decide +kernel) (by decide +kernel), ⟨by decide +kernel, by decide +kernel, by decide +kernel⟩, by decide⟩, mg 935 (by decide +kernel) (by decide +kernel), mg 936 (by decide +kernel) (by decide +kernel)⟩
def mX6_shows : PM := (yX6_shows, cX6_shows, 3, some .int, 5)
theorem iX6_shows : iOk mX6_shows 2 := ⟨⟨by decide +kernel, mg 949 (by decide +kernel) (by decide +kernel), mg 80 (by decide +kernel) (by decide +kernel), ⟨by decide +kernel, by decide +kernel, by decide +kernel⟩, by decide⟩, mg 947 (by decide +kernel) (by decide +kernel), mg 948 (by decide +kernel) (by decide +kernel)⟩
def mX6_again : PM := (yX6_again, cX6_again, 1, some .int, 5)
theorem iX6_again : iOk mX6_again 0 := ⟨⟨by decide +kernel, mg 953 (by decide +kernel) (by decide +kernel), mg 80 (by decide +kernel) (by decide +kernel), ⟨by decide +kernel, by decide +kernel, by decide +kernel⟩, by decide⟩, mg 951 (by decide +kernel) (by decide +kernel), mg 952 (by decide +kernel) (by decide +kernel)⟩
def mX6_errorBehind : PM := (yX6_errorBehind, cX6_errorBehind, 3, some .int, 5)
theorem iX6_errorBehind : iOk mX6_errorBehind 2 := ⟨⟨by decide +kernel, mg 962 (by decide +kernel) (by decide +kernel), mg 80 (by decide +kernel) (by decide +kernel), ⟨by decide +kernel, by decide +kernel, by decide +kernel⟩, by decide⟩, mg 961 (by decide +kernel) (by decide +kernel), mg 67 (by decide +kernel) (by decide +kernel)⟩
def mX6_mend : PM := (yX6_mend, cX6_mend, 7, some .int, 6)
theorem iX6_mend : iOk mX6_mend 2 := ⟨⟨by decide +kernel, mg 957 (by decide +kernel) (by decide +kernel), mg 80 (by decide +kernel) (by decide +kernel), ⟨by decide +kernel, by decide +kernel, by decide +kernel⟩, by decide⟩, mg 955 (by decide +kernel) (by decide +kernel), mg 956 (by decide +kernel) (by decide +kernel)⟩
def mX6_swap : PM := (yX6_swap, cX6_swap, 8, some .int, 6)
theorem iX6_swap : iOk mX6_swap 2 := ⟨⟨by decide +kernel, mg 966 (by decide +kernel) (by decide +kernel), mg 80 (by decide +kernel) (by decide +kernel), ⟨by decide +kernel, by decide +kernel, by decide +kernel⟩, by decide⟩, mg 964 (by decide +kernel) (by decide +kernel), mg 965 (by decide +kernel) (by decide +kernel)⟩
def mX6_leastAt : PM := (yX6_leastAt, cX6_leastAt, 11, some .int, 6)
theorem iX6_leastAt : iOk mX6_leastAt 6 := ⟨⟨by decide +kernel, mg 974 (by decide +kernel) (by decide +kernel), mg 80 (by decide +kernel) (by decide +kernel), ⟨by decide +kernel, by decide +kernel, by decide +kernel⟩, by decide⟩, mg 973 (by decide +kernel) (by decide +kernel), mg 68 (by decide +kernel) (by decide +kernel)⟩
def mX6_kind : PM := (yX6_kind, cX6_kind, 4, some .int, 7)
theorem iX6_kind : iOk mX6_kind 3 := ⟨⟨by decide +kernel, mg 970 (by decide +kernel) (by decide +kernel), mg 80 (by decide +kernel) (by decide +kernel), ⟨by decide +kernel, by decide +kernel, by decide +kernel⟩, by decide⟩, mg 968 (by decide +kernel) (by decide +kernel), mg 969 (by decide +kernel) (by decide +kernel)⟩
def mX6_begin : PM := (yX6_begin, cX6_begin, 4, some .int, 7)
theorem iX6_begin : iOk mX6_begin 3 := ⟨⟨by decide +kernel, mg 979 (by decide +kernel) (by decide +kernel), mg 80 (by decide +kernel) (by decide +kernel), ⟨by decide +kernel, by decide +kernel, by decide +kernel⟩, by decide⟩, mg 977 (by decide +kernel) (by decide +kernel), mg 978 (by decide +kernel) (by decide +kernel)⟩
def mX6_file : PM := (yX6_file, cX6_file, 4, some .int, 7)
theorem iX6_file : iOk mX6_file 3 := ⟨⟨by decide +kernel, mg 983 (by decide +kernel) (by decide +kernel), mg 80 (by decide +kernel) (by decide +kernel), ⟨by decide +kernel, by decide +kernel, by decide +kernel⟩, by decide⟩, mg 981 (by decide +kernel) (by decide +kernel), mg 982 (by decide +kernel) (by decide +kernel)⟩
def mX6_lowest : PM := (yX6_lowest, cX6_lowest, 11, some .long, 1)
theorem jX6_lowest : jOk mX6_lowest 3 := ⟨⟨by decide +kernel, mg 996 (by decide +kernel) (by decide +kernel), mg 80 (by decide +kernel) (by decide +kernel), ⟨by decide +kernel, by decide +kernel, by decide +kernel⟩, by decide⟩, mg 995 (by decide +kernel) (by decide +kernel)⟩
def mX6_byMisses : PM := (yX6_byMisses, cX6_byMisses, 15, some .long, 4)
theorem iX6_byMisses : iOk mX6_byMisses 5 := ⟨⟨by decide +kernel, mg 993 (by decide +kernel) (by decide +kernel), mg 80 (by decide +kernel) (by decide +kernel), ⟨by decide +kernel, by decide +kernel, by decide +kernel⟩, by decide⟩, mg 992 (by decide +kernel) (by decide +kernel), mg 69 (by decide +kernel) (by decide +kernel)⟩
def mX6_luck : PM := (yX6_luck, cX6_luck, 6, some .long, 5)
theorem iX6_luck : iOk mX6_luck 5 := ⟨⟨by decide +kernel, mg 987 (by decide +kernel) (by decide +kernel), mg 80 (by decide +kernel) (by decide +kernel), ⟨by decide +kernel, by decide +kernel, by decide +kernel⟩, by decide⟩, mg 985 (by decide +kernel) (by decide +kernel), mg 986 (by decide +kernel) (by decide +kernel)⟩
def mX6_mean : PM := (yX6_mean, cX6_mean, 4, some .long, 5)
theorem iX6_mean : iOk mX6_mean 3 := ⟨⟨by decide +kernel, mg 1001 (by decide +kernel) (by decide +kernel), mg 80 (by decide +kernel) (by decide +kernel), ⟨by decide +kernel, by decide +kernel, by decide +kernel⟩, by decide⟩, mg 999 (by decide +kernel) (by decide +kernel), mg 1000 (by decide +kernel) (by decide +kernel)⟩
def mX6_see : PM := (yX6_see, cX6_see, 3, some .int, 3)
theorem iX6_see : iOk mX6_see 2 := ⟨⟨by decide +kernel, mg 1005 (by decide +kernel) (by decide +kernel), mg 80 (by decide +kernel) (by decide +kernel), ⟨by decide +kernel, by decide +kernel, by decide +kernel⟩, by decide⟩, mg 1003 (by decide +kernel) (by decide +kernel), mg 1004 (by decide +kernel) (by decide +kernel)⟩
def mX6_forget : PM := (yX6_forget, cX6_forget, 3, some .int, 2)
theorem iX6_forget : iOk mX6_forget 1 := ⟨⟨by decide +kernel, mg 1009 (by decide +kernel) (by decide +kernel), mg 80 (by decide +kernel) (by decide +kernel), ⟨by decide +kernel, by decide +kernel, by decide +kernel⟩, by decide⟩, mg 1007 (by decide +kernel) (by decide +kernel), mg 1008 (by decide +kernel) (by decide +kernel)⟩
def mX6_isAsSeen : PM := (yX6_isAsSeen, cX6_isAsSeen, 6, some .boolean, 4)
theorem iX6_isAsSeen : iOk mX6_isAsSeen 1 := ⟨⟨by decide +kernel, mg 1017 (by decide +kernel) (by decide +kernel), mg 80 (by decide +kernel) (by decide +kernel), ⟨by decide +kernel, by decide +kernel, by decide +kernel⟩, by decide⟩, mg 1016 (by decide +kernel) (by decide +kernel), mg 70 (by decide +kernel) (by decide +kernel)⟩
def mX6_kinds : PM := (yX6_kinds, cX6_kinds, 5, some .int, 5)
theorem iX6_kinds : iOk mX6_kinds 1 := ⟨⟨by decide +kernel, mg 1013 (by decide +kernel) (by decide +kernel), mg 80 (by decide +kernel) (by decide +kernel), ⟨by decide +kernel, by decide +kernel, by decide +kernel⟩, by decide⟩, mg 1011 (by decide +kernel) (by decide +kernel), mg 1012 (by decide +kernel) (by decide +kernel)⟩
def mX6_brokenOf : PM := (yX6_brokenOf, cX6_brokenOf, 5, some .int, 5)
theorem iX6_brokenOf : iOk mX6_brokenOf 1 := ⟨⟨by decide +kernel, mg 1025 (by decide +kernel) (by decide +kernel), mg 80 (by decide +kernel) (by decide +kernel), ⟨by decide +kernel, by decide +kernel, by decide +kernel⟩, by decide⟩, mg 1024 (by decide +kernel) (by decide +kernel), mg 71 (by decide +kernel) (by decide +kernel)⟩
def mX6_broken : PM := (yX6_broken, cX6_broken, 2, some .int, 6)
theorem iX6_broken : iOk mX6_broken 1 := ⟨⟨by decide +kernel, mg 1021 (by decide +kernel) (by decide +kernel), mg 80 (by decide +kernel) (by decide +kernel), ⟨by decide +kernel, by decide +kernel, by decide +kernel⟩, by decide⟩, mg 1019 (by decide +kernel) (by decide +kernel), mg 1020 (by decide +kernel) (by decide +kernel)⟩
def mX6_worstAt : PM := (yX6_worstAt, cX6_worstAt, 7, some .int, 1)
theorem iX6_worstAt : iOk mX6_worstAt 2 := ⟨⟨by decide +kernel, mg 1033 (by decide +kernel) (by decide +kernel), mg 80 (by decide +kernel) (by decide +kernel), ⟨by decide +kernel, by decide +kernel, by decide +kernel⟩, by decide⟩, mg 1032 (by decide +kernel) (by decide +kernel), mg 72 (by decide +kernel) (by decide +kernel)⟩
def mX6_ask : PM := (yX6_ask, cX6_ask, 8, some .int, 6)
theorem iX6_ask : iOk mX6_ask 2 := ⟨⟨by decide +kernel, mg 1029 (by decide +kernel) (by decide +kernel), mg 80 (by decide +kernel) (by decide +kernel), ⟨by decide +kernel, by decide +kernel, by decide +kernel⟩, by decide⟩, mg 1027 (by decide +kernel) (by decide +kernel), mg 1028 (by decide +kernel) (by decide +kernel)⟩
def mX6_drift : PM := (yX6_drift, cX6_drift, 6, some .int, 3)
theorem iX6_drift : iOk mX6_drift 3 := ⟨⟨by decide +kernel, mg 1037 (by decide +kernel) (by decide +kernel), mg 80 (by decide +kernel) (by decide +kernel), ⟨by decide +kernel, by decide +kernel, by decide +kernel⟩, by decide⟩, mg 1035 (by decide +kernel) (by decide +kernel), mg 1036 (by decide +kernel) (by decide +kernel)⟩
def mX6_keep : PM := (yX6_keep, cX6_keep, 3, some .int, 2)
theorem iX6_keep : iOk mX6_keep 1 := ⟨⟨by decide +kernel, mg 1042 (by decide +kernel) (by decide +kernel), mg 80 (by decide +kernel) (by decide +kernel), ⟨by decide +kernel, by decide +kernel, by decide +kernel⟩, by decide⟩, mg 1040 (by decide +kernel) (by decide +kernel), mg 1041 (by decide +kernel) (by decide +kernel)⟩
def mX6_back : PM := (yX6_back, cX6_back, 2, some .int, 2)
theorem iX6_back : iOk mX6_back 1 := ⟨⟨by decide +kernel, mg 1046 (by decide +kernel) (by decide +kernel), mg 80 (by decide +kernel) (by decide +kernel), ⟨by decide +kernel, by decide +kernel, by decide +kernel⟩, by decide⟩, mg 1044 (by decide +kernel) (by decide +kernel), mg 1045 (by decide +kernel) (by decide +kernel)⟩
def mX6_sheet : PM := (yX6_sheet, cX6_sheet, 5, some .int, 2)
theorem iX6_sheet : iOk mX6_sheet 3 := ⟨⟨by decide +kernel, mg 1050 (by decide +kernel) (by decide +kernel), mg 80 (by decide +kernel) (by decide +kernel), ⟨by decide +kernel, by decide +kernel, by decide +kernel⟩, by decide⟩, mg 1048 (by decide +kernel) (by decide +kernel), mg 1049 (by decide +kernel) (by decide +kernel)⟩
def mX6_lay : PM := (yX6_lay, cX6_lay, 4, some .int, 2)
theorem iX6_lay : iOk mX6_lay 3 := ⟨⟨by decide +kernel, mg 1054 (by decide +kernel) (by decide +kernel), mg 80 (by decide +kernel) (by decide +kernel), ⟨by decide +kernel, by decide +kernel, by decide +kernel⟩, by decide⟩, mg 1052 (by decide +kernel) (by decide +kernel), mg 1053 (by decide +kernel) (by decide +kernel)⟩
def mX6_read : PM := (yX6_read, cX6_read, 10, some .int, 4)
theorem iX6_read : iOk mX6_read 4 := ⟨⟨by decide +kernel, mg 1058 (by decide +kernel) (by decide +kernel), mg 80 (by decide +kernel) (by decide +kernel), ⟨by decide +kernel, by decide +kernel, by decide +kernel⟩, by decide⟩, mg 1056 (by decide +kernel) (by decide +kernel), mg 1057 (by decide +kernel) (by decide +kernel)⟩
def mX6_torn : PM := (yX6_torn, cX6_torn, 1, some .int, 1)
theorem iX6_torn : iOk mX6_torn 0 := ⟨⟨by decide +kernel, mg 1063 (by decide +kernel) (by decide +kernel), mg 80 (by decide +kernel) (by decide +kernel), ⟨by decide +kernel, by decide +kernel, by decide +kernel⟩, by decide⟩, mg 1061 (by decide +kernel) (by decide +kernel), mg 1062 (by decide +kernel) (by decide +kernel)⟩
def mX6_count : PM := (yX6_count, cX6_count, 5, some .int, 1)
theorem iX6_count : iOk mX6_count 1 := ⟨⟨by decide +kernel, mg 1067 (by decide +kernel) (by decide +kernel), mg 80 (by decide +kernel) (by decide +kernel), ⟨by decide +kernel, by decide +kernel, by decide +kernel⟩, by decide⟩, mg 1065 (by decide +kernel) (by decide +kernel), mg 1066 (by decide +kernel) (by decide +kernel)⟩
def mJ0_length_8abf5 : PM := (yJ0_length_8abf5, cJ0_length_8abf5, 1, some .int, 2)
theorem iJ0_length_8abf5 : iOk mJ0_length_8abf5 0 := ⟨⟨by decide +kernel, mg 318 (by decide +kernel) (by decide +kernel), mg 81 (by decide +kernel) (by decide +kernel), ⟨by decide +kernel, by decide +kernel, by decide +kernel⟩, by decide⟩, mg 316 (by decide +kernel) (by decide +kernel), mg 317 (by decide +kernel) (by decide +kernel)⟩
def mJ0_charAt_5068e : PM := (yJ0_charAt_5068e, cJ0_charAt_5068e, 2, some .char, 5)
theorem iJ0_charAt_5068e : iOk mJ0_charAt_5068e 1 := ⟨⟨by decide +kernel, mg 328 (by decide +kernel) (by decide +kernel), mg 81 (by decide +kernel) (by decide +kernel), ⟨by decide +kernel, by decide +kernel, by decide +kernel⟩, by decide⟩, mg 326 (by decide +kernel) (by decide +kernel), mg 327 (by decide +kernel) (by decide +kernel)⟩
def mJ0_coder_7d493 : PM := (yJ0_coder_7d493, cJ0_coder_7d493, 1, some .byte, 1)
theorem iJ0_coder_7d493 : iOk mJ0_coder_7d493 0 := ⟨⟨by decide +kernel, mg 322 (by decide +kernel) (by decide +kernel), mg 81 (by decide +kernel) (by decide +kernel), ⟨by decide +kernel, by decide +kernel, by decide +kernel⟩, by decide⟩, mg 320 (by decide +kernel) (by decide +kernel), mg 321 (by decide +kernel) (by decide +kernel)⟩
def mJ0_isLatin1_aae02 : PM := (yJ0_isLatin1_aae02, cJ0_isLatin1_aae02, 1, some .boolean, 1)
theorem iJ0_isLatin1_aae02 : iOk mJ0_isLatin1_aae02 0 := ⟨⟨by decide +kernel, mg 332 (by decide +kernel) (by decide +kernel), mg 81 (by decide +kernel) (by decide +kernel), ⟨by decide +kernel, by decide +kernel, by decide +kernel⟩, by decide⟩, mg 330 (by decide +kernel) (by decide +kernel), mg 331 (by decide +kernel) (by decide +kernel)⟩
def mJ0_checkIndex_df160 : PM := (yJ0_checkIndex_df160, cJ0_checkIndex_df160, 2, none, 2)
theorem jJ0_checkIndex_df160 : jOk mJ0_checkIndex_df160 2 := ⟨⟨by decide +kernel, mg 338 (by decide +kernel) (by decide +kernel), mg 81 (by decide +kernel) (by decide +kernel), ⟨by decide +kernel, by decide +kernel, by decide +kernel⟩, by decide⟩, mg 337 (by decide +kernel) (by decide +kernel)⟩
def mJ1_charAt_3b067 : PM := (yJ1_charAt_3b067, cJ1_charAt_3b067, 2, some .char, 3)
theorem jJ1_charAt_3b067 : jOk mJ1_charAt_3b067 2 := ⟨⟨by decide +kernel, mg 335 (by decide +kernel) (by decide +kernel), mg 82 (by decide +kernel) (by decide +kernel), ⟨by decide +kernel, by decide +kernel, by decide +kernel⟩, by decide⟩, mg 334 (by decide +kernel) (by decide +kernel)⟩
def mJ2_getChar_3b067 : PM := (yJ2_getChar_3b067, cJ2_getChar_3b067, 2, some .char, 2)
theorem jJ2_getChar_3b067 : jOk mJ2_getChar_3b067 2 := ⟨⟨by decide +kernel, mg 356 (by decide +kernel) (by decide +kernel), mg 84 (by decide +kernel) (by decide +kernel), ⟨by decide +kernel, by decide +kernel, by decide +kernel⟩, by decide⟩, mg 355 (by decide +kernel) (by decide +kernel)⟩
def mJ2_length_9d52b : PM := (yJ2_length_9d52b, cJ2_length_9d52b, 1, some .int, 1)
theorem jJ2_length_9d52b : jOk mJ2_length_9d52b 1 := ⟨⟨by decide +kernel, mg 352 (by decide +kernel) (by decide +kernel), mg 84 (by decide +kernel) (by decide +kernel), ⟨by decide +kernel, by decide +kernel, by decide +kernel⟩, by decide⟩, mg 351 (by decide +kernel) (by decide +kernel)⟩
def mJ2_charAt_3b067 : PM := (yJ2_charAt_3b067, cJ2_charAt_3b067, 2, some .char, 4)
theorem jJ2_charAt_3b067 : jOk mJ2_charAt_3b067 2 := ⟨⟨by decide +kernel, mg 346 (by decide +kernel) (by decide +kernel), mg 84 (by decide +kernel) (by decide +kernel), ⟨by decide +kernel, by decide +kernel, by decide +kernel⟩, by decide⟩, mg 345 (by decide +kernel) (by decide +kernel)⟩
def mJ2_checkIndex_2214a : PM := (yJ2_checkIndex_2214a, cJ2_checkIndex_2214a, 2, none, 3)
theorem jJ2_checkIndex_2214a : jOk mJ2_checkIndex_2214a 2 := ⟨⟨by decide +kernel, mg 349 (by decide +kernel) (by decide +kernel), mg 84 (by decide +kernel) (by decide +kernel), ⟨by decide +kernel, by decide +kernel, by decide +kernel⟩, by decide⟩, mg 348 (by decide +kernel) (by decide +kernel)⟩
def mJ3_checkIndex_8e157 : PM := (yJ3_checkIndex_8e157, cJ3_checkIndex_8e157, 3, some .int, 1)
theorem jJ3_checkIndex_8e157 : jOk mJ3_checkIndex_8e157 3 := ⟨⟨by decide +kernel, mg 343 (by decide +kernel) (by decide +kernel), mg 83 (by decide +kernel) (by decide +kernel), ⟨by decide +kernel, by decide +kernel, by decide +kernel⟩, by decide⟩, mg 342 (by decide +kernel) (by decide +kernel)⟩
def mL_law : PM := (yL_law, cL_law, 4, some .boolean, 12)
theorem lkX5_70 : lOk RX5 70 yX5_within := Or.inl (mg 274 (by decide +kernel) (by decide +kernel))
theorem lkX5_83 : lOk RX5 83 yX4_tell := Or.inr ⟨"WheelCount", mn 285 (by decide +kernel) (by decide +kernel)⟩
theorem lkX5_90 : lOk RX5 90 yX0_copyOf := Or.inr ⟨"WheelCount", mn 391 (by decide +kernel) (by decide +kernel)⟩
theorem lkX5_107 : lOk RX5 107 yX0_reading := Or.inr ⟨"WheelCount", mn 403 (by decide +kernel) (by decide +kernel)⟩
theorem lkX5_111 : lOk RX5 111 yX0_product := Or.inr ⟨"WheelCount", mn 407 (by decide +kernel) (by decide +kernel)⟩
theorem lkX5_114 : lOk RX5 114 yX0_error := Or.inr ⟨"WheelCount", mn 411 (by decide +kernel) (by decide +kernel)⟩
theorem lkX5_117 : lOk RX5 117 yX0_carrying := Or.inr ⟨"WheelCount", mn 420 (by decide +kernel) (by decide +kernel)⟩
theorem lkX5_120 : lOk RX5 120 yX0_has := Or.inr ⟨"WheelCount", mn 432 (by decide +kernel) (by decide +kernel)⟩
theorem lkX5_124 : lOk RX5 124 yX0_nextDigit := Or.inr ⟨"WheelCount", mn 437 (by decide +kernel) (by decide +kernel)⟩
theorem lkX5_128 : lOk RX5 128 yX0_part := Or.inr ⟨"WheelCount", mn 441 (by decide +kernel) (by decide +kernel)⟩
theorem lkX5_132 : lOk RX5 132 yX0_change := Or.inr ⟨"WheelCount", mn 449 (by decide +kernel) (by decide +kernel)⟩
theorem lkX5_136 : lOk RX5 136 yX0_append := Or.inr ⟨"WheelCount", mn 470 (by decide +kernel) (by decide +kernel)⟩
theorem lkX5_140 : lOk RX5 140 yX0_turnFrom := Or.inr ⟨"WheelCount", mn 479 (by decide +kernel) (by decide +kernel)⟩
theorem lkX5_148 : lOk RX5 148 yX0_push := Or.inr ⟨"WheelCount", mn 493 (by decide +kernel) (by decide +kernel)⟩
theorem lkX5_151 : lOk RX5 151 yX0_pushOnce := Or.inr ⟨"WheelCount", mn 506 (by decide +kernel) (by decide +kernel)⟩
theorem mxX5_154 {M : PM} (h : (pmY M).cls = RX5) : mxOk M 154 := by
  unfold mxOk
  rw [h]
  exact ⟨mg 507 (by decide +kernel) (by decide +kernel), mg 508 (by decide +kernel) (by decide +kernel), mg 85 (by decide +kernel) (by decide +kernel), mg 509 (by decide +kernel) (by decide +kernel)⟩
theorem lkX5_159 : lOk RX5 159 yX0_isAllZero := Or.inr ⟨"WheelCount", mn 510 (by decide +kernel) (by decide +kernel)⟩
theorem lkX5_167 : lOk RX5 167 yX0_showsAs := Or.inr ⟨"WheelCount", mn 531 (by decide +kernel) (by decide +kernel)⟩
theorem lkX5_170 : lOk RX5 170 yX5_trialErrorBehind := Or.inl (mg 539 (by decide +kernel) (by decide +kernel))
theorem lkX5_173 : lOk RX5 173 yX5_tryPart := Or.inl (mg 543 (by decide +kernel) (by decide +kernel))
theorem lkX5_177 : lOk RX5 177 yX0_exchange := Or.inr ⟨"WheelCount", mn 552 (by decide +kernel) (by decide +kernel)⟩
theorem lkX5_181 : lOk RX5 181 yX5_bestPart := Or.inl (mg 563 (by decide +kernel) (by decide +kernel))
theorem lkX5_187 : lOk RX5 187 yX5_countWays := Or.inl (mg 581 (by decide +kernel) (by decide +kernel))
theorem lkX5_191 : lOk RX5 191 yX5_partOfFraction := Or.inl (mg 586 (by decide +kernel) (by decide +kernel))
theorem lkX5_201 : lOk RX5 201 yX5_fitsWith := Or.inl (mg 605 (by decide +kernel) (by decide +kernel))
theorem lkX5_207 : lOk RX5 207 yX5_broken := Or.inl (mg 628 (by decide +kernel) (by decide +kernel))
theorem lkX5_210 : lOk RX5 210 yX5_listTeethLeft := Or.inl (mg 629 (by decide +kernel) (by decide +kernel))
theorem lkX5_213 : lOk RX5 213 yX5_fillReadings := Or.inl (mg 633 (by decide +kernel) (by decide +kernel))
theorem lkX5_217 : lOk RX5 217 yX5_mostAlike := Or.inl (mg 637 (by decide +kernel) (by decide +kernel))
theorem lkX5_221 : lOk RX5 221 yX2_renew := Or.inr ⟨"WheelCount", mn 658 (by decide +kernel) (by decide +kernel)⟩
theorem lkX5_227 : lOk RX5 227 yX2_faultAt := Or.inr ⟨"WheelCount", mn 666 (by decide +kernel) (by decide +kernel)⟩
theorem lkX5_230 : lOk RX5 230 yX2_put := Or.inr ⟨"WheelCount", mn 671 (by decide +kernel) (by decide +kernel)⟩
theorem lkX5_233 : lOk RX5 233 yX2_faultAtPair := Or.inr ⟨"WheelCount", mn 679 (by decide +kernel) (by decide +kernel)⟩
theorem lkX5_239 : lOk RX5 239 yX0_takeDigitAndPush := Or.inr ⟨"WheelCount", mn 684 (by decide +kernel) (by decide +kernel)⟩
theorem lkX5_248 : lOk RX5 248 yX0_teethInAll := Or.inr ⟨"WheelCount", mn 698 (by decide +kernel) (by decide +kernel)⟩
theorem lkX5_251 : lOk RX5 251 yX0_brokenInAll := Or.inr ⟨"WheelCount", mn 702 (by decide +kernel) (by decide +kernel)⟩
theorem lkX5_254 : lOk RX5 254 yX0_set := Or.inr ⟨"WheelCount", mn 547 (by decide +kernel) (by decide +kernel)⟩
theorem lkX5_258 : lOk RX5 258 yX1_fits := Or.inr ⟨"WheelCount", mn 609 (by decide +kernel) (by decide +kernel)⟩
theorem lkX0_28 : lOk RX0 28 yX5_within := Or.inr ⟨"WheelCount", mn 436 (by decide +kernel) (by decide +kernel)⟩
theorem lkX0_32 : lOk RX0 32 yX0_has := Or.inl (mg 453 (by decide +kernel) (by decide +kernel))
theorem lkX0_36 : lOk RX0 36 yX0_mayEverBe := Or.inl (mg 454 (by decide +kernel) (by decide +kernel))
theorem lkX0_40 : lOk RX0 40 yX0_mayBe := Or.inl (mg 457 (by decide +kernel) (by decide +kernel))
theorem lkX0_43 : lOk RX0 43 yX0_part := Or.inl (mg 461 (by decide +kernel) (by decide +kernel))
theorem lkX0_47 : lOk RX0 47 yX0_set := Or.inl (mg 462 (by decide +kernel) (by decide +kernel))
theorem lkX0_57 : lOk RX0 57 yX0_exchangeIn := Or.inl (mg 556 (by decide +kernel) (by decide +kernel))
theorem lkX0_61 : lOk RX0 61 yX0_wouldCarry := Or.inl (mg 424 (by decide +kernel) (by decide +kernel))
theorem lkX0_64 : lOk RX0 64 yX0_nextDigit := Or.inl (mg 483 (by decide +kernel) (by decide +kernel))
theorem lkX0_68 : lOk RX0 68 yX0_turnFrom := Or.inl (mg 501 (by decide +kernel) (by decide +kernel))
theorem lkX0_72 : lOk RX0 72 yX0_pushOnce := Or.inl (mg 497 (by decide +kernel) (by decide +kernel))
theorem lkX0_75 : lOk RX0 75 yX0_change := Or.inl (mg 688 (by decide +kernel) (by decide +kernel))
theorem lkX0_80 : lOk RX0 80 yX0_product := Or.inl (mg 415 (by decide +kernel) (by decide +kernel))
theorem lkX0_84 : lOk RX0 84 yX0_reading := Or.inl (mg 416 (by decide +kernel) (by decide +kernel))
theorem maX0_87 {M : PM} (h : (pmY M).cls = RX0) : maOk M 87 := by
  unfold maOk
  rw [h]
  exact ⟨mg 417 (by decide +kernel) (by decide +kernel), mg 418 (by decide +kernel) (by decide +kernel), mg 85 (by decide +kernel) (by decide +kernel), mg 419 (by decide +kernel) (by decide +kernel)⟩
theorem mxX1_22 {M : PM} (h : (pmY M).cls = RX1) : mxOk M 22 := by
  unfold mxOk
  rw [h]
  exact ⟨mg 613 (by decide +kernel) (by decide +kernel), mg 508 (by decide +kernel) (by decide +kernel), mg 85 (by decide +kernel) (by decide +kernel), mg 509 (by decide +kernel) (by decide +kernel)⟩
theorem lkX1_28 : lOk RX1 28 yX1_isAgainst := Or.inl (mg 614 (by decide +kernel) (by decide +kernel))
theorem lkX1_32 : lOk RX1 32 yX0_pushOnce := Or.inr ⟨"WheelCount", mn 619 (by decide +kernel) (by decide +kernel)⟩
theorem lkX1_37 : lOk RX1 37 yX0_reading := Or.inr ⟨"WheelCount", mn 618 (by decide +kernel) (by decide +kernel)⟩
theorem lkX2_24 : lOk RX2 24 yX5_within := Or.inr ⟨"WheelCount", mn 670 (by decide +kernel) (by decide +kernel)⟩
theorem lkX2_30 : lOk RX2 30 yX2_faultAt := Or.inl (mg 683 (by decide +kernel) (by decide +kernel))
theorem lkX4_43 : lOk RX4 43 yX4_nextToken := Or.inl (mg 289 (by decide +kernel) (by decide +kernel))
theorem lkX4_50 : lOk RX4 50 yX4_tellLine := Or.inl (mg 306 (by decide +kernel) (by decide +kernel))
theorem lkX4_54 : lOk RX4 54 yX4_fail := Or.inl (mg 298 (by decide +kernel) (by decide +kernel))
theorem lkX4_60 : lOk RX4 60 yX4_isName := Or.inl (mg 311 (by decide +kernel) (by decide +kernel))
theorem lkX4_64 : lOk RX4 64 yX4_tellCount := Or.inl (mg 363 (by decide +kernel) (by decide +kernel))
theorem lkX4_67 : lOk RX4 67 yX4_kindNamed := Or.inl (mg 375 (by decide +kernel) (by decide +kernel))
theorem lkX4_71 : lOk RX4 71 yX4_tellWheel := Or.inl (mg 383 (by decide +kernel) (by decide +kernel))
theorem lkX4_75 : lOk RX4 75 yX4_nextNumber := Or.inl (mg 367 (by decide +kernel) (by decide +kernel))
theorem lkX4_82 : lOk RX4 82 yX4_lineEnds := Or.inl (mg 371 (by decide +kernel) (by decide +kernel))
theorem lkX4_85 : lOk RX4 85 yX0_append := Or.inr ⟨"WheelCount", mn 387 (by decide +kernel) (by decide +kernel)⟩
theorem lkX4_89 : lOk RX4 89 yX5_within := Or.inr ⟨"WheelCount", mn 293 (by decide +kernel) (by decide +kernel)⟩
theorem lkX4_100 : lOk RX4 100 yX4_endOfRun := Or.inl (mg 294 (by decide +kernel) (by decide +kernel))
theorem lkX4_104 : lOk RX4 104 yX4_valueOfFigures := Or.inl (mg 302 (by decide +kernel) (by decide +kernel))
theorem lkX4_115 : lOk RX4 115 yJ0_length_8abf5 := Or.inl (mg 315 (by decide +kernel) (by decide +kernel))
theorem lkX4_119 : lOk RX4 119 yJ0_charAt_5068e := Or.inl (mg 325 (by decide +kernel) (by decide +kernel))
theorem lkL_13 : lOk RL 13 yX5_feed := Or.inl (mg 270 (by decide +kernel) (by decide +kernel))
theorem lkL_17 : lOk RL 17 yX6_feed := Or.inl (mg 788 (by decide +kernel) (by decide +kernel))
theorem lkL_18 : lOk RL 18 yX5_end := Or.inl (mg 277 (by decide +kernel) (by decide +kernel))
theorem lkL_21 : lOk RL 21 yX6_end := Or.inl (mg 796 (by decide +kernel) (by decide +kernel))
theorem lkL_22 : lOk RL 22 yX5_text := Or.inl (mg 281 (by decide +kernel) (by decide +kernel))
theorem lkL_26 : lOk RL 26 yX6_text := Or.inl (mg 800 (by decide +kernel) (by decide +kernel))
theorem lkL_27 : lOk RL 27 yX5_fault := Or.inl (mg 395 (by decide +kernel) (by decide +kernel))
theorem lkL_30 : lOk RL 30 yX6_fault := Or.inl (mg 837 (by decide +kernel) (by decide +kernel))
theorem lkL_31 : lOk RL 31 yX5_rule := Or.inl (mg 399 (by decide +kernel) (by decide +kernel))
theorem lkL_34 : lOk RL 34 yX6_rule := Or.inl (mg 841 (by decide +kernel) (by decide +kernel))
theorem lkL_35 : lOk RL 35 yX5_wheel := Or.inl (mg 428 (by decide +kernel) (by decide +kernel))
theorem lkL_39 : lOk RL 39 yX6_wheel := Or.inl (mg 861 (by decide +kernel) (by decide +kernel))
theorem lkL_40 : lOk RL 40 yX5_alter := Or.inl (mg 445 (by decide +kernel) (by decide +kernel))
theorem lkL_44 : lOk RL 44 yX6_alter := Or.inl (mg 873 (by decide +kernel) (by decide +kernel))
theorem lkL_45 : lOk RL 45 yX5_add := Or.inl (mg 466 (by decide +kernel) (by decide +kernel))
theorem lkL_48 : lOk RL 48 yX6_add := Or.inl (mg 888 (by decide +kernel) (by decide +kernel))
theorem lkL_49 : lOk RL 49 yX5_cut := Or.inl (mg 471 (by decide +kernel) (by decide +kernel))
theorem lkL_52 : lOk RL 52 yX6_cut := Or.inl (mg 892 (by decide +kernel) (by decide +kernel))
theorem lkL_53 : lOk RL 53 yX5_turn := Or.inl (mg 475 (by decide +kernel) (by decide +kernel))
theorem lkL_56 : lOk RL 56 yX6_turn := Or.inl (mg 896 (by decide +kernel) (by decide +kernel))
theorem lkL_57 : lOk RL 57 yX5_clear := Or.inl (mg 484 (by decide +kernel) (by decide +kernel))
theorem lkL_60 : lOk RL 60 yX6_clear := Or.inl (mg 904 (by decide +kernel) (by decide +kernel))
theorem lkL_61 : lOk RL 61 yX5_pushes := Or.inl (mg 488 (by decide +kernel) (by decide +kernel))
theorem lkL_64 : lOk RL 64 yX6_pushes := Or.inl (mg 908 (by decide +kernel) (by decide +kernel))
theorem lkL_65 : lOk RL 65 yX5_runs := Or.inl (mg 502 (by decide +kernel) (by decide +kernel))
theorem lkL_68 : lOk RL 68 yX6_runs := Or.inl (mg 918 (by decide +kernel) (by decide +kernel))
theorem lkL_69 : lOk RL 69 yX5_ahead := Or.inl (mg 514 (by decide +kernel) (by decide +kernel))
theorem lkL_72 : lOk RL 72 yX6_ahead := Or.inl (mg 930 (by decide +kernel) (by decide +kernel))
theorem lkL_73 : lOk RL 73 yX5_when := Or.inl (mg 518 (by decide +kernel) (by decide +kernel))
theorem lkL_76 : lOk RL 76 yX6_when := Or.inl (mg 934 (by decide +kernel) (by decide +kernel))
theorem lkL_77 : lOk RL 77 yX5_shows := Or.inl (mg 523 (by decide +kernel) (by decide +kernel))
theorem lkL_80 : lOk RL 80 yX6_shows := Or.inl (mg 946 (by decide +kernel) (by decide +kernel))
theorem lkL_81 : lOk RL 81 yX5_again := Or.inl (mg 527 (by decide +kernel) (by decide +kernel))
theorem lkL_84 : lOk RL 84 yX6_again := Or.inl (mg 950 (by decide +kernel) (by decide +kernel))
theorem lkL_85 : lOk RL 85 yX5_mend := Or.inl (mg 535 (by decide +kernel) (by decide +kernel))
theorem lkL_88 : lOk RL 88 yX6_mend := Or.inl (mg 954 (by decide +kernel) (by decide +kernel))
theorem lkL_89 : lOk RL 89 yX5_swap := Or.inl (mg 548 (by decide +kernel) (by decide +kernel))
theorem lkL_92 : lOk RL 92 yX6_swap := Or.inl (mg 963 (by decide +kernel) (by decide +kernel))
theorem lkL_93 : lOk RL 93 yX5_kind := Or.inl (mg 559 (by decide +kernel) (by decide +kernel))
theorem lkL_96 : lOk RL 96 yX6_kind := Or.inl (mg 967 (by decide +kernel) (by decide +kernel))
theorem lkL_97 : lOk RL 97 yX5_begin := Or.inl (mg 568 (by decide +kernel) (by decide +kernel))
theorem lkL_100 : lOk RL 100 yX6_begin := Or.inl (mg 976 (by decide +kernel) (by decide +kernel))
theorem lkL_101 : lOk RL 101 yX5_file := Or.inl (mg 572 (by decide +kernel) (by decide +kernel))
theorem lkL_104 : lOk RL 104 yX6_file := Or.inl (mg 980 (by decide +kernel) (by decide +kernel))
theorem lkL_105 : lOk RL 105 yX5_luck := Or.inl (mg 576 (by decide +kernel) (by decide +kernel))
theorem lkL_109 : lOk RL 109 yX6_luck := Or.inl (mg 984 (by decide +kernel) (by decide +kernel))
theorem lkL_110 : lOk RL 110 yX5_mean := Or.inl (mg 589 (by decide +kernel) (by decide +kernel))
theorem lkL_114 : lOk RL 114 yX6_mean := Or.inl (mg 998 (by decide +kernel) (by decide +kernel))
theorem lkL_115 : lOk RL 115 yX5_see := Or.inl (mg 593 (by decide +kernel) (by decide +kernel))
theorem lkL_118 : lOk RL 118 yX6_see := Or.inl (mg 1002 (by decide +kernel) (by decide +kernel))
theorem lkL_119 : lOk RL 119 yX5_forget := Or.inl (mg 597 (by decide +kernel) (by decide +kernel))
theorem lkL_122 : lOk RL 122 yX6_forget := Or.inl (mg 1006 (by decide +kernel) (by decide +kernel))
theorem lkL_123 : lOk RL 123 yX5_kinds := Or.inl (mg 601 (by decide +kernel) (by decide +kernel))
theorem lkL_126 : lOk RL 126 yX6_kinds := Or.inl (mg 1010 (by decide +kernel) (by decide +kernel))
theorem lkL_127 : lOk RL 127 yX5_broken := Or.inl (mg 620 (by decide +kernel) (by decide +kernel))
theorem lkL_130 : lOk RL 130 yX6_broken := Or.inl (mg 1018 (by decide +kernel) (by decide +kernel))
theorem lkL_131 : lOk RL 131 yX5_ask := Or.inl (mg 624 (by decide +kernel) (by decide +kernel))
theorem lkL_134 : lOk RL 134 yX6_ask := Or.inl (mg 1026 (by decide +kernel) (by decide +kernel))
theorem lkL_135 : lOk RL 135 yX5_drift := Or.inl (mg 641 (by decide +kernel) (by decide +kernel))
theorem lkL_138 : lOk RL 138 yX6_drift := Or.inl (mg 1034 (by decide +kernel) (by decide +kernel))
theorem lkL_139 : lOk RL 139 yX5_keep := Or.inl (mg 646 (by decide +kernel) (by decide +kernel))
theorem lkL_142 : lOk RL 142 yX6_keep := Or.inl (mg 1039 (by decide +kernel) (by decide +kernel))
theorem lkL_143 : lOk RL 143 yX5_back := Or.inl (mg 650 (by decide +kernel) (by decide +kernel))
theorem lkL_146 : lOk RL 146 yX6_back := Or.inl (mg 1043 (by decide +kernel) (by decide +kernel))
theorem lkL_147 : lOk RL 147 yX5_sheet := Or.inl (mg 654 (by decide +kernel) (by decide +kernel))
theorem lkL_150 : lOk RL 150 yX6_sheet := Or.inl (mg 1047 (by decide +kernel) (by decide +kernel))
theorem lkL_151 : lOk RL 151 yX5_lay := Or.inl (mg 662 (by decide +kernel) (by decide +kernel))
theorem lkL_154 : lOk RL 154 yX6_lay := Or.inl (mg 1051 (by decide +kernel) (by decide +kernel))
theorem lkL_155 : lOk RL 155 yX5_read := Or.inl (mg 675 (by decide +kernel) (by decide +kernel))
theorem lkL_159 : lOk RL 159 yX6_read := Or.inl (mg 1055 (by decide +kernel) (by decide +kernel))
theorem lkL_160 : lOk RL 160 yX5_torn := Or.inl (mg 690 (by decide +kernel) (by decide +kernel))
theorem lkL_163 : lOk RL 163 yX6_torn := Or.inl (mg 1060 (by decide +kernel) (by decide +kernel))
theorem lkL_164 : lOk RL 164 yX5_count := Or.inl (mg 694 (by decide +kernel) (by decide +kernel))
theorem lkL_167 : lOk RL 167 yX6_count := Or.inl (mg 1064 (by decide +kernel) (by decide +kernel))
theorem lkX6_46 : lOk RX6 46 yX6_in := Or.inl (mg 793 (by decide +kernel) (by decide +kernel))
theorem lkX6_69 : lOk RX6 69 yX6_byteAt := Or.inl (mg 808 (by decide +kernel) (by decide +kernel))
theorem lkX6_84 : lOk RX6 84 yX6_fails := Or.inl (mg 816 (by decide +kernel) (by decide +kernel))
theorem lkX6_88 : lOk RX6 88 yX6_step := Or.inl (mg 804 (by decide +kernel) (by decide +kernel))
theorem lkX6_91 : lOk RX6 91 yX6_number := Or.inl (mg 833 (by decide +kernel) (by decide +kernel))
theorem lkX6_95 : lOk RX6 95 yX6_nameHere := Or.inl (mg 824 (by decide +kernel) (by decide +kernel))
theorem lkX6_105 : lOk RX6 105 yX6_readMore := Or.inl (mg 829 (by decide +kernel) (by decide +kernel))
theorem lkX6_108 : lOk RX6 108 yX6_readLine := Or.inl (mg 820 (by decide +kernel) (by decide +kernel))
theorem lkX6_121 : lOk RX6 121 yX6_carriesOn := Or.inl (mg 845 (by decide +kernel) (by decide +kernel))
theorem lkX6_128 : lOk RX6 128 yX6_turnsOn := Or.inl (mg 869 (by decide +kernel) (by decide +kernel))
theorem lkX6_131 : lOk RX6 131 yX6_turnedOn := Or.inl (mg 900 (by decide +kernel) (by decide +kernel))
theorem lkX6_135 : lOk RX6 135 yX6_readsOn := Or.inl (mg 849 (by decide +kernel) (by decide +kernel))
theorem lkX6_138 : lOk RX6 138 yX6_allOn := Or.inl (mg 853 (by decide +kernel) (by decide +kernel))
theorem lkX6_141 : lOk RX6 141 yX6_errorOn := Or.inl (mg 857 (by decide +kernel) (by decide +kernel))
theorem lkX6_144 : lOk RX6 144 yX6_isWheel := Or.inl (mg 865 (by decide +kernel) (by decide +kernel))
theorem lkX6_154 : lOk RX6 154 yX6_isDigit := Or.inl (mg 884 (by decide +kernel) (by decide +kernel))
theorem lkX6_157 : lOk RX6 157 yX6_alters := Or.inl (mg 877 (by decide +kernel) (by decide +kernel))
theorem lkX6_164 : lOk RX6 164 yX6_pushOn := Or.inl (mg 914 (by decide +kernel) (by decide +kernel))
theorem lkX6_167 : lOk RX6 167 yX6_copies := Or.inl (mg 926 (by decide +kernel) (by decide +kernel))
theorem lkX6_176 : lOk RX6 176 yX6_pushesGo := Or.inl (mg 922 (by decide +kernel) (by decide +kernel))
theorem lkX6_179 : lOk RX6 179 yX6_isReading := Or.inl (mg 938 (by decide +kernel) (by decide +kernel))
theorem lkX6_182 : lOk RX6 182 yX6_firstTime := Or.inl (mg 942 (by decide +kernel) (by decide +kernel))
theorem lkX6_187 : lOk RX6 187 yX6_errorBehind := Or.inl (mg 959 (by decide +kernel) (by decide +kernel))
theorem lkX6_191 : lOk RX6 191 yX6_leastAt := Or.inl (mg 971 (by decide +kernel) (by decide +kernel))
theorem lkX6_197 : lOk RX6 197 yX6_lowest := Or.inl (mg 994 (by decide +kernel) (by decide +kernel))
theorem lkX6_203 : lOk RX6 203 yX6_byMisses := Or.inl (mg 990 (by decide +kernel) (by decide +kernel))
theorem lkX6_209 : lOk RX6 209 yX6_isAsSeen := Or.inl (mg 1014 (by decide +kernel) (by decide +kernel))
theorem lkX6_212 : lOk RX6 212 yX6_brokenOf := Or.inl (mg 1022 (by decide +kernel) (by decide +kernel))
theorem lkX6_215 : lOk RX6 215 yX6_worstAt := Or.inl (mg 1030 (by decide +kernel) (by decide +kernel))
theorem lkJ0_335 : lOk RJ0 335 yJ0_coder_7d493 := Or.inl (mg 319 (by decide +kernel) (by decide +kernel))
theorem lkJ0_492 : lOk RJ0 492 yJ0_isLatin1_aae02 := Or.inl (mg 329 (by decide +kernel) (by decide +kernel))
theorem lkJ0_495 : lOk RJ0 495 yJ1_charAt_3b067 := Or.inl (mg 333 (by decide +kernel) (by decide +kernel))
theorem lkJ0_498 : lOk RJ0 498 yJ2_charAt_3b067 := Or.inl (mg 344 (by decide +kernel) (by decide +kernel))
theorem lkJ0_1059 : lOk RJ0 1059 yJ3_checkIndex_8e157 := Or.inl (mg 341 (by decide +kernel) (by decide +kernel))
theorem lkJ1_9 : lOk RJ1 9 yJ0_checkIndex_df160 := Or.inl (mg 336 (by decide +kernel) (by decide +kernel))
theorem lkJ2_48 : lOk RJ2 48 yJ2_length_9d52b := Or.inl (mg 350 (by decide +kernel) (by decide +kernel))
theorem lkJ2_67 : lOk RJ2 67 yJ2_checkIndex_2214a := Or.inl (mg 347 (by decide +kernel) (by decide +kernel))
theorem lkJ2_71 : lOk RJ2 71 yJ2_getChar_3b067 := Or.inl (mg 354 (by decide +kernel) (by decide +kernel))
theorem lkJ2_414 : lOk RJ2 414 yJ0_checkIndex_df160 := Or.inl (mg 353 (by decide +kernel) (by decide +kernel))
-- link J3 95?
theorem fX5_10 {M : PM} (h : (pmY M).cls = RX5) : fOk M 10 5 0 := by
  refine ⟨RX5, TX5, 12, rfl, by decide, rfl, inG5, ?_⟩
  rw [h]
  exact Or.inl (mg 232 (by decide +kernel) (by decide +kernel))
theorem fX5_16 {M : PM} (h : (pmY M).cls = RX5) : fOk M 16 5 1 := by
  refine ⟨RX5, TX5, 12, rfl, by decide, rfl, inG5, ?_⟩
  rw [h]
  exact Or.inl (mg 233 (by decide +kernel) (by decide +kernel))
theorem fX5_19 {M : PM} (h : (pmY M).cls = RX5) : fOk M 19 5 2 := by
  refine ⟨RX5, TX5, 12, rfl, by decide, rfl, inG5, ?_⟩
  rw [h]
  exact Or.inl (mg 234 (by decide +kernel) (by decide +kernel))
theorem fX5_23 {M : PM} (h : (pmY M).cls = RX5) : fOk M 23 5 3 := by
  refine ⟨RX5, TX5, 12, rfl, by decide, rfl, inG5, ?_⟩
  rw [h]
  exact Or.inl (mg 235 (by decide +kernel) (by decide +kernel))
theorem fX5_30 {M : PM} (h : (pmY M).cls = RX5) : fOk M 30 5 4 := by
  refine ⟨RX5, TX5, 12, rfl, by decide, rfl, inG5, ?_⟩
  rw [h]
  exact Or.inl (mg 236 (by decide +kernel) (by decide +kernel))
theorem fX5_38 {M : PM} (h : (pmY M).cls = RX5) : fOk M 38 5 5 := by
  refine ⟨RX5, TX5, 12, rfl, by decide, rfl, inG5, ?_⟩
  rw [h]
  exact Or.inl (mg 237 (by decide +kernel) (by decide +kernel))
theorem fX5_42 {M : PM} (h : (pmY M).cls = RX5) : fOk M 42 5 6 := by
  refine ⟨RX5, TX5, 12, rfl, by decide, rfl, inG5, ?_⟩
  rw [h]
  exact Or.inl (mg 238 (by decide +kernel) (by decide +kernel))
theorem fX5_49 {M : PM} (h : (pmY M).cls = RX5) : fOk M 49 5 7 := by
  refine ⟨RX5, TX5, 12, rfl, by decide, rfl, inG5, ?_⟩
  rw [h]
  exact Or.inl (mg 239 (by decide +kernel) (by decide +kernel))
theorem fX5_53 {M : PM} (h : (pmY M).cls = RX5) : fOk M 53 5 8 := by
  refine ⟨RX5, TX5, 12, rfl, by decide, rfl, inG5, ?_⟩
  rw [h]
  exact Or.inl (mg 240 (by decide +kernel) (by decide +kernel))
theorem fX5_57 {M : PM} (h : (pmY M).cls = RX5) : fOk M 57 5 9 := by
  refine ⟨RX5, TX5, 12, rfl, by decide, rfl, inG5, ?_⟩
  rw [h]
  exact Or.inl (mg 241 (by decide +kernel) (by decide +kernel))
theorem fX5_61 {M : PM} (h : (pmY M).cls = RX5) : fOk M 61 5 10 := by
  refine ⟨RX5, TX5, 12, rfl, by decide, rfl, inG5, ?_⟩
  rw [h]
  exact Or.inl (mg 242 (by decide +kernel) (by decide +kernel))
theorem fX5_67 {M : PM} (h : (pmY M).cls = RX5) : fOk M 67 5 11 := by
  refine ⟨RX5, TX5, 12, rfl, by decide, rfl, inG5, ?_⟩
  rw [h]
  exact Or.inl (mg 243 (by decide +kernel) (by decide +kernel))
theorem fX5_74 {M : PM} (h : (pmY M).cls = RX5) : fOk M 74 3 1 := by
  refine ⟨RX3, TX3, 2, rfl, by decide, rfl, inG3, ?_⟩
  rw [h]
  exact Or.inr ⟨"WheelCount", mn 146 (by decide +kernel) (by decide +kernel)⟩
theorem fX5_79 {M : PM} (h : (pmY M).cls = RX5) : fOk M 79 3 0 := by
  refine ⟨RX3, TX3, 2, rfl, by decide, rfl, inG3, ?_⟩
  rw [h]
  exact Or.inr ⟨"WheelCount", mn 144 (by decide +kernel) (by decide +kernel)⟩
theorem fX5_87 {M : PM} (h : (pmY M).cls = RX5) : fOk M 87 4 2 := by
  refine ⟨RX4, TX4, 9, rfl, by decide, rfl, inG4, ?_⟩
  rw [h]
  exact Or.inr ⟨"WheelCount", mn 159 (by decide +kernel) (by decide +kernel)⟩
theorem fX5_94 {M : PM} (h : (pmY M).cls = RX5) : fOk M 94 1 0 := by
  refine ⟨RX1, TX1, 3, rfl, by decide, rfl, inG1, ?_⟩
  rw [h]
  exact Or.inr ⟨"WheelCount", mn 194 (by decide +kernel) (by decide +kernel)⟩
theorem fX5_97 {M : PM} (h : (pmY M).cls = RX5) : fOk M 97 4 3 := by
  refine ⟨RX4, TX4, 9, rfl, by decide, rfl, inG4, ?_⟩
  rw [h]
  exact Or.inr ⟨"WheelCount", mn 162 (by decide +kernel) (by decide +kernel)⟩
theorem fX5_100 {M : PM} (h : (pmY M).cls = RX5) : fOk M 100 4 1 := by
  refine ⟨RX4, TX4, 9, rfl, by decide, rfl, inG4, ?_⟩
  rw [h]
  exact Or.inr ⟨"WheelCount", mn 158 (by decide +kernel) (by decide +kernel)⟩
theorem fX5_103 {M : PM} (h : (pmY M).cls = RX5) : fOk M 103 0 0 := by
  refine ⟨RX0, TX0, 7, rfl, by decide, rfl, inG0, ?_⟩
  rw [h]
  exact Or.inr ⟨"WheelCount", mn 102 (by decide +kernel) (by decide +kernel)⟩
theorem fX5_104 {M : PM} (h : (pmY M).cls = RX5) : fOk M 104 0 1 := by
  refine ⟨RX0, TX0, 7, rfl, by decide, rfl, inG0, ?_⟩
  rw [h]
  exact Or.inr ⟨"WheelCount", mn 104 (by decide +kernel) (by decide +kernel)⟩
theorem fX5_144 {M : PM} (h : (pmY M).cls = RX5) : fOk M 144 0 5 := by
  refine ⟨RX0, TX0, 7, rfl, by decide, rfl, inG0, ?_⟩
  rw [h]
  exact Or.inr ⟨"WheelCount", mn 112 (by decide +kernel) (by decide +kernel)⟩
theorem fX5_163 {M : PM} (h : (pmY M).cls = RX5) : fOk M 163 0 2 := by
  refine ⟨RX0, TX0, 7, rfl, by decide, rfl, inG0, ?_⟩
  rw [h]
  exact Or.inr ⟨"WheelCount", mn 107 (by decide +kernel) (by decide +kernel)⟩
theorem fX5_195 {M : PM} (h : (pmY M).cls = RX5) : fOk M 195 1 1 := by
  refine ⟨RX1, TX1, 3, rfl, by decide, rfl, inG1, ?_⟩
  rw [h]
  exact Or.inr ⟨"WheelCount", mn 196 (by decide +kernel) (by decide +kernel)⟩
theorem fX5_198 {M : PM} (h : (pmY M).cls = RX5) : fOk M 198 1 2 := by
  refine ⟨RX1, TX1, 3, rfl, by decide, rfl, inG1, ?_⟩
  rw [h]
  exact Or.inr ⟨"WheelCount", mn 198 (by decide +kernel) (by decide +kernel)⟩
theorem fX5_204 {M : PM} (h : (pmY M).cls = RX5) : fOk M 204 0 4 := by
  refine ⟨RX0, TX0, 7, rfl, by decide, rfl, inG0, ?_⟩
  rw [h]
  exact Or.inr ⟨"WheelCount", mn 110 (by decide +kernel) (by decide +kernel)⟩
theorem fX5_224 {M : PM} (h : (pmY M).cls = RX5) : fOk M 224 2 1 := by
  refine ⟨RX2, TX2, 4, rfl, by decide, rfl, inG2, ?_⟩
  rw [h]
  exact Or.inr ⟨"WheelCount", mn 216 (by decide +kernel) (by decide +kernel)⟩
theorem fX5_236 {M : PM} (h : (pmY M).cls = RX5) : fOk M 236 2 3 := by
  refine ⟨RX2, TX2, 4, rfl, by decide, rfl, inG2, ?_⟩
  rw [h]
  exact Or.inr ⟨"WheelCount", mn 220 (by decide +kernel) (by decide +kernel)⟩
theorem fX5_243 {M : PM} (h : (pmY M).cls = RX5) : fOk M 243 2 0 := by
  refine ⟨RX2, TX2, 4, rfl, by decide, rfl, inG2, ?_⟩
  rw [h]
  exact Or.inr ⟨"WheelCount", mn 214 (by decide +kernel) (by decide +kernel)⟩
theorem fX5_247 {M : PM} (h : (pmY M).cls = RX5) : fOk M 247 2 2 := by
  refine ⟨RX2, TX2, 4, rfl, by decide, rfl, inG2, ?_⟩
  rw [h]
  exact Or.inr ⟨"WheelCount", mn 218 (by decide +kernel) (by decide +kernel)⟩
theorem fX0_9 {M : PM} (h : (pmY M).cls = RX0) : fOk M 9 0 3 := by
  refine ⟨RX0, TX0, 7, rfl, by decide, rfl, inG0, ?_⟩
  rw [h]
  exact Or.inl (mg 108 (by decide +kernel) (by decide +kernel))
theorem fX0_15 {M : PM} (h : (pmY M).cls = RX0) : fOk M 15 0 4 := by
  refine ⟨RX0, TX0, 7, rfl, by decide, rfl, inG0, ?_⟩
  rw [h]
  exact Or.inl (mg 109 (by decide +kernel) (by decide +kernel))
theorem fX0_18 {M : PM} (h : (pmY M).cls = RX0) : fOk M 18 0 5 := by
  refine ⟨RX0, TX0, 7, rfl, by decide, rfl, inG0, ?_⟩
  rw [h]
  exact Or.inl (mg 111 (by decide +kernel) (by decide +kernel))
theorem fX0_21 {M : PM} (h : (pmY M).cls = RX0) : fOk M 21 0 6 := by
  refine ⟨RX0, TX0, 7, rfl, by decide, rfl, inG0, ?_⟩
  rw [h]
  exact Or.inl (mg 113 (by decide +kernel) (by decide +kernel))
theorem fX0_24 {M : PM} (h : (pmY M).cls = RX0) : fOk M 24 0 0 := by
  refine ⟨RX0, TX0, 7, rfl, by decide, rfl, inG0, ?_⟩
  rw [h]
  exact Or.inl (mg 101 (by decide +kernel) (by decide +kernel))
theorem fX0_51 {M : PM} (h : (pmY M).cls = RX0) : fOk M 51 0 1 := by
  refine ⟨RX0, TX0, 7, rfl, by decide, rfl, inG0, ?_⟩
  rw [h]
  exact Or.inl (mg 105 (by decide +kernel) (by decide +kernel))
theorem fX0_54 {M : PM} (h : (pmY M).cls = RX0) : fOk M 54 0 2 := by
  refine ⟨RX0, TX0, 7, rfl, by decide, rfl, inG0, ?_⟩
  rw [h]
  exact Or.inl (mg 106 (by decide +kernel) (by decide +kernel))
theorem fX1_9 {M : PM} (h : (pmY M).cls = RX1) : fOk M 9 1 1 := by
  refine ⟨RX1, TX1, 3, rfl, by decide, rfl, inG1, ?_⟩
  rw [h]
  exact Or.inl (mg 195 (by decide +kernel) (by decide +kernel))
theorem fX1_15 {M : PM} (h : (pmY M).cls = RX1) : fOk M 15 1 2 := by
  refine ⟨RX1, TX1, 3, rfl, by decide, rfl, inG1, ?_⟩
  rw [h]
  exact Or.inl (mg 197 (by decide +kernel) (by decide +kernel))
theorem fX1_18 {M : PM} (h : (pmY M).cls = RX1) : fOk M 18 1 0 := by
  refine ⟨RX1, TX1, 3, rfl, by decide, rfl, inG1, ?_⟩
  rw [h]
  exact Or.inl (mg 193 (by decide +kernel) (by decide +kernel))
theorem fX2_9 {M : PM} (h : (pmY M).cls = RX2) : fOk M 9 2 3 := by
  refine ⟨RX2, TX2, 4, rfl, by decide, rfl, inG2, ?_⟩
  rw [h]
  exact Or.inl (mg 219 (by decide +kernel) (by decide +kernel))
theorem fX2_13 {M : PM} (h : (pmY M).cls = RX2) : fOk M 13 2 0 := by
  refine ⟨RX2, TX2, 4, rfl, by decide, rfl, inG2, ?_⟩
  rw [h]
  exact Or.inl (mg 213 (by decide +kernel) (by decide +kernel))
theorem fX2_17 {M : PM} (h : (pmY M).cls = RX2) : fOk M 17 2 1 := by
  refine ⟨RX2, TX2, 4, rfl, by decide, rfl, inG2, ?_⟩
  rw [h]
  exact Or.inl (mg 215 (by decide +kernel) (by decide +kernel))
theorem fX2_21 {M : PM} (h : (pmY M).cls = RX2) : fOk M 21 2 2 := by
  refine ⟨RX2, TX2, 4, rfl, by decide, rfl, inG2, ?_⟩
  rw [h]
  exact Or.inl (mg 217 (by decide +kernel) (by decide +kernel))
theorem fX4_12 {M : PM} (h : (pmY M).cls = RX4) : fOk M 12 4 0 := by
  refine ⟨RX4, TX4, 9, rfl, by decide, rfl, inG4, ?_⟩
  rw [h]
  exact Or.inl (mg 155 (by decide +kernel) (by decide +kernel))
theorem fX4_22 {M : PM} (h : (pmY M).cls = RX4) : fOk M 22 0 0 := by
  refine ⟨RX0, TX0, 7, rfl, by decide, rfl, inG0, ?_⟩
  rw [h]
  exact Or.inr ⟨"WheelCount", mn 100 (by decide +kernel) (by decide +kernel)⟩
theorem fX4_30 {M : PM} (h : (pmY M).cls = RX4) : fOk M 30 4 3 := by
  refine ⟨RX4, TX4, 9, rfl, by decide, rfl, inG4, ?_⟩
  rw [h]
  exact Or.inl (mg 161 (by decide +kernel) (by decide +kernel))
theorem fX4_33 {M : PM} (h : (pmY M).cls = RX4) : fOk M 33 4 4 := by
  refine ⟨RX4, TX4, 9, rfl, by decide, rfl, inG4, ?_⟩
  rw [h]
  exact Or.inl (mg 163 (by decide +kernel) (by decide +kernel))
theorem fX4_37 {M : PM} (h : (pmY M).cls = RX4) : fOk M 37 4 7 := by
  refine ⟨RX4, TX4, 9, rfl, by decide, rfl, inG4, ?_⟩
  rw [h]
  exact Or.inl (mg 166 (by decide +kernel) (by decide +kernel))
theorem fX4_40 {M : PM} (h : (pmY M).cls = RX4) : fOk M 40 3 1 := by
  refine ⟨RX3, TX3, 2, rfl, by decide, rfl, inG3, ?_⟩
  rw [h]
  exact Or.inr ⟨"WheelCount", mn 147 (by decide +kernel) (by decide +kernel)⟩
theorem fX4_47 {M : PM} (h : (pmY M).cls = RX4) : fOk M 47 4 5 := by
  refine ⟨RX4, TX4, 9, rfl, by decide, rfl, inG4, ?_⟩
  rw [h]
  exact Or.inl (mg 164 (by decide +kernel) (by decide +kernel))
theorem fX4_79 {M : PM} (h : (pmY M).cls = RX4) : fOk M 79 4 8 := by
  refine ⟨RX4, TX4, 9, rfl, by decide, rfl, inG4, ?_⟩
  rw [h]
  exact Or.inl (mg 167 (by decide +kernel) (by decide +kernel))
theorem fX4_93 {M : PM} (h : (pmY M).cls = RX4) : fOk M 93 4 6 := by
  refine ⟨RX4, TX4, 9, rfl, by decide, rfl, inG4, ?_⟩
  rw [h]
  exact Or.inl (mg 165 (by decide +kernel) (by decide +kernel))
theorem fX4_96 {M : PM} (h : (pmY M).cls = RX4) : fOk M 96 3 0 := by
  refine ⟨RX3, TX3, 2, rfl, by decide, rfl, inG3, ?_⟩
  rw [h]
  exact Or.inr ⟨"WheelCount", mn 145 (by decide +kernel) (by decide +kernel)⟩
theorem fX6_7 {M : PM} (h : (pmY M).cls = RX6) : fOk M 7 6 0 := by
  refine ⟨RX6, TX6, 25, rfl, by decide, rfl, inG6, ?_⟩
  rw [h]
  exact Or.inl (mg 712 (by decide +kernel) (by decide +kernel))
theorem fX6_13 {M : PM} (h : (pmY M).cls = RX6) : fOk M 13 6 1 := by
  refine ⟨RX6, TX6, 25, rfl, by decide, rfl, inG6, ?_⟩
  rw [h]
  exact Or.inl (mg 713 (by decide +kernel) (by decide +kernel))
theorem fX6_16 {M : PM} (h : (pmY M).cls = RX6) : fOk M 16 6 3 := by
  refine ⟨RX6, TX6, 25, rfl, by decide, rfl, inG6, ?_⟩
  rw [h]
  exact Or.inl (mg 715 (by decide +kernel) (by decide +kernel))
theorem fX6_19 {M : PM} (h : (pmY M).cls = RX6) : fOk M 19 6 12 := by
  refine ⟨RX6, TX6, 25, rfl, by decide, rfl, inG6, ?_⟩
  rw [h]
  exact Or.inl (mg 724 (by decide +kernel) (by decide +kernel))
theorem fX6_22 {M : PM} (h : (pmY M).cls = RX6) : fOk M 22 6 13 := by
  refine ⟨RX6, TX6, 25, rfl, by decide, rfl, inG6, ?_⟩
  rw [h]
  exact Or.inl (mg 725 (by decide +kernel) (by decide +kernel))
theorem fX6_25 {M : PM} (h : (pmY M).cls = RX6) : fOk M 25 6 17 := by
  refine ⟨RX6, TX6, 25, rfl, by decide, rfl, inG6, ?_⟩
  rw [h]
  exact Or.inl (mg 729 (by decide +kernel) (by decide +kernel))
theorem fX6_28 {M : PM} (h : (pmY M).cls = RX6) : fOk M 28 6 19 := by
  refine ⟨RX6, TX6, 25, rfl, by decide, rfl, inG6, ?_⟩
  rw [h]
  exact Or.inl (mg 731 (by decide +kernel) (by decide +kernel))
theorem fX6_31 {M : PM} (h : (pmY M).cls = RX6) : fOk M 31 6 20 := by
  refine ⟨RX6, TX6, 25, rfl, by decide, rfl, inG6, ?_⟩
  rw [h]
  exact Or.inl (mg 732 (by decide +kernel) (by decide +kernel))
theorem fX6_35 {M : PM} (h : (pmY M).cls = RX6) : fOk M 35 6 21 := by
  refine ⟨RX6, TX6, 25, rfl, by decide, rfl, inG6, ?_⟩
  rw [h]
  exact Or.inl (mg 733 (by decide +kernel) (by decide +kernel))
theorem fX6_38 {M : PM} (h : (pmY M).cls = RX6) : fOk M 38 6 22 := by
  refine ⟨RX6, TX6, 25, rfl, by decide, rfl, inG6, ?_⟩
  rw [h]
  exact Or.inl (mg 734 (by decide +kernel) (by decide +kernel))
theorem fX6_41 {M : PM} (h : (pmY M).cls = RX6) : fOk M 41 6 23 := by
  refine ⟨RX6, TX6, 25, rfl, by decide, rfl, inG6, ?_⟩
  rw [h]
  exact Or.inl (mg 735 (by decide +kernel) (by decide +kernel))
theorem fX6_50 {M : PM} (h : (pmY M).cls = RX6) : fOk M 50 6 4 := by
  refine ⟨RX6, TX6, 25, rfl, by decide, rfl, inG6, ?_⟩
  rw [h]
  exact Or.inl (mg 716 (by decide +kernel) (by decide +kernel))
theorem fX6_54 {M : PM} (h : (pmY M).cls = RX6) : fOk M 54 6 6 := by
  refine ⟨RX6, TX6, 25, rfl, by decide, rfl, inG6, ?_⟩
  rw [h]
  exact Or.inl (mg 718 (by decide +kernel) (by decide +kernel))
theorem fX6_57 {M : PM} (h : (pmY M).cls = RX6) : fOk M 57 6 9 := by
  refine ⟨RX6, TX6, 25, rfl, by decide, rfl, inG6, ?_⟩
  rw [h]
  exact Or.inl (mg 721 (by decide +kernel) (by decide +kernel))
theorem fX6_60 {M : PM} (h : (pmY M).cls = RX6) : fOk M 60 6 7 := by
  refine ⟨RX6, TX6, 25, rfl, by decide, rfl, inG6, ?_⟩
  rw [h]
  exact Or.inl (mg 719 (by decide +kernel) (by decide +kernel))
theorem fX6_63 {M : PM} (h : (pmY M).cls = RX6) : fOk M 63 6 10 := by
  refine ⟨RX6, TX6, 25, rfl, by decide, rfl, inG6, ?_⟩
  rw [h]
  exact Or.inl (mg 722 (by decide +kernel) (by decide +kernel))
theorem fX6_66 {M : PM} (h : (pmY M).cls = RX6) : fOk M 66 6 8 := by
  refine ⟨RX6, TX6, 25, rfl, by decide, rfl, inG6, ?_⟩
  rw [h]
  exact Or.inl (mg 720 (by decide +kernel) (by decide +kernel))
theorem fX6_73 {M : PM} (h : (pmY M).cls = RX6) : fOk M 73 6 11 := by
  refine ⟨RX6, TX6, 25, rfl, by decide, rfl, inG6, ?_⟩
  rw [h]
  exact Or.inl (mg 723 (by decide +kernel) (by decide +kernel))
theorem fX6_101 {M : PM} (h : (pmY M).cls = RX6) : fOk M 101 6 2 := by
  refine ⟨RX6, TX6, 25, rfl, by decide, rfl, inG6, ?_⟩
  rw [h]
  exact Or.inl (mg 714 (by decide +kernel) (by decide +kernel))
theorem fX6_111 {M : PM} (h : (pmY M).cls = RX6) : fOk M 111 6 5 := by
  refine ⟨RX6, TX6, 25, rfl, by decide, rfl, inG6, ?_⟩
  rw [h]
  exact Or.inl (mg 717 (by decide +kernel) (by decide +kernel))
theorem fX6_114 {M : PM} (h : (pmY M).cls = RX6) : fOk M 114 6 18 := by
  refine ⟨RX6, TX6, 25, rfl, by decide, rfl, inG6, ?_⟩
  rw [h]
  exact Or.inl (mg 730 (by decide +kernel) (by decide +kernel))
theorem fX6_125 {M : PM} (h : (pmY M).cls = RX6) : fOk M 125 6 14 := by
  refine ⟨RX6, TX6, 25, rfl, by decide, rfl, inG6, ?_⟩
  rw [h]
  exact Or.inl (mg 726 (by decide +kernel) (by decide +kernel))
theorem fX6_170 {M : PM} (h : (pmY M).cls = RX6) : fOk M 170 6 16 := by
  refine ⟨RX6, TX6, 25, rfl, by decide, rfl, inG6, ?_⟩
  rw [h]
  exact Or.inl (mg 728 (by decide +kernel) (by decide +kernel))
theorem fX6_173 {M : PM} (h : (pmY M).cls = RX6) : fOk M 173 6 15 := by
  refine ⟨RX6, TX6, 25, rfl, by decide, rfl, inG6, ?_⟩
  rw [h]
  exact Or.inl (mg 727 (by decide +kernel) (by decide +kernel))
theorem fX6_221 {M : PM} (h : (pmY M).cls = RX6) : fOk M 221 6 24 := by
  refine ⟨RX6, TX6, 25, rfl, by decide, rfl, inG6, ?_⟩
  rw [h]
  exact Or.inl (mg 736 (by decide +kernel) (by decide +kernel))
theorem fJ0_9 {M : PM} (h : (pmY M).cls = RJ0) : sfOk M 9 "value" "[B" := by
  unfold sfOk
  rw [h]
  exact mg 1068 (by decide +kernel) (by decide +kernel)
theorem fJ0_15 {M : PM} (h : (pmY M).cls = RJ0) : sfOk M 15 "coder" "B" := by
  unfold sfOk
  rw [h]
  exact mg 1069 (by decide +kernel) (by decide +kernel)
theorem pX5_53 {M : PM} (h : (pmY M).cls = RX5) : pOk M 53 5 8 false := by
  refine ⟨RX5, TX5, 12, tyX5, rfl, by decide, rfl, inG5, ?_, tyX5_ok, nmX5, rfl, rfl⟩
  rw [h]
  exact Or.inl (mg 240 (by decide +kernel) (by decide +kernel))
theorem pX5_74 {M : PM} (h : (pmY M).cls = RX5) : pOk M 74 3 1 false := by
  refine ⟨RX3, TX3, 2, tyX3, rfl, by decide, rfl, inG3, ?_, tyX3_ok, nmX3, rfl, rfl⟩
  rw [h]
  exact Or.inr ⟨"WheelCount", mn 146 (by decide +kernel) (by decide +kernel)⟩
theorem pX5_94 {M : PM} (h : (pmY M).cls = RX5) : pOk M 94 1 0 false := by
  refine ⟨RX1, TX1, 3, tyX1, rfl, by decide, rfl, inG1, ?_, tyX1_ok, nmX1, rfl, rfl⟩
  rw [h]
  exact Or.inr ⟨"WheelCount", mn 194 (by decide +kernel) (by decide +kernel)⟩
theorem pX5_103 {M : PM} (h : (pmY M).cls = RX5) : pOk M 103 0 0 false := by
  refine ⟨RX0, TX0, 7, tyX0, rfl, by decide, rfl, inG0, ?_, tyX0_ok, nmX0, rfl, rfl⟩
  rw [h]
  exact Or.inr ⟨"WheelCount", mn 102 (by decide +kernel) (by decide +kernel)⟩
theorem pX5_104 {M : PM} (h : (pmY M).cls = RX5) : pOk M 104 0 1 false := by
  refine ⟨RX0, TX0, 7, tyX0, rfl, by decide, rfl, inG0, ?_, tyX0_ok, nmX0, rfl, rfl⟩
  rw [h]
  exact Or.inr ⟨"WheelCount", mn 104 (by decide +kernel) (by decide +kernel)⟩
theorem pX0_24 {M : PM} (h : (pmY M).cls = RX0) : pOk M 24 0 0 false := by
  refine ⟨RX0, TX0, 7, tyX0, rfl, by decide, rfl, inG0, ?_, tyX0_ok, nmX0, rfl, rfl⟩
  rw [h]
  exact Or.inl (mg 101 (by decide +kernel) (by decide +kernel))
theorem pX0_51 {M : PM} (h : (pmY M).cls = RX0) : pOk M 51 0 1 false := by
  refine ⟨RX0, TX0, 7, tyX0, rfl, by decide, rfl, inG0, ?_, tyX0_ok, nmX0, rfl, rfl⟩
  rw [h]
  exact Or.inl (mg 105 (by decide +kernel) (by decide +kernel))
theorem pX0_54 {M : PM} (h : (pmY M).cls = RX0) : pOk M 54 0 2 false := by
  refine ⟨RX0, TX0, 7, tyX0, rfl, by decide, rfl, inG0, ?_, tyX0_ok, nmX0, rfl, rfl⟩
  rw [h]
  exact Or.inl (mg 106 (by decide +kernel) (by decide +kernel))
theorem pX2_13 {M : PM} (h : (pmY M).cls = RX2) : pOk M 13 2 0 true := by
  refine ⟨RX2, TX2, 4, tyX2, rfl, by decide, rfl, inG2, ?_, tyX2_ok, nmX2, rfl, rfl⟩
  rw [h]
  exact Or.inl (mg 213 (by decide +kernel) (by decide +kernel))
theorem pX2_17 {M : PM} (h : (pmY M).cls = RX2) : pOk M 17 2 1 false := by
  refine ⟨RX2, TX2, 4, tyX2, rfl, by decide, rfl, inG2, ?_, tyX2_ok, nmX2, rfl, rfl⟩
  rw [h]
  exact Or.inl (mg 215 (by decide +kernel) (by decide +kernel))
theorem pX2_21 {M : PM} (h : (pmY M).cls = RX2) : pOk M 21 2 2 false := by
  refine ⟨RX2, TX2, 4, tyX2, rfl, by decide, rfl, inG2, ?_, tyX2_ok, nmX2, rfl, rfl⟩
  rw [h]
  exact Or.inl (mg 217 (by decide +kernel) (by decide +kernel))
theorem pX4_18 {M : PM} (h : (pmY M).cls = RX4) : pOk M 18 4 1 false := by
  refine ⟨RX4, TX4, 9, tyX4, rfl, by decide, rfl, inG4, ?_, tyX4_ok, nmX4, rfl, rfl⟩
  rw [h]
  exact Or.inl (mg 157 (by decide +kernel) (by decide +kernel))
theorem pX4_22 {M : PM} (h : (pmY M).cls = RX4) : pOk M 22 0 0 false := by
  refine ⟨RX0, TX0, 7, tyX0, rfl, by decide, rfl, inG0, ?_, tyX0_ok, nmX0, rfl, rfl⟩
  rw [h]
  exact Or.inr ⟨"WheelCount", mn 100 (by decide +kernel) (by decide +kernel)⟩
theorem pX4_27 {M : PM} (h : (pmY M).cls = RX4) : pOk M 27 0 1 false := by
  refine ⟨RX0, TX0, 7, tyX0, rfl, by decide, rfl, inG0, ?_, tyX0_ok, nmX0, rfl, rfl⟩
  rw [h]
  exact Or.inr ⟨"WheelCount", mn 103 (by decide +kernel) (by decide +kernel)⟩
theorem pX4_30 {M : PM} (h : (pmY M).cls = RX4) : pOk M 30 4 3 false := by
  refine ⟨RX4, TX4, 9, tyX4, rfl, by decide, rfl, inG4, ?_, tyX4_ok, nmX4, rfl, rfl⟩
  rw [h]
  exact Or.inl (mg 161 (by decide +kernel) (by decide +kernel))
theorem pX4_33 {M : PM} (h : (pmY M).cls = RX4) : pOk M 33 4 4 true := by
  refine ⟨RX4, TX4, 9, tyX4, rfl, by decide, rfl, inG4, ?_, tyX4_ok, nmX4, rfl, rfl⟩
  rw [h]
  exact Or.inl (mg 163 (by decide +kernel) (by decide +kernel))
theorem pX4_37 {M : PM} (h : (pmY M).cls = RX4) : pOk M 37 4 7 false := by
  refine ⟨RX4, TX4, 9, tyX4, rfl, by decide, rfl, inG4, ?_, tyX4_ok, nmX4, rfl, rfl⟩
  rw [h]
  exact Or.inl (mg 166 (by decide +kernel) (by decide +kernel))
theorem pX4_47 {M : PM} (h : (pmY M).cls = RX4) : pOk M 47 4 5 false := by
  refine ⟨RX4, TX4, 9, tyX4, rfl, by decide, rfl, inG4, ?_, tyX4_ok, nmX4, rfl, rfl⟩
  rw [h]
  exact Or.inl (mg 164 (by decide +kernel) (by decide +kernel))
theorem pX4_79 {M : PM} (h : (pmY M).cls = RX4) : pOk M 79 4 8 false := by
  refine ⟨RX4, TX4, 9, tyX4, rfl, by decide, rfl, inG4, ?_, tyX4_ok, nmX4, rfl, rfl⟩
  rw [h]
  exact Or.inl (mg 167 (by decide +kernel) (by decide +kernel))
theorem pX4_93 {M : PM} (h : (pmY M).cls = RX4) : pOk M 93 4 6 false := by
  refine ⟨RX4, TX4, 9, tyX4, rfl, by decide, rfl, inG4, ?_, tyX4_ok, nmX4, rfl, rfl⟩
  rw [h]
  exact Or.inl (mg 165 (by decide +kernel) (by decide +kernel))
theorem pX4_123 {M : PM} (h : (pmY M).cls = RX4) : pOk M 123 4 2 false := by
  refine ⟨RX4, TX4, 9, tyX4, rfl, by decide, rfl, inG4, ?_, tyX4_ok, nmX4, rfl, rfl⟩
  rw [h]
  exact Or.inl (mg 160 (by decide +kernel) (by decide +kernel))
theorem pX6_50 {M : PM} (h : (pmY M).cls = RX6) : pOk M 50 6 4 false := by
  refine ⟨RX6, TX6, 25, tyX6, rfl, by decide, rfl, inG6, ?_, tyX6_ok, nmX6, rfl, rfl⟩
  rw [h]
  exact Or.inl (mg 716 (by decide +kernel) (by decide +kernel))
theorem pX6_54 {M : PM} (h : (pmY M).cls = RX6) : pOk M 54 6 6 false := by
  refine ⟨RX6, TX6, 25, tyX6, rfl, by decide, rfl, inG6, ?_, tyX6_ok, nmX6, rfl, rfl⟩
  rw [h]
  exact Or.inl (mg 718 (by decide +kernel) (by decide +kernel))
theorem pX6_57 {M : PM} (h : (pmY M).cls = RX6) : pOk M 57 6 9 false := by
  refine ⟨RX6, TX6, 25, tyX6, rfl, by decide, rfl, inG6, ?_, tyX6_ok, nmX6, rfl, rfl⟩
  rw [h]
  exact Or.inl (mg 721 (by decide +kernel) (by decide +kernel))
theorem pX6_60 {M : PM} (h : (pmY M).cls = RX6) : pOk M 60 6 7 false := by
  refine ⟨RX6, TX6, 25, tyX6, rfl, by decide, rfl, inG6, ?_, tyX6_ok, nmX6, rfl, rfl⟩
  rw [h]
  exact Or.inl (mg 719 (by decide +kernel) (by decide +kernel))
theorem pX6_63 {M : PM} (h : (pmY M).cls = RX6) : pOk M 63 6 10 false := by
  refine ⟨RX6, TX6, 25, tyX6, rfl, by decide, rfl, inG6, ?_, tyX6_ok, nmX6, rfl, rfl⟩
  rw [h]
  exact Or.inl (mg 722 (by decide +kernel) (by decide +kernel))
theorem pX6_66 {M : PM} (h : (pmY M).cls = RX6) : pOk M 66 6 8 false := by
  refine ⟨RX6, TX6, 25, tyX6, rfl, by decide, rfl, inG6, ?_, tyX6_ok, nmX6, rfl, rfl⟩
  rw [h]
  exact Or.inl (mg 720 (by decide +kernel) (by decide +kernel))
theorem pX6_73 {M : PM} (h : (pmY M).cls = RX6) : pOk M 73 6 11 false := by
  refine ⟨RX6, TX6, 25, tyX6, rfl, by decide, rfl, inG6, ?_, tyX6_ok, nmX6, rfl, rfl⟩
  rw [h]
  exact Or.inl (mg 723 (by decide +kernel) (by decide +kernel))
theorem pX6_101 {M : PM} (h : (pmY M).cls = RX6) : pOk M 101 6 2 true := by
  refine ⟨RX6, TX6, 25, tyX6, rfl, by decide, rfl, inG6, ?_, tyX6_ok, nmX6, rfl, rfl⟩
  rw [h]
  exact Or.inl (mg 714 (by decide +kernel) (by decide +kernel))
theorem pX6_111 {M : PM} (h : (pmY M).cls = RX6) : pOk M 111 6 5 false := by
  refine ⟨RX6, TX6, 25, tyX6, rfl, by decide, rfl, inG6, ?_, tyX6_ok, nmX6, rfl, rfl⟩
  rw [h]
  exact Or.inl (mg 717 (by decide +kernel) (by decide +kernel))
theorem pX6_114 {M : PM} (h : (pmY M).cls = RX6) : pOk M 114 6 18 false := by
  refine ⟨RX6, TX6, 25, tyX6, rfl, by decide, rfl, inG6, ?_, tyX6_ok, nmX6, rfl, rfl⟩
  rw [h]
  exact Or.inl (mg 730 (by decide +kernel) (by decide +kernel))
theorem pX6_125 {M : PM} (h : (pmY M).cls = RX6) : pOk M 125 6 14 false := by
  refine ⟨RX6, TX6, 25, tyX6, rfl, by decide, rfl, inG6, ?_, tyX6_ok, nmX6, rfl, rfl⟩
  rw [h]
  exact Or.inl (mg 726 (by decide +kernel) (by decide +kernel))
theorem pX6_170 {M : PM} (h : (pmY M).cls = RX6) : pOk M 170 6 16 false := by
  refine ⟨RX6, TX6, 25, tyX6, rfl, by decide, rfl, inG6, ?_, tyX6_ok, nmX6, rfl, rfl⟩
  rw [h]
  exact Or.inl (mg 728 (by decide +kernel) (by decide +kernel))
theorem pX6_173 {M : PM} (h : (pmY M).cls = RX6) : pOk M 173 6 15 false := by
  refine ⟨RX6, TX6, 25, tyX6, rfl, by decide, rfl, inG6, ?_, tyX6_ok, nmX6, rfl, rfl⟩
  rw [h]
  exact Or.inl (mg 727 (by decide +kernel) (by decide +kernel))
theorem pX6_221 {M : PM} (h : (pmY M).cls = RX6) : pOk M 221 6 24 false := by
  refine ⟨RX6, TX6, 25, tyX6, rfl, by decide, rfl, inG6, ?_, tyX6_ok, nmX6, rfl, rfl⟩
  rw [h]
  exact Or.inl (mg 736 (by decide +kernel) (by decide +kernel))
theorem kcX5_147 {M : PM} (h : (pmY M).cls = RX5) : kOk M 147 999999 := by
  unfold kOk
  rw [h]
  exact mg 492 (by decide +kernel) (by decide +kernel)
theorem kcX5_166 {M : PM} (h : (pmY M).cls = RX5) : kOk M 166 248831 := by
  unfold kOk
  rw [h]
  exact mg 522 (by decide +kernel) (by decide +kernel)
theorem kcX5_220 {M : PM} (h : (pmY M).cls = RX5) : kOk M 220 1103515245 := by
  unfold kOk
  rw [h]
  exact mg 645 (by decide +kernel) (by decide +kernel)
theorem kcX5_257 {M : PM} (h : (pmY M).cls = RX5) : kOk M 257 248832 := by
  unfold kOk
  rw [h]
  exact mg 567 (by decide +kernel) (by decide +kernel)
theorem kcX0_79 {M : PM} (h : (pmY M).cls = RX0) : kOk M 79 999999 := by
  unfold kOk
  rw [h]
  exact mg 689 (by decide +kernel) (by decide +kernel)
theorem kcX6_163 {M : PM} (h : (pmY M).cls = RX6) : kOk M 163 999999 := by
  unfold kOk
  rw [h]
  exact mg 913 (by decide +kernel) (by decide +kernel)
theorem kcX6_190 {M : PM} (h : (pmY M).cls = RX6) : kOk M 190 1000000 := by
  unfold kOk
  rw [h]
  exact mg 975 (by decide +kernel) (by decide +kernel)
theorem kcX6_218 {M : PM} (h : (pmY M).cls = RX6) : kOk M 218 1103515245 := by
  unfold kOk
  rw [h]
  exact mg 1038 (by decide +kernel) (by decide +kernel)
theorem klX5_185 {M : PM} (h : (pmY M).cls = RX5) : kkOk M 185 (-1) := by
  unfold kkOk
  rw [h]
  exact mg 580 (by decide +kernel) (by decide +kernel)
theorem klX5_261 {M : PM} (h : (pmY M).cls = RX5) : kkOk M 261 (10) := by
  unfold kkOk
  rw [h]
  exact mg 585 (by decide +kernel) (by decide +kernel)
theorem klX6_44 {M : PM} (h : (pmY M).cls = RX6) : kkOk M 44 (127) := by
  unfold kkOk
  rw [h]
  exact mg 792 (by decide +kernel) (by decide +kernel)
theorem klX6_76 {M : PM} (h : (pmY M).cls = RX6) : kkOk M 76 (97) := by
  unfold kkOk
  rw [h]
  exact mg 812 (by decide +kernel) (by decide +kernel)
theorem klX6_78 {M : PM} (h : (pmY M).cls = RX6) : kkOk M 78 (122) := by
  unfold kkOk
  rw [h]
  exact mg 813 (by decide +kernel) (by decide +kernel)
theorem klX6_80 {M : PM} (h : (pmY M).cls = RX6) : kkOk M 80 (48) := by
  unfold kkOk
  rw [h]
  exact mg 814 (by decide +kernel) (by decide +kernel)
theorem klX6_82 {M : PM} (h : (pmY M).cls = RX6) : kkOk M 82 (57) := by
  unfold kkOk
  rw [h]
  exact mg 815 (by decide +kernel) (by decide +kernel)
theorem klX6_99 {M : PM} (h : (pmY M).cls = RX6) : kkOk M 99 (4) := by
  unfold kkOk
  rw [h]
  exact mg 828 (by decide +kernel) (by decide +kernel)
theorem klX6_117 {M : PM} (h : (pmY M).cls = RX6) : kkOk M 117 (11) := by
  unfold kkOk
  rw [h]
  exact mg 887 (by decide +kernel) (by decide +kernel)
theorem klX6_119 {M : PM} (h : (pmY M).cls = RX6) : kkOk M 119 (248831) := by
  unfold kkOk
  rw [h]
  exact mg 941 (by decide +kernel) (by decide +kernel)
theorem klX6_148 {M : PM} (h : (pmY M).cls = RX6) : kkOk M 148 (3) := by
  unfold kkOk
  rw [h]
  exact mg 881 (by decide +kernel) (by decide +kernel)
theorem klX6_150 {M : PM} (h : (pmY M).cls = RX6) : kkOk M 150 (2) := by
  unfold kkOk
  rw [h]
  exact mg 882 (by decide +kernel) (by decide +kernel)
theorem klX6_152 {M : PM} (h : (pmY M).cls = RX6) : kkOk M 152 (12) := by
  unfold kkOk
  rw [h]
  exact mg 883 (by decide +kernel) (by decide +kernel)
theorem klX6_161 {M : PM} (h : (pmY M).cls = RX6) : kkOk M 161 (1000) := by
  unfold kkOk
  rw [h]
  exact mg 912 (by decide +kernel) (by decide +kernel)
theorem klX6_185 {M : PM} (h : (pmY M).cls = RX6) : kkOk M 185 (200) := by
  unfold kkOk
  rw [h]
  exact mg 958 (by decide +kernel) (by decide +kernel)
theorem klX6_195 {M : PM} (h : (pmY M).cls = RX6) : kkOk M 195 (10) := by
  unfold kkOk
  rw [h]
  exact mg 988 (by decide +kernel) (by decide +kernel)
theorem klX6_201 {M : PM} (h : (pmY M).cls = RX6) : kkOk M 201 (8) := by
  unfold kkOk
  rw [h]
  exact mg 989 (by decide +kernel) (by decide +kernel)
theorem klX6_207 {M : PM} (h : (pmY M).cls = RX6) : kkOk M 207 (-1) := by
  unfold kkOk
  rw [h]
  exact mg 997 (by decide +kernel) (by decide +kernel)
theorem klX6_219 {M : PM} (h : (pmY M).cls = RX6) : kkOk M 219 (20) := by
  unfold kkOk
  rw [h]
  exact mg 1059 (by decide +kernel) (by decide +kernel)
theorem gsJ0_38 {M : PM} (h : (pmY M).cls = RJ0) : gsOk M 38 "java/lang/String" "COMPACT_STRINGS" "Z" := by
  unfold gsOk
  rw [h]
  exact mg 323 (by decide +kernel) (by decide +kernel)
theorem gsJ0_1053 {M : PM} (h : (pmY M).cls = RJ0) : gsOk M 1053 "jdk/internal/util/Preconditions" "SIOOBE_FORMATTER" "Ljava/util/function/BiFunction;" := by
  unfold gsOk
  rw [h]
  exact mg 339 (by decide +kernel) (by decide +kernel)
theorem gsJ2_44 {M : PM} (h : (pmY M).cls = RJ2) : gsOk M 44 "java/lang/StringUTF16" "$assertionsDisabled" "Z" := by
  unfold gsOk
  rw [h]
  exact mg 357 (by decide +kernel) (by decide +kernel)
theorem gsJ2_59 {M : PM} (h : (pmY M).cls = RJ2) : gsOk M 59 "java/lang/StringUTF16" "HI_BYTE_SHIFT" "I" := by
  unfold gsOk
  rw [h]
  exact mg 359 (by decide +kernel) (by decide +kernel)
theorem gsJ2_63 {M : PM} (h : (pmY M).cls = RJ2) : gsOk M 63 "java/lang/StringUTF16" "LO_BYTE_SHIFT" "I" := by
  unfold gsOk
  rw [h]
  exact mg 361 (by decide +kernel) (by decide +kernel)
