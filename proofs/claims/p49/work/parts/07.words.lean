-- words of the tables, fields, callees: by program (wip/p49/gen/gen.py)
theorem kk_i_1 : Int32.ofInt 1 = (1 : Int32) := by decide
theorem kk_i_0 : Int32.ofInt 0 = (0 : Int32) := by decide
theorem kk_i_m1 : Int32.ofInt (-1) = ((-1) : Int32) := by decide
theorem kk_b_m4 : (Int8.ofInt (-4)).toInt32 = ((-4) : Int32) := by decide
theorem kk_i_4 : Int32.ofInt 4 = (4 : Int32) := by decide
theorem kk_i_2 : Int32.ofInt 2 = (2 : Int32) := by decide
theorem kk_i_3 : Int32.ofInt 3 = (3 : Int32) := by decide
theorem kk_b_m6 : (Int8.ofInt (-6)).toInt32 = ((-6) : Int32) := by decide
theorem kk_s_1000 : (Int16.ofInt 1000).toInt32 = (1000 : Int32) := by decide
theorem kk_s_2001 : (Int16.ofInt 2001).toInt32 = (2001 : Int32) := by decide
theorem kk_b_100 : (Int8.ofInt 100).toInt32 = (100 : Int32) := by decide
theorem kk_s_5000 : (Int16.ofInt 5000).toInt32 = (5000 : Int32) := by decide
theorem kk_b_7 : (Int8.ofInt 7).toInt32 = (7 : Int32) := by decide
theorem kk_b_11 : (Int8.ofInt 11).toInt32 = (11 : Int32) := by decide
theorem kk_b_m2 : (Int8.ofInt (-2)).toInt32 = ((-2) : Int32) := by decide
theorem kk_b_m5 : (Int8.ofInt (-5)).toInt32 = ((-5) : Int32) := by decide
theorem kk_s_999 : (Int16.ofInt 999).toInt32 = (999 : Int32) := by decide
theorem kk_b_8 : (Int8.ofInt 8).toInt32 = (8 : Int32) := by decide
theorem kk_b_10 : (Int8.ofInt 10).toInt32 = (10 : Int32) := by decide
theorem kk_b_m3 : (Int8.ofInt (-3)).toInt32 = ((-3) : Int32) := by decide
theorem kk_b_60 : (Int8.ofInt 60).toInt32 = (60 : Int32) := by decide
theorem kk_s_3000 : (Int16.ofInt 3000).toInt32 = (3000 : Int32) := by decide
theorem kk_b_20 : (Int8.ofInt 20).toInt32 = (20 : Int32) := by decide
theorem kk_b_30 : (Int8.ofInt 30).toInt32 = (30 : Int32) := by decide
theorem w_fl_X6_21 : Cond.fieldLink RX6 21 "KeyDesk$Row" "size" "I" ∈ kdtb := kdtb_mem 40 (by decide +kernel) rfl
theorem w_fl_X6_15 : Cond.fieldLink RX6 15 "KeyDesk$Row" "items" "[I" ∈ kdtb := kdtb_mem 39 (by decide +kernel) rfl
theorem w_cd_X6_isFull : Cond.code yX6_isFull cX6_isFull 1 (some .boolean) ∈ kdtb := kdtb_mem 512 (by decide +kernel) rfl
theorem w_in_X6 : Cond.initialized RX6 ∈ kdtb := kdtb_mem 10 (by decide +kernel) rfl
theorem w_ml_X6_29 : Cond.methodLink RX6 29 yX6_isFull ∈ kdtb := kdtb_mem 509 (by decide +kernel) rfl
theorem w_im_X6_isFull : Cond.instanceMethod yX6_isFull ∈ kdtb := kdtb_mem 510 (by decide +kernel) rfl
theorem w_se_X6_isFull : Cond.selects yX6_isFull.cls yX6_isFull yX6_isFull ∈ kdtb := kdtb_mem 511 (by decide +kernel) rfl
theorem w_cd_X6_insert : Cond.code yX6_insert cX6_insert 4 none ∈ kdtb := kdtb_mem 508 (by decide +kernel) rfl
theorem w_ml_X6_25 : Cond.methodLink RX6 25 yX6_insert ∈ kdtb := kdtb_mem 546 (by decide +kernel) rfl
theorem w_im_X6_insert : Cond.instanceMethod yX6_insert ∈ kdtb := kdtb_mem 506 (by decide +kernel) rfl
theorem w_se_X6_insert : Cond.selects yX6_insert.cls yX6_insert yX6_insert ∈ kdtb := kdtb_mem 507 (by decide +kernel) rfl
theorem w_cd_X6_at : Cond.code yX6_at cX6_at 2 (some .int) ∈ kdtb := kdtb_mem 395 (by decide +kernel) rfl
theorem w_ml_X6_33 : Cond.methodLink RX6 33 yX6_at ∈ kdtb := kdtb_mem 563 (by decide +kernel) rfl
theorem w_im_X6_at : Cond.instanceMethod yX6_at ∈ kdtb := kdtb_mem 393 (by decide +kernel) rfl
theorem w_se_X6_at : Cond.selects yX6_at.cls yX6_at yX6_at ∈ kdtb := kdtb_mem 394 (by decide +kernel) rfl
theorem w_cd_X6_has : Cond.code yX6_has cX6_has 2 (some .boolean) ∈ kdtb := kdtb_mem 387 (by decide +kernel) rfl
theorem w_ml_X6_37 : Cond.methodLink RX6 37 yX6_has ∈ kdtb := kdtb_mem 564 (by decide +kernel) rfl
theorem w_im_X6_has : Cond.instanceMethod yX6_has ∈ kdtb := kdtb_mem 385 (by decide +kernel) rfl
theorem w_se_X6_has : Cond.selects yX6_has.cls yX6_has yX6_has ∈ kdtb := kdtb_mem 386 (by decide +kernel) rfl
theorem w_cd_X6_add : Cond.code yX6_add cX6_add 2 none ∈ kdtb := kdtb_mem 545 (by decide +kernel) rfl
theorem w_ml_X6_45 : Cond.methodLink RX6 45 yX6_add ∈ kdtb := kdtb_mem 702 (by decide +kernel) rfl
theorem w_im_X6_add : Cond.instanceMethod yX6_add ∈ kdtb := kdtb_mem 543 (by decide +kernel) rfl
theorem w_se_X6_add : Cond.selects yX6_add.cls yX6_add yX6_add ∈ kdtb := kdtb_mem 544 (by decide +kernel) rfl
theorem w_cd_X6_clear : Cond.code yX6_clear cX6_clear 2 (some .int) ∈ kdtb := kdtb_mem 468 (by decide +kernel) rfl
theorem w_ml_X6_41 : Cond.methodLink RX6 41 yX6_clear ∈ kdtb := kdtb_mem 701 (by decide +kernel) rfl
theorem w_im_X6_clear : Cond.instanceMethod yX6_clear ∈ kdtb := kdtb_mem 466 (by decide +kernel) rfl
theorem w_se_X6_clear : Cond.selects yX6_clear.cls yX6_clear yX6_clear ∈ kdtb := kdtb_mem 467 (by decide +kernel) rfl
theorem w_fl_X8_40 : Cond.fieldLink RX8 40 "KeyDesk$Tongue" "rules" "I" ∈ kdtb := kdtb_mem 59 (by decide +kernel) rfl
theorem w_fl_X8_30 : Cond.fieldLink RX8 30 "KeyDesk$Tongue" "joints" "LKeyDesk$Row;" ∈ kdtb := kdtb_mem 62 (by decide +kernel) rfl
theorem w_cd_X6_size : Cond.code yX6_size cX6_size 1 (some .int) ∈ kdtb := kdtb_mem 411 (by decide +kernel) rfl
theorem w_ml_X8_44 : Cond.methodLink RX8 44 yX6_size ∈ kdtb := kdtb_mem 658 (by decide +kernel) rfl
theorem w_im_X6_size : Cond.instanceMethod yX6_size ∈ kdtb := kdtb_mem 409 (by decide +kernel) rfl
theorem w_se_X6_size : Cond.selects yX6_size.cls yX6_size yX6_size ∈ kdtb := kdtb_mem 410 (by decide +kernel) rfl
theorem w_fl_X4_14 : Cond.fieldLink RX4 14 "KeyDesk$Line" "strokes" "LKeyDesk$Row;" ∈ kdtb := kdtb_mem 91 (by decide +kernel) rfl
theorem w_fl_X4_29 : Cond.fieldLink RX4 29 "KeyDesk$Line" "tongue" "I" ∈ kdtb := kdtb_mem 95 (by decide +kernel) rfl
theorem w_fl_X10_14 : Cond.fieldLink RX10 14 "KeyDesk$Words" "tonguesOfWords" "LKeyDesk$Row;" ∈ kdtb := kdtb_mem 115 (by decide +kernel) rfl
theorem w_ml_X10_30 : Cond.methodLink RX10 30 yX6_size ∈ kdtb := kdtb_mem 473 (by decide +kernel) rfl
theorem w_ml_X10_34 : Cond.methodLink RX10 34 yX6_isFull ∈ kdtb := kdtb_mem 690 (by decide +kernel) rfl
theorem w_ml_X10_38 : Cond.methodLink RX10 38 yX6_has ∈ kdtb := kdtb_mem 384 (by decide +kernel) rfl
theorem w_ml_X10_42 : Cond.methodLink RX10 42 yX6_at ∈ kdtb := kdtb_mem 392 (by decide +kernel) rfl
theorem w_fl_X10_20 : Cond.fieldLink RX10 20 "KeyDesk$Words" "signsOfWords" "LKeyDesk$Row;" ∈ kdtb := kdtb_mem 116 (by decide +kernel) rfl
theorem w_fl_X10_23 : Cond.fieldLink RX10 23 "KeyDesk$Words" "countsOfWords" "LKeyDesk$Row;" ∈ kdtb := kdtb_mem 117 (by decide +kernel) rfl
theorem w_fl_X10_26 : Cond.fieldLink RX10 26 "KeyDesk$Words" "keysOfWords" "[LKeyDesk$Row;" ∈ kdtb := kdtb_mem 118 (by decide +kernel) rfl
theorem w_cd_X10_isFull : Cond.code yX10_isFull cX10_isFull 1 (some .boolean) ∈ kdtb := kdtb_mem 689 (by decide +kernel) rfl
theorem w_in_X10 : Cond.initialized RX10 ∈ kdtb := kdtb_mem 14 (by decide +kernel) rfl
theorem w_ml_X10_50 : Cond.methodLink RX10 50 yX10_isFull ∈ kdtb := kdtb_mem 695 (by decide +kernel) rfl
theorem w_im_X10_isFull : Cond.instanceMethod yX10_isFull ∈ kdtb := kdtb_mem 687 (by decide +kernel) rfl
theorem w_se_X10_isFull : Cond.selects yX10_isFull.cls yX10_isFull yX10_isFull ∈ kdtb := kdtb_mem 688 (by decide +kernel) rfl
theorem w_cd_X10_size : Cond.code yX10_size cX10_size 1 (some .int) ∈ kdtb := kdtb_mem 472 (by decide +kernel) rfl
theorem w_ml_X10_51 : Cond.methodLink RX10 51 yX10_size ∈ kdtb := kdtb_mem 696 (by decide +kernel) rfl
theorem w_im_X10_size : Cond.instanceMethod yX10_size ∈ kdtb := kdtb_mem 470 (by decide +kernel) rfl
theorem w_se_X10_size : Cond.selects yX10_size.cls yX10_size yX10_size ∈ kdtb := kdtb_mem 471 (by decide +kernel) rfl
theorem w_cd_X6_copy : Cond.code yX6_copy cX6_copy 3 none ∈ kdtb := kdtb_mem 700 (by decide +kernel) rfl
theorem w_ml_X10_52 : Cond.methodLink RX10 52 yX6_copy ∈ kdtb := kdtb_mem 697 (by decide +kernel) rfl
theorem w_im_X6_copy : Cond.instanceMethod yX6_copy ∈ kdtb := kdtb_mem 698 (by decide +kernel) rfl
theorem w_se_X6_copy : Cond.selects yX6_copy.cls yX6_copy yX6_copy ∈ kdtb := kdtb_mem 699 (by decide +kernel) rfl
theorem w_ml_X10_56 : Cond.methodLink RX10 56 yX6_add ∈ kdtb := kdtb_mem 703 (by decide +kernel) rfl
theorem w_fl_X7_17 : Cond.fieldLink RX7 17 "KeyDesk$Slips" "least" "[[I" ∈ kdtb := kdtb_mem 137 (by decide +kernel) rfl
theorem w_ml_X7_20 : Cond.methodLink RX7 20 yX6_size ∈ kdtb := kdtb_mem 426 (by decide +kernel) rfl
theorem w_ml_X7_51 : Cond.methodLink RX7 51 Lib.Math.abs.name ∈ kdtb := kdtb_mem 443 (by decide +kernel) rfl
theorem w_st_Math_abs : Cond.static Lib.Math.abs.name ∈ kdtb := kdtb_mem 444 (by decide +kernel) rfl
theorem w_in_Math : Cond.initialized "java/lang/Math" ∈ kdtb := kdtb_mem 11 (by decide +kernel) rfl
theorem w_cd_Math_abs : Cond.code Lib.Math.abs.name Lib.Math.abs.code 1 (some .int) ∈ kdtb := kdtb_mem 445 (by decide +kernel) rfl
theorem w_fl_X7_9 : Cond.fieldLink RX7 9 "KeyDesk$Slips" "prices" "[I" ∈ kdtb := kdtb_mem 136 (by decide +kernel) rfl
theorem w_ml_X7_38 : Cond.methodLink RX7 38 yX6_at ∈ kdtb := kdtb_mem 435 (by decide +kernel) rfl
theorem w_ml_X7_42 : Cond.methodLink RX7 42 Lib.Math.min.name ∈ kdtb := kdtb_mem 436 (by decide +kernel) rfl
theorem w_st_Math_min : Cond.static Lib.Math.min.name ∈ kdtb := kdtb_mem 437 (by decide +kernel) rfl
theorem w_cd_Math_min : Cond.code Lib.Math.min.name Lib.Math.min.code 2 (some .int) ∈ kdtb := kdtb_mem 438 (by decide +kernel) rfl
theorem w_cd_X7_priceOfOne : Cond.code yX7_priceOfOne cX7_priceOfOne 5 (some .int) ∈ kdtb := kdtb_mem 442 (by decide +kernel) rfl
theorem w_in_X7 : Cond.initialized RX7 ∈ kdtb := kdtb_mem 15 (by decide +kernel) rfl
theorem w_ml_X7_48 : Cond.methodLink RX7 48 yX7_priceOfOne ∈ kdtb := kdtb_mem 439 (by decide +kernel) rfl
theorem w_im_X7_priceOfOne : Cond.instanceMethod yX7_priceOfOne ∈ kdtb := kdtb_mem 441 (by decide +kernel) rfl
theorem w_se_X7_priceOfOne : Cond.selects yX7_priceOfOne.cls yX7_priceOfOne yX7_priceOfOne ∈ kdtb := kdtb_mem 1 (by decide +kernel) rfl
theorem w_cd_X7_leastSum : Cond.code yX7_leastSum cX7_leastSum 9 (some .int) ∈ kdtb := kdtb_mem 434 (by decide +kernel) rfl
theorem w_ml_X7_34 : Cond.methodLink RX7 34 yX7_leastSum ∈ kdtb := kdtb_mem 431 (by decide +kernel) rfl
theorem w_im_X7_leastSum : Cond.instanceMethod yX7_leastSum ∈ kdtb := kdtb_mem 433 (by decide +kernel) rfl
theorem w_se_X7_leastSum : Cond.selects yX7_leastSum.cls yX7_leastSum yX7_leastSum ∈ kdtb := kdtb_mem 0 (by decide +kernel) rfl
theorem w_cd_X7_workOut : Cond.code yX7_workOut cX7_workOut 7 none ∈ kdtb := kdtb_mem 430 (by decide +kernel) rfl
theorem w_ml_X7_26 : Cond.methodLink RX7 26 yX7_workOut ∈ kdtb := kdtb_mem 427 (by decide +kernel) rfl
theorem w_im_X7_workOut : Cond.instanceMethod yX7_workOut ∈ kdtb := kdtb_mem 428 (by decide +kernel) rfl
theorem w_se_X7_workOut : Cond.selects yX7_workOut.cls yX7_workOut yX7_workOut ∈ kdtb := kdtb_mem 429 (by decide +kernel) rfl
theorem w_cd_X7_leastFor : Cond.code yX7_leastFor cX7_leastFor 3 (some .int) ∈ kdtb := kdtb_mem 449 (by decide +kernel) rfl
theorem w_ml_X7_30 : Cond.methodLink RX7 30 yX7_leastFor ∈ kdtb := kdtb_mem 446 (by decide +kernel) rfl
theorem w_im_X7_leastFor : Cond.instanceMethod yX7_leastFor ∈ kdtb := kdtb_mem 447 (by decide +kernel) rfl
theorem w_se_X7_leastFor : Cond.selects yX7_leastFor.cls yX7_leastFor yX7_leastFor ∈ kdtb := kdtb_mem 448 (by decide +kernel) rfl
theorem w_fl_X1_14 : Cond.fieldLink RX1 14 "KeyDesk$Guesses" "found" "LKeyDesk$Row;" ∈ kdtb := kdtb_mem 151 (by decide +kernel) rfl
theorem w_ml_X1_26 : Cond.methodLink RX1 26 yX6_clear ∈ kdtb := kdtb_mem 465 (by decide +kernel) rfl
theorem w_fl_X1_20 : Cond.fieldLink RX1 20 "KeyDesk$Guesses" "prices" "LKeyDesk$Row;" ∈ kdtb := kdtb_mem 152 (by decide +kernel) rfl
theorem w_fl_X1_23 : Cond.fieldLink RX1 23 "KeyDesk$Guesses" "weights" "LKeyDesk$Row;" ∈ kdtb := kdtb_mem 153 (by decide +kernel) rfl
theorem w_ml_X1_41 : Cond.methodLink RX1 41 yX6_at ∈ kdtb := kdtb_mem 504 (by decide +kernel) rfl
theorem w_ml_X1_37 : Cond.methodLink RX1 37 yX6_insert ∈ kdtb := kdtb_mem 505 (by decide +kernel) rfl
theorem w_cd_X1_goesAhead : Cond.code yX1_goesAhead cX1_goesAhead 4 (some .boolean) ∈ kdtb := kdtb_mem 503 (by decide +kernel) rfl
theorem w_in_X1 : Cond.initialized RX1 ∈ kdtb := kdtb_mem 16 (by decide +kernel) rfl
theorem w_ml_X1_33 : Cond.methodLink RX1 33 yX1_goesAhead ∈ kdtb := kdtb_mem 500 (by decide +kernel) rfl
theorem w_im_X1_goesAhead : Cond.instanceMethod yX1_goesAhead ∈ kdtb := kdtb_mem 502 (by decide +kernel) rfl
theorem w_se_X1_goesAhead : Cond.selects yX1_goesAhead.cls yX1_goesAhead yX1_goesAhead ∈ kdtb := kdtb_mem 5 (by decide +kernel) rfl
theorem w_ml_X1_30 : Cond.methodLink RX1 30 yX6_size ∈ kdtb := kdtb_mem 499 (by decide +kernel) rfl
theorem w_ml_X1_45 : Cond.methodLink RX1 45 yX6_has ∈ kdtb := kdtb_mem 517 (by decide +kernel) rfl
theorem w_fl_X0_43 : Cond.fieldLink RX0 43 "KeyDesk$Choice" "pairs" "I" ∈ kdtb := kdtb_mem 209 (by decide +kernel) rfl
theorem w_fl_X0_21 : Cond.fieldLink RX0 21 "KeyDesk$Choice" "pad" "LKeyDesk$Row;" ∈ kdtb := kdtb_mem 210 (by decide +kernel) rfl
theorem w_ml_X0_47 : Cond.methodLink RX0 47 yX6_size ∈ kdtb := kdtb_mem 625 (by decide +kernel) rfl
theorem w_fl_X2_14 : Cond.fieldLink RX2 14 "KeyDesk$Hands" "handsOfLearnings" "LKeyDesk$Row;" ∈ kdtb := kdtb_mem 241 (by decide +kernel) rfl
theorem w_ml_X2_37 : Cond.methodLink RX2 37 yX6_size ∈ kdtb := kdtb_mem 485 (by decide +kernel) rfl
theorem w_ml_X2_41 : Cond.methodLink RX2 41 yX6_isFull ∈ kdtb := kdtb_mem 532 (by decide +kernel) rfl
theorem w_ml_X2_45 : Cond.methodLink RX2 45 yX6_add ∈ kdtb := kdtb_mem 542 (by decide +kernel) rfl
theorem w_fl_X2_20 : Cond.fieldLink RX2 20 "KeyDesk$Hands" "wordsOfLearnings" "LKeyDesk$Row;" ∈ kdtb := kdtb_mem 242 (by decide +kernel) rfl
theorem w_fl_X2_23 : Cond.fieldLink RX2 23 "KeyDesk$Hands" "daysOfLearnings" "LKeyDesk$Row;" ∈ kdtb := kdtb_mem 243 (by decide +kernel) rfl
theorem w_cd_X2_learnings : Cond.code yX2_learnings cX2_learnings 1 (some .int) ∈ kdtb := kdtb_mem 484 (by decide +kernel) rfl
theorem w_in_X2 : Cond.initialized RX2 ∈ kdtb := kdtb_mem 19 (by decide +kernel) rfl
theorem w_ml_X2_48 : Cond.methodLink RX2 48 yX2_learnings ∈ kdtb := kdtb_mem 481 (by decide +kernel) rfl
theorem w_im_X2_learnings : Cond.instanceMethod yX2_learnings ∈ kdtb := kdtb_mem 482 (by decide +kernel) rfl
theorem w_se_X2_learnings : Cond.selects yX2_learnings.cls yX2_learnings yX2_learnings ∈ kdtb := kdtb_mem 483 (by decide +kernel) rfl
theorem w_ml_X2_51 : Cond.methodLink RX2 51 yX6_at ∈ kdtb := kdtb_mem 490 (by decide +kernel) rfl
theorem w_ml_X2_55 : Cond.methodLink RX2 55 Lib.Math.max.name ∈ kdtb := kdtb_mem 537 (by decide +kernel) rfl
theorem w_st_Math_max : Cond.static Lib.Math.max.name ∈ kdtb := kdtb_mem 37 (by decide +kernel) rfl
theorem w_cd_Math_max : Cond.code Lib.Math.max.name Lib.Math.max.code 2 (some .int) ∈ kdtb := kdtb_mem 38 (by decide +kernel) rfl
theorem w_fl_X2_30 : Cond.fieldLink RX2 30 "KeyDesk$Hands" "fading" "I" ∈ kdtb := kdtb_mem 245 (by decide +kernel) rfl
theorem w_cd_X2_isOf : Cond.code yX2_isOf cX2_isOf 4 (some .boolean) ∈ kdtb := kdtb_mem 489 (by decide +kernel) rfl
theorem w_ml_X2_61 : Cond.methodLink RX2 61 yX2_isOf ∈ kdtb := kdtb_mem 486 (by decide +kernel) rfl
theorem w_im_X2_isOf : Cond.instanceMethod yX2_isOf ∈ kdtb := kdtb_mem 488 (by decide +kernel) rfl
theorem w_se_X2_isOf : Cond.selects yX2_isOf.cls yX2_isOf yX2_isOf ∈ kdtb := kdtb_mem 3 (by decide +kernel) rfl
theorem w_cd_X2_faded : Cond.code yX2_faded cX2_faded 5 (some .int) ∈ kdtb := kdtb_mem 494 (by decide +kernel) rfl
theorem w_ml_X2_65 : Cond.methodLink RX2 65 yX2_faded ∈ kdtb := kdtb_mem 491 (by decide +kernel) rfl
theorem w_im_X2_faded : Cond.instanceMethod yX2_faded ∈ kdtb := kdtb_mem 493 (by decide +kernel) rfl
theorem w_se_X2_faded : Cond.selects yX2_faded.cls yX2_faded yX2_faded ∈ kdtb := kdtb_mem 4 (by decide +kernel) rfl
theorem w_cd_X6_remove : Cond.code yX6_remove cX6_remove 4 (some .int) ∈ kdtb := kdtb_mem 562 (by decide +kernel) rfl
theorem w_ml_X2_68 : Cond.methodLink RX2 68 yX6_remove ∈ kdtb := kdtb_mem 559 (by decide +kernel) rfl
theorem w_im_X6_remove : Cond.instanceMethod yX6_remove ∈ kdtb := kdtb_mem 560 (by decide +kernel) rfl
theorem w_se_X6_remove : Cond.selects yX6_remove.cls yX6_remove yX6_remove ∈ kdtb := kdtb_mem 561 (by decide +kernel) rfl
theorem w_fl_X2_26 : Cond.fieldLink RX2 26 "KeyDesk$Hands" "budgets" "[I" ∈ kdtb := kdtb_mem 244 (by decide +kernel) rfl
theorem w_fl_X2_34 : Cond.fieldLink RX2 34 "KeyDesk$Hands" "lotSeed" "I" ∈ kdtb := kdtb_mem 246 (by decide +kernel) rfl
theorem w_cl_X2_81 : Cond.constantLong RX2 81 (16807) ∈ kdtb := kdtb_mem 615 (by decide +kernel) rfl
theorem w_cl_X2_83 : Cond.constantLong RX2 83 (2147483647) ∈ kdtb := kdtb_mem 616 (by decide +kernel) rfl
theorem w_cd_X2_drawLot : Cond.code yX2_drawLot cX2_drawLot 2 (some .int) ∈ kdtb := kdtb_mem 614 (by decide +kernel) rfl
theorem w_ml_X2_78 : Cond.methodLink RX2 78 yX2_drawLot ∈ kdtb := kdtb_mem 611 (by decide +kernel) rfl
theorem w_im_X2_drawLot : Cond.instanceMethod yX2_drawLot ∈ kdtb := kdtb_mem 613 (by decide +kernel) rfl
theorem w_se_X2_drawLot : Cond.selects yX2_drawLot.cls yX2_drawLot yX2_drawLot ∈ kdtb := kdtb_mem 6 (by decide +kernel) rfl
theorem w_cd_X2_worthOf : Cond.code yX2_worthOf cX2_worthOf 6 (some .int) ∈ kdtb := kdtb_mem 480 (by decide +kernel) rfl
theorem w_ml_X2_71 : Cond.methodLink RX2 71 yX2_worthOf ∈ kdtb := kdtb_mem 609 (by decide +kernel) rfl
theorem w_im_X2_worthOf : Cond.instanceMethod yX2_worthOf ∈ kdtb := kdtb_mem 478 (by decide +kernel) rfl
theorem w_se_X2_worthOf : Cond.selects yX2_worthOf.cls yX2_worthOf yX2_worthOf ∈ kdtb := kdtb_mem 479 (by decide +kernel) rfl
theorem w_ml_X2_75 : Cond.methodLink RX2 75 Lib.Math.min.name ∈ kdtb := kdtb_mem 610 (by decide +kernel) rfl
theorem w_fl_X3_37 : Cond.fieldLink RX3 37 "KeyDesk$Layouts" "size" "I" ∈ kdtb := kdtb_mem 271 (by decide +kernel) rfl
theorem w_fl_X3_23 : Cond.fieldLink RX3 23 "KeyDesk$Layouts" "pairLoads" "[[I" ∈ kdtb := kdtb_mem 275 (by decide +kernel) rfl
theorem w_fl_X3_9 : Cond.fieldLink RX3 9 "KeyDesk$Layouts" "efforts" "[I" ∈ kdtb := kdtb_mem 272 (by decide +kernel) rfl
theorem w_fl_X3_15 : Cond.fieldLink RX3 15 "KeyDesk$Layouts" "fingers" "[I" ∈ kdtb := kdtb_mem 273 (by decide +kernel) rfl
theorem w_fl_X3_18 : Cond.fieldLink RX3 18 "KeyDesk$Layouts" "loads" "[I" ∈ kdtb := kdtb_mem 274 (by decide +kernel) rfl
theorem w_cd_X11_within : Cond.code yX11_within cX11_within 3 (some .boolean) ∈ kdtb := kdtb_mem 456 (by decide +kernel) rfl
theorem w_in_X11 : Cond.initialized RX11 ∈ kdtb := kdtb_mem 9 (by decide +kernel) rfl
theorem w_ml_X11_165 : Cond.methodLink RX11 165 yX11_within ∈ kdtb := kdtb_mem 454 (by decide +kernel) rfl
theorem w_st_X11_within : Cond.static yX11_within ∈ kdtb := kdtb_mem 455 (by decide +kernel) rfl
theorem w_cd_X11_isKey : Cond.code yX11_isKey cX11_isKey 1 (some .boolean) ∈ kdtb := kdtb_mem 676 (by decide +kernel) rfl
theorem w_ml_X11_97 : Cond.methodLink RX11 97 yX11_isKey ∈ kdtb := kdtb_mem 674 (by decide +kernel) rfl
theorem w_st_X11_isKey : Cond.static yX11_isKey ∈ kdtb := kdtb_mem 675 (by decide +kernel) rfl
theorem w_fl_X11_14 : Cond.fieldLink RX11 14 "KeyDesk" "padKeys" "LKeyDesk$Row;" ∈ kdtb := kdtb_mem 339 (by decide +kernel) rfl
theorem w_ml_X11_101 : Cond.methodLink RX11 101 yX6_isFull ∈ kdtb := kdtb_mem 677 (by decide +kernel) rfl
theorem w_ml_X11_105 : Cond.methodLink RX11 105 yX6_add ∈ kdtb := kdtb_mem 678 (by decide +kernel) rfl
theorem w_ml_X11_108 : Cond.methodLink RX11 108 yX6_size ∈ kdtb := kdtb_mem 408 (by decide +kernel) rfl
theorem w_cd_X11_isTongue : Cond.code yX11_isTongue cX11_isTongue 1 (some .boolean) ∈ kdtb := kdtb_mem 649 (by decide +kernel) rfl
theorem w_ml_X11_121 : Cond.methodLink RX11 121 yX11_isTongue ∈ kdtb := kdtb_mem 647 (by decide +kernel) rfl
theorem w_st_X11_isTongue : Cond.static yX11_isTongue ∈ kdtb := kdtb_mem 648 (by decide +kernel) rfl
theorem w_fl_X11_38 : Cond.fieldLink RX11 38 "KeyDesk" "words" "LKeyDesk$Words;" ∈ kdtb := kdtb_mem 343 (by decide +kernel) rfl
theorem w_ml_X11_207 : Cond.methodLink RX11 207 yX10_isFull ∈ kdtb := kdtb_mem 686 (by decide +kernel) rfl
theorem w_cd_X6_isEmpty : Cond.code yX6_isEmpty cX6_isEmpty 1 (some .boolean) ∈ kdtb := kdtb_mem 421 (by decide +kernel) rfl
theorem w_ml_X11_127 : Cond.methodLink RX11 127 yX6_isEmpty ∈ kdtb := kdtb_mem 418 (by decide +kernel) rfl
theorem w_im_X6_isEmpty : Cond.instanceMethod yX6_isEmpty ∈ kdtb := kdtb_mem 419 (by decide +kernel) rfl
theorem w_se_X6_isEmpty : Cond.selects yX6_isEmpty.cls yX6_isEmpty yX6_isEmpty ∈ kdtb := kdtb_mem 420 (by decide +kernel) rfl
theorem w_cd_X10_addWord : Cond.code yX10_addWord cX10_addWord 5 (some .int) ∈ kdtb := kdtb_mem 694 (by decide +kernel) rfl
theorem w_ml_X11_208 : Cond.methodLink RX11 208 yX10_addWord ∈ kdtb := kdtb_mem 691 (by decide +kernel) rfl
theorem w_im_X10_addWord : Cond.instanceMethod yX10_addWord ∈ kdtb := kdtb_mem 692 (by decide +kernel) rfl
theorem w_se_X10_addWord : Cond.selects yX10_addWord.cls yX10_addWord yX10_addWord ∈ kdtb := kdtb_mem 693 (by decide +kernel) rfl
theorem w_ml_X11_115 : Cond.methodLink RX11 115 yX6_clear ∈ kdtb := kdtb_mem 704 (by decide +kernel) rfl
theorem w_cd_X10_has : Cond.code yX10_has cX10_has 2 (some .boolean) ∈ kdtb := kdtb_mem 383 (by decide +kernel) rfl
theorem w_ml_X11_212 : Cond.methodLink RX11 212 yX10_has ∈ kdtb := kdtb_mem 380 (by decide +kernel) rfl
theorem w_im_X10_has : Cond.instanceMethod yX10_has ∈ kdtb := kdtb_mem 381 (by decide +kernel) rfl
theorem w_se_X10_has : Cond.selects yX10_has.cls yX10_has yX10_has ∈ kdtb := kdtb_mem 382 (by decide +kernel) rfl
theorem w_cd_X10_tongueOf : Cond.code yX10_tongueOf cX10_tongueOf 2 (some .int) ∈ kdtb := kdtb_mem 391 (by decide +kernel) rfl
theorem w_ml_X11_213 : Cond.methodLink RX11 213 yX10_tongueOf ∈ kdtb := kdtb_mem 388 (by decide +kernel) rfl
theorem w_im_X10_tongueOf : Cond.instanceMethod yX10_tongueOf ∈ kdtb := kdtb_mem 389 (by decide +kernel) rfl
theorem w_se_X10_tongueOf : Cond.selects yX10_tongueOf.cls yX10_tongueOf yX10_tongueOf ∈ kdtb := kdtb_mem 390 (by decide +kernel) rfl
theorem w_cd_X10_signOf : Cond.code yX10_signOf cX10_signOf 2 (some .int) ∈ kdtb := kdtb_mem 399 (by decide +kernel) rfl
theorem w_ml_X11_216 : Cond.methodLink RX11 216 yX10_signOf ∈ kdtb := kdtb_mem 396 (by decide +kernel) rfl
theorem w_im_X10_signOf : Cond.instanceMethod yX10_signOf ∈ kdtb := kdtb_mem 397 (by decide +kernel) rfl
theorem w_se_X10_signOf : Cond.selects yX10_signOf.cls yX10_signOf yX10_signOf ∈ kdtb := kdtb_mem 398 (by decide +kernel) rfl
theorem w_cd_X10_countOf : Cond.code yX10_countOf cX10_countOf 2 (some .int) ∈ kdtb := kdtb_mem 403 (by decide +kernel) rfl
theorem w_ml_X11_219 : Cond.methodLink RX11 219 yX10_countOf ∈ kdtb := kdtb_mem 400 (by decide +kernel) rfl
theorem w_im_X10_countOf : Cond.instanceMethod yX10_countOf ∈ kdtb := kdtb_mem 401 (by decide +kernel) rfl
theorem w_se_X10_countOf : Cond.selects yX10_countOf.cls yX10_countOf yX10_countOf ∈ kdtb := kdtb_mem 402 (by decide +kernel) rfl
theorem w_cd_X10_keysOf : Cond.code yX10_keysOf cX10_keysOf 2 (some (.object "KeyDesk$Row")) ∈ kdtb := kdtb_mem 407 (by decide +kernel) rfl
theorem w_ml_X11_222 : Cond.methodLink RX11 222 yX10_keysOf ∈ kdtb := kdtb_mem 404 (by decide +kernel) rfl
theorem w_im_X10_keysOf : Cond.instanceMethod yX10_keysOf ∈ kdtb := kdtb_mem 405 (by decide +kernel) rfl
theorem w_se_X10_keysOf : Cond.selects yX10_keysOf.cls yX10_keysOf yX10_keysOf ∈ kdtb := kdtb_mem 406 (by decide +kernel) rfl
theorem w_ml_X11_173 : Cond.methodLink RX11 173 yX6_has ∈ kdtb := kdtb_mem 412 (by decide +kernel) rfl
theorem w_ml_X11_194 : Cond.methodLink RX11 194 yX6_at ∈ kdtb := kdtb_mem 413 (by decide +kernel) rfl
theorem w_fl_X11_45 : Cond.fieldLink RX11 45 "KeyDesk" "slips" "LKeyDesk$Slips;" ∈ kdtb := kdtb_mem 344 (by decide +kernel) rfl
theorem w_cd_X7_priceOf : Cond.code yX7_priceOf cX7_priceOf 3 (some .int) ∈ kdtb := kdtb_mem 425 (by decide +kernel) rfl
theorem w_ml_X11_232 : Cond.methodLink RX11 232 yX7_priceOf ∈ kdtb := kdtb_mem 422 (by decide +kernel) rfl
theorem w_im_X7_priceOf : Cond.instanceMethod yX7_priceOf ∈ kdtb := kdtb_mem 423 (by decide +kernel) rfl
theorem w_se_X7_priceOf : Cond.selects yX7_priceOf.cls yX7_priceOf yX7_priceOf ∈ kdtb := kdtb_mem 424 (by decide +kernel) rfl
theorem w_ml_X11_367 : Cond.methodLink RX11 367 yX10_size ∈ kdtb := kdtb_mem 469 (by decide +kernel) rfl
theorem w_cd_X11_hasBit : Cond.code yX11_hasBit cX11_hasBit 2 (some .boolean) ∈ kdtb := kdtb_mem 476 (by decide +kernel) rfl
theorem w_ml_X11_385 : Cond.methodLink RX11 385 yX11_hasBit ∈ kdtb := kdtb_mem 474 (by decide +kernel) rfl
theorem w_st_X11_hasBit : Cond.static yX11_hasBit ∈ kdtb := kdtb_mem 475 (by decide +kernel) rfl
theorem w_fl_X11_52 : Cond.fieldLink RX11 52 "KeyDesk" "guesses" "LKeyDesk$Guesses;" ∈ kdtb := kdtb_mem 345 (by decide +kernel) rfl
theorem w_fl_X11_77 : Cond.fieldLink RX11 77 "KeyDesk" "hands" "LKeyDesk$Hands;" ∈ kdtb := kdtb_mem 348 (by decide +kernel) rfl
theorem w_ml_X11_289 : Cond.methodLink RX11 289 yX2_worthOf ∈ kdtb := kdtb_mem 477 (by decide +kernel) rfl
theorem w_cd_X1_insert : Cond.code yX1_insert cX1_insert 5 none ∈ kdtb := kdtb_mem 498 (by decide +kernel) rfl
theorem w_ml_X11_389 : Cond.methodLink RX11 389 yX1_insert ∈ kdtb := kdtb_mem 495 (by decide +kernel) rfl
theorem w_im_X1_insert : Cond.instanceMethod yX1_insert ∈ kdtb := kdtb_mem 496 (by decide +kernel) rfl
theorem w_se_X1_insert : Cond.selects yX1_insert.cls yX1_insert yX1_insert ∈ kdtb := kdtb_mem 497 (by decide +kernel) rfl
theorem w_cd_X1_clear : Cond.code yX1_clear cX1_clear 1 none ∈ kdtb := kdtb_mem 464 (by decide +kernel) rfl
theorem w_ml_X11_383 : Cond.methodLink RX11 383 yX1_clear ∈ kdtb := kdtb_mem 461 (by decide +kernel) rfl
theorem w_im_X1_clear : Cond.instanceMethod yX1_clear ∈ kdtb := kdtb_mem 462 (by decide +kernel) rfl
theorem w_se_X1_clear : Cond.selects yX1_clear.cls yX1_clear yX1_clear ∈ kdtb := kdtb_mem 463 (by decide +kernel) rfl
theorem w_cd_X11_gather : Cond.code yX11_gather cX11_gather 7 none ∈ kdtb := kdtb_mem 460 (by decide +kernel) rfl
theorem w_ml_X11_235 : Cond.methodLink RX11 235 yX11_gather ∈ kdtb := kdtb_mem 457 (by decide +kernel) rfl
theorem w_im_X11_gather : Cond.instanceMethod yX11_gather ∈ kdtb := kdtb_mem 459 (by decide +kernel) rfl
theorem w_se_X11_gather : Cond.selects yX11_gather.cls yX11_gather yX11_gather ∈ kdtb := kdtb_mem 2 (by decide +kernel) rfl
theorem w_cd_X1_guessAt : Cond.code yX1_guessAt cX1_guessAt 2 (some .int) ∈ kdtb := kdtb_mem 516 (by decide +kernel) rfl
theorem w_ml_X11_239 : Cond.methodLink RX11 239 yX1_guessAt ∈ kdtb := kdtb_mem 513 (by decide +kernel) rfl
theorem w_im_X1_guessAt : Cond.instanceMethod yX1_guessAt ∈ kdtb := kdtb_mem 514 (by decide +kernel) rfl
theorem w_se_X1_guessAt : Cond.selects yX1_guessAt.cls yX1_guessAt yX1_guessAt ∈ kdtb := kdtb_mem 515 (by decide +kernel) rfl
theorem w_cd_X11_isHand : Cond.code yX11_isHand cX11_isHand 1 (some .boolean) ∈ kdtb := kdtb_mem 524 (by decide +kernel) rfl
theorem w_ml_X11_276 : Cond.methodLink RX11 276 yX11_isHand ∈ kdtb := kdtb_mem 522 (by decide +kernel) rfl
theorem w_st_X11_isHand : Cond.static yX11_isHand ∈ kdtb := kdtb_mem 523 (by decide +kernel) rfl
theorem w_cd_X11_isDay : Cond.code yX11_isDay cX11_isDay 1 (some .boolean) ∈ kdtb := kdtb_mem 527 (by decide +kernel) rfl
theorem w_ml_X11_279 : Cond.methodLink RX11 279 yX11_isDay ∈ kdtb := kdtb_mem 525 (by decide +kernel) rfl
theorem w_st_X11_isDay : Cond.static yX11_isDay ∈ kdtb := kdtb_mem 526 (by decide +kernel) rfl
theorem w_cd_X2_isFull : Cond.code yX2_isFull cX2_isFull 1 (some .boolean) ∈ kdtb := kdtb_mem 531 (by decide +kernel) rfl
theorem w_ml_X11_282 : Cond.methodLink RX11 282 yX2_isFull ∈ kdtb := kdtb_mem 528 (by decide +kernel) rfl
theorem w_im_X2_isFull : Cond.instanceMethod yX2_isFull ∈ kdtb := kdtb_mem 529 (by decide +kernel) rfl
theorem w_se_X2_isFull : Cond.selects yX2_isFull.cls yX2_isFull yX2_isFull ∈ kdtb := kdtb_mem 530 (by decide +kernel) rfl
theorem w_cd_X2_latestDay : Cond.code yX2_latestDay cX2_latestDay 4 (some .int) ∈ kdtb := kdtb_mem 536 (by decide +kernel) rfl
theorem w_ml_X11_283 : Cond.methodLink RX11 283 yX2_latestDay ∈ kdtb := kdtb_mem 533 (by decide +kernel) rfl
theorem w_im_X2_latestDay : Cond.instanceMethod yX2_latestDay ∈ kdtb := kdtb_mem 534 (by decide +kernel) rfl
theorem w_se_X2_latestDay : Cond.selects yX2_latestDay.cls yX2_latestDay yX2_latestDay ∈ kdtb := kdtb_mem 535 (by decide +kernel) rfl
theorem w_cd_X2_addLearning : Cond.code yX2_addLearning cX2_addLearning 4 (some .int) ∈ kdtb := kdtb_mem 541 (by decide +kernel) rfl
theorem w_ml_X11_286 : Cond.methodLink RX11 286 yX2_addLearning ∈ kdtb := kdtb_mem 538 (by decide +kernel) rfl
theorem w_im_X2_addLearning : Cond.instanceMethod yX2_addLearning ∈ kdtb := kdtb_mem 539 (by decide +kernel) rfl
theorem w_se_X2_addLearning : Cond.selects yX2_addLearning.cls yX2_addLearning yX2_addLearning ∈ kdtb := kdtb_mem 540 (by decide +kernel) rfl
theorem w_cd_X2_dropLearnings : Cond.code yX2_dropLearnings cX2_dropLearnings 5 (some .int) ∈ kdtb := kdtb_mem 558 (by decide +kernel) rfl
theorem w_ml_X11_292 : Cond.methodLink RX11 292 yX2_dropLearnings ∈ kdtb := kdtb_mem 555 (by decide +kernel) rfl
theorem w_im_X2_dropLearnings : Cond.instanceMethod yX2_dropLearnings ∈ kdtb := kdtb_mem 556 (by decide +kernel) rfl
theorem w_se_X2_dropLearnings : Cond.selects yX2_dropLearnings.cls yX2_dropLearnings yX2_dropLearnings ∈ kdtb := kdtb_mem 557 (by decide +kernel) rfl
theorem w_cd_X2_setFade : Cond.code yX2_setFade cX2_setFade 3 (some .int) ∈ kdtb := kdtb_mem 572 (by decide +kernel) rfl
theorem w_ml_X11_295 : Cond.methodLink RX11 295 yX2_setFade ∈ kdtb := kdtb_mem 569 (by decide +kernel) rfl
theorem w_im_X2_setFade : Cond.instanceMethod yX2_setFade ∈ kdtb := kdtb_mem 570 (by decide +kernel) rfl
theorem w_se_X2_setFade : Cond.selects yX2_setFade.cls yX2_setFade yX2_setFade ∈ kdtb := kdtb_mem 571 (by decide +kernel) rfl
theorem w_cd_X2_setBudget : Cond.code yX2_setBudget cX2_setBudget 4 (some .int) ∈ kdtb := kdtb_mem 584 (by decide +kernel) rfl
theorem w_ml_X11_298 : Cond.methodLink RX11 298 yX2_setBudget ∈ kdtb := kdtb_mem 581 (by decide +kernel) rfl
theorem w_im_X2_setBudget : Cond.instanceMethod yX2_setBudget ∈ kdtb := kdtb_mem 582 (by decide +kernel) rfl
theorem w_se_X2_setBudget : Cond.selects yX2_setBudget.cls yX2_setBudget yX2_setBudget ∈ kdtb := kdtb_mem 583 (by decide +kernel) rfl
theorem w_ct_X11_301 : Cond.constant RX11 301 (1000000) ∈ kdtb := kdtb_mem 589 (by decide +kernel) rfl
theorem w_cd_X2_setSeed : Cond.code yX2_setSeed cX2_setSeed 3 (some .int) ∈ kdtb := kdtb_mem 593 (by decide +kernel) rfl
theorem w_ml_X11_302 : Cond.methodLink RX11 302 yX2_setSeed ∈ kdtb := kdtb_mem 590 (by decide +kernel) rfl
theorem w_im_X2_setSeed : Cond.instanceMethod yX2_setSeed ∈ kdtb := kdtb_mem 591 (by decide +kernel) rfl
theorem w_se_X2_setSeed : Cond.selects yX2_setSeed.cls yX2_setSeed yX2_setSeed ∈ kdtb := kdtb_mem 592 (by decide +kernel) rfl
theorem w_ct_X11_306 : Cond.constant RX11 306 (-1000002) ∈ kdtb := kdtb_mem 599 (by decide +kernel) rfl
theorem w_ct_X11_305 : Cond.constant RX11 305 (-1000001) ∈ kdtb := kdtb_mem 598 (by decide +kernel) rfl
theorem w_cd_X2_givers : Cond.code yX2_givers cX2_givers 4 (some .int) ∈ kdtb := kdtb_mem 603 (by decide +kernel) rfl
theorem w_ml_X11_307 : Cond.methodLink RX11 307 yX2_givers ∈ kdtb := kdtb_mem 600 (by decide +kernel) rfl
theorem w_im_X2_givers : Cond.instanceMethod yX2_givers ∈ kdtb := kdtb_mem 601 (by decide +kernel) rfl
theorem w_se_X2_givers : Cond.selects yX2_givers.cls yX2_givers yX2_givers ∈ kdtb := kdtb_mem 602 (by decide +kernel) rfl
theorem w_cd_X2_sumWithLot : Cond.code yX2_sumWithLot cX2_sumWithLot 6 (some .int) ∈ kdtb := kdtb_mem 608 (by decide +kernel) rfl
theorem w_ml_X11_311 : Cond.methodLink RX11 311 yX2_sumWithLot ∈ kdtb := kdtb_mem 605 (by decide +kernel) rfl
theorem w_im_X2_sumWithLot : Cond.instanceMethod yX2_sumWithLot ∈ kdtb := kdtb_mem 606 (by decide +kernel) rfl
theorem w_se_X2_sumWithLot : Cond.selects yX2_sumWithLot.cls yX2_sumWithLot yX2_sumWithLot ∈ kdtb := kdtb_mem 607 (by decide +kernel) rfl
theorem w_ct_X11_310 : Cond.constant RX11 310 (-1000005) ∈ kdtb := kdtb_mem 604 (by decide +kernel) rfl
theorem w_cd_X2_budgetOf : Cond.code yX2_budgetOf cX2_budgetOf 2 (some .int) ∈ kdtb := kdtb_mem 662 (by decide +kernel) rfl
theorem w_ml_X11_380 : Cond.methodLink RX11 380 yX2_budgetOf ∈ kdtb := kdtb_mem 659 (by decide +kernel) rfl
theorem w_im_X2_budgetOf : Cond.instanceMethod yX2_budgetOf ∈ kdtb := kdtb_mem 660 (by decide +kernel) rfl
theorem w_se_X2_budgetOf : Cond.selects yX2_budgetOf.cls yX2_budgetOf yX2_budgetOf ∈ kdtb := kdtb_mem 661 (by decide +kernel) rfl
theorem w_fl_X11_23 : Cond.fieldLink RX11 23 "KeyDesk" "tongues" "[LKeyDesk$Tongue;" ∈ kdtb := kdtb_mem 341 (by decide +kernel) rfl
theorem w_cd_X8_joins : Cond.code yX8_joins cX8_joins 1 (some .int) ∈ kdtb := kdtb_mem 657 (by decide +kernel) rfl
theorem w_in_X8 : Cond.initialized RX8 ∈ kdtb := kdtb_mem 12 (by decide +kernel) rfl
theorem w_ml_X11_377 : Cond.methodLink RX11 377 yX8_joins ∈ kdtb := kdtb_mem 654 (by decide +kernel) rfl
theorem w_im_X8_joins : Cond.instanceMethod yX8_joins ∈ kdtb := kdtb_mem 655 (by decide +kernel) rfl
theorem w_se_X8_joins : Cond.selects yX8_joins.cls yX8_joins yX8_joins ∈ kdtb := kdtb_mem 656 (by decide +kernel) rfl
theorem w_cd_X8_rules : Cond.code yX8_rules cX8_rules 1 (some .int) ∈ kdtb := kdtb_mem 653 (by decide +kernel) rfl
theorem w_ml_X11_374 : Cond.methodLink RX11 374 yX8_rules ∈ kdtb := kdtb_mem 650 (by decide +kernel) rfl
theorem w_im_X8_rules : Cond.instanceMethod yX8_rules ∈ kdtb := kdtb_mem 651 (by decide +kernel) rfl
theorem w_se_X8_rules : Cond.selects yX8_rules.cls yX8_rules yX8_rules ∈ kdtb := kdtb_mem 652 (by decide +kernel) rfl
theorem w_fl_X11_18 : Cond.fieldLink RX11 18 "KeyDesk" "padLetters" "LKeyDesk$Row;" ∈ kdtb := kdtb_mem 340 (by decide +kernel) rfl
theorem w_fl_X11_70 : Cond.fieldLink RX11 70 "KeyDesk" "choice" "LKeyDesk$Choice;" ∈ kdtb := kdtb_mem 347 (by decide +kernel) rfl
theorem w_cd_X0_padSize : Cond.code yX0_padSize cX0_padSize 1 (some .int) ∈ kdtb := kdtb_mem 624 (by decide +kernel) rfl
theorem w_in_X0 : Cond.initialized RX0 ∈ kdtb := kdtb_mem 18 (by decide +kernel) rfl
theorem w_ml_X11_361 : Cond.methodLink RX11 361 yX0_padSize ∈ kdtb := kdtb_mem 621 (by decide +kernel) rfl
theorem w_im_X0_padSize : Cond.instanceMethod yX0_padSize ∈ kdtb := kdtb_mem 622 (by decide +kernel) rfl
theorem w_se_X0_padSize : Cond.selects yX0_padSize.cls yX0_padSize yX0_padSize ∈ kdtb := kdtb_mem 623 (by decide +kernel) rfl
theorem w_fl_X11_31 : Cond.fieldLink RX11 31 "KeyDesk" "line" "LKeyDesk$Line;" ∈ kdtb := kdtb_mem 342 (by decide +kernel) rfl
theorem w_cd_X4_tongue : Cond.code yX4_tongue cX4_tongue 1 (some .int) ∈ kdtb := kdtb_mem 629 (by decide +kernel) rfl
theorem w_in_X4 : Cond.initialized RX4 ∈ kdtb := kdtb_mem 13 (by decide +kernel) rfl
theorem w_ml_X11_364 : Cond.methodLink RX11 364 yX4_tongue ∈ kdtb := kdtb_mem 626 (by decide +kernel) rfl
theorem w_im_X4_tongue : Cond.instanceMethod yX4_tongue ∈ kdtb := kdtb_mem 627 (by decide +kernel) rfl
theorem w_se_X4_tongue : Cond.selects yX4_tongue.cls yX4_tongue yX4_tongue ∈ kdtb := kdtb_mem 628 (by decide +kernel) rfl
theorem w_cd_X4_strokes : Cond.code yX4_strokes cX4_strokes 1 (some (.object "KeyDesk$Row")) ∈ kdtb := kdtb_mem 633 (by decide +kernel) rfl
theorem w_ml_X11_161 : Cond.methodLink RX11 161 yX4_strokes ∈ kdtb := kdtb_mem 630 (by decide +kernel) rfl
theorem w_im_X4_strokes : Cond.instanceMethod yX4_strokes ∈ kdtb := kdtb_mem 631 (by decide +kernel) rfl
theorem w_se_X4_strokes : Cond.selects yX4_strokes.cls yX4_strokes yX4_strokes ∈ kdtb := kdtb_mem 632 (by decide +kernel) rfl
theorem w_cd_X0_pairs : Cond.code yX0_pairs cX0_pairs 1 (some .int) ∈ kdtb := kdtb_mem 637 (by decide +kernel) rfl
theorem w_ml_X11_256 : Cond.methodLink RX11 256 yX0_pairs ∈ kdtb := kdtb_mem 634 (by decide +kernel) rfl
theorem w_im_X0_pairs : Cond.instanceMethod yX0_pairs ∈ kdtb := kdtb_mem 635 (by decide +kernel) rfl
theorem w_se_X0_pairs : Cond.selects yX0_pairs.cls yX0_pairs yX0_pairs ∈ kdtb := kdtb_mem 636 (by decide +kernel) rfl
theorem w_ml_X11_368 : Cond.methodLink RX11 368 yX2_learnings ∈ kdtb := kdtb_mem 638 (by decide +kernel) rfl
theorem w_fl_X11_84 : Cond.fieldLink RX11 84 "KeyDesk" "layouts" "LKeyDesk$Layouts;" ∈ kdtb := kdtb_mem 349 (by decide +kernel) rfl
theorem w_cd_X3_size : Cond.code yX3_size cX3_size 1 (some .int) ∈ kdtb := kdtb_mem 642 (by decide +kernel) rfl
theorem w_in_X3 : Cond.initialized RX3 ∈ kdtb := kdtb_mem 20 (by decide +kernel) rfl
theorem w_ml_X11_351 : Cond.methodLink RX11 351 yX3_size ∈ kdtb := kdtb_mem 639 (by decide +kernel) rfl
theorem w_im_X3_size : Cond.instanceMethod yX3_size ∈ kdtb := kdtb_mem 640 (by decide +kernel) rfl
theorem w_se_X3_size : Cond.selects yX3_size.cls yX3_size yX3_size ∈ kdtb := kdtb_mem 641 (by decide +kernel) rfl
theorem w_cd_X11_toldOfOne : Cond.code yX11_toldOfOne cX11_toldOfOne 2 (some .int) ∈ kdtb := kdtb_mem 646 (by decide +kernel) rfl
theorem w_ml_X11_371 : Cond.methodLink RX11 371 yX11_toldOfOne ∈ kdtb := kdtb_mem 643 (by decide +kernel) rfl
theorem w_im_X11_toldOfOne : Cond.instanceMethod yX11_toldOfOne ∈ kdtb := kdtb_mem 645 (by decide +kernel) rfl
theorem w_se_X11_toldOfOne : Cond.selects yX11_toldOfOne.cls yX11_toldOfOne yX11_toldOfOne ∈ kdtb := kdtb_mem 7 (by decide +kernel) rfl
theorem kd_in_X0 : ∀ w ∈ u_ws RX0 TX0 8, w ∈ kdtb := by decide +kernel
theorem kd_in_X1 : ∀ w ∈ u_ws RX1 TX1 3, w ∈ kdtb := by decide +kernel
theorem kd_in_X2 : ∀ w ∈ u_ws RX2 TX2 6, w ∈ kdtb := by decide +kernel
theorem kd_in_X3 : ∀ w ∈ u_ws RX3 TX3 9, w ∈ kdtb := by decide +kernel
theorem kd_in_X4 : ∀ w ∈ u_ws RX4 TX4 5, w ∈ kdtb := by decide +kernel
theorem kd_in_X5 : ∀ w ∈ u_ws RX5 TX5 9, w ∈ kdtb := by decide +kernel
theorem kd_in_X6 : ∀ w ∈ u_ws RX6 TX6 2, w ∈ kdtb := by decide +kernel
theorem kd_in_X7 : ∀ w ∈ u_ws RX7 TX7 2, w ∈ kdtb := by decide +kernel
theorem kd_in_X8 : ∀ w ∈ u_ws RX8 TX8 8, w ∈ kdtb := by decide +kernel
theorem kd_in_X9 : ∀ w ∈ u_ws RX9 TX9 12, w ∈ kdtb := by decide +kernel
theorem kd_in_X10 : ∀ w ∈ u_ws RX10 TX10 4, w ∈ kdtb := by decide +kernel
theorem kd_in_X11 : ∀ w ∈ u_ws RX11 TX11 12, w ∈ kdtb := by decide +kernel
theorem kf_X6_21 : kdF RX6 21 6 1 := ⟨RX6, TX6, 2, rfl, by decide, w_fl_X6_21, rfl, kd_in_X6, nmX6, tyX6, tyX6_ok, fun _ _ => rfl⟩
theorem kf_X6_15 : kdF RX6 15 6 0 := ⟨RX6, TX6, 2, rfl, by decide, w_fl_X6_15, rfl, kd_in_X6, nmX6, tyX6, tyX6_ok, fun h => absurd h (by decide +kernel)⟩
theorem kf_X8_40 : kdF RX8 40 8 2 := ⟨RX8, TX8, 8, rfl, by decide, w_fl_X8_40, rfl, kd_in_X8, nmX8, tyX8, tyX8_ok, fun _ _ => rfl⟩
theorem kf_X8_30 : kdF RX8 30 8 5 := ⟨RX8, TX8, 8, rfl, by decide, w_fl_X8_30, rfl, kd_in_X8, nmX8, tyX8, tyX8_ok, fun h => absurd h (by decide +kernel)⟩
theorem kf_X4_14 : kdF RX4 14 4 0 := ⟨RX4, TX4, 5, rfl, by decide, w_fl_X4_14, rfl, kd_in_X4, nmX4, tyX4, tyX4_ok, fun h => absurd h (by decide +kernel)⟩
theorem kf_X4_29 : kdF RX4 29 4 4 := ⟨RX4, TX4, 5, rfl, by decide, w_fl_X4_29, rfl, kd_in_X4, nmX4, tyX4, tyX4_ok, fun _ _ => rfl⟩
theorem kf_X10_14 : kdF RX10 14 10 0 := ⟨RX10, TX10, 4, rfl, by decide, w_fl_X10_14, rfl, kd_in_X10, nmX10, tyX10, tyX10_ok, fun h => absurd h (by decide +kernel)⟩
theorem kf_X10_20 : kdF RX10 20 10 1 := ⟨RX10, TX10, 4, rfl, by decide, w_fl_X10_20, rfl, kd_in_X10, nmX10, tyX10, tyX10_ok, fun h => absurd h (by decide +kernel)⟩
theorem kf_X10_23 : kdF RX10 23 10 2 := ⟨RX10, TX10, 4, rfl, by decide, w_fl_X10_23, rfl, kd_in_X10, nmX10, tyX10, tyX10_ok, fun h => absurd h (by decide +kernel)⟩
theorem kf_X10_26 : kdF RX10 26 10 3 := ⟨RX10, TX10, 4, rfl, by decide, w_fl_X10_26, rfl, kd_in_X10, nmX10, tyX10, tyX10_ok, fun h => absurd h (by decide +kernel)⟩
theorem kf_X7_17 : kdF RX7 17 7 1 := ⟨RX7, TX7, 2, rfl, by decide, w_fl_X7_17, rfl, kd_in_X7, nmX7, tyX7, tyX7_ok, fun h => absurd h (by decide +kernel)⟩
theorem kf_X7_9 : kdF RX7 9 7 0 := ⟨RX7, TX7, 2, rfl, by decide, w_fl_X7_9, rfl, kd_in_X7, nmX7, tyX7, tyX7_ok, fun h => absurd h (by decide +kernel)⟩
theorem kf_X1_14 : kdF RX1 14 1 0 := ⟨RX1, TX1, 3, rfl, by decide, w_fl_X1_14, rfl, kd_in_X1, nmX1, tyX1, tyX1_ok, fun h => absurd h (by decide +kernel)⟩
theorem kf_X1_20 : kdF RX1 20 1 1 := ⟨RX1, TX1, 3, rfl, by decide, w_fl_X1_20, rfl, kd_in_X1, nmX1, tyX1, tyX1_ok, fun h => absurd h (by decide +kernel)⟩
theorem kf_X1_23 : kdF RX1 23 1 2 := ⟨RX1, TX1, 3, rfl, by decide, w_fl_X1_23, rfl, kd_in_X1, nmX1, tyX1, tyX1_ok, fun h => absurd h (by decide +kernel)⟩
theorem kf_X0_43 : kdF RX0 43 0 2 := ⟨RX0, TX0, 8, rfl, by decide, w_fl_X0_43, rfl, kd_in_X0, nmX0, tyX0, tyX0_ok, fun _ _ => rfl⟩
theorem kf_X0_21 : kdF RX0 21 0 3 := ⟨RX0, TX0, 8, rfl, by decide, w_fl_X0_21, rfl, kd_in_X0, nmX0, tyX0, tyX0_ok, fun h => absurd h (by decide +kernel)⟩
theorem kf_X2_14 : kdF RX2 14 2 0 := ⟨RX2, TX2, 6, rfl, by decide, w_fl_X2_14, rfl, kd_in_X2, nmX2, tyX2, tyX2_ok, fun h => absurd h (by decide +kernel)⟩
theorem kf_X2_20 : kdF RX2 20 2 1 := ⟨RX2, TX2, 6, rfl, by decide, w_fl_X2_20, rfl, kd_in_X2, nmX2, tyX2, tyX2_ok, fun h => absurd h (by decide +kernel)⟩
theorem kf_X2_23 : kdF RX2 23 2 2 := ⟨RX2, TX2, 6, rfl, by decide, w_fl_X2_23, rfl, kd_in_X2, nmX2, tyX2, tyX2_ok, fun h => absurd h (by decide +kernel)⟩
theorem kf_X2_30 : kdF RX2 30 2 4 := ⟨RX2, TX2, 6, rfl, by decide, w_fl_X2_30, rfl, kd_in_X2, nmX2, tyX2, tyX2_ok, fun _ _ => rfl⟩
theorem kf_X2_26 : kdF RX2 26 2 3 := ⟨RX2, TX2, 6, rfl, by decide, w_fl_X2_26, rfl, kd_in_X2, nmX2, tyX2, tyX2_ok, fun h => absurd h (by decide +kernel)⟩
theorem kf_X2_34 : kdF RX2 34 2 5 := ⟨RX2, TX2, 6, rfl, by decide, w_fl_X2_34, rfl, kd_in_X2, nmX2, tyX2, tyX2_ok, fun _ _ => rfl⟩
theorem kf_X3_37 : kdF RX3 37 3 0 := ⟨RX3, TX3, 9, rfl, by decide, w_fl_X3_37, rfl, kd_in_X3, nmX3, tyX3, tyX3_ok, fun _ _ => rfl⟩
theorem kf_X3_23 : kdF RX3 23 3 4 := ⟨RX3, TX3, 9, rfl, by decide, w_fl_X3_23, rfl, kd_in_X3, nmX3, tyX3, tyX3_ok, fun h => absurd h (by decide +kernel)⟩
theorem kf_X3_9 : kdF RX3 9 3 1 := ⟨RX3, TX3, 9, rfl, by decide, w_fl_X3_9, rfl, kd_in_X3, nmX3, tyX3, tyX3_ok, fun h => absurd h (by decide +kernel)⟩
theorem kf_X3_15 : kdF RX3 15 3 2 := ⟨RX3, TX3, 9, rfl, by decide, w_fl_X3_15, rfl, kd_in_X3, nmX3, tyX3, tyX3_ok, fun h => absurd h (by decide +kernel)⟩
theorem kf_X3_18 : kdF RX3 18 3 3 := ⟨RX3, TX3, 9, rfl, by decide, w_fl_X3_18, rfl, kd_in_X3, nmX3, tyX3, tyX3_ok, fun h => absurd h (by decide +kernel)⟩
theorem kf_X11_14 : kdF RX11 14 11 0 := ⟨RX11, TX11, 12, rfl, by decide, w_fl_X11_14, rfl, kd_in_X11, nmX11, tyX11, tyX11_ok, fun h => absurd h (by decide +kernel)⟩
theorem kf_X11_38 : kdF RX11 38 11 4 := ⟨RX11, TX11, 12, rfl, by decide, w_fl_X11_38, rfl, kd_in_X11, nmX11, tyX11, tyX11_ok, fun h => absurd h (by decide +kernel)⟩
theorem kf_X11_45 : kdF RX11 45 11 5 := ⟨RX11, TX11, 12, rfl, by decide, w_fl_X11_45, rfl, kd_in_X11, nmX11, tyX11, tyX11_ok, fun h => absurd h (by decide +kernel)⟩
theorem kf_X11_52 : kdF RX11 52 11 6 := ⟨RX11, TX11, 12, rfl, by decide, w_fl_X11_52, rfl, kd_in_X11, nmX11, tyX11, tyX11_ok, fun h => absurd h (by decide +kernel)⟩
theorem kf_X11_77 : kdF RX11 77 11 9 := ⟨RX11, TX11, 12, rfl, by decide, w_fl_X11_77, rfl, kd_in_X11, nmX11, tyX11, tyX11_ok, fun h => absurd h (by decide +kernel)⟩
theorem kf_X11_23 : kdF RX11 23 11 2 := ⟨RX11, TX11, 12, rfl, by decide, w_fl_X11_23, rfl, kd_in_X11, nmX11, tyX11, tyX11_ok, fun h => absurd h (by decide +kernel)⟩
theorem kf_X11_18 : kdF RX11 18 11 1 := ⟨RX11, TX11, 12, rfl, by decide, w_fl_X11_18, rfl, kd_in_X11, nmX11, tyX11, tyX11_ok, fun h => absurd h (by decide +kernel)⟩
theorem kf_X11_70 : kdF RX11 70 11 8 := ⟨RX11, TX11, 12, rfl, by decide, w_fl_X11_70, rfl, kd_in_X11, nmX11, tyX11, tyX11_ok, fun h => absurd h (by decide +kernel)⟩
theorem kf_X11_31 : kdF RX11 31 11 3 := ⟨RX11, TX11, 12, rfl, by decide, w_fl_X11_31, rfl, kd_in_X11, nmX11, tyX11, tyX11_ok, fun h => absurd h (by decide +kernel)⟩
theorem kf_X11_84 : kdF RX11 84 11 10 := ⟨RX11, TX11, 12, rfl, by decide, w_fl_X11_84, rfl, kd_in_X11, nmX11, tyX11, tyX11_ok, fun h => absurd h (by decide +kernel)⟩
theorem kl_X6_isFull : kdL yX6_isFull cX6_isFull 1 (some .boolean) 0 := ⟨w_cd_X6_isFull, w_in_X6, by decide +kernel, by decide +kernel, by decide⟩
theorem kl_X6_insert : kdL yX6_insert cX6_insert 4 none 2 := ⟨w_cd_X6_insert, w_in_X6, by decide +kernel, by decide +kernel, by decide⟩
theorem kl_X6_at : kdL yX6_at cX6_at 2 (some .int) 1 := ⟨w_cd_X6_at, w_in_X6, by decide +kernel, by decide +kernel, by decide⟩
theorem kl_X6_has : kdL yX6_has cX6_has 2 (some .boolean) 1 := ⟨w_cd_X6_has, w_in_X6, by decide +kernel, by decide +kernel, by decide⟩
theorem kl_X6_add : kdL yX6_add cX6_add 2 none 1 := ⟨w_cd_X6_add, w_in_X6, by decide +kernel, by decide +kernel, by decide⟩
theorem kl_X6_clear : kdL yX6_clear cX6_clear 2 (some .int) 0 := ⟨w_cd_X6_clear, w_in_X6, by decide +kernel, by decide +kernel, by decide⟩
theorem kl_X6_size : kdL yX6_size cX6_size 1 (some .int) 0 := ⟨w_cd_X6_size, w_in_X6, by decide +kernel, by decide +kernel, by decide⟩
theorem kl_X10_isFull : kdL yX10_isFull cX10_isFull 1 (some .boolean) 0 := ⟨w_cd_X10_isFull, w_in_X10, by decide +kernel, by decide +kernel, by decide⟩
theorem kl_X10_size : kdL yX10_size cX10_size 1 (some .int) 0 := ⟨w_cd_X10_size, w_in_X10, by decide +kernel, by decide +kernel, by decide⟩
theorem kl_X6_copy : kdL yX6_copy cX6_copy 3 none 1 := ⟨w_cd_X6_copy, w_in_X6, by decide +kernel, by decide +kernel, by decide⟩
theorem kl_X7_priceOfOne : kdL yX7_priceOfOne cX7_priceOfOne 5 (some .int) 2 := ⟨w_cd_X7_priceOfOne, w_in_X7, by decide +kernel, by decide +kernel, by decide⟩
theorem kl_X7_leastSum : kdL yX7_leastSum cX7_leastSum 9 (some .int) 5 := ⟨w_cd_X7_leastSum, w_in_X7, by decide +kernel, by decide +kernel, by decide⟩
theorem kl_X7_workOut : kdL yX7_workOut cX7_workOut 7 none 4 := ⟨w_cd_X7_workOut, w_in_X7, by decide +kernel, by decide +kernel, by decide⟩
theorem kl_X7_leastFor : kdL yX7_leastFor cX7_leastFor 3 (some .int) 2 := ⟨w_cd_X7_leastFor, w_in_X7, by decide +kernel, by decide +kernel, by decide⟩
theorem kl_X1_goesAhead : kdL yX1_goesAhead cX1_goesAhead 4 (some .boolean) 3 := ⟨w_cd_X1_goesAhead, w_in_X1, by decide +kernel, by decide +kernel, by decide⟩
theorem kl_X2_learnings : kdL yX2_learnings cX2_learnings 1 (some .int) 0 := ⟨w_cd_X2_learnings, w_in_X2, by decide +kernel, by decide +kernel, by decide⟩
theorem kl_X2_isOf : kdL yX2_isOf cX2_isOf 4 (some .boolean) 3 := ⟨w_cd_X2_isOf, w_in_X2, by decide +kernel, by decide +kernel, by decide⟩
theorem kl_X2_faded : kdL yX2_faded cX2_faded 5 (some .int) 1 := ⟨w_cd_X2_faded, w_in_X2, by decide +kernel, by decide +kernel, by decide⟩
theorem kl_X6_remove : kdL yX6_remove cX6_remove 4 (some .int) 1 := ⟨w_cd_X6_remove, w_in_X6, by decide +kernel, by decide +kernel, by decide⟩
theorem kl_X2_drawLot : kdL yX2_drawLot cX2_drawLot 2 (some .int) 1 := ⟨w_cd_X2_drawLot, w_in_X2, by decide +kernel, by decide +kernel, by decide⟩
theorem kl_X2_worthOf : kdL yX2_worthOf cX2_worthOf 6 (some .int) 3 := ⟨w_cd_X2_worthOf, w_in_X2, by decide +kernel, by decide +kernel, by decide⟩
theorem kl_X11_within : kdL yX11_within cX11_within 3 (some .boolean) 3 := ⟨w_cd_X11_within, w_in_X11, by decide +kernel, by decide +kernel, by decide⟩
theorem kl_X11_isKey : kdL yX11_isKey cX11_isKey 1 (some .boolean) 1 := ⟨w_cd_X11_isKey, w_in_X11, by decide +kernel, by decide +kernel, by decide⟩
theorem kl_X11_isTongue : kdL yX11_isTongue cX11_isTongue 1 (some .boolean) 1 := ⟨w_cd_X11_isTongue, w_in_X11, by decide +kernel, by decide +kernel, by decide⟩
theorem kl_X6_isEmpty : kdL yX6_isEmpty cX6_isEmpty 1 (some .boolean) 0 := ⟨w_cd_X6_isEmpty, w_in_X6, by decide +kernel, by decide +kernel, by decide⟩
theorem kl_X10_addWord : kdL yX10_addWord cX10_addWord 5 (some .int) 4 := ⟨w_cd_X10_addWord, w_in_X10, by decide +kernel, by decide +kernel, by decide⟩
theorem kl_X10_has : kdL yX10_has cX10_has 2 (some .boolean) 1 := ⟨w_cd_X10_has, w_in_X10, by decide +kernel, by decide +kernel, by decide⟩
theorem kl_X10_tongueOf : kdL yX10_tongueOf cX10_tongueOf 2 (some .int) 1 := ⟨w_cd_X10_tongueOf, w_in_X10, by decide +kernel, by decide +kernel, by decide⟩
theorem kl_X10_signOf : kdL yX10_signOf cX10_signOf 2 (some .int) 1 := ⟨w_cd_X10_signOf, w_in_X10, by decide +kernel, by decide +kernel, by decide⟩
theorem kl_X10_countOf : kdL yX10_countOf cX10_countOf 2 (some .int) 1 := ⟨w_cd_X10_countOf, w_in_X10, by decide +kernel, by decide +kernel, by decide⟩
theorem kl_X10_keysOf : kdL yX10_keysOf cX10_keysOf 2 (some (.object "KeyDesk$Row")) 1 := ⟨w_cd_X10_keysOf, w_in_X10, by decide +kernel, by decide +kernel, by decide⟩
theorem kl_X7_priceOf : kdL yX7_priceOf cX7_priceOf 3 (some .int) 2 := ⟨w_cd_X7_priceOf, w_in_X7, by decide +kernel, by decide +kernel, by decide⟩
theorem kl_X11_hasBit : kdL yX11_hasBit cX11_hasBit 2 (some .boolean) 2 := ⟨w_cd_X11_hasBit, w_in_X11, by decide +kernel, by decide +kernel, by decide⟩
theorem kl_X1_insert : kdL yX1_insert cX1_insert 5 none 3 := ⟨w_cd_X1_insert, w_in_X1, by decide +kernel, by decide +kernel, by decide⟩
theorem kl_X1_clear : kdL yX1_clear cX1_clear 1 none 0 := ⟨w_cd_X1_clear, w_in_X1, by decide +kernel, by decide +kernel, by decide⟩
theorem kl_X11_gather : kdL yX11_gather cX11_gather 7 none 4 := ⟨w_cd_X11_gather, w_in_X11, by decide +kernel, by decide +kernel, by decide⟩
theorem kl_X1_guessAt : kdL yX1_guessAt cX1_guessAt 2 (some .int) 1 := ⟨w_cd_X1_guessAt, w_in_X1, by decide +kernel, by decide +kernel, by decide⟩
theorem kl_X11_isHand : kdL yX11_isHand cX11_isHand 1 (some .boolean) 1 := ⟨w_cd_X11_isHand, w_in_X11, by decide +kernel, by decide +kernel, by decide⟩
theorem kl_X11_isDay : kdL yX11_isDay cX11_isDay 1 (some .boolean) 1 := ⟨w_cd_X11_isDay, w_in_X11, by decide +kernel, by decide +kernel, by decide⟩
theorem kl_X2_isFull : kdL yX2_isFull cX2_isFull 1 (some .boolean) 0 := ⟨w_cd_X2_isFull, w_in_X2, by decide +kernel, by decide +kernel, by decide⟩
theorem kl_X2_latestDay : kdL yX2_latestDay cX2_latestDay 4 (some .int) 1 := ⟨w_cd_X2_latestDay, w_in_X2, by decide +kernel, by decide +kernel, by decide⟩
theorem kl_X2_addLearning : kdL yX2_addLearning cX2_addLearning 4 (some .int) 3 := ⟨w_cd_X2_addLearning, w_in_X2, by decide +kernel, by decide +kernel, by decide⟩
theorem kl_X2_dropLearnings : kdL yX2_dropLearnings cX2_dropLearnings 5 (some .int) 2 := ⟨w_cd_X2_dropLearnings, w_in_X2, by decide +kernel, by decide +kernel, by decide⟩
theorem kl_X2_setFade : kdL yX2_setFade cX2_setFade 3 (some .int) 1 := ⟨w_cd_X2_setFade, w_in_X2, by decide +kernel, by decide +kernel, by decide⟩
theorem kl_X2_setBudget : kdL yX2_setBudget cX2_setBudget 4 (some .int) 2 := ⟨w_cd_X2_setBudget, w_in_X2, by decide +kernel, by decide +kernel, by decide⟩
theorem kl_X2_setSeed : kdL yX2_setSeed cX2_setSeed 3 (some .int) 1 := ⟨w_cd_X2_setSeed, w_in_X2, by decide +kernel, by decide +kernel, by decide⟩
theorem kl_X2_givers : kdL yX2_givers cX2_givers 4 (some .int) 1 := ⟨w_cd_X2_givers, w_in_X2, by decide +kernel, by decide +kernel, by decide⟩
theorem kl_X2_sumWithLot : kdL yX2_sumWithLot cX2_sumWithLot 6 (some .int) 3 := ⟨w_cd_X2_sumWithLot, w_in_X2, by decide +kernel, by decide +kernel, by decide⟩
theorem kl_X2_budgetOf : kdL yX2_budgetOf cX2_budgetOf 2 (some .int) 1 := ⟨w_cd_X2_budgetOf, w_in_X2, by decide +kernel, by decide +kernel, by decide⟩
theorem kl_X8_joins : kdL yX8_joins cX8_joins 1 (some .int) 0 := ⟨w_cd_X8_joins, w_in_X8, by decide +kernel, by decide +kernel, by decide⟩
theorem kl_X8_rules : kdL yX8_rules cX8_rules 1 (some .int) 0 := ⟨w_cd_X8_rules, w_in_X8, by decide +kernel, by decide +kernel, by decide⟩
theorem kl_X0_padSize : kdL yX0_padSize cX0_padSize 1 (some .int) 0 := ⟨w_cd_X0_padSize, w_in_X0, by decide +kernel, by decide +kernel, by decide⟩
theorem kl_X4_tongue : kdL yX4_tongue cX4_tongue 1 (some .int) 0 := ⟨w_cd_X4_tongue, w_in_X4, by decide +kernel, by decide +kernel, by decide⟩
theorem kl_X4_strokes : kdL yX4_strokes cX4_strokes 1 (some (.object "KeyDesk$Row")) 0 := ⟨w_cd_X4_strokes, w_in_X4, by decide +kernel, by decide +kernel, by decide⟩
theorem kl_X0_pairs : kdL yX0_pairs cX0_pairs 1 (some .int) 0 := ⟨w_cd_X0_pairs, w_in_X0, by decide +kernel, by decide +kernel, by decide⟩
theorem kl_X3_size : kdL yX3_size cX3_size 1 (some .int) 0 := ⟨w_cd_X3_size, w_in_X3, by decide +kernel, by decide +kernel, by decide⟩
theorem kl_X11_toldOfOne : kdL yX11_toldOfOne cX11_toldOfOne 2 (some .int) 1 := ⟨w_cd_X11_toldOfOne, w_in_X11, by decide +kernel, by decide +kernel, by decide⟩
