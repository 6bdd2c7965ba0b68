-- words of the tables, fields, callees: by program (wip/whole/gen/gen.py)
theorem kk_i_1 : Int32.ofInt 1 = (1 : Int32) := by decide
theorem kk_i_0 : Int32.ofInt 0 = (0 : Int32) := by decide
theorem kk_i_m1 : Int32.ofInt (-1) = ((-1) : Int32) := by decide
theorem kk_b_24 : (Int8.ofInt 24).toInt32 = (24 : Int32) := by decide
theorem kk_b_m4 : (Int8.ofInt (-4)).toInt32 = ((-4) : Int32) := by decide
theorem kk_b_100 : (Int8.ofInt 100).toInt32 = (100 : Int32) := by decide
theorem kk_b_m6 : (Int8.ofInt (-6)).toInt32 = ((-6) : Int32) := by decide
theorem kk_s_4095 : (Int16.ofInt 4095).toInt32 = (4095 : Int32) := by decide
theorem kk_b_60 : (Int8.ofInt 60).toInt32 = (60 : Int32) := by decide
theorem kk_b_99 : (Int8.ofInt 99).toInt32 = (99 : Int32) := by decide
theorem kk_i_5 : Int32.ofInt 5 = (5 : Int32) := by decide
theorem kk_i_4 : Int32.ofInt 4 = (4 : Int32) := by decide
theorem kk_i_2 : Int32.ofInt 2 = (2 : Int32) := by decide
theorem kk_i_3 : Int32.ofInt 3 = (3 : Int32) := by decide
theorem kk_s_340 : (Int16.ofInt 340).toInt32 = (340 : Int32) := by decide
theorem kk_b_10 : (Int8.ofInt 10).toInt32 = (10 : Int32) := by decide
theorem kk_l_1 : Int64.ofNat ((1 : Fin 2) : Nat) = (1 : Int64) := by decide
theorem kk_l_0 : Int64.ofNat ((0 : Fin 2) : Nat) = (0 : Int64) := by decide
theorem kk_s_1000 : (Int16.ofInt 1000).toInt32 = (1000 : Int32) := by decide
theorem kk_s_2001 : (Int16.ofInt 2001).toInt32 = (2001 : Int32) := by decide
theorem kk_s_5000 : (Int16.ofInt 5000).toInt32 = (5000 : Int32) := by decide
theorem kk_b_7 : (Int8.ofInt 7).toInt32 = (7 : Int32) := by decide
theorem kk_s_5040 : (Int16.ofInt 5040).toInt32 = (5040 : Int32) := by decide
theorem kk_b_120 : (Int8.ofInt 120).toInt32 = (120 : Int32) := by decide
theorem kk_b_11 : (Int8.ofInt 11).toInt32 = (11 : Int32) := by decide
theorem kk_b_m2 : (Int8.ofInt (-2)).toInt32 = ((-2) : Int32) := by decide
theorem kk_b_m5 : (Int8.ofInt (-5)).toInt32 = ((-5) : Int32) := by decide
theorem kk_s_m1006 : (Int16.ofInt (-1006)).toInt32 = ((-1006) : Int32) := by decide
theorem kk_s_m1002 : (Int16.ofInt (-1002)).toInt32 = ((-1002) : Int32) := by decide
theorem kk_s_999 : (Int16.ofInt 999).toInt32 = (999 : Int32) := by decide
theorem kk_b_8 : (Int8.ofInt 8).toInt32 = (8 : Int32) := by decide
theorem kk_b_20 : (Int8.ofInt 20).toInt32 = (20 : Int32) := by decide
theorem kk_b_m3 : (Int8.ofInt (-3)).toInt32 = ((-3) : Int32) := by decide
theorem kk_b_40 : (Int8.ofInt 40).toInt32 = (40 : Int32) := by decide
theorem kk_s_3000 : (Int16.ofInt 3000).toInt32 = (3000 : Int32) := by decide
theorem kk_b_50 : (Int8.ofInt 50).toInt32 = (50 : Int32) := by decide
theorem kk_b_30 : (Int8.ofInt 30).toInt32 = (30 : Int32) := by decide
theorem kk_b_16 : (Int8.ofInt 16).toInt32 = (16 : Int32) := by decide
theorem kk_b_12 : (Int8.ofInt 12).toInt32 = (12 : Int32) := by decide
theorem kk_b_61 : (Int8.ofInt 61).toInt32 = (61 : Int32) := by decide
theorem kk_b_9 : (Int8.ofInt 9).toInt32 = (9 : Int32) := by decide
theorem kk_s_160 : (Int16.ofInt 160).toInt32 = (160 : Int32) := by decide
theorem kk_b_49 : (Int8.ofInt 49).toInt32 = (49 : Int32) := by decide
theorem w_fl_X6_21 : Cond.fieldLink RX6 21 "KeyDesk$Row" "size" "I" ∈ kdtb := kdtb_mem 115 (by decide +kernel) rfl
theorem w_fl_X6_15 : Cond.fieldLink RX6 15 "KeyDesk$Row" "items" "[I" ∈ kdtb := kdtb_mem 114 (by decide +kernel) rfl
theorem w_cd_X6_isFull : Cond.code yX6_isFull cX6_isFull 1 (some .boolean) ∈ kdtb := kdtb_mem 470 (by decide +kernel) rfl
theorem w_in_X6 : Cond.initialized RX6 ∈ kdtb := kdtb_mem 84 (by decide +kernel) rfl
theorem w_ml_X6_29 : Cond.methodLink RX6 29 yX6_isFull ∈ kdtb := kdtb_mem 479 (by decide +kernel) rfl
theorem w_im_X6_isFull : Cond.instanceMethod yX6_isFull ∈ kdtb := kdtb_mem 468 (by decide +kernel) rfl
theorem w_se_X6_isFull : Cond.selects yX6_isFull.cls yX6_isFull yX6_isFull ∈ kdtb := kdtb_mem 469 (by decide +kernel) rfl
theorem w_cd_X6_insert : Cond.code yX6_insert cX6_insert 4 none ∈ kdtb := kdtb_mem 478 (by decide +kernel) rfl
theorem w_ml_X6_25 : Cond.methodLink RX6 25 yX6_insert ∈ kdtb := kdtb_mem 475 (by decide +kernel) rfl
theorem w_im_X6_insert : Cond.instanceMethod yX6_insert ∈ kdtb := kdtb_mem 476 (by decide +kernel) rfl
theorem w_se_X6_insert : Cond.selects yX6_insert.cls yX6_insert yX6_insert ∈ kdtb := kdtb_mem 477 (by decide +kernel) rfl
theorem w_cd_X6_at : Cond.code yX6_at cX6_at 2 (some .int) ∈ kdtb := kdtb_mem 588 (by decide +kernel) rfl
theorem w_ml_X6_33 : Cond.methodLink RX6 33 yX6_at ∈ kdtb := kdtb_mem 647 (by decide +kernel) rfl
theorem w_im_X6_at : Cond.instanceMethod yX6_at ∈ kdtb := kdtb_mem 586 (by decide +kernel) rfl
theorem w_se_X6_at : Cond.selects yX6_at.cls yX6_at yX6_at ∈ kdtb := kdtb_mem 587 (by decide +kernel) rfl
theorem w_cd_X6_has : Cond.code yX6_has cX6_has 2 (some .boolean) ∈ kdtb := kdtb_mem 642 (by decide +kernel) rfl
theorem w_ml_X6_37 : Cond.methodLink RX6 37 yX6_has ∈ kdtb := kdtb_mem 648 (by decide +kernel) rfl
theorem w_im_X6_has : Cond.instanceMethod yX6_has ∈ kdtb := kdtb_mem 640 (by decide +kernel) rfl
theorem w_se_X6_has : Cond.selects yX6_has.cls yX6_has yX6_has ∈ kdtb := kdtb_mem 641 (by decide +kernel) rfl
theorem w_cd_X6_add : Cond.code yX6_add cX6_add 2 none ∈ kdtb := kdtb_mem 474 (by decide +kernel) rfl
theorem w_ml_X6_45 : Cond.methodLink RX6 45 yX6_add ∈ kdtb := kdtb_mem 529 (by decide +kernel) rfl
theorem w_im_X6_add : Cond.instanceMethod yX6_add ∈ kdtb := kdtb_mem 472 (by decide +kernel) rfl
theorem w_se_X6_add : Cond.selects yX6_add.cls yX6_add yX6_add ∈ kdtb := kdtb_mem 473 (by decide +kernel) rfl
theorem w_cd_X6_clear : Cond.code yX6_clear cX6_clear 2 (some .int) ∈ kdtb := kdtb_mem 498 (by decide +kernel) rfl
theorem w_ml_X6_41 : Cond.methodLink RX6 41 yX6_clear ∈ kdtb := kdtb_mem 528 (by decide +kernel) rfl
theorem w_im_X6_clear : Cond.instanceMethod yX6_clear ∈ kdtb := kdtb_mem 496 (by decide +kernel) rfl
theorem w_se_X6_clear : Cond.selects yX6_clear.cls yX6_clear yX6_clear ∈ kdtb := kdtb_mem 497 (by decide +kernel) rfl
theorem w_cd_X6_agrees : Cond.code yX6_agrees cX6_agrees 5 (some .boolean) ∈ kdtb := kdtb_mem 568 (by decide +kernel) rfl
theorem w_ml_X6_49 : Cond.methodLink RX6 49 yX6_agrees ∈ kdtb := kdtb_mem 565 (by decide +kernel) rfl
theorem w_im_X6_agrees : Cond.instanceMethod yX6_agrees ∈ kdtb := kdtb_mem 566 (by decide +kernel) rfl
theorem w_se_X6_agrees : Cond.selects yX6_agrees.cls yX6_agrees yX6_agrees ∈ kdtb := kdtb_mem 567 (by decide +kernel) rfl
theorem w_fl_X8_40 : Cond.fieldLink RX8 40 "KeyDesk$Tongue" "rules" "I" ∈ kdtb := kdtb_mem 134 (by decide +kernel) rfl
theorem w_fl_X8_30 : Cond.fieldLink RX8 30 "KeyDesk$Tongue" "joints" "LKeyDesk$Row;" ∈ kdtb := kdtb_mem 137 (by decide +kernel) rfl
theorem w_cd_X6_size : Cond.code yX6_size cX6_size 1 (some .int) ∈ kdtb := kdtb_mem 483 (by decide +kernel) rfl
theorem w_ml_X8_44 : Cond.methodLink RX8 44 yX6_size ∈ kdtb := kdtb_mem 544 (by decide +kernel) rfl
theorem w_im_X6_size : Cond.instanceMethod yX6_size ∈ kdtb := kdtb_mem 481 (by decide +kernel) rfl
theorem w_se_X6_size : Cond.selects yX6_size.cls yX6_size yX6_size ∈ kdtb := kdtb_mem 482 (by decide +kernel) rfl
theorem w_ml_X8_48 : Cond.methodLink RX8 48 yX6_isFull ∈ kdtb := kdtb_mem 538 (by decide +kernel) rfl
theorem w_fl_X8_11 : Cond.fieldLink RX8 11 "KeyDesk$Tongue" "keysOfRules" "[LKeyDesk$Row;" ∈ kdtb := kdtb_mem 132 (by decide +kernel) rfl
theorem w_fl_X8_17 : Cond.fieldLink RX8 17 "KeyDesk$Tongue" "lettersOfRules" "[LKeyDesk$Row;" ∈ kdtb := kdtb_mem 133 (by decide +kernel) rfl
theorem w_cd_X8_isFullOfRules : Cond.code yX8_isFullOfRules cX8_isFullOfRules 1 (some .boolean) ∈ kdtb := kdtb_mem 514 (by decide +kernel) rfl
theorem w_in_X8 : Cond.initialized RX8 ∈ kdtb := kdtb_mem 86 (by decide +kernel) rfl
theorem w_ml_X8_52 : Cond.methodLink RX8 52 yX8_isFullOfRules ∈ kdtb := kdtb_mem 523 (by decide +kernel) rfl
theorem w_im_X8_isFullOfRules : Cond.instanceMethod yX8_isFullOfRules ∈ kdtb := kdtb_mem 512 (by decide +kernel) rfl
theorem w_se_X8_isFullOfRules : Cond.selects yX8_isFullOfRules.cls yX8_isFullOfRules yX8_isFullOfRules ∈ kdtb := kdtb_mem 513 (by decide +kernel) rfl
theorem w_cd_X6_copy : Cond.code yX6_copy cX6_copy 3 none ∈ kdtb := kdtb_mem 527 (by decide +kernel) rfl
theorem w_ml_X8_55 : Cond.methodLink RX8 55 yX6_copy ∈ kdtb := kdtb_mem 524 (by decide +kernel) rfl
theorem w_im_X6_copy : Cond.instanceMethod yX6_copy ∈ kdtb := kdtb_mem 525 (by decide +kernel) rfl
theorem w_se_X6_copy : Cond.selects yX6_copy.cls yX6_copy yX6_copy ∈ kdtb := kdtb_mem 526 (by decide +kernel) rfl
theorem w_fl_X8_23 : Cond.fieldLink RX8 23 "KeyDesk$Tongue" "firsts" "LKeyDesk$Row;" ∈ kdtb := kdtb_mem 135 (by decide +kernel) rfl
theorem w_ml_X8_59 : Cond.methodLink RX8 59 yX6_add ∈ kdtb := kdtb_mem 543 (by decide +kernel) rfl
theorem w_fl_X8_27 : Cond.fieldLink RX8 27 "KeyDesk$Tongue" "seconds" "LKeyDesk$Row;" ∈ kdtb := kdtb_mem 136 (by decide +kernel) rfl
theorem w_fl_X8_33 : Cond.fieldLink RX8 33 "KeyDesk$Tongue" "letters" "[Z" ∈ kdtb := kdtb_mem 138 (by decide +kernel) rfl
theorem w_ml_X8_62 : Cond.methodLink RX8 62 yX6_at ∈ kdtb := kdtb_mem 585 (by decide +kernel) rfl
theorem w_ml_X8_66 : Cond.methodLink RX8 66 yX6_agrees ∈ kdtb := kdtb_mem 683 (by decide +kernel) rfl
theorem w_ml_X8_70 : Cond.methodLink RX8 70 yX6_has ∈ kdtb := kdtb_mem 736 (by decide +kernel) rfl
theorem w_cd_X6_isLike : Cond.code yX6_isLike cX6_isLike 2 (some .boolean) ∈ kdtb := kdtb_mem 564 (by decide +kernel) rfl
theorem w_ml_X8_74 : Cond.methodLink RX8 74 yX6_isLike ∈ kdtb := kdtb_mem 561 (by decide +kernel) rfl
theorem w_im_X6_isLike : Cond.instanceMethod yX6_isLike ∈ kdtb := kdtb_mem 562 (by decide +kernel) rfl
theorem w_se_X6_isLike : Cond.selects yX6_isLike.cls yX6_isLike yX6_isLike ∈ kdtb := kdtb_mem 563 (by decide +kernel) rfl
theorem w_cd_X8_isIdle : Cond.code yX8_isIdle cX8_isIdle 3 (some .boolean) ∈ kdtb := kdtb_mem 580 (by decide +kernel) rfl
theorem w_ml_X8_78 : Cond.methodLink RX8 78 yX8_isIdle ∈ kdtb := kdtb_mem 577 (by decide +kernel) rfl
theorem w_im_X8_isIdle : Cond.instanceMethod yX8_isIdle ∈ kdtb := kdtb_mem 579 (by decide +kernel) rfl
theorem w_se_X8_isIdle : Cond.selects yX8_isIdle.cls yX8_isIdle yX8_isIdle ∈ kdtb := kdtb_mem 0 (by decide +kernel) rfl
theorem w_cd_X11_within : Cond.code yX11_within cX11_within 3 (some .boolean) ∈ kdtb := kdtb_mem 466 (by decide +kernel) rfl
theorem w_in_X11 : Cond.initialized RX11 ∈ kdtb := kdtb_mem 83 (by decide +kernel) rfl
theorem w_ml_X11_165 : Cond.methodLink RX11 165 yX11_within ∈ kdtb := kdtb_mem 464 (by decide +kernel) rfl
theorem w_st_X11_within : Cond.static yX11_within ∈ kdtb := kdtb_mem 465 (by decide +kernel) rfl
theorem w_cd_X11_isLetter : Cond.code yX11_isLetter cX11_isLetter 1 (some .boolean) ∈ kdtb := kdtb_mem 490 (by decide +kernel) rfl
theorem w_st_X11_isLetter : Cond.static yX11_isLetter ∈ kdtb := kdtb_mem 489 (by decide +kernel) rfl
theorem w_fl_X8_37 : Cond.fieldLink RX8 37 "KeyDesk$Tongue" "made" "[Z" ∈ kdtb := kdtb_mem 139 (by decide +kernel) rfl
theorem w_cd_X8_isMade : Cond.code yX8_isMade cX8_isMade 2 (some .boolean) ∈ kdtb := kdtb_mem 617 (by decide +kernel) rfl
theorem w_ml_X8_93 : Cond.methodLink RX8 93 yX8_isMade ∈ kdtb := kdtb_mem 614 (by decide +kernel) rfl
theorem w_im_X8_isMade : Cond.instanceMethod yX8_isMade ∈ kdtb := kdtb_mem 616 (by decide +kernel) rfl
theorem w_se_X8_isMade : Cond.selects yX8_isMade.cls yX8_isMade yX8_isMade ∈ kdtb := kdtb_mem 5 (by decide +kernel) rfl
theorem w_cd_X8_mark : Cond.code yX8_mark cX8_mark 2 none ∈ kdtb := kdtb_mem 608 (by decide +kernel) rfl
theorem w_ml_X8_90 : Cond.methodLink RX8 90 yX8_mark ∈ kdtb := kdtb_mem 605 (by decide +kernel) rfl
theorem w_im_X8_mark : Cond.instanceMethod yX8_mark ∈ kdtb := kdtb_mem 607 (by decide +kernel) rfl
theorem w_se_X8_mark : Cond.selects yX8_mark.cls yX8_mark yX8_mark ∈ kdtb := kdtb_mem 3 (by decide +kernel) rfl
theorem w_cd_X8_markJoints : Cond.code yX8_markJoints cX8_markJoints 2 none ∈ kdtb := kdtb_mem 613 (by decide +kernel) rfl
theorem w_ml_X8_87 : Cond.methodLink RX8 87 yX8_markJoints ∈ kdtb := kdtb_mem 610 (by decide +kernel) rfl
theorem w_im_X8_markJoints : Cond.instanceMethod yX8_markJoints ∈ kdtb := kdtb_mem 612 (by decide +kernel) rfl
theorem w_se_X8_markJoints : Cond.selects yX8_markJoints.cls yX8_markJoints yX8_markJoints ∈ kdtb := kdtb_mem 4 (by decide +kernel) rfl
theorem w_cd_X8_markLettersOf : Cond.code yX8_markLettersOf cX8_markLettersOf 3 none ∈ kdtb := kdtb_mem 604 (by decide +kernel) rfl
theorem w_ml_X8_84 : Cond.methodLink RX8 84 yX8_markLettersOf ∈ kdtb := kdtb_mem 601 (by decide +kernel) rfl
theorem w_im_X8_markLettersOf : Cond.instanceMethod yX8_markLettersOf ∈ kdtb := kdtb_mem 603 (by decide +kernel) rfl
theorem w_se_X8_markLettersOf : Cond.selects yX8_markLettersOf.cls yX8_markLettersOf yX8_markLettersOf ∈ kdtb := kdtb_mem 2 (by decide +kernel) rfl
theorem w_cd_X8_markMade : Cond.code yX8_markMade cX8_markMade 2 none ∈ kdtb := kdtb_mem 600 (by decide +kernel) rfl
theorem w_ml_X8_81 : Cond.methodLink RX8 81 yX8_markMade ∈ kdtb := kdtb_mem 597 (by decide +kernel) rfl
theorem w_im_X8_markMade : Cond.instanceMethod yX8_markMade ∈ kdtb := kdtb_mem 599 (by decide +kernel) rfl
theorem w_se_X8_markMade : Cond.selects yX8_markMade.cls yX8_markMade yX8_markMade ∈ kdtb := kdtb_mem 1 (by decide +kernel) rfl
theorem w_fl_X4_14 : Cond.fieldLink RX4 14 "KeyDesk$Line" "strokes" "LKeyDesk$Row;" ∈ kdtb := kdtb_mem 166 (by decide +kernel) rfl
theorem w_fl_X4_26 : Cond.fieldLink RX4 26 "KeyDesk$Line" "signs" "LKeyDesk$Row;" ∈ kdtb := kdtb_mem 169 (by decide +kernel) rfl
theorem w_fl_X4_29 : Cond.fieldLink RX4 29 "KeyDesk$Line" "tongue" "I" ∈ kdtb := kdtb_mem 170 (by decide +kernel) rfl
theorem w_ml_X4_46 : Cond.methodLink RX4 46 yX6_add ∈ kdtb := kdtb_mem 684 (by decide +kernel) rfl
theorem w_fl_X4_23 : Cond.fieldLink RX4 23 "KeyDesk$Line" "starts" "LKeyDesk$Row;" ∈ kdtb := kdtb_mem 168 (by decide +kernel) rfl
theorem w_cd_X8_keysOfRule : Cond.code yX8_keysOfRule cX8_keysOfRule 2 (some (.object "KeyDesk$Row")) ∈ kdtb := kdtb_mem 688 (by decide +kernel) rfl
theorem w_ml_X4_49 : Cond.methodLink RX4 49 yX8_keysOfRule ∈ kdtb := kdtb_mem 685 (by decide +kernel) rfl
theorem w_im_X8_keysOfRule : Cond.instanceMethod yX8_keysOfRule ∈ kdtb := kdtb_mem 686 (by decide +kernel) rfl
theorem w_se_X8_keysOfRule : Cond.selects yX8_keysOfRule.cls yX8_keysOfRule yX8_keysOfRule ∈ kdtb := kdtb_mem 687 (by decide +kernel) rfl
theorem w_ml_X4_37 : Cond.methodLink RX4 37 yX6_size ∈ kdtb := kdtb_mem 678 (by decide +kernel) rfl
theorem w_ml_X4_53 : Cond.methodLink RX4 53 Lib.Math.max.name ∈ kdtb := kdtb_mem 689 (by decide +kernel) rfl
theorem w_st_Math_max : Cond.static Lib.Math.max.name ∈ kdtb := kdtb_mem 112 (by decide +kernel) rfl
theorem w_in_Math : Cond.initialized "java/lang/Math" ∈ kdtb := kdtb_mem 85 (by decide +kernel) rfl
theorem w_cd_Math_max : Cond.code Lib.Math.max.name Lib.Math.max.code 2 (some .int) ∈ kdtb := kdtb_mem 113 (by decide +kernel) rfl
theorem w_cd_X8_longestRule : Cond.code yX8_longestRule cX8_longestRule 7 (some .int) ∈ kdtb := kdtb_mem 682 (by decide +kernel) rfl
theorem w_ml_X4_40 : Cond.methodLink RX4 40 yX8_longestRule ∈ kdtb := kdtb_mem 679 (by decide +kernel) rfl
theorem w_im_X8_longestRule : Cond.instanceMethod yX8_longestRule ∈ kdtb := kdtb_mem 680 (by decide +kernel) rfl
theorem w_se_X8_longestRule : Cond.selects yX8_longestRule.cls yX8_longestRule yX8_longestRule ∈ kdtb := kdtb_mem 681 (by decide +kernel) rfl
theorem w_fl_X4_20 : Cond.fieldLink RX4 20 "KeyDesk$Line" "rulesOfPieces" "LKeyDesk$Row;" ∈ kdtb := kdtb_mem 167 (by decide +kernel) rfl
theorem w_ml_X4_33 : Cond.methodLink RX4 33 yX6_clear ∈ kdtb := kdtb_mem 677 (by decide +kernel) rfl
theorem w_ml_X4_59 : Cond.methodLink RX4 59 yX6_has ∈ kdtb := kdtb_mem 723 (by decide +kernel) rfl
theorem w_ml_X4_63 : Cond.methodLink RX4 63 yX6_at ∈ kdtb := kdtb_mem 690 (by decide +kernel) rfl
theorem w_cd_X8_keysBehind : Cond.code yX8_keysBehind cX8_keysBehind 7 (some .int) ∈ kdtb := kdtb_mem 735 (by decide +kernel) rfl
theorem w_ml_X4_71 : Cond.methodLink RX4 71 yX8_keysBehind ∈ kdtb := kdtb_mem 732 (by decide +kernel) rfl
theorem w_im_X8_keysBehind : Cond.instanceMethod yX8_keysBehind ∈ kdtb := kdtb_mem 733 (by decide +kernel) rfl
theorem w_se_X8_keysBehind : Cond.selects yX8_keysBehind.cls yX8_keysBehind yX8_keysBehind ∈ kdtb := kdtb_mem 734 (by decide +kernel) rfl
theorem w_cd_X4_cut : Cond.code yX4_cut cX4_cut 4 none ∈ kdtb := kdtb_mem 676 (by decide +kernel) rfl
theorem w_in_X4 : Cond.initialized RX4 ∈ kdtb := kdtb_mem 87 (by decide +kernel) rfl
theorem w_ml_X4_67 : Cond.methodLink RX4 67 yX4_cut ∈ kdtb := kdtb_mem 673 (by decide +kernel) rfl
theorem w_im_X4_cut : Cond.instanceMethod yX4_cut ∈ kdtb := kdtb_mem 674 (by decide +kernel) rfl
theorem w_se_X4_cut : Cond.selects yX4_cut.cls yX4_cut yX4_cut ∈ kdtb := kdtb_mem 675 (by decide +kernel) rfl
theorem w_cd_X6_isEmpty : Cond.code yX6_isEmpty cX6_isEmpty 1 (some .boolean) ∈ kdtb := kdtb_mem 518 (by decide +kernel) rfl
theorem w_ml_X4_85 : Cond.methodLink RX4 85 yX6_isEmpty ∈ kdtb := kdtb_mem 703 (by decide +kernel) rfl
theorem w_im_X6_isEmpty : Cond.instanceMethod yX6_isEmpty ∈ kdtb := kdtb_mem 516 (by decide +kernel) rfl
theorem w_se_X6_isEmpty : Cond.selects yX6_isEmpty.cls yX6_isEmpty yX6_isEmpty ∈ kdtb := kdtb_mem 517 (by decide +kernel) rfl
theorem w_cd_X8_joined : Cond.code yX8_joined cX8_joined 4 (some .int) ∈ kdtb := kdtb_mem 707 (by decide +kernel) rfl
theorem w_ml_X4_92 : Cond.methodLink RX4 92 yX8_joined ∈ kdtb := kdtb_mem 704 (by decide +kernel) rfl
theorem w_im_X8_joined : Cond.instanceMethod yX8_joined ∈ kdtb := kdtb_mem 705 (by decide +kernel) rfl
theorem w_se_X8_joined : Cond.selects yX8_joined.cls yX8_joined yX8_joined ∈ kdtb := kdtb_mem 706 (by decide +kernel) rfl
theorem w_cd_X6_remove : Cond.code yX6_remove cX6_remove 4 (some .int) ∈ kdtb := kdtb_mem 656 (by decide +kernel) rfl
theorem w_ml_X4_89 : Cond.methodLink RX4 89 yX6_remove ∈ kdtb := kdtb_mem 708 (by decide +kernel) rfl
theorem w_im_X6_remove : Cond.instanceMethod yX6_remove ∈ kdtb := kdtb_mem 654 (by decide +kernel) rfl
theorem w_se_X6_remove : Cond.selects yX6_remove.cls yX6_remove yX6_remove ∈ kdtb := kdtb_mem 655 (by decide +kernel) rfl
theorem w_cd_X4_jointWithLast : Cond.code yX4_jointWithLast cX4_jointWithLast 3 (some .int) ∈ kdtb := kdtb_mem 702 (by decide +kernel) rfl
theorem w_ml_X4_81 : Cond.methodLink RX4 81 yX4_jointWithLast ∈ kdtb := kdtb_mem 699 (by decide +kernel) rfl
theorem w_im_X4_jointWithLast : Cond.instanceMethod yX4_jointWithLast ∈ kdtb := kdtb_mem 701 (by decide +kernel) rfl
theorem w_se_X4_jointWithLast : Cond.selects yX4_jointWithLast.cls yX4_jointWithLast yX4_jointWithLast ∈ kdtb := kdtb_mem 8 (by decide +kernel) rfl
theorem w_cd_X4_arrive : Cond.code yX4_arrive cX4_arrive 5 none ∈ kdtb := kdtb_mem 698 (by decide +kernel) rfl
theorem w_ml_X4_77 : Cond.methodLink RX4 77 yX4_arrive ∈ kdtb := kdtb_mem 695 (by decide +kernel) rfl
theorem w_im_X4_arrive : Cond.instanceMethod yX4_arrive ∈ kdtb := kdtb_mem 697 (by decide +kernel) rfl
theorem w_se_X4_arrive : Cond.selects yX4_arrive.cls yX4_arrive yX4_arrive ∈ kdtb := kdtb_mem 7 (by decide +kernel) rfl
theorem w_cd_X8_lettersOfRule : Cond.code yX8_lettersOfRule cX8_lettersOfRule 2 (some (.object "KeyDesk$Row")) ∈ kdtb := kdtb_mem 694 (by decide +kernel) rfl
theorem w_ml_X4_74 : Cond.methodLink RX4 74 yX8_lettersOfRule ∈ kdtb := kdtb_mem 691 (by decide +kernel) rfl
theorem w_im_X8_lettersOfRule : Cond.instanceMethod yX8_lettersOfRule ∈ kdtb := kdtb_mem 692 (by decide +kernel) rfl
theorem w_se_X8_lettersOfRule : Cond.selects yX8_lettersOfRule.cls yX8_lettersOfRule yX8_lettersOfRule ∈ kdtb := kdtb_mem 693 (by decide +kernel) rfl
theorem w_fl_X10_14 : Cond.fieldLink RX10 14 "KeyDesk$Words" "tonguesOfWords" "LKeyDesk$Row;" ∈ kdtb := kdtb_mem 190 (by decide +kernel) rfl
theorem w_ml_X10_30 : Cond.methodLink RX10 30 yX6_size ∈ kdtb := kdtb_mem 755 (by decide +kernel) rfl
theorem w_ml_X10_34 : Cond.methodLink RX10 34 yX6_isFull ∈ kdtb := kdtb_mem 745 (by decide +kernel) rfl
theorem w_ml_X10_38 : Cond.methodLink RX10 38 yX6_has ∈ kdtb := kdtb_mem 766 (by decide +kernel) rfl
theorem w_ml_X10_42 : Cond.methodLink RX10 42 yX6_at ∈ kdtb := kdtb_mem 771 (by decide +kernel) rfl
theorem w_fl_X10_20 : Cond.fieldLink RX10 20 "KeyDesk$Words" "signsOfWords" "LKeyDesk$Row;" ∈ kdtb := kdtb_mem 191 (by decide +kernel) rfl
theorem w_fl_X10_23 : Cond.fieldLink RX10 23 "KeyDesk$Words" "countsOfWords" "LKeyDesk$Row;" ∈ kdtb := kdtb_mem 192 (by decide +kernel) rfl
theorem w_fl_X10_26 : Cond.fieldLink RX10 26 "KeyDesk$Words" "keysOfWords" "[LKeyDesk$Row;" ∈ kdtb := kdtb_mem 193 (by decide +kernel) rfl
theorem w_cd_X6_replace : Cond.code yX6_replace cX6_replace 4 (some .int) ∈ kdtb := kdtb_mem 646 (by decide +kernel) rfl
theorem w_ml_X10_46 : Cond.methodLink RX10 46 yX6_replace ∈ kdtb := kdtb_mem 792 (by decide +kernel) rfl
theorem w_im_X6_replace : Cond.instanceMethod yX6_replace ∈ kdtb := kdtb_mem 644 (by decide +kernel) rfl
theorem w_se_X6_replace : Cond.selects yX6_replace.cls yX6_replace yX6_replace ∈ kdtb := kdtb_mem 645 (by decide +kernel) rfl
theorem w_cd_X10_isFull : Cond.code yX10_isFull cX10_isFull 1 (some .boolean) ∈ kdtb := kdtb_mem 744 (by decide +kernel) rfl
theorem w_in_X10 : Cond.initialized RX10 ∈ kdtb := kdtb_mem 88 (by decide +kernel) rfl
theorem w_ml_X10_50 : Cond.methodLink RX10 50 yX10_isFull ∈ kdtb := kdtb_mem 750 (by decide +kernel) rfl
theorem w_im_X10_isFull : Cond.instanceMethod yX10_isFull ∈ kdtb := kdtb_mem 742 (by decide +kernel) rfl
theorem w_se_X10_isFull : Cond.selects yX10_isFull.cls yX10_isFull yX10_isFull ∈ kdtb := kdtb_mem 743 (by decide +kernel) rfl
theorem w_cd_X10_size : Cond.code yX10_size cX10_size 1 (some .int) ∈ kdtb := kdtb_mem 754 (by decide +kernel) rfl
theorem w_ml_X10_51 : Cond.methodLink RX10 51 yX10_size ∈ kdtb := kdtb_mem 751 (by decide +kernel) rfl
theorem w_im_X10_size : Cond.instanceMethod yX10_size ∈ kdtb := kdtb_mem 752 (by decide +kernel) rfl
theorem w_se_X10_size : Cond.selects yX10_size.cls yX10_size yX10_size ∈ kdtb := kdtb_mem 753 (by decide +kernel) rfl
theorem w_ml_X10_52 : Cond.methodLink RX10 52 yX6_copy ∈ kdtb := kdtb_mem 756 (by decide +kernel) rfl
theorem w_ml_X10_56 : Cond.methodLink RX10 56 yX6_add ∈ kdtb := kdtb_mem 757 (by decide +kernel) rfl
theorem w_cd_X10_tongueOf : Cond.code yX10_tongueOf cX10_tongueOf 2 (some .int) ∈ kdtb := kdtb_mem 770 (by decide +kernel) rfl
theorem w_ml_X10_59 : Cond.methodLink RX10 59 yX10_tongueOf ∈ kdtb := kdtb_mem 1008 (by decide +kernel) rfl
theorem w_im_X10_tongueOf : Cond.instanceMethod yX10_tongueOf ∈ kdtb := kdtb_mem 768 (by decide +kernel) rfl
theorem w_se_X10_tongueOf : Cond.selects yX10_tongueOf.cls yX10_tongueOf yX10_tongueOf ∈ kdtb := kdtb_mem 769 (by decide +kernel) rfl
theorem w_ml_X10_62 : Cond.methodLink RX10 62 yX6_isLike ∈ kdtb := kdtb_mem 1009 (by decide +kernel) rfl
theorem w_fl_X7_9 : Cond.fieldLink RX7 9 "KeyDesk$Slips" "prices" "[I" ∈ kdtb := kdtb_mem 211 (by decide +kernel) rfl
theorem w_fl_X7_17 : Cond.fieldLink RX7 17 "KeyDesk$Slips" "least" "[[I" ∈ kdtb := kdtb_mem 212 (by decide +kernel) rfl
theorem w_ml_X7_20 : Cond.methodLink RX7 20 yX6_size ∈ kdtb := kdtb_mem 809 (by decide +kernel) rfl
theorem w_ml_X7_51 : Cond.methodLink RX7 51 Lib.Math.abs.name ∈ kdtb := kdtb_mem 826 (by decide +kernel) rfl
theorem w_st_Math_abs : Cond.static Lib.Math.abs.name ∈ kdtb := kdtb_mem 827 (by decide +kernel) rfl
theorem w_cd_Math_abs : Cond.code Lib.Math.abs.name Lib.Math.abs.code 1 (some .int) ∈ kdtb := kdtb_mem 828 (by decide +kernel) rfl
theorem w_ml_X7_38 : Cond.methodLink RX7 38 yX6_at ∈ kdtb := kdtb_mem 818 (by decide +kernel) rfl
theorem w_ml_X7_42 : Cond.methodLink RX7 42 Lib.Math.min.name ∈ kdtb := kdtb_mem 819 (by decide +kernel) rfl
theorem w_st_Math_min : Cond.static Lib.Math.min.name ∈ kdtb := kdtb_mem 820 (by decide +kernel) rfl
theorem w_cd_Math_min : Cond.code Lib.Math.min.name Lib.Math.min.code 2 (some .int) ∈ kdtb := kdtb_mem 821 (by decide +kernel) rfl
theorem w_cd_X7_priceOfOne : Cond.code yX7_priceOfOne cX7_priceOfOne 5 (some .int) ∈ kdtb := kdtb_mem 825 (by decide +kernel) rfl
theorem w_in_X7 : Cond.initialized RX7 ∈ kdtb := kdtb_mem 89 (by decide +kernel) rfl
theorem w_ml_X7_48 : Cond.methodLink RX7 48 yX7_priceOfOne ∈ kdtb := kdtb_mem 822 (by decide +kernel) rfl
theorem w_im_X7_priceOfOne : Cond.instanceMethod yX7_priceOfOne ∈ kdtb := kdtb_mem 824 (by decide +kernel) rfl
theorem w_se_X7_priceOfOne : Cond.selects yX7_priceOfOne.cls yX7_priceOfOne yX7_priceOfOne ∈ kdtb := kdtb_mem 10 (by decide +kernel) rfl
theorem w_cd_X7_leastSum : Cond.code yX7_leastSum cX7_leastSum 9 (some .int) ∈ kdtb := kdtb_mem 817 (by decide +kernel) rfl
theorem w_ml_X7_34 : Cond.methodLink RX7 34 yX7_leastSum ∈ kdtb := kdtb_mem 814 (by decide +kernel) rfl
theorem w_im_X7_leastSum : Cond.instanceMethod yX7_leastSum ∈ kdtb := kdtb_mem 816 (by decide +kernel) rfl
theorem w_se_X7_leastSum : Cond.selects yX7_leastSum.cls yX7_leastSum yX7_leastSum ∈ kdtb := kdtb_mem 9 (by decide +kernel) rfl
theorem w_cd_X7_workOut : Cond.code yX7_workOut cX7_workOut 7 none ∈ kdtb := kdtb_mem 813 (by decide +kernel) rfl
theorem w_ml_X7_26 : Cond.methodLink RX7 26 yX7_workOut ∈ kdtb := kdtb_mem 810 (by decide +kernel) rfl
theorem w_im_X7_workOut : Cond.instanceMethod yX7_workOut ∈ kdtb := kdtb_mem 811 (by decide +kernel) rfl
theorem w_se_X7_workOut : Cond.selects yX7_workOut.cls yX7_workOut yX7_workOut ∈ kdtb := kdtb_mem 812 (by decide +kernel) rfl
theorem w_cd_X7_leastFor : Cond.code yX7_leastFor cX7_leastFor 3 (some .int) ∈ kdtb := kdtb_mem 832 (by decide +kernel) rfl
theorem w_ml_X7_30 : Cond.methodLink RX7 30 yX7_leastFor ∈ kdtb := kdtb_mem 829 (by decide +kernel) rfl
theorem w_im_X7_leastFor : Cond.instanceMethod yX7_leastFor ∈ kdtb := kdtb_mem 830 (by decide +kernel) rfl
theorem w_se_X7_leastFor : Cond.selects yX7_leastFor.cls yX7_leastFor yX7_leastFor ∈ kdtb := kdtb_mem 831 (by decide +kernel) rfl
theorem w_fl_X1_14 : Cond.fieldLink RX1 14 "KeyDesk$Guesses" "found" "LKeyDesk$Row;" ∈ kdtb := kdtb_mem 226 (by decide +kernel) rfl
theorem w_ml_X1_26 : Cond.methodLink RX1 26 yX6_clear ∈ kdtb := kdtb_mem 845 (by decide +kernel) rfl
theorem w_fl_X1_20 : Cond.fieldLink RX1 20 "KeyDesk$Guesses" "prices" "LKeyDesk$Row;" ∈ kdtb := kdtb_mem 227 (by decide +kernel) rfl
theorem w_fl_X1_23 : Cond.fieldLink RX1 23 "KeyDesk$Guesses" "weights" "LKeyDesk$Row;" ∈ kdtb := kdtb_mem 228 (by decide +kernel) rfl
theorem w_ml_X1_41 : Cond.methodLink RX1 41 yX6_at ∈ kdtb := kdtb_mem 877 (by decide +kernel) rfl
theorem w_ml_X1_37 : Cond.methodLink RX1 37 yX6_insert ∈ kdtb := kdtb_mem 878 (by decide +kernel) rfl
theorem w_cd_X1_goesAhead : Cond.code yX1_goesAhead cX1_goesAhead 4 (some .boolean) ∈ kdtb := kdtb_mem 876 (by decide +kernel) rfl
theorem w_in_X1 : Cond.initialized RX1 ∈ kdtb := kdtb_mem 90 (by decide +kernel) rfl
theorem w_ml_X1_33 : Cond.methodLink RX1 33 yX1_goesAhead ∈ kdtb := kdtb_mem 873 (by decide +kernel) rfl
theorem w_im_X1_goesAhead : Cond.instanceMethod yX1_goesAhead ∈ kdtb := kdtb_mem 875 (by decide +kernel) rfl
theorem w_se_X1_goesAhead : Cond.selects yX1_goesAhead.cls yX1_goesAhead yX1_goesAhead ∈ kdtb := kdtb_mem 14 (by decide +kernel) rfl
theorem w_ml_X1_30 : Cond.methodLink RX1 30 yX6_size ∈ kdtb := kdtb_mem 872 (by decide +kernel) rfl
theorem w_ml_X1_45 : Cond.methodLink RX1 45 yX6_has ∈ kdtb := kdtb_mem 883 (by decide +kernel) rfl
theorem w_fl_X5_44 : Cond.fieldLink RX5 44 "KeyDesk$Parting" "foundSum" "I" ∈ kdtb := kdtb_mem 252 (by decide +kernel) rfl
theorem w_fl_X5_29 : Cond.fieldLink RX5 29 "KeyDesk$Parting" "foundWords" "LKeyDesk$Row;" ∈ kdtb := kdtb_mem 250 (by decide +kernel) rfl
theorem w_fl_X5_33 : Cond.fieldLink RX5 33 "KeyDesk$Parting" "foundLengths" "LKeyDesk$Row;" ∈ kdtb := kdtb_mem 251 (by decide +kernel) rfl
theorem w_fl_X5_11 : Cond.fieldLink RX5 11 "KeyDesk$Parting" "sums" "[I" ∈ kdtb := kdtb_mem 246 (by decide +kernel) rfl
theorem w_fl_X5_15 : Cond.fieldLink RX5 15 "KeyDesk$Parting" "products" "[I" ∈ kdtb := kdtb_mem 247 (by decide +kernel) rfl
theorem w_cd_X5_caseOf : Cond.code yX5_caseOf cX5_caseOf 3 (some .int) ∈ kdtb := kdtb_mem 904 (by decide +kernel) rfl
theorem w_in_X5 : Cond.initialized RX5 ∈ kdtb := kdtb_mem 91 (by decide +kernel) rfl
theorem w_ml_X5_77 : Cond.methodLink RX5 77 yX5_caseOf ∈ kdtb := kdtb_mem 902 (by decide +kernel) rfl
theorem w_st_X5_caseOf : Cond.static yX5_caseOf ∈ kdtb := kdtb_mem 903 (by decide +kernel) rfl
theorem w_ct_X5_76 : Cond.constant RX5 76 (1000000000) ∈ kdtb := kdtb_mem 901 (by decide +kernel) rfl
theorem w_cd_X5_isBetter : Cond.code yX5_isBetter cX5_isBetter 4 (some .boolean) ∈ kdtb := kdtb_mem 928 (by decide +kernel) rfl
theorem w_ml_X5_111 : Cond.methodLink RX5 111 yX5_isBetter ∈ kdtb := kdtb_mem 925 (by decide +kernel) rfl
theorem w_im_X5_isBetter : Cond.instanceMethod yX5_isBetter ∈ kdtb := kdtb_mem 927 (by decide +kernel) rfl
theorem w_se_X5_isBetter : Cond.selects yX5_isBetter.cls yX5_isBetter yX5_isBetter ∈ kdtb := kdtb_mem 19 (by decide +kernel) rfl
theorem w_fl_X5_18 : Cond.fieldLink RX5 18 "KeyDesk$Parting" "firstWords" "[I" ∈ kdtb := kdtb_mem 248 (by decide +kernel) rfl
theorem w_ml_X5_118 : Cond.methodLink RX5 118 yX6_add ∈ kdtb := kdtb_mem 938 (by decide +kernel) rfl
theorem w_fl_X5_21 : Cond.fieldLink RX5 21 "KeyDesk$Parting" "firstLengths" "[I" ∈ kdtb := kdtb_mem 249 (by decide +kernel) rfl
theorem w_fl_X5_36 : Cond.fieldLink RX5 36 "KeyDesk$Parting" "words" "LKeyDesk$Words;" ∈ kdtb := kdtb_mem 244 (by decide +kernel) rfl
theorem w_ml_X5_58 : Cond.methodLink RX5 58 yX10_tongueOf ∈ kdtb := kdtb_mem 906 (by decide +kernel) rfl
theorem w_ml_X5_115 : Cond.methodLink RX5 115 yX6_clear ∈ kdtb := kdtb_mem 937 (by decide +kernel) rfl
theorem w_fl_X5_40 : Cond.fieldLink RX5 40 "KeyDesk$Parting" "slips" "LKeyDesk$Slips;" ∈ kdtb := kdtb_mem 245 (by decide +kernel) rfl
theorem w_cd_X7_switchPrice : Cond.code yX7_switchPrice cX7_switchPrice 1 (some .int) ∈ kdtb := kdtb_mem 924 (by decide +kernel) rfl
theorem w_ml_X5_108 : Cond.methodLink RX5 108 yX7_switchPrice ∈ kdtb := kdtb_mem 921 (by decide +kernel) rfl
theorem w_im_X7_switchPrice : Cond.instanceMethod yX7_switchPrice ∈ kdtb := kdtb_mem 922 (by decide +kernel) rfl
theorem w_se_X7_switchPrice : Cond.selects yX7_switchPrice.cls yX7_switchPrice yX7_switchPrice ∈ kdtb := kdtb_mem 923 (by decide +kernel) rfl
theorem w_cd_X10_countOf : Cond.code yX10_countOf cX10_countOf 2 (some .int) ∈ kdtb := kdtb_mem 779 (by decide +kernel) rfl
theorem w_ml_X5_105 : Cond.methodLink RX5 105 yX10_countOf ∈ kdtb := kdtb_mem 920 (by decide +kernel) rfl
theorem w_im_X10_countOf : Cond.instanceMethod yX10_countOf ∈ kdtb := kdtb_mem 777 (by decide +kernel) rfl
theorem w_se_X10_countOf : Cond.selects yX10_countOf.cls yX10_countOf yX10_countOf ∈ kdtb := kdtb_mem 778 (by decide +kernel) rfl
theorem w_cd_X5_tryPiece : Cond.code yX5_tryPiece cX5_tryPiece 13 none ∈ kdtb := kdtb_mem 919 (by decide +kernel) rfl
theorem w_ml_X5_101 : Cond.methodLink RX5 101 yX5_tryPiece ∈ kdtb := kdtb_mem 916 (by decide +kernel) rfl
theorem w_im_X5_tryPiece : Cond.instanceMethod yX5_tryPiece ∈ kdtb := kdtb_mem 918 (by decide +kernel) rfl
theorem w_se_X5_tryPiece : Cond.selects yX5_tryPiece.cls yX5_tryPiece yX5_tryPiece ∈ kdtb := kdtb_mem 18 (by decide +kernel) rfl
theorem w_cd_X10_keysOf : Cond.code yX10_keysOf cX10_keysOf 2 (some (.object "KeyDesk$Row")) ∈ kdtb := kdtb_mem 783 (by decide +kernel) rfl
theorem w_ml_X5_87 : Cond.methodLink RX5 87 yX10_keysOf ∈ kdtb := kdtb_mem 913 (by decide +kernel) rfl
theorem w_im_X10_keysOf : Cond.instanceMethod yX10_keysOf ∈ kdtb := kdtb_mem 781 (by decide +kernel) rfl
theorem w_se_X10_keysOf : Cond.selects yX10_keysOf.cls yX10_keysOf yX10_keysOf ∈ kdtb := kdtb_mem 782 (by decide +kernel) rfl
theorem w_ml_X5_97 : Cond.methodLink RX5 97 yX7_leastFor ∈ kdtb := kdtb_mem 915 (by decide +kernel) rfl
theorem w_ml_X5_48 : Cond.methodLink RX5 48 yX6_size ∈ kdtb := kdtb_mem 896 (by decide +kernel) rfl
theorem w_ml_X5_81 : Cond.methodLink RX5 81 Lib.Math.min.name ∈ kdtb := kdtb_mem 912 (by decide +kernel) rfl
theorem w_ml_X5_91 : Cond.methodLink RX5 91 yX7_workOut ∈ kdtb := kdtb_mem 914 (by decide +kernel) rfl
theorem w_ml_X5_55 : Cond.methodLink RX5 55 yX10_size ∈ kdtb := kdtb_mem 905 (by decide +kernel) rfl
theorem w_cd_X11_hasBit : Cond.code yX11_hasBit cX11_hasBit 2 (some .boolean) ∈ kdtb := kdtb_mem 849 (by decide +kernel) rfl
theorem w_st_X11_hasBit : Cond.static yX11_hasBit ∈ kdtb := kdtb_mem 848 (by decide +kernel) rfl
theorem w_cd_X5_tryWord : Cond.code yX5_tryWord cX5_tryWord 8 none ∈ kdtb := kdtb_mem 911 (by decide +kernel) rfl
theorem w_ml_X5_66 : Cond.methodLink RX5 66 yX5_tryWord ∈ kdtb := kdtb_mem 908 (by decide +kernel) rfl
theorem w_im_X5_tryWord : Cond.instanceMethod yX5_tryWord ∈ kdtb := kdtb_mem 910 (by decide +kernel) rfl
theorem w_se_X5_tryWord : Cond.selects yX5_tryWord.cls yX5_tryWord yX5_tryWord ∈ kdtb := kdtb_mem 17 (by decide +kernel) rfl
theorem w_cd_X5_bestNumberOfPieces : Cond.code yX5_bestNumberOfPieces cX5_bestNumberOfPieces 4 (some .int) ∈ kdtb := kdtb_mem 932 (by decide +kernel) rfl
theorem w_ml_X5_70 : Cond.methodLink RX5 70 yX5_bestNumberOfPieces ∈ kdtb := kdtb_mem 929 (by decide +kernel) rfl
theorem w_im_X5_bestNumberOfPieces : Cond.instanceMethod yX5_bestNumberOfPieces ∈ kdtb := kdtb_mem 931 (by decide +kernel) rfl
theorem w_se_X5_bestNumberOfPieces : Cond.selects yX5_bestNumberOfPieces.cls yX5_bestNumberOfPieces yX5_bestNumberOfPieces ∈ kdtb := kdtb_mem 20 (by decide +kernel) rfl
theorem w_cd_X5_follow : Cond.code yX5_follow cX5_follow 6 none ∈ kdtb := kdtb_mem 936 (by decide +kernel) rfl
theorem w_ml_X5_73 : Cond.methodLink RX5 73 yX5_follow ∈ kdtb := kdtb_mem 933 (by decide +kernel) rfl
theorem w_im_X5_follow : Cond.instanceMethod yX5_follow ∈ kdtb := kdtb_mem 935 (by decide +kernel) rfl
theorem w_se_X5_follow : Cond.selects yX5_follow.cls yX5_follow yX5_follow ∈ kdtb := kdtb_mem 21 (by decide +kernel) rfl
theorem w_cd_X5_start : Cond.code yX5_start cX5_start 3 none ∈ kdtb := kdtb_mem 900 (by decide +kernel) rfl
theorem w_ml_X5_52 : Cond.methodLink RX5 52 yX5_start ∈ kdtb := kdtb_mem 897 (by decide +kernel) rfl
theorem w_im_X5_start : Cond.instanceMethod yX5_start ∈ kdtb := kdtb_mem 899 (by decide +kernel) rfl
theorem w_se_X5_start : Cond.selects yX5_start.cls yX5_start yX5_start ∈ kdtb := kdtb_mem 16 (by decide +kernel) rfl
theorem w_fl_X0_43 : Cond.fieldLink RX0 43 "KeyDesk$Choice" "pairs" "I" ∈ kdtb := kdtb_mem 285 (by decide +kernel) rfl
theorem w_fl_X0_11 : Cond.fieldLink RX0 11 "KeyDesk$Choice" "together" "[[I" ∈ kdtb := kdtb_mem 284 (by decide +kernel) rfl
theorem w_fl_X0_21 : Cond.fieldLink RX0 21 "KeyDesk$Choice" "pad" "LKeyDesk$Row;" ∈ kdtb := kdtb_mem 286 (by decide +kernel) rfl
theorem w_ml_X0_47 : Cond.methodLink RX0 47 yX6_size ∈ kdtb := kdtb_mem 985 (by decide +kernel) rfl
theorem w_ml_X0_51 : Cond.methodLink RX0 51 yX6_isFull ∈ kdtb := kdtb_mem 979 (by decide +kernel) rfl
theorem w_ml_X0_55 : Cond.methodLink RX0 55 yX6_add ∈ kdtb := kdtb_mem 984 (by decide +kernel) rfl
theorem w_fl_X0_25 : Cond.fieldLink RX0 25 "KeyDesk$Choice" "fixed" "LKeyDesk$Row;" ∈ kdtb := kdtb_mem 287 (by decide +kernel) rfl
theorem w_ml_X0_58 : Cond.methodLink RX0 58 yX6_clear ∈ kdtb := kdtb_mem 503 (by decide +kernel) rfl
theorem w_fl_X0_28 : Cond.fieldLink RX0 28 "KeyDesk$Choice" "chosenWords" "LKeyDesk$Row;" ∈ kdtb := kdtb_mem 288 (by decide +kernel) rfl
theorem w_ml_X0_82 : Cond.methodLink RX0 82 yX6_at ∈ kdtb := kdtb_mem 1003 (by decide +kernel) rfl
theorem w_fl_X0_39 : Cond.fieldLink RX0 39 "KeyDesk$Choice" "words" "LKeyDesk$Words;" ∈ kdtb := kdtb_mem 283 (by decide +kernel) rfl
theorem w_cd_X10_soundAlike : Cond.code yX10_soundAlike cX10_soundAlike 3 (some .boolean) ∈ kdtb := kdtb_mem 1007 (by decide +kernel) rfl
theorem w_ml_X0_85 : Cond.methodLink RX0 85 yX10_soundAlike ∈ kdtb := kdtb_mem 1004 (by decide +kernel) rfl
theorem w_im_X10_soundAlike : Cond.instanceMethod yX10_soundAlike ∈ kdtb := kdtb_mem 1005 (by decide +kernel) rfl
theorem w_se_X10_soundAlike : Cond.selects yX10_soundAlike.cls yX10_soundAlike yX10_soundAlike ∈ kdtb := kdtb_mem 1006 (by decide +kernel) rfl
theorem w_ml_X0_67 : Cond.methodLink RX0 67 yX10_size ∈ kdtb := kdtb_mem 998 (by decide +kernel) rfl
theorem w_fl_X0_33 : Cond.fieldLink RX0 33 "KeyDesk$Choice" "greatest" "[[J" ∈ kdtb := kdtb_mem 289 (by decide +kernel) rfl
theorem w_fl_X0_36 : Cond.fieldLink RX0 36 "KeyDesk$Choice" "nextWords" "[[I" ∈ kdtb := kdtb_mem 290 (by decide +kernel) rfl
theorem w_cd_X0_canStand : Cond.code yX0_canStand cX0_canStand 4 (some .boolean) ∈ kdtb := kdtb_mem 1002 (by decide +kernel) rfl
theorem w_in_X0 : Cond.initialized RX0 ∈ kdtb := kdtb_mem 92 (by decide +kernel) rfl
theorem w_ml_X0_70 : Cond.methodLink RX0 70 yX0_canStand ∈ kdtb := kdtb_mem 999 (by decide +kernel) rfl
theorem w_im_X0_canStand : Cond.instanceMethod yX0_canStand ∈ kdtb := kdtb_mem 1001 (by decide +kernel) rfl
theorem w_se_X0_canStand : Cond.selects yX0_canStand.cls yX0_canStand yX0_canStand ∈ kdtb := kdtb_mem 23 (by decide +kernel) rfl
theorem w_ml_X0_74 : Cond.methodLink RX0 74 yX10_countOf ∈ kdtb := kdtb_mem 1010 (by decide +kernel) rfl
theorem w_cd_X0_greatestBehind : Cond.code yX0_greatestBehind cX0_greatestBehind 8 (some .long) ∈ kdtb := kdtb_mem 1014 (by decide +kernel) rfl
theorem w_ml_X0_78 : Cond.methodLink RX0 78 yX0_greatestBehind ∈ kdtb := kdtb_mem 1011 (by decide +kernel) rfl
theorem w_im_X0_greatestBehind : Cond.instanceMethod yX0_greatestBehind ∈ kdtb := kdtb_mem 1013 (by decide +kernel) rfl
theorem w_se_X0_greatestBehind : Cond.selects yX0_greatestBehind.cls yX0_greatestBehind yX0_greatestBehind ∈ kdtb := kdtb_mem 24 (by decide +kernel) rfl
theorem w_ml_X0_64 : Cond.methodLink RX0 64 yX6_isEmpty ∈ kdtb := kdtb_mem 1015 (by decide +kernel) rfl
theorem w_cd_X0_weighPlace : Cond.code yX0_weighPlace cX0_weighPlace 3 none ∈ kdtb := kdtb_mem 997 (by decide +kernel) rfl
theorem w_ml_X0_61 : Cond.methodLink RX0 61 yX0_weighPlace ∈ kdtb := kdtb_mem 994 (by decide +kernel) rfl
theorem w_im_X0_weighPlace : Cond.instanceMethod yX0_weighPlace ∈ kdtb := kdtb_mem 996 (by decide +kernel) rfl
theorem w_se_X0_weighPlace : Cond.selects yX0_weighPlace.cls yX0_weighPlace yX0_weighPlace ∈ kdtb := kdtb_mem 22 (by decide +kernel) rfl
theorem w_fl_X2_14 : Cond.fieldLink RX2 14 "KeyDesk$Hands" "handsOfLearnings" "LKeyDesk$Row;" ∈ kdtb := kdtb_mem 317 (by decide +kernel) rfl
theorem w_ml_X2_37 : Cond.methodLink RX2 37 yX6_size ∈ kdtb := kdtb_mem 858 (by decide +kernel) rfl
theorem w_ml_X2_41 : Cond.methodLink RX2 41 yX6_isFull ∈ kdtb := kdtb_mem 1038 (by decide +kernel) rfl
theorem w_ml_X2_45 : Cond.methodLink RX2 45 yX6_add ∈ kdtb := kdtb_mem 1048 (by decide +kernel) rfl
theorem w_fl_X2_20 : Cond.fieldLink RX2 20 "KeyDesk$Hands" "wordsOfLearnings" "LKeyDesk$Row;" ∈ kdtb := kdtb_mem 318 (by decide +kernel) rfl
theorem w_fl_X2_23 : Cond.fieldLink RX2 23 "KeyDesk$Hands" "daysOfLearnings" "LKeyDesk$Row;" ∈ kdtb := kdtb_mem 319 (by decide +kernel) rfl
theorem w_cd_X2_learnings : Cond.code yX2_learnings cX2_learnings 1 (some .int) ∈ kdtb := kdtb_mem 857 (by decide +kernel) rfl
theorem w_in_X2 : Cond.initialized RX2 ∈ kdtb := kdtb_mem 93 (by decide +kernel) rfl
theorem w_ml_X2_48 : Cond.methodLink RX2 48 yX2_learnings ∈ kdtb := kdtb_mem 854 (by decide +kernel) rfl
theorem w_im_X2_learnings : Cond.instanceMethod yX2_learnings ∈ kdtb := kdtb_mem 855 (by decide +kernel) rfl
theorem w_se_X2_learnings : Cond.selects yX2_learnings.cls yX2_learnings yX2_learnings ∈ kdtb := kdtb_mem 856 (by decide +kernel) rfl
theorem w_ml_X2_51 : Cond.methodLink RX2 51 yX6_at ∈ kdtb := kdtb_mem 863 (by decide +kernel) rfl
theorem w_ml_X2_55 : Cond.methodLink RX2 55 Lib.Math.max.name ∈ kdtb := kdtb_mem 1043 (by decide +kernel) rfl
theorem w_fl_X2_30 : Cond.fieldLink RX2 30 "KeyDesk$Hands" "fading" "I" ∈ kdtb := kdtb_mem 321 (by decide +kernel) rfl
theorem w_cd_X2_isOf : Cond.code yX2_isOf cX2_isOf 4 (some .boolean) ∈ kdtb := kdtb_mem 862 (by decide +kernel) rfl
theorem w_ml_X2_61 : Cond.methodLink RX2 61 yX2_isOf ∈ kdtb := kdtb_mem 859 (by decide +kernel) rfl
theorem w_im_X2_isOf : Cond.instanceMethod yX2_isOf ∈ kdtb := kdtb_mem 861 (by decide +kernel) rfl
theorem w_se_X2_isOf : Cond.selects yX2_isOf.cls yX2_isOf yX2_isOf ∈ kdtb := kdtb_mem 12 (by decide +kernel) rfl
theorem w_cd_X2_faded : Cond.code yX2_faded cX2_faded 5 (some .int) ∈ kdtb := kdtb_mem 867 (by decide +kernel) rfl
theorem w_ml_X2_65 : Cond.methodLink RX2 65 yX2_faded ∈ kdtb := kdtb_mem 864 (by decide +kernel) rfl
theorem w_im_X2_faded : Cond.instanceMethod yX2_faded ∈ kdtb := kdtb_mem 866 (by decide +kernel) rfl
theorem w_se_X2_faded : Cond.selects yX2_faded.cls yX2_faded yX2_faded ∈ kdtb := kdtb_mem 13 (by decide +kernel) rfl
theorem w_ml_X2_68 : Cond.methodLink RX2 68 yX6_remove ∈ kdtb := kdtb_mem 1061 (by decide +kernel) rfl
theorem w_fl_X2_26 : Cond.fieldLink RX2 26 "KeyDesk$Hands" "budgets" "[I" ∈ kdtb := kdtb_mem 320 (by decide +kernel) rfl
theorem w_fl_X2_34 : Cond.fieldLink RX2 34 "KeyDesk$Hands" "lotSeed" "I" ∈ kdtb := kdtb_mem 322 (by decide +kernel) rfl
theorem w_cl_X2_81 : Cond.constantLong RX2 81 (16807) ∈ kdtb := kdtb_mem 1112 (by decide +kernel) rfl
theorem w_cl_X2_83 : Cond.constantLong RX2 83 (2147483647) ∈ kdtb := kdtb_mem 1113 (by decide +kernel) rfl
theorem w_cd_X2_drawLot : Cond.code yX2_drawLot cX2_drawLot 2 (some .int) ∈ kdtb := kdtb_mem 1111 (by decide +kernel) rfl
theorem w_ml_X2_78 : Cond.methodLink RX2 78 yX2_drawLot ∈ kdtb := kdtb_mem 1108 (by decide +kernel) rfl
theorem w_im_X2_drawLot : Cond.instanceMethod yX2_drawLot ∈ kdtb := kdtb_mem 1110 (by decide +kernel) rfl
theorem w_se_X2_drawLot : Cond.selects yX2_drawLot.cls yX2_drawLot yX2_drawLot ∈ kdtb := kdtb_mem 25 (by decide +kernel) rfl
theorem w_cd_X2_worthOf : Cond.code yX2_worthOf cX2_worthOf 6 (some .int) ∈ kdtb := kdtb_mem 853 (by decide +kernel) rfl
theorem w_ml_X2_71 : Cond.methodLink RX2 71 yX2_worthOf ∈ kdtb := kdtb_mem 1106 (by decide +kernel) rfl
theorem w_im_X2_worthOf : Cond.instanceMethod yX2_worthOf ∈ kdtb := kdtb_mem 851 (by decide +kernel) rfl
theorem w_se_X2_worthOf : Cond.selects yX2_worthOf.cls yX2_worthOf yX2_worthOf ∈ kdtb := kdtb_mem 852 (by decide +kernel) rfl
theorem w_ml_X2_75 : Cond.methodLink RX2 75 Lib.Math.min.name ∈ kdtb := kdtb_mem 1107 (by decide +kernel) rfl
theorem w_fl_X3_37 : Cond.fieldLink RX3 37 "KeyDesk$Layouts" "size" "I" ∈ kdtb := kdtb_mem 347 (by decide +kernel) rfl
theorem w_fl_X3_23 : Cond.fieldLink RX3 23 "KeyDesk$Layouts" "pairLoads" "[[I" ∈ kdtb := kdtb_mem 351 (by decide +kernel) rfl
theorem w_fl_X3_9 : Cond.fieldLink RX3 9 "KeyDesk$Layouts" "efforts" "[I" ∈ kdtb := kdtb_mem 348 (by decide +kernel) rfl
theorem w_fl_X3_15 : Cond.fieldLink RX3 15 "KeyDesk$Layouts" "fingers" "[I" ∈ kdtb := kdtb_mem 349 (by decide +kernel) rfl
theorem w_fl_X3_18 : Cond.fieldLink RX3 18 "KeyDesk$Layouts" "loads" "[I" ∈ kdtb := kdtb_mem 350 (by decide +kernel) rfl
theorem w_fl_X3_26 : Cond.fieldLink RX3 26 "KeyDesk$Layouts" "sameFinger" "I" ∈ kdtb := kdtb_mem 352 (by decide +kernel) rfl
theorem w_fl_X3_30 : Cond.fieldLink RX3 30 "KeyDesk$Layouts" "places" "[I" ∈ kdtb := kdtb_mem 353 (by decide +kernel) rfl
theorem w_ml_X3_40 : Cond.methodLink RX3 40 Lib.Math.max.name ∈ kdtb := kdtb_mem 1163 (by decide +kernel) rfl
theorem w_ml_X3_52 : Cond.methodLink RX3 52 Lib.Math.abs.name ∈ kdtb := kdtb_mem 1176 (by decide +kernel) rfl
theorem w_cd_X3_farness : Cond.code yX3_farness cX3_farness 3 (some .int) ∈ kdtb := kdtb_mem 1175 (by decide +kernel) rfl
theorem w_in_X3 : Cond.initialized RX3 ∈ kdtb := kdtb_mem 94 (by decide +kernel) rfl
theorem w_ml_X3_49 : Cond.methodLink RX3 49 yX3_farness ∈ kdtb := kdtb_mem 1172 (by decide +kernel) rfl
theorem w_im_X3_farness : Cond.instanceMethod yX3_farness ∈ kdtb := kdtb_mem 1174 (by decide +kernel) rfl
theorem w_se_X3_farness : Cond.selects yX3_farness.cls yX3_farness yX3_farness ∈ kdtb := kdtb_mem 27 (by decide +kernel) rfl
theorem w_cd_X3_addedCost : Cond.code yX3_addedCost cX3_addedCost 5 (some .int) ∈ kdtb := kdtb_mem 1171 (by decide +kernel) rfl
theorem w_ml_X3_46 : Cond.methodLink RX3 46 yX3_addedCost ∈ kdtb := kdtb_mem 1168 (by decide +kernel) rfl
theorem w_im_X3_addedCost : Cond.instanceMethod yX3_addedCost ∈ kdtb := kdtb_mem 1170 (by decide +kernel) rfl
theorem w_se_X3_addedCost : Cond.selects yX3_addedCost.cls yX3_addedCost yX3_addedCost ∈ kdtb := kdtb_mem 26 (by decide +kernel) rfl
theorem w_cd_X3_placeOnward : Cond.code yX3_placeOnward cX3_placeOnward 5 none ∈ kdtb := kdtb_mem 1188 (by decide +kernel) rfl
theorem w_ml_X3_62 : Cond.methodLink RX3 62 yX3_placeOnward ∈ kdtb := kdtb_mem 1186 (by decide +kernel) rfl
theorem w_st_X3_placeOnward : Cond.static yX3_placeOnward ∈ kdtb := kdtb_mem 1187 (by decide +kernel) rfl
theorem w_fl_X3_56 : Cond.fieldLink RX3 56 "KeyDesk$Layouts" "leastCost" "I" ∈ kdtb := kdtb_mem 354 (by decide +kernel) rfl
theorem w_cd_X3_digits : Cond.code yX3_digits cX3_digits 3 (some .int) ∈ kdtb := kdtb_mem 1192 (by decide +kernel) rfl
theorem w_ml_X3_66 : Cond.methodLink RX3 66 yX3_digits ∈ kdtb := kdtb_mem 1189 (by decide +kernel) rfl
theorem w_im_X3_digits : Cond.instanceMethod yX3_digits ∈ kdtb := kdtb_mem 1190 (by decide +kernel) rfl
theorem w_se_X3_digits : Cond.selects yX3_digits.cls yX3_digits yX3_digits ∈ kdtb := kdtb_mem 1191 (by decide +kernel) rfl
theorem w_fl_X3_59 : Cond.fieldLink RX3 59 "KeyDesk$Layouts" "leastDigits" "I" ∈ kdtb := kdtb_mem 355 (by decide +kernel) rfl
theorem w_ct_X3_55 : Cond.constant RX3 55 (1000000000) ∈ kdtb := kdtb_mem 1185 (by decide +kernel) rfl
theorem w_cd_X3_ranked : Cond.code yX3_ranked cX3_ranked 6 (some .int) ∈ kdtb := kdtb_mem 1205 (by decide +kernel) rfl
theorem w_ml_X3_74 : Cond.methodLink RX3 74 yX3_ranked ∈ kdtb := kdtb_mem 1202 (by decide +kernel) rfl
theorem w_im_X3_ranked : Cond.instanceMethod yX3_ranked ∈ kdtb := kdtb_mem 1204 (by decide +kernel) rfl
theorem w_se_X3_ranked : Cond.selects yX3_ranked.cls yX3_ranked yX3_ranked ∈ kdtb := kdtb_mem 28 (by decide +kernel) rfl
theorem w_cd_X3_exchange : Cond.code yX3_exchange cX3_exchange 4 none ∈ kdtb := kdtb_mem 1222 (by decide +kernel) rfl
theorem w_ml_X3_85 : Cond.methodLink RX3 85 yX3_exchange ∈ kdtb := kdtb_mem 1219 (by decide +kernel) rfl
theorem w_im_X3_exchange : Cond.instanceMethod yX3_exchange ∈ kdtb := kdtb_mem 1220 (by decide +kernel) rfl
theorem w_se_X3_exchange : Cond.selects yX3_exchange.cls yX3_exchange yX3_exchange ∈ kdtb := kdtb_mem 1221 (by decide +kernel) rfl
theorem w_cd_X3_totalCost : Cond.code yX3_totalCost cX3_totalCost 3 (some .int) ∈ kdtb := kdtb_mem 1167 (by decide +kernel) rfl
theorem w_ml_X3_82 : Cond.methodLink RX3 82 yX3_totalCost ∈ kdtb := kdtb_mem 1218 (by decide +kernel) rfl
theorem w_im_X3_totalCost : Cond.instanceMethod yX3_totalCost ∈ kdtb := kdtb_mem 1165 (by decide +kernel) rfl
theorem w_se_X3_totalCost : Cond.selects yX3_totalCost.cls yX3_totalCost yX3_totalCost ∈ kdtb := kdtb_mem 1166 (by decide +kernel) rfl
theorem w_cd_X3_improveOnce : Cond.code yX3_improveOnce cX3_improveOnce 7 (some .boolean) ∈ kdtb := kdtb_mem 1217 (by decide +kernel) rfl
theorem w_ml_X3_78 : Cond.methodLink RX3 78 yX3_improveOnce ∈ kdtb := kdtb_mem 1214 (by decide +kernel) rfl
theorem w_im_X3_improveOnce : Cond.instanceMethod yX3_improveOnce ∈ kdtb := kdtb_mem 1216 (by decide +kernel) rfl
theorem w_se_X3_improveOnce : Cond.selects yX3_improveOnce.cls yX3_improveOnce yX3_improveOnce ∈ kdtb := kdtb_mem 29 (by decide +kernel) rfl
theorem w_fl_X9_47 : Cond.fieldLink RX9 47 "KeyDesk$Ways" "lowestPeak" "I" ∈ kdtb := kdtb_mem 394 (by decide +kernel) rfl
theorem w_fl_X9_40 : Cond.fieldLink RX9 40 "KeyDesk$Ways" "path" "LKeyDesk$Row;" ∈ kdtb := kdtb_mem 391 (by decide +kernel) rfl
theorem w_fl_X9_18 : Cond.fieldLink RX9 18 "KeyDesk$Ways" "neighbours" "[I" ∈ kdtb := kdtb_mem 386 (by decide +kernel) rfl
theorem w_fl_X9_79 : Cond.fieldLink RX9 79 "KeyDesk$Ways" "exchanges" "I" ∈ kdtb := kdtb_mem 393 (by decide +kernel) rfl
theorem w_cd_X9_neighbour : Cond.code yX9_neighbour cX9_neighbour 3 (some .int) ∈ kdtb := kdtb_mem 1273 (by decide +kernel) rfl
theorem w_in_X9 : Cond.initialized RX9 ∈ kdtb := kdtb_mem 95 (by decide +kernel) rfl
theorem w_ml_X9_105 : Cond.methodLink RX9 105 yX9_neighbour ∈ kdtb := kdtb_mem 1270 (by decide +kernel) rfl
theorem w_im_X9_neighbour : Cond.instanceMethod yX9_neighbour ∈ kdtb := kdtb_mem 1272 (by decide +kernel) rfl
theorem w_se_X9_neighbour : Cond.selects yX9_neighbour.cls yX9_neighbour yX9_neighbour ∈ kdtb := kdtb_mem 34 (by decide +kernel) rfl
theorem w_fl_X9_28 : Cond.fieldLink RX9 28 "KeyDesk$Ways" "steps" "[I" ∈ kdtb := kdtb_mem 389 (by decide +kernel) rfl
theorem w_fl_X9_15 : Cond.fieldLink RX9 15 "KeyDesk$Ways" "costs" "[I" ∈ kdtb := kdtb_mem 385 (by decide +kernel) rfl
theorem w_fl_X9_36 : Cond.fieldLink RX9 36 "KeyDesk$Ways" "queue" "LKeyDesk$Row;" ∈ kdtb := kdtb_mem 390 (by decide +kernel) rfl
theorem w_ml_X9_119 : Cond.methodLink RX9 119 yX6_add ∈ kdtb := kdtb_mem 1281 (by decide +kernel) rfl
theorem w_ml_X9_122 : Cond.methodLink RX9 122 yX6_size ∈ kdtb := kdtb_mem 1282 (by decide +kernel) rfl
theorem w_ml_X9_123 : Cond.methodLink RX9 123 yX6_at ∈ kdtb := kdtb_mem 1283 (by decide +kernel) rfl
theorem w_fl_X9_74 : Cond.fieldLink RX9 74 "KeyDesk$Ways" "size" "I" ∈ kdtb := kdtb_mem 392 (by decide +kernel) rfl
theorem w_ml_X9_116 : Cond.methodLink RX9 116 yX6_clear ∈ kdtb := kdtb_mem 1280 (by decide +kernel) rfl
theorem w_fl_X9_43 : Cond.fieldLink RX9 43 "KeyDesk$Ways" "layouts" "LKeyDesk$Layouts;" ∈ kdtb := kdtb_mem 383 (by decide +kernel) rfl
theorem w_cd_X3_size : Cond.code yX3_size cX3_size 1 (some .int) ∈ kdtb := kdtb_mem 1231 (by decide +kernel) rfl
theorem w_ml_X9_77 : Cond.methodLink RX9 77 yX3_size ∈ kdtb := kdtb_mem 1245 (by decide +kernel) rfl
theorem w_im_X3_size : Cond.instanceMethod yX3_size ∈ kdtb := kdtb_mem 1229 (by decide +kernel) rfl
theorem w_se_X3_size : Cond.selects yX3_size.cls yX3_size yX3_size ∈ kdtb := kdtb_mem 1230 (by decide +kernel) rfl
theorem w_ml_X9_97 : Cond.methodLink RX9 97 yX3_exchange ∈ kdtb := kdtb_mem 1256 (by decide +kernel) rfl
theorem w_cd_X3_rank : Cond.code yX3_rank cX3_rank 5 (some .int) ∈ kdtb := kdtb_mem 1240 (by decide +kernel) rfl
theorem w_ml_X9_57 : Cond.methodLink RX9 57 yX3_rank ∈ kdtb := kdtb_mem 1237 (by decide +kernel) rfl
theorem w_im_X3_rank : Cond.instanceMethod yX3_rank ∈ kdtb := kdtb_mem 1238 (by decide +kernel) rfl
theorem w_se_X3_rank : Cond.selects yX3_rank.cls yX3_rank yX3_rank ∈ kdtb := kdtb_mem 1239 (by decide +kernel) rfl
theorem w_fl_X9_9 : Cond.fieldLink RX9 9 "KeyDesk$Ways" "digits" "[I" ∈ kdtb := kdtb_mem 384 (by decide +kernel) rfl
theorem w_ml_X9_85 : Cond.methodLink RX9 85 yX3_digits ∈ kdtb := kdtb_mem 1250 (by decide +kernel) rfl
theorem w_ml_X9_87 : Cond.methodLink RX9 87 yX3_totalCost ∈ kdtb := kdtb_mem 1251 (by decide +kernel) rfl
theorem w_cd_X9_listNeighbours : Cond.code yX9_listNeighbours cX9_listNeighbours 5 none ∈ kdtb := kdtb_mem 1255 (by decide +kernel) rfl
theorem w_ml_X9_90 : Cond.methodLink RX9 90 yX9_listNeighbours ∈ kdtb := kdtb_mem 1252 (by decide +kernel) rfl
theorem w_im_X9_listNeighbours : Cond.instanceMethod yX9_listNeighbours ∈ kdtb := kdtb_mem 1254 (by decide +kernel) rfl
theorem w_se_X9_listNeighbours : Cond.selects yX9_listNeighbours.cls yX9_listNeighbours yX9_listNeighbours ∈ kdtb := kdtb_mem 31 (by decide +kernel) rfl
theorem w_cd_X3_stepOn : Cond.code yX3_stepOn cX3_stepOn 5 (some .boolean) ∈ kdtb := kdtb_mem 1260 (by decide +kernel) rfl
theorem w_ml_X9_93 : Cond.methodLink RX9 93 yX3_stepOn ∈ kdtb := kdtb_mem 1257 (by decide +kernel) rfl
theorem w_im_X3_stepOn : Cond.instanceMethod yX3_stepOn ∈ kdtb := kdtb_mem 1258 (by decide +kernel) rfl
theorem w_se_X3_stepOn : Cond.selects yX3_stepOn.cls yX3_stepOn yX3_stepOn ∈ kdtb := kdtb_mem 1259 (by decide +kernel) rfl
theorem w_cd_X3_startAtFirst : Cond.code yX3_startAtFirst cX3_startAtFirst 2 none ∈ kdtb := kdtb_mem 1249 (by decide +kernel) rfl
theorem w_ml_X9_82 : Cond.methodLink RX9 82 yX3_startAtFirst ∈ kdtb := kdtb_mem 1246 (by decide +kernel) rfl
theorem w_im_X3_startAtFirst : Cond.instanceMethod yX3_startAtFirst ∈ kdtb := kdtb_mem 1247 (by decide +kernel) rfl
theorem w_se_X3_startAtFirst : Cond.selects yX3_startAtFirst.cls yX3_startAtFirst yX3_startAtFirst ∈ kdtb := kdtb_mem 1248 (by decide +kernel) rfl
theorem w_fl_X9_24 : Cond.fieldLink RX9 24 "KeyDesk$Ways" "settled" "[Z" ∈ kdtb := kdtb_mem 388 (by decide +kernel) rfl
theorem w_fl_X9_21 : Cond.fieldLink RX9 21 "KeyDesk$Ways" "peaks" "[I" ∈ kdtb := kdtb_mem 387 (by decide +kernel) rfl
theorem w_ml_X9_108 : Cond.methodLink RX9 108 Lib.Math.max.name ∈ kdtb := kdtb_mem 1274 (by decide +kernel) rfl
theorem w_ml_X9_113 : Cond.methodLink RX9 113 Lib.Math.min.name ∈ kdtb := kdtb_mem 1275 (by decide +kernel) rfl
theorem w_cd_X9_lowestUnsettled : Cond.code yX9_lowestUnsettled cX9_lowestUnsettled 3 (some .int) ∈ kdtb := kdtb_mem 1269 (by decide +kernel) rfl
theorem w_ml_X9_102 : Cond.methodLink RX9 102 yX9_lowestUnsettled ∈ kdtb := kdtb_mem 1266 (by decide +kernel) rfl
theorem w_im_X9_lowestUnsettled : Cond.instanceMethod yX9_lowestUnsettled ∈ kdtb := kdtb_mem 1268 (by decide +kernel) rfl
theorem w_se_X9_lowestUnsettled : Cond.selects yX9_lowestUnsettled.cls yX9_lowestUnsettled yX9_lowestUnsettled ∈ kdtb := kdtb_mem 33 (by decide +kernel) rfl
theorem w_ct_X9_101 : Cond.constant RX9 101 (1000000000) ∈ kdtb := kdtb_mem 1265 (by decide +kernel) rfl
theorem w_cd_X9_firstWith : Cond.code yX9_firstWith cX9_firstWith 6 (some .int) ∈ kdtb := kdtb_mem 1291 (by decide +kernel) rfl
theorem w_ml_X9_127 : Cond.methodLink RX9 127 yX9_firstWith ∈ kdtb := kdtb_mem 1288 (by decide +kernel) rfl
theorem w_im_X9_firstWith : Cond.instanceMethod yX9_firstWith ∈ kdtb := kdtb_mem 1290 (by decide +kernel) rfl
theorem w_se_X9_firstWith : Cond.selects yX9_firstWith.cls yX9_firstWith yX9_firstWith ∈ kdtb := kdtb_mem 37 (by decide +kernel) rfl
theorem w_cd_X3_read : Cond.code yX3_read cX3_read 5 (some .boolean) ∈ kdtb := kdtb_mem 1162 (by decide +kernel) rfl
theorem w_ml_X9_51 : Cond.methodLink RX9 51 yX3_read ∈ kdtb := kdtb_mem 1236 (by decide +kernel) rfl
theorem w_im_X3_read : Cond.instanceMethod yX3_read ∈ kdtb := kdtb_mem 1160 (by decide +kernel) rfl
theorem w_se_X3_read : Cond.selects yX3_read.cls yX3_read yX3_read ∈ kdtb := kdtb_mem 1161 (by decide +kernel) rfl
theorem w_cd_X9_listLayouts : Cond.code yX9_listLayouts cX9_listLayouts 2 none ∈ kdtb := kdtb_mem 1244 (by decide +kernel) rfl
theorem w_ml_X9_61 : Cond.methodLink RX9 61 yX9_listLayouts ∈ kdtb := kdtb_mem 1241 (by decide +kernel) rfl
theorem w_im_X9_listLayouts : Cond.instanceMethod yX9_listLayouts ∈ kdtb := kdtb_mem 1243 (by decide +kernel) rfl
theorem w_se_X9_listLayouts : Cond.selects yX9_listLayouts.cls yX9_listLayouts yX9_listLayouts ∈ kdtb := kdtb_mem 30 (by decide +kernel) rfl
theorem w_cd_X9_peakOfWay : Cond.code yX9_peakOfWay cX9_peakOfWay 7 (some .int) ∈ kdtb := kdtb_mem 1264 (by decide +kernel) rfl
theorem w_ml_X9_64 : Cond.methodLink RX9 64 yX9_peakOfWay ∈ kdtb := kdtb_mem 1261 (by decide +kernel) rfl
theorem w_im_X9_peakOfWay : Cond.instanceMethod yX9_peakOfWay ∈ kdtb := kdtb_mem 1263 (by decide +kernel) rfl
theorem w_se_X9_peakOfWay : Cond.selects yX9_peakOfWay.cls yX9_peakOfWay yX9_peakOfWay ∈ kdtb := kdtb_mem 32 (by decide +kernel) rfl
theorem w_cd_X9_countSteps : Cond.code yX9_countSteps cX9_countSteps 6 none ∈ kdtb := kdtb_mem 1279 (by decide +kernel) rfl
theorem w_ml_X9_68 : Cond.methodLink RX9 68 yX9_countSteps ∈ kdtb := kdtb_mem 1276 (by decide +kernel) rfl
theorem w_im_X9_countSteps : Cond.instanceMethod yX9_countSteps ∈ kdtb := kdtb_mem 1278 (by decide +kernel) rfl
theorem w_se_X9_countSteps : Cond.selects yX9_countSteps.cls yX9_countSteps yX9_countSteps ∈ kdtb := kdtb_mem 35 (by decide +kernel) rfl
theorem w_cd_X9_walk : Cond.code yX9_walk cX9_walk 4 none ∈ kdtb := kdtb_mem 1287 (by decide +kernel) rfl
theorem w_ml_X9_71 : Cond.methodLink RX9 71 yX9_walk ∈ kdtb := kdtb_mem 1284 (by decide +kernel) rfl
theorem w_im_X9_walk : Cond.instanceMethod yX9_walk ∈ kdtb := kdtb_mem 1286 (by decide +kernel) rfl
theorem w_se_X9_walk : Cond.selects yX9_walk.cls yX9_walk yX9_walk ∈ kdtb := kdtb_mem 36 (by decide +kernel) rfl
theorem w_cd_X11_isKey : Cond.code yX11_isKey cX11_isKey 1 (some .boolean) ∈ kdtb := kdtb_mem 463 (by decide +kernel) rfl
theorem w_ml_X11_97 : Cond.methodLink RX11 97 yX11_isKey ∈ kdtb := kdtb_mem 461 (by decide +kernel) rfl
theorem w_st_X11_isKey : Cond.static yX11_isKey ∈ kdtb := kdtb_mem 462 (by decide +kernel) rfl
theorem w_fl_X11_14 : Cond.fieldLink RX11 14 "KeyDesk" "padKeys" "LKeyDesk$Row;" ∈ kdtb := kdtb_mem 420 (by decide +kernel) rfl
theorem w_ml_X11_101 : Cond.methodLink RX11 101 yX6_isFull ∈ kdtb := kdtb_mem 467 (by decide +kernel) rfl
theorem w_ml_X11_105 : Cond.methodLink RX11 105 yX6_add ∈ kdtb := kdtb_mem 471 (by decide +kernel) rfl
theorem w_ml_X11_108 : Cond.methodLink RX11 108 yX6_size ∈ kdtb := kdtb_mem 480 (by decide +kernel) rfl
theorem w_ml_X11_112 : Cond.methodLink RX11 112 yX11_isLetter ∈ kdtb := kdtb_mem 488 (by decide +kernel) rfl
theorem w_fl_X11_18 : Cond.fieldLink RX11 18 "KeyDesk" "padLetters" "LKeyDesk$Row;" ∈ kdtb := kdtb_mem 421 (by decide +kernel) rfl
theorem w_ml_X11_115 : Cond.methodLink RX11 115 yX6_clear ∈ kdtb := kdtb_mem 495 (by decide +kernel) rfl
theorem w_fl_X11_70 : Cond.fieldLink RX11 70 "KeyDesk" "choice" "LKeyDesk$Choice;" ∈ kdtb := kdtb_mem 428 (by decide +kernel) rfl
theorem w_cd_X0_clearPad : Cond.code yX0_clearPad cX0_clearPad 1 (some .int) ∈ kdtb := kdtb_mem 502 (by decide +kernel) rfl
theorem w_ml_X11_118 : Cond.methodLink RX11 118 yX0_clearPad ∈ kdtb := kdtb_mem 499 (by decide +kernel) rfl
theorem w_im_X0_clearPad : Cond.instanceMethod yX0_clearPad ∈ kdtb := kdtb_mem 500 (by decide +kernel) rfl
theorem w_se_X0_clearPad : Cond.selects yX0_clearPad.cls yX0_clearPad yX0_clearPad ∈ kdtb := kdtb_mem 501 (by decide +kernel) rfl
theorem w_cd_X11_isTongue : Cond.code yX11_isTongue cX11_isTongue 1 (some .boolean) ∈ kdtb := kdtb_mem 510 (by decide +kernel) rfl
theorem w_ml_X11_121 : Cond.methodLink RX11 121 yX11_isTongue ∈ kdtb := kdtb_mem 508 (by decide +kernel) rfl
theorem w_st_X11_isTongue : Cond.static yX11_isTongue ∈ kdtb := kdtb_mem 509 (by decide +kernel) rfl
theorem w_fl_X11_23 : Cond.fieldLink RX11 23 "KeyDesk" "tongues" "[LKeyDesk$Tongue;" ∈ kdtb := kdtb_mem 422 (by decide +kernel) rfl
theorem w_ml_X11_124 : Cond.methodLink RX11 124 yX8_isFullOfRules ∈ kdtb := kdtb_mem 511 (by decide +kernel) rfl
theorem w_ml_X11_127 : Cond.methodLink RX11 127 yX6_isEmpty ∈ kdtb := kdtb_mem 515 (by decide +kernel) rfl
theorem w_cd_X8_addRule : Cond.code yX8_addRule cX8_addRule 3 (some .int) ∈ kdtb := kdtb_mem 522 (by decide +kernel) rfl
theorem w_ml_X11_130 : Cond.methodLink RX11 130 yX8_addRule ∈ kdtb := kdtb_mem 519 (by decide +kernel) rfl
theorem w_im_X8_addRule : Cond.instanceMethod yX8_addRule ∈ kdtb := kdtb_mem 520 (by decide +kernel) rfl
theorem w_se_X8_addRule : Cond.selects yX8_addRule.cls yX8_addRule yX8_addRule ∈ kdtb := kdtb_mem 521 (by decide +kernel) rfl
theorem w_cd_X8_isFullOfJoins : Cond.code yX8_isFullOfJoins cX8_isFullOfJoins 1 (some .boolean) ∈ kdtb := kdtb_mem 537 (by decide +kernel) rfl
theorem w_ml_X11_134 : Cond.methodLink RX11 134 yX8_isFullOfJoins ∈ kdtb := kdtb_mem 534 (by decide +kernel) rfl
theorem w_im_X8_isFullOfJoins : Cond.instanceMethod yX8_isFullOfJoins ∈ kdtb := kdtb_mem 535 (by decide +kernel) rfl
theorem w_se_X8_isFullOfJoins : Cond.selects yX8_isFullOfJoins.cls yX8_isFullOfJoins yX8_isFullOfJoins ∈ kdtb := kdtb_mem 536 (by decide +kernel) rfl
theorem w_cd_X8_addJoin : Cond.code yX8_addJoin cX8_addJoin 4 (some .int) ∈ kdtb := kdtb_mem 542 (by decide +kernel) rfl
theorem w_ml_X11_137 : Cond.methodLink RX11 137 yX8_addJoin ∈ kdtb := kdtb_mem 539 (by decide +kernel) rfl
theorem w_im_X8_addJoin : Cond.instanceMethod yX8_addJoin ∈ kdtb := kdtb_mem 540 (by decide +kernel) rfl
theorem w_se_X8_addJoin : Cond.selects yX8_addJoin.cls yX8_addJoin yX8_addJoin ∈ kdtb := kdtb_mem 541 (by decide +kernel) rfl
theorem w_cd_X8_setLetter : Cond.code yX8_setLetter cX8_setLetter 4 (some .boolean) ∈ kdtb := kdtb_mem 552 (by decide +kernel) rfl
theorem w_ml_X11_141 : Cond.methodLink RX11 141 yX8_setLetter ∈ kdtb := kdtb_mem 549 (by decide +kernel) rfl
theorem w_im_X8_setLetter : Cond.instanceMethod yX8_setLetter ∈ kdtb := kdtb_mem 550 (by decide +kernel) rfl
theorem w_se_X8_setLetter : Cond.selects yX8_setLetter.cls yX8_setLetter yX8_setLetter ∈ kdtb := kdtb_mem 551 (by decide +kernel) rfl
theorem w_cd_X8_quarrelAt : Cond.code yX8_quarrelAt cX8_quarrelAt 5 (some .int) ∈ kdtb := kdtb_mem 560 (by decide +kernel) rfl
theorem w_ml_X11_145 : Cond.methodLink RX11 145 yX8_quarrelAt ∈ kdtb := kdtb_mem 557 (by decide +kernel) rfl
theorem w_im_X8_quarrelAt : Cond.instanceMethod yX8_quarrelAt ∈ kdtb := kdtb_mem 558 (by decide +kernel) rfl
theorem w_se_X8_quarrelAt : Cond.selects yX8_quarrelAt.cls yX8_quarrelAt yX8_quarrelAt ∈ kdtb := kdtb_mem 559 (by decide +kernel) rfl
theorem w_cd_X8_idleRules : Cond.code yX8_idleRules cX8_idleRules 3 (some .int) ∈ kdtb := kdtb_mem 576 (by decide +kernel) rfl
theorem w_ml_X11_149 : Cond.methodLink RX11 149 yX8_idleRules ∈ kdtb := kdtb_mem 573 (by decide +kernel) rfl
theorem w_im_X8_idleRules : Cond.instanceMethod yX8_idleRules ∈ kdtb := kdtb_mem 574 (by decide +kernel) rfl
theorem w_se_X8_idleRules : Cond.selects yX8_idleRules.cls yX8_idleRules yX8_idleRules ∈ kdtb := kdtb_mem 575 (by decide +kernel) rfl
theorem w_cd_X8_unusedKeys : Cond.code yX8_unusedKeys cX8_unusedKeys 4 (some .int) ∈ kdtb := kdtb_mem 584 (by decide +kernel) rfl
theorem w_ml_X11_152 : Cond.methodLink RX11 152 yX8_unusedKeys ∈ kdtb := kdtb_mem 581 (by decide +kernel) rfl
theorem w_im_X8_unusedKeys : Cond.instanceMethod yX8_unusedKeys ∈ kdtb := kdtb_mem 582 (by decide +kernel) rfl
theorem w_se_X8_unusedKeys : Cond.selects yX8_unusedKeys.cls yX8_unusedKeys yX8_unusedKeys ∈ kdtb := kdtb_mem 583 (by decide +kernel) rfl
theorem w_cd_X8_missingAt : Cond.code yX8_missingAt cX8_missingAt 4 (some .int) ∈ kdtb := kdtb_mem 596 (by decide +kernel) rfl
theorem w_ml_X11_155 : Cond.methodLink RX11 155 yX8_missingAt ∈ kdtb := kdtb_mem 593 (by decide +kernel) rfl
theorem w_im_X8_missingAt : Cond.instanceMethod yX8_missingAt ∈ kdtb := kdtb_mem 594 (by decide +kernel) rfl
theorem w_se_X8_missingAt : Cond.selects yX8_missingAt.cls yX8_missingAt yX8_missingAt ∈ kdtb := kdtb_mem 595 (by decide +kernel) rfl
theorem w_fl_X11_31 : Cond.fieldLink RX11 31 "KeyDesk" "line" "LKeyDesk$Line;" ∈ kdtb := kdtb_mem 423 (by decide +kernel) rfl
theorem w_cd_X4_setTongue : Cond.code yX4_setTongue cX4_setTongue 3 (some .int) ∈ kdtb := kdtb_mem 625 (by decide +kernel) rfl
theorem w_ml_X11_158 : Cond.methodLink RX11 158 yX4_setTongue ∈ kdtb := kdtb_mem 622 (by decide +kernel) rfl
theorem w_im_X4_setTongue : Cond.instanceMethod yX4_setTongue ∈ kdtb := kdtb_mem 623 (by decide +kernel) rfl
theorem w_se_X4_setTongue : Cond.selects yX4_setTongue.cls yX4_setTongue yX4_setTongue ∈ kdtb := kdtb_mem 624 (by decide +kernel) rfl
theorem w_cd_X4_strokes : Cond.code yX4_strokes cX4_strokes 1 (some (.object "KeyDesk$Row")) ∈ kdtb := kdtb_mem 633 (by decide +kernel) rfl
theorem w_ml_X11_161 : Cond.methodLink RX11 161 yX4_strokes ∈ kdtb := kdtb_mem 630 (by decide +kernel) rfl
theorem w_im_X4_strokes : Cond.instanceMethod yX4_strokes ∈ kdtb := kdtb_mem 631 (by decide +kernel) rfl
theorem w_se_X4_strokes : Cond.selects yX4_strokes.cls yX4_strokes yX4_strokes ∈ kdtb := kdtb_mem 632 (by decide +kernel) rfl
theorem w_ml_X11_169 : Cond.methodLink RX11 169 yX6_insert ∈ kdtb := kdtb_mem 634 (by decide +kernel) rfl
theorem w_ml_X11_173 : Cond.methodLink RX11 173 yX6_has ∈ kdtb := kdtb_mem 639 (by decide +kernel) rfl
theorem w_ml_X11_176 : Cond.methodLink RX11 176 yX6_replace ∈ kdtb := kdtb_mem 643 (by decide +kernel) rfl
theorem w_ml_X11_180 : Cond.methodLink RX11 180 yX6_remove ∈ kdtb := kdtb_mem 653 (by decide +kernel) rfl
theorem w_cd_X4_tongue : Cond.code yX4_tongue cX4_tongue 1 (some .int) ∈ kdtb := kdtb_mem 668 (by decide +kernel) rfl
theorem w_ml_X11_364 : Cond.methodLink RX11 364 yX4_tongue ∈ kdtb := kdtb_mem 665 (by decide +kernel) rfl
theorem w_im_X4_tongue : Cond.instanceMethod yX4_tongue ∈ kdtb := kdtb_mem 666 (by decide +kernel) rfl
theorem w_se_X4_tongue : Cond.selects yX4_tongue.cls yX4_tongue yX4_tongue ∈ kdtb := kdtb_mem 667 (by decide +kernel) rfl
theorem w_cd_X11_tongueOfLine : Cond.code yX11_tongueOfLine cX11_tongueOfLine 1 (some (.object "KeyDesk$Tongue")) ∈ kdtb := kdtb_mem 664 (by decide +kernel) rfl
theorem w_ml_X11_183 : Cond.methodLink RX11 183 yX11_tongueOfLine ∈ kdtb := kdtb_mem 661 (by decide +kernel) rfl
theorem w_im_X11_tongueOfLine : Cond.instanceMethod yX11_tongueOfLine ∈ kdtb := kdtb_mem 663 (by decide +kernel) rfl
theorem w_se_X11_tongueOfLine : Cond.selects yX11_tongueOfLine.cls yX11_tongueOfLine yX11_tongueOfLine ∈ kdtb := kdtb_mem 6 (by decide +kernel) rfl
theorem w_cd_X4_write : Cond.code yX4_write cX4_write 6 none ∈ kdtb := kdtb_mem 672 (by decide +kernel) rfl
theorem w_ml_X11_187 : Cond.methodLink RX11 187 yX4_write ∈ kdtb := kdtb_mem 669 (by decide +kernel) rfl
theorem w_im_X4_write : Cond.instanceMethod yX4_write ∈ kdtb := kdtb_mem 670 (by decide +kernel) rfl
theorem w_se_X4_write : Cond.selects yX4_write.cls yX4_write yX4_write ∈ kdtb := kdtb_mem 671 (by decide +kernel) rfl
theorem w_cd_X4_signs : Cond.code yX4_signs cX4_signs 1 (some (.object "KeyDesk$Row")) ∈ kdtb := kdtb_mem 712 (by decide +kernel) rfl
theorem w_ml_X11_191 : Cond.methodLink RX11 191 yX4_signs ∈ kdtb := kdtb_mem 709 (by decide +kernel) rfl
theorem w_im_X4_signs : Cond.instanceMethod yX4_signs ∈ kdtb := kdtb_mem 710 (by decide +kernel) rfl
theorem w_se_X4_signs : Cond.selects yX4_signs.cls yX4_signs yX4_signs ∈ kdtb := kdtb_mem 711 (by decide +kernel) rfl
theorem w_ml_X11_194 : Cond.methodLink RX11 194 yX6_at ∈ kdtb := kdtb_mem 713 (by decide +kernel) rfl
theorem w_ml_X11_197 : Cond.methodLink RX11 197 yX4_cut ∈ kdtb := kdtb_mem 718 (by decide +kernel) rfl
theorem w_cd_X4_pieceAt : Cond.code yX4_pieceAt cX4_pieceAt 2 (some .int) ∈ kdtb := kdtb_mem 722 (by decide +kernel) rfl
theorem w_ml_X11_200 : Cond.methodLink RX11 200 yX4_pieceAt ∈ kdtb := kdtb_mem 719 (by decide +kernel) rfl
theorem w_im_X4_pieceAt : Cond.instanceMethod yX4_pieceAt ∈ kdtb := kdtb_mem 720 (by decide +kernel) rfl
theorem w_se_X4_pieceAt : Cond.selects yX4_pieceAt.cls yX4_pieceAt yX4_pieceAt ∈ kdtb := kdtb_mem 721 (by decide +kernel) rfl
theorem w_cd_X4_onward : Cond.code yX4_onward cX4_onward 3 (some .int) ∈ kdtb := kdtb_mem 731 (by decide +kernel) rfl
theorem w_ml_X11_203 : Cond.methodLink RX11 203 yX4_onward ∈ kdtb := kdtb_mem 728 (by decide +kernel) rfl
theorem w_im_X4_onward : Cond.instanceMethod yX4_onward ∈ kdtb := kdtb_mem 729 (by decide +kernel) rfl
theorem w_se_X4_onward : Cond.selects yX4_onward.cls yX4_onward yX4_onward ∈ kdtb := kdtb_mem 730 (by decide +kernel) rfl
theorem w_fl_X11_38 : Cond.fieldLink RX11 38 "KeyDesk" "words" "LKeyDesk$Words;" ∈ kdtb := kdtb_mem 424 (by decide +kernel) rfl
theorem w_ml_X11_207 : Cond.methodLink RX11 207 yX10_isFull ∈ kdtb := kdtb_mem 741 (by decide +kernel) rfl
theorem w_cd_X10_addWord : Cond.code yX10_addWord cX10_addWord 5 (some .int) ∈ kdtb := kdtb_mem 749 (by decide +kernel) rfl
theorem w_ml_X11_208 : Cond.methodLink RX11 208 yX10_addWord ∈ kdtb := kdtb_mem 746 (by decide +kernel) rfl
theorem w_im_X10_addWord : Cond.instanceMethod yX10_addWord ∈ kdtb := kdtb_mem 747 (by decide +kernel) rfl
theorem w_se_X10_addWord : Cond.selects yX10_addWord.cls yX10_addWord yX10_addWord ∈ kdtb := kdtb_mem 748 (by decide +kernel) rfl
theorem w_cd_X10_has : Cond.code yX10_has cX10_has 2 (some .boolean) ∈ kdtb := kdtb_mem 765 (by decide +kernel) rfl
theorem w_ml_X11_212 : Cond.methodLink RX11 212 yX10_has ∈ kdtb := kdtb_mem 762 (by decide +kernel) rfl
theorem w_im_X10_has : Cond.instanceMethod yX10_has ∈ kdtb := kdtb_mem 763 (by decide +kernel) rfl
theorem w_se_X10_has : Cond.selects yX10_has.cls yX10_has yX10_has ∈ kdtb := kdtb_mem 764 (by decide +kernel) rfl
theorem w_ml_X11_213 : Cond.methodLink RX11 213 yX10_tongueOf ∈ kdtb := kdtb_mem 767 (by decide +kernel) rfl
theorem w_cd_X10_signOf : Cond.code yX10_signOf cX10_signOf 2 (some .int) ∈ kdtb := kdtb_mem 775 (by decide +kernel) rfl
theorem w_ml_X11_216 : Cond.methodLink RX11 216 yX10_signOf ∈ kdtb := kdtb_mem 772 (by decide +kernel) rfl
theorem w_im_X10_signOf : Cond.instanceMethod yX10_signOf ∈ kdtb := kdtb_mem 773 (by decide +kernel) rfl
theorem w_se_X10_signOf : Cond.selects yX10_signOf.cls yX10_signOf yX10_signOf ∈ kdtb := kdtb_mem 774 (by decide +kernel) rfl
theorem w_ml_X11_219 : Cond.methodLink RX11 219 yX10_countOf ∈ kdtb := kdtb_mem 776 (by decide +kernel) rfl
theorem w_ml_X11_222 : Cond.methodLink RX11 222 yX10_keysOf ∈ kdtb := kdtb_mem 780 (by decide +kernel) rfl
theorem w_cd_X10_setCount : Cond.code yX10_setCount cX10_setCount 3 (some .int) ∈ kdtb := kdtb_mem 791 (by decide +kernel) rfl
theorem w_ml_X11_226 : Cond.methodLink RX11 226 yX10_setCount ∈ kdtb := kdtb_mem 788 (by decide +kernel) rfl
theorem w_im_X10_setCount : Cond.instanceMethod yX10_setCount ∈ kdtb := kdtb_mem 789 (by decide +kernel) rfl
theorem w_se_X10_setCount : Cond.selects yX10_setCount.cls yX10_setCount yX10_setCount ∈ kdtb := kdtb_mem 790 (by decide +kernel) rfl
theorem w_fl_X11_45 : Cond.fieldLink RX11 45 "KeyDesk" "slips" "LKeyDesk$Slips;" ∈ kdtb := kdtb_mem 425 (by decide +kernel) rfl
theorem w_cd_X7_setPrice : Cond.code yX7_setPrice cX7_setPrice 4 (some .int) ∈ kdtb := kdtb_mem 800 (by decide +kernel) rfl
theorem w_ml_X11_229 : Cond.methodLink RX11 229 yX7_setPrice ∈ kdtb := kdtb_mem 797 (by decide +kernel) rfl
theorem w_im_X7_setPrice : Cond.instanceMethod yX7_setPrice ∈ kdtb := kdtb_mem 798 (by decide +kernel) rfl
theorem w_se_X7_setPrice : Cond.selects yX7_setPrice.cls yX7_setPrice yX7_setPrice ∈ kdtb := kdtb_mem 799 (by decide +kernel) rfl
theorem w_cd_X7_priceOf : Cond.code yX7_priceOf cX7_priceOf 3 (some .int) ∈ kdtb := kdtb_mem 808 (by decide +kernel) rfl
theorem w_ml_X11_232 : Cond.methodLink RX11 232 yX7_priceOf ∈ kdtb := kdtb_mem 805 (by decide +kernel) rfl
theorem w_im_X7_priceOf : Cond.instanceMethod yX7_priceOf ∈ kdtb := kdtb_mem 806 (by decide +kernel) rfl
theorem w_se_X7_priceOf : Cond.selects yX7_priceOf.cls yX7_priceOf yX7_priceOf ∈ kdtb := kdtb_mem 807 (by decide +kernel) rfl
theorem w_ml_X11_367 : Cond.methodLink RX11 367 yX10_size ∈ kdtb := kdtb_mem 846 (by decide +kernel) rfl
theorem w_ml_X11_385 : Cond.methodLink RX11 385 yX11_hasBit ∈ kdtb := kdtb_mem 847 (by decide +kernel) rfl
theorem w_fl_X11_52 : Cond.fieldLink RX11 52 "KeyDesk" "guesses" "LKeyDesk$Guesses;" ∈ kdtb := kdtb_mem 426 (by decide +kernel) rfl
theorem w_fl_X11_77 : Cond.fieldLink RX11 77 "KeyDesk" "hands" "LKeyDesk$Hands;" ∈ kdtb := kdtb_mem 429 (by decide +kernel) rfl
theorem w_ml_X11_289 : Cond.methodLink RX11 289 yX2_worthOf ∈ kdtb := kdtb_mem 850 (by decide +kernel) rfl
theorem w_cd_X1_insert : Cond.code yX1_insert cX1_insert 5 none ∈ kdtb := kdtb_mem 871 (by decide +kernel) rfl
theorem w_ml_X11_389 : Cond.methodLink RX11 389 yX1_insert ∈ kdtb := kdtb_mem 868 (by decide +kernel) rfl
theorem w_im_X1_insert : Cond.instanceMethod yX1_insert ∈ kdtb := kdtb_mem 869 (by decide +kernel) rfl
theorem w_se_X1_insert : Cond.selects yX1_insert.cls yX1_insert yX1_insert ∈ kdtb := kdtb_mem 870 (by decide +kernel) rfl
theorem w_cd_X1_clear : Cond.code yX1_clear cX1_clear 1 none ∈ kdtb := kdtb_mem 844 (by decide +kernel) rfl
theorem w_ml_X11_383 : Cond.methodLink RX11 383 yX1_clear ∈ kdtb := kdtb_mem 841 (by decide +kernel) rfl
theorem w_im_X1_clear : Cond.instanceMethod yX1_clear ∈ kdtb := kdtb_mem 842 (by decide +kernel) rfl
theorem w_se_X1_clear : Cond.selects yX1_clear.cls yX1_clear yX1_clear ∈ kdtb := kdtb_mem 843 (by decide +kernel) rfl
theorem w_cd_X11_gather : Cond.code yX11_gather cX11_gather 7 none ∈ kdtb := kdtb_mem 840 (by decide +kernel) rfl
theorem w_ml_X11_235 : Cond.methodLink RX11 235 yX11_gather ∈ kdtb := kdtb_mem 837 (by decide +kernel) rfl
theorem w_im_X11_gather : Cond.instanceMethod yX11_gather ∈ kdtb := kdtb_mem 839 (by decide +kernel) rfl
theorem w_se_X11_gather : Cond.selects yX11_gather.cls yX11_gather yX11_gather ∈ kdtb := kdtb_mem 11 (by decide +kernel) rfl
theorem w_cd_X1_guessAt : Cond.code yX1_guessAt cX1_guessAt 2 (some .int) ∈ kdtb := kdtb_mem 882 (by decide +kernel) rfl
theorem w_ml_X11_239 : Cond.methodLink RX11 239 yX1_guessAt ∈ kdtb := kdtb_mem 879 (by decide +kernel) rfl
theorem w_im_X1_guessAt : Cond.instanceMethod yX1_guessAt ∈ kdtb := kdtb_mem 880 (by decide +kernel) rfl
theorem w_se_X1_guessAt : Cond.selects yX1_guessAt.cls yX1_guessAt yX1_guessAt ∈ kdtb := kdtb_mem 881 (by decide +kernel) rfl
theorem w_fl_X11_61 : Cond.fieldLink RX11 61 "KeyDesk" "parting" "LKeyDesk$Parting;" ∈ kdtb := kdtb_mem 427 (by decide +kernel) rfl
theorem w_cd_X5_find : Cond.code yX5_find cX5_find 5 (some .boolean) ∈ kdtb := kdtb_mem 895 (by decide +kernel) rfl
theorem w_ml_X11_392 : Cond.methodLink RX11 392 yX5_find ∈ kdtb := kdtb_mem 892 (by decide +kernel) rfl
theorem w_im_X5_find : Cond.instanceMethod yX5_find ∈ kdtb := kdtb_mem 893 (by decide +kernel) rfl
theorem w_se_X5_find : Cond.selects yX5_find.cls yX5_find yX5_find ∈ kdtb := kdtb_mem 894 (by decide +kernel) rfl
theorem w_cd_X11_partPad : Cond.code yX11_partPad cX11_partPad 2 (some .int) ∈ kdtb := kdtb_mem 891 (by decide +kernel) rfl
theorem w_ml_X11_242 : Cond.methodLink RX11 242 yX11_partPad ∈ kdtb := kdtb_mem 888 (by decide +kernel) rfl
theorem w_im_X11_partPad : Cond.instanceMethod yX11_partPad ∈ kdtb := kdtb_mem 890 (by decide +kernel) rfl
theorem w_se_X11_partPad : Cond.selects yX11_partPad.cls yX11_partPad yX11_partPad ∈ kdtb := kdtb_mem 15 (by decide +kernel) rfl
theorem w_cd_X5_words : Cond.code yX5_words cX5_words 1 (some (.object "KeyDesk$Row")) ∈ kdtb := kdtb_mem 946 (by decide +kernel) rfl
theorem w_ml_X11_248 : Cond.methodLink RX11 248 yX5_words ∈ kdtb := kdtb_mem 943 (by decide +kernel) rfl
theorem w_im_X5_words : Cond.instanceMethod yX5_words ∈ kdtb := kdtb_mem 944 (by decide +kernel) rfl
theorem w_se_X5_words : Cond.selects yX5_words.cls yX5_words yX5_words ∈ kdtb := kdtb_mem 945 (by decide +kernel) rfl
theorem w_cd_X5_sum : Cond.code yX5_sum cX5_sum 1 (some .int) ∈ kdtb := kdtb_mem 942 (by decide +kernel) rfl
theorem w_ml_X11_245 : Cond.methodLink RX11 245 yX5_sum ∈ kdtb := kdtb_mem 939 (by decide +kernel) rfl
theorem w_im_X5_sum : Cond.instanceMethod yX5_sum ∈ kdtb := kdtb_mem 940 (by decide +kernel) rfl
theorem w_se_X5_sum : Cond.selects yX5_sum.cls yX5_sum yX5_sum ∈ kdtb := kdtb_mem 941 (by decide +kernel) rfl
theorem w_cd_X5_lengths : Cond.code yX5_lengths cX5_lengths 1 (some (.object "KeyDesk$Row")) ∈ kdtb := kdtb_mem 954 (by decide +kernel) rfl
theorem w_ml_X11_250 : Cond.methodLink RX11 250 yX5_lengths ∈ kdtb := kdtb_mem 951 (by decide +kernel) rfl
theorem w_im_X5_lengths : Cond.instanceMethod yX5_lengths ∈ kdtb := kdtb_mem 952 (by decide +kernel) rfl
theorem w_se_X5_lengths : Cond.selects yX5_lengths.cls yX5_lengths yX5_lengths ∈ kdtb := kdtb_mem 953 (by decide +kernel) rfl
theorem w_cd_X0_setTogether : Cond.code yX0_setTogether cX0_setTogether 5 (some .int) ∈ kdtb := kdtb_mem 970 (by decide +kernel) rfl
theorem w_ml_X11_259 : Cond.methodLink RX11 259 yX0_setTogether ∈ kdtb := kdtb_mem 967 (by decide +kernel) rfl
theorem w_im_X0_setTogether : Cond.instanceMethod yX0_setTogether ∈ kdtb := kdtb_mem 968 (by decide +kernel) rfl
theorem w_se_X0_setTogether : Cond.selects yX0_setTogether.cls yX0_setTogether yX0_setTogether ∈ kdtb := kdtb_mem 969 (by decide +kernel) rfl
theorem w_cd_X0_together : Cond.code yX0_together cX0_together 3 (some .int) ∈ kdtb := kdtb_mem 962 (by decide +kernel) rfl
theorem w_ml_X11_253 : Cond.methodLink RX11 253 yX0_together ∈ kdtb := kdtb_mem 959 (by decide +kernel) rfl
theorem w_im_X0_together : Cond.instanceMethod yX0_together ∈ kdtb := kdtb_mem 960 (by decide +kernel) rfl
theorem w_se_X0_together : Cond.selects yX0_together.cls yX0_together yX0_together ∈ kdtb := kdtb_mem 961 (by decide +kernel) rfl
theorem w_cd_X0_pairs : Cond.code yX0_pairs cX0_pairs 1 (some .int) ∈ kdtb := kdtb_mem 966 (by decide +kernel) rfl
theorem w_ml_X11_256 : Cond.methodLink RX11 256 yX0_pairs ∈ kdtb := kdtb_mem 963 (by decide +kernel) rfl
theorem w_im_X0_pairs : Cond.instanceMethod yX0_pairs ∈ kdtb := kdtb_mem 964 (by decide +kernel) rfl
theorem w_se_X0_pairs : Cond.selects yX0_pairs.cls yX0_pairs yX0_pairs ∈ kdtb := kdtb_mem 965 (by decide +kernel) rfl
theorem w_cd_X0_isPadFull : Cond.code yX0_isPadFull cX0_isPadFull 1 (some .boolean) ∈ kdtb := kdtb_mem 978 (by decide +kernel) rfl
theorem w_ml_X11_262 : Cond.methodLink RX11 262 yX0_isPadFull ∈ kdtb := kdtb_mem 975 (by decide +kernel) rfl
theorem w_im_X0_isPadFull : Cond.instanceMethod yX0_isPadFull ∈ kdtb := kdtb_mem 976 (by decide +kernel) rfl
theorem w_se_X0_isPadFull : Cond.selects yX0_isPadFull.cls yX0_isPadFull yX0_isPadFull ∈ kdtb := kdtb_mem 977 (by decide +kernel) rfl
theorem w_cd_X0_addToPad : Cond.code yX0_addToPad cX0_addToPad 3 (some .int) ∈ kdtb := kdtb_mem 983 (by decide +kernel) rfl
theorem w_ml_X11_265 : Cond.methodLink RX11 265 yX0_addToPad ∈ kdtb := kdtb_mem 980 (by decide +kernel) rfl
theorem w_im_X0_addToPad : Cond.instanceMethod yX0_addToPad ∈ kdtb := kdtb_mem 981 (by decide +kernel) rfl
theorem w_se_X0_addToPad : Cond.selects yX0_addToPad.cls yX0_addToPad yX0_addToPad ∈ kdtb := kdtb_mem 982 (by decide +kernel) rfl
theorem w_cd_X0_choose : Cond.code yX0_choose cX0_choose 4 (some .long) ∈ kdtb := kdtb_mem 993 (by decide +kernel) rfl
theorem w_ml_X11_269 : Cond.methodLink RX11 269 yX0_choose ∈ kdtb := kdtb_mem 990 (by decide +kernel) rfl
theorem w_im_X0_choose : Cond.instanceMethod yX0_choose ∈ kdtb := kdtb_mem 991 (by decide +kernel) rfl
theorem w_se_X0_choose : Cond.selects yX0_choose.cls yX0_choose yX0_choose ∈ kdtb := kdtb_mem 992 (by decide +kernel) rfl
theorem w_cd_X0_chosenWords : Cond.code yX0_chosenWords cX0_chosenWords 1 (some (.object "KeyDesk$Row")) ∈ kdtb := kdtb_mem 1019 (by decide +kernel) rfl
theorem w_ml_X11_273 : Cond.methodLink RX11 273 yX0_chosenWords ∈ kdtb := kdtb_mem 1016 (by decide +kernel) rfl
theorem w_im_X0_chosenWords : Cond.instanceMethod yX0_chosenWords ∈ kdtb := kdtb_mem 1017 (by decide +kernel) rfl
theorem w_se_X0_chosenWords : Cond.selects yX0_chosenWords.cls yX0_chosenWords yX0_chosenWords ∈ kdtb := kdtb_mem 1018 (by decide +kernel) rfl
theorem w_cd_X11_isHand : Cond.code yX11_isHand cX11_isHand 1 (some .boolean) ∈ kdtb := kdtb_mem 1030 (by decide +kernel) rfl
theorem w_ml_X11_276 : Cond.methodLink RX11 276 yX11_isHand ∈ kdtb := kdtb_mem 1028 (by decide +kernel) rfl
theorem w_st_X11_isHand : Cond.static yX11_isHand ∈ kdtb := kdtb_mem 1029 (by decide +kernel) rfl
theorem w_cd_X11_isDay : Cond.code yX11_isDay cX11_isDay 1 (some .boolean) ∈ kdtb := kdtb_mem 1033 (by decide +kernel) rfl
theorem w_ml_X11_279 : Cond.methodLink RX11 279 yX11_isDay ∈ kdtb := kdtb_mem 1031 (by decide +kernel) rfl
theorem w_st_X11_isDay : Cond.static yX11_isDay ∈ kdtb := kdtb_mem 1032 (by decide +kernel) rfl
theorem w_cd_X2_isFull : Cond.code yX2_isFull cX2_isFull 1 (some .boolean) ∈ kdtb := kdtb_mem 1037 (by decide +kernel) rfl
theorem w_ml_X11_282 : Cond.methodLink RX11 282 yX2_isFull ∈ kdtb := kdtb_mem 1034 (by decide +kernel) rfl
theorem w_im_X2_isFull : Cond.instanceMethod yX2_isFull ∈ kdtb := kdtb_mem 1035 (by decide +kernel) rfl
theorem w_se_X2_isFull : Cond.selects yX2_isFull.cls yX2_isFull yX2_isFull ∈ kdtb := kdtb_mem 1036 (by decide +kernel) rfl
theorem w_cd_X2_latestDay : Cond.code yX2_latestDay cX2_latestDay 4 (some .int) ∈ kdtb := kdtb_mem 1042 (by decide +kernel) rfl
theorem w_ml_X11_283 : Cond.methodLink RX11 283 yX2_latestDay ∈ kdtb := kdtb_mem 1039 (by decide +kernel) rfl
theorem w_im_X2_latestDay : Cond.instanceMethod yX2_latestDay ∈ kdtb := kdtb_mem 1040 (by decide +kernel) rfl
theorem w_se_X2_latestDay : Cond.selects yX2_latestDay.cls yX2_latestDay yX2_latestDay ∈ kdtb := kdtb_mem 1041 (by decide +kernel) rfl
theorem w_cd_X2_addLearning : Cond.code yX2_addLearning cX2_addLearning 4 (some .int) ∈ kdtb := kdtb_mem 1047 (by decide +kernel) rfl
theorem w_ml_X11_286 : Cond.methodLink RX11 286 yX2_addLearning ∈ kdtb := kdtb_mem 1044 (by decide +kernel) rfl
theorem w_im_X2_addLearning : Cond.instanceMethod yX2_addLearning ∈ kdtb := kdtb_mem 1045 (by decide +kernel) rfl
theorem w_se_X2_addLearning : Cond.selects yX2_addLearning.cls yX2_addLearning yX2_addLearning ∈ kdtb := kdtb_mem 1046 (by decide +kernel) rfl
theorem w_cd_X2_dropLearnings : Cond.code yX2_dropLearnings cX2_dropLearnings 5 (some .int) ∈ kdtb := kdtb_mem 1060 (by decide +kernel) rfl
theorem w_ml_X11_292 : Cond.methodLink RX11 292 yX2_dropLearnings ∈ kdtb := kdtb_mem 1057 (by decide +kernel) rfl
theorem w_im_X2_dropLearnings : Cond.instanceMethod yX2_dropLearnings ∈ kdtb := kdtb_mem 1058 (by decide +kernel) rfl
theorem w_se_X2_dropLearnings : Cond.selects yX2_dropLearnings.cls yX2_dropLearnings yX2_dropLearnings ∈ kdtb := kdtb_mem 1059 (by decide +kernel) rfl
theorem w_cd_X2_setFade : Cond.code yX2_setFade cX2_setFade 3 (some .int) ∈ kdtb := kdtb_mem 1069 (by decide +kernel) rfl
theorem w_ml_X11_295 : Cond.methodLink RX11 295 yX2_setFade ∈ kdtb := kdtb_mem 1066 (by decide +kernel) rfl
theorem w_im_X2_setFade : Cond.instanceMethod yX2_setFade ∈ kdtb := kdtb_mem 1067 (by decide +kernel) rfl
theorem w_se_X2_setFade : Cond.selects yX2_setFade.cls yX2_setFade yX2_setFade ∈ kdtb := kdtb_mem 1068 (by decide +kernel) rfl
theorem w_cd_X2_setBudget : Cond.code yX2_setBudget cX2_setBudget 4 (some .int) ∈ kdtb := kdtb_mem 1081 (by decide +kernel) rfl
theorem w_ml_X11_298 : Cond.methodLink RX11 298 yX2_setBudget ∈ kdtb := kdtb_mem 1078 (by decide +kernel) rfl
theorem w_im_X2_setBudget : Cond.instanceMethod yX2_setBudget ∈ kdtb := kdtb_mem 1079 (by decide +kernel) rfl
theorem w_se_X2_setBudget : Cond.selects yX2_setBudget.cls yX2_setBudget yX2_setBudget ∈ kdtb := kdtb_mem 1080 (by decide +kernel) rfl
theorem w_ct_X11_301 : Cond.constant RX11 301 (1000000) ∈ kdtb := kdtb_mem 1086 (by decide +kernel) rfl
theorem w_cd_X2_setSeed : Cond.code yX2_setSeed cX2_setSeed 3 (some .int) ∈ kdtb := kdtb_mem 1090 (by decide +kernel) rfl
theorem w_ml_X11_302 : Cond.methodLink RX11 302 yX2_setSeed ∈ kdtb := kdtb_mem 1087 (by decide +kernel) rfl
theorem w_im_X2_setSeed : Cond.instanceMethod yX2_setSeed ∈ kdtb := kdtb_mem 1088 (by decide +kernel) rfl
theorem w_se_X2_setSeed : Cond.selects yX2_setSeed.cls yX2_setSeed yX2_setSeed ∈ kdtb := kdtb_mem 1089 (by decide +kernel) rfl
theorem w_ct_X11_306 : Cond.constant RX11 306 (-1000002) ∈ kdtb := kdtb_mem 1096 (by decide +kernel) rfl
theorem w_ct_X11_305 : Cond.constant RX11 305 (-1000001) ∈ kdtb := kdtb_mem 1095 (by decide +kernel) rfl
theorem w_cd_X2_givers : Cond.code yX2_givers cX2_givers 4 (some .int) ∈ kdtb := kdtb_mem 1100 (by decide +kernel) rfl
theorem w_ml_X11_307 : Cond.methodLink RX11 307 yX2_givers ∈ kdtb := kdtb_mem 1097 (by decide +kernel) rfl
theorem w_im_X2_givers : Cond.instanceMethod yX2_givers ∈ kdtb := kdtb_mem 1098 (by decide +kernel) rfl
theorem w_se_X2_givers : Cond.selects yX2_givers.cls yX2_givers yX2_givers ∈ kdtb := kdtb_mem 1099 (by decide +kernel) rfl
theorem w_cd_X2_sumWithLot : Cond.code yX2_sumWithLot cX2_sumWithLot 6 (some .int) ∈ kdtb := kdtb_mem 1105 (by decide +kernel) rfl
theorem w_ml_X11_311 : Cond.methodLink RX11 311 yX2_sumWithLot ∈ kdtb := kdtb_mem 1102 (by decide +kernel) rfl
theorem w_im_X2_sumWithLot : Cond.instanceMethod yX2_sumWithLot ∈ kdtb := kdtb_mem 1103 (by decide +kernel) rfl
theorem w_se_X2_sumWithLot : Cond.selects yX2_sumWithLot.cls yX2_sumWithLot yX2_sumWithLot ∈ kdtb := kdtb_mem 1104 (by decide +kernel) rfl
theorem w_ct_X11_310 : Cond.constant RX11 310 (-1000005) ∈ kdtb := kdtb_mem 1101 (by decide +kernel) rfl
theorem w_fl_X11_84 : Cond.fieldLink RX11 84 "KeyDesk" "layouts" "LKeyDesk$Layouts;" ∈ kdtb := kdtb_mem 430 (by decide +kernel) rfl
theorem w_cd_X3_startAnew : Cond.code yX3_startAnew cX3_startAnew 5 (some .int) ∈ kdtb := kdtb_mem 346 (by decide +kernel) rfl
theorem w_ml_X11_314 : Cond.methodLink RX11 314 yX3_startAnew ∈ kdtb := kdtb_mem 1118 (by decide +kernel) rfl
theorem w_im_X3_startAnew : Cond.instanceMethod yX3_startAnew ∈ kdtb := kdtb_mem 344 (by decide +kernel) rfl
theorem w_se_X3_startAnew : Cond.selects yX3_startAnew.cls yX3_startAnew yX3_startAnew ∈ kdtb := kdtb_mem 345 (by decide +kernel) rfl
theorem w_cd_X3_has : Cond.code yX3_has cX3_has 2 (some .boolean) ∈ kdtb := kdtb_mem 1126 (by decide +kernel) rfl
theorem w_ml_X11_317 : Cond.methodLink RX11 317 yX3_has ∈ kdtb := kdtb_mem 1123 (by decide +kernel) rfl
theorem w_im_X3_has : Cond.instanceMethod yX3_has ∈ kdtb := kdtb_mem 1124 (by decide +kernel) rfl
theorem w_se_X3_has : Cond.selects yX3_has.cls yX3_has yX3_has ∈ kdtb := kdtb_mem 1125 (by decide +kernel) rfl
theorem w_cd_X3_setEffort : Cond.code yX3_setEffort cX3_setEffort 4 (some .int) ∈ kdtb := kdtb_mem 1130 (by decide +kernel) rfl
theorem w_ml_X11_318 : Cond.methodLink RX11 318 yX3_setEffort ∈ kdtb := kdtb_mem 1127 (by decide +kernel) rfl
theorem w_im_X3_setEffort : Cond.instanceMethod yX3_setEffort ∈ kdtb := kdtb_mem 1128 (by decide +kernel) rfl
theorem w_se_X3_setEffort : Cond.selects yX3_setEffort.cls yX3_setEffort yX3_setEffort ∈ kdtb := kdtb_mem 1129 (by decide +kernel) rfl
theorem w_cd_X3_setFinger : Cond.code yX3_setFinger cX3_setFinger 4 (some .int) ∈ kdtb := kdtb_mem 1134 (by decide +kernel) rfl
theorem w_ml_X11_321 : Cond.methodLink RX11 321 yX3_setFinger ∈ kdtb := kdtb_mem 1131 (by decide +kernel) rfl
theorem w_im_X3_setFinger : Cond.instanceMethod yX3_setFinger ∈ kdtb := kdtb_mem 1132 (by decide +kernel) rfl
theorem w_se_X3_setFinger : Cond.selects yX3_setFinger.cls yX3_setFinger yX3_setFinger ∈ kdtb := kdtb_mem 1133 (by decide +kernel) rfl
theorem w_cd_X3_setLoad : Cond.code yX3_setLoad cX3_setLoad 4 (some .int) ∈ kdtb := kdtb_mem 1138 (by decide +kernel) rfl
theorem w_ml_X11_324 : Cond.methodLink RX11 324 yX3_setLoad ∈ kdtb := kdtb_mem 1135 (by decide +kernel) rfl
theorem w_im_X3_setLoad : Cond.instanceMethod yX3_setLoad ∈ kdtb := kdtb_mem 1136 (by decide +kernel) rfl
theorem w_se_X3_setLoad : Cond.selects yX3_setLoad.cls yX3_setLoad yX3_setLoad ∈ kdtb := kdtb_mem 1137 (by decide +kernel) rfl
theorem w_cd_X3_setPair : Cond.code yX3_setPair cX3_setPair 5 (some .int) ∈ kdtb := kdtb_mem 1146 (by decide +kernel) rfl
theorem w_ml_X11_327 : Cond.methodLink RX11 327 yX3_setPair ∈ kdtb := kdtb_mem 1143 (by decide +kernel) rfl
theorem w_im_X3_setPair : Cond.instanceMethod yX3_setPair ∈ kdtb := kdtb_mem 1144 (by decide +kernel) rfl
theorem w_se_X3_setPair : Cond.selects yX3_setPair.cls yX3_setPair yX3_setPair ∈ kdtb := kdtb_mem 1145 (by decide +kernel) rfl
theorem w_cd_X3_setSame : Cond.code yX3_setSame cX3_setSame 3 (some .int) ∈ kdtb := kdtb_mem 1154 (by decide +kernel) rfl
theorem w_ml_X11_330 : Cond.methodLink RX11 330 yX3_setSame ∈ kdtb := kdtb_mem 1151 (by decide +kernel) rfl
theorem w_im_X3_setSame : Cond.instanceMethod yX3_setSame ∈ kdtb := kdtb_mem 1152 (by decide +kernel) rfl
theorem w_se_X3_setSame : Cond.selects yX3_setSame.cls yX3_setSame yX3_setSame ∈ kdtb := kdtb_mem 1153 (by decide +kernel) rfl
theorem w_ml_X11_333 : Cond.methodLink RX11 333 yX3_read ∈ kdtb := kdtb_mem 1159 (by decide +kernel) rfl
theorem w_ml_X11_336 : Cond.methodLink RX11 336 yX3_totalCost ∈ kdtb := kdtb_mem 1164 (by decide +kernel) rfl
theorem w_cd_X3_leastCostly : Cond.code yX3_leastCostly cX3_leastCostly 1 (some .int) ∈ kdtb := kdtb_mem 1184 (by decide +kernel) rfl
theorem w_ml_X11_339 : Cond.methodLink RX11 339 yX3_leastCostly ∈ kdtb := kdtb_mem 1181 (by decide +kernel) rfl
theorem w_im_X3_leastCostly : Cond.instanceMethod yX3_leastCostly ∈ kdtb := kdtb_mem 1182 (by decide +kernel) rfl
theorem w_se_X3_leastCostly : Cond.selects yX3_leastCostly.cls yX3_leastCostly yX3_leastCostly ∈ kdtb := kdtb_mem 1183 (by decide +kernel) rfl
theorem w_cd_X3_lowerBound : Cond.code yX3_lowerBound cX3_lowerBound 4 (some .int) ∈ kdtb := kdtb_mem 1201 (by decide +kernel) rfl
theorem w_ml_X11_342 : Cond.methodLink RX11 342 yX3_lowerBound ∈ kdtb := kdtb_mem 1198 (by decide +kernel) rfl
theorem w_im_X3_lowerBound : Cond.instanceMethod yX3_lowerBound ∈ kdtb := kdtb_mem 1199 (by decide +kernel) rfl
theorem w_se_X3_lowerBound : Cond.selects yX3_lowerBound.cls yX3_lowerBound yX3_lowerBound ∈ kdtb := kdtb_mem 1200 (by decide +kernel) rfl
theorem w_cd_X3_improve : Cond.code yX3_improve cX3_improve 2 (some .int) ∈ kdtb := kdtb_mem 1213 (by decide +kernel) rfl
theorem w_ml_X11_345 : Cond.methodLink RX11 345 yX3_improve ∈ kdtb := kdtb_mem 1210 (by decide +kernel) rfl
theorem w_im_X3_improve : Cond.instanceMethod yX3_improve ∈ kdtb := kdtb_mem 1211 (by decide +kernel) rfl
theorem w_se_X3_improve : Cond.selects yX3_improve.cls yX3_improve yX3_improve ∈ kdtb := kdtb_mem 1212 (by decide +kernel) rfl
theorem w_ml_X11_348 : Cond.methodLink RX11 348 yX3_digits ∈ kdtb := kdtb_mem 1223 (by decide +kernel) rfl
theorem w_ml_X11_351 : Cond.methodLink RX11 351 yX3_size ∈ kdtb := kdtb_mem 1228 (by decide +kernel) rfl
theorem w_fl_X11_93 : Cond.fieldLink RX11 93 "KeyDesk" "ways" "LKeyDesk$Ways;" ∈ kdtb := kdtb_mem 431 (by decide +kernel) rfl
theorem w_cd_X9_find : Cond.code yX9_find cX9_find 5 none ∈ kdtb := kdtb_mem 1235 (by decide +kernel) rfl
theorem w_ml_X11_352 : Cond.methodLink RX11 352 yX9_find ∈ kdtb := kdtb_mem 1232 (by decide +kernel) rfl
theorem w_im_X9_find : Cond.instanceMethod yX9_find ∈ kdtb := kdtb_mem 1233 (by decide +kernel) rfl
theorem w_se_X9_find : Cond.selects yX9_find.cls yX9_find yX9_find ∈ kdtb := kdtb_mem 1234 (by decide +kernel) rfl
theorem w_cd_X9_path : Cond.code yX9_path cX9_path 1 (some (.object "KeyDesk$Row")) ∈ kdtb := kdtb_mem 1299 (by decide +kernel) rfl
theorem w_ml_X11_358 : Cond.methodLink RX11 358 yX9_path ∈ kdtb := kdtb_mem 1296 (by decide +kernel) rfl
theorem w_im_X9_path : Cond.instanceMethod yX9_path ∈ kdtb := kdtb_mem 1297 (by decide +kernel) rfl
theorem w_se_X9_path : Cond.selects yX9_path.cls yX9_path yX9_path ∈ kdtb := kdtb_mem 1298 (by decide +kernel) rfl
theorem w_cd_X9_peak : Cond.code yX9_peak cX9_peak 1 (some .int) ∈ kdtb := kdtb_mem 1295 (by decide +kernel) rfl
theorem w_ml_X11_355 : Cond.methodLink RX11 355 yX9_peak ∈ kdtb := kdtb_mem 1292 (by decide +kernel) rfl
theorem w_im_X9_peak : Cond.instanceMethod yX9_peak ∈ kdtb := kdtb_mem 1293 (by decide +kernel) rfl
theorem w_se_X9_peak : Cond.selects yX9_peak.cls yX9_peak yX9_peak ∈ kdtb := kdtb_mem 1294 (by decide +kernel) rfl
theorem w_cd_X2_budgetOf : Cond.code yX2_budgetOf cX2_budgetOf 2 (some .int) ∈ kdtb := kdtb_mem 1324 (by decide +kernel) rfl
theorem w_ml_X11_380 : Cond.methodLink RX11 380 yX2_budgetOf ∈ kdtb := kdtb_mem 1321 (by decide +kernel) rfl
theorem w_im_X2_budgetOf : Cond.instanceMethod yX2_budgetOf ∈ kdtb := kdtb_mem 1322 (by decide +kernel) rfl
theorem w_se_X2_budgetOf : Cond.selects yX2_budgetOf.cls yX2_budgetOf yX2_budgetOf ∈ kdtb := kdtb_mem 1323 (by decide +kernel) rfl
theorem w_cd_X8_joins : Cond.code yX8_joins cX8_joins 1 (some .int) ∈ kdtb := kdtb_mem 1320 (by decide +kernel) rfl
theorem w_ml_X11_377 : Cond.methodLink RX11 377 yX8_joins ∈ kdtb := kdtb_mem 1317 (by decide +kernel) rfl
theorem w_im_X8_joins : Cond.instanceMethod yX8_joins ∈ kdtb := kdtb_mem 1318 (by decide +kernel) rfl
theorem w_se_X8_joins : Cond.selects yX8_joins.cls yX8_joins yX8_joins ∈ kdtb := kdtb_mem 1319 (by decide +kernel) rfl
theorem w_cd_X8_rules : Cond.code yX8_rules cX8_rules 1 (some .int) ∈ kdtb := kdtb_mem 1316 (by decide +kernel) rfl
theorem w_ml_X11_374 : Cond.methodLink RX11 374 yX8_rules ∈ kdtb := kdtb_mem 1313 (by decide +kernel) rfl
theorem w_im_X8_rules : Cond.instanceMethod yX8_rules ∈ kdtb := kdtb_mem 1314 (by decide +kernel) rfl
theorem w_se_X8_rules : Cond.selects yX8_rules.cls yX8_rules yX8_rules ∈ kdtb := kdtb_mem 1315 (by decide +kernel) rfl
theorem w_cd_X0_padSize : Cond.code yX0_padSize cX0_padSize 1 (some .int) ∈ kdtb := kdtb_mem 1307 (by decide +kernel) rfl
theorem w_ml_X11_361 : Cond.methodLink RX11 361 yX0_padSize ∈ kdtb := kdtb_mem 1304 (by decide +kernel) rfl
theorem w_im_X0_padSize : Cond.instanceMethod yX0_padSize ∈ kdtb := kdtb_mem 1305 (by decide +kernel) rfl
theorem w_se_X0_padSize : Cond.selects yX0_padSize.cls yX0_padSize yX0_padSize ∈ kdtb := kdtb_mem 1306 (by decide +kernel) rfl
theorem w_ml_X11_368 : Cond.methodLink RX11 368 yX2_learnings ∈ kdtb := kdtb_mem 1308 (by decide +kernel) rfl
theorem w_cd_X11_toldOfOne : Cond.code yX11_toldOfOne cX11_toldOfOne 2 (some .int) ∈ kdtb := kdtb_mem 1312 (by decide +kernel) rfl
theorem w_ml_X11_371 : Cond.methodLink RX11 371 yX11_toldOfOne ∈ kdtb := kdtb_mem 1309 (by decide +kernel) rfl
theorem w_im_X11_toldOfOne : Cond.instanceMethod yX11_toldOfOne ∈ kdtb := kdtb_mem 1311 (by decide +kernel) rfl
theorem w_se_X11_toldOfOne : Cond.selects yX11_toldOfOne.cls yX11_toldOfOne yX11_toldOfOne ∈ kdtb := kdtb_mem 38 (by decide +kernel) rfl
theorem w_cl_X12_176 : Cond.constantLong RX12 176 (11) ∈ kdtb := kdtb_mem 1538 (by decide +kernel) rfl
theorem w_cd_X12_in : Cond.code yX12_in cX12_in 6 (some .boolean) ∈ kdtb := kdtb_mem 1541 (by decide +kernel) rfl
theorem w_in_X12 : Cond.initialized RX12 ∈ kdtb := kdtb_mem 96 (by decide +kernel) rfl
theorem w_ml_X12_178 : Cond.methodLink RX12 178 yX12_in ∈ kdtb := kdtb_mem 1539 (by decide +kernel) rfl
theorem w_st_X12_in : Cond.static yX12_in ∈ kdtb := kdtb_mem 1540 (by decide +kernel) rfl
theorem w_fl_X12_182 : Cond.fieldLink RX12 182 "KeyDeskModel" "keyMany" "I" ∈ kdtb := kdtb_mem 1336 (by decide +kernel) rfl
theorem w_fl_X12_7 : Cond.fieldLink RX12 7 "KeyDeskModel" "padKeys" "[I" ∈ kdtb := kdtb_mem 1335 (by decide +kernel) rfl
theorem w_cl_X12_185 : Cond.constantLong RX12 185 (60) ∈ kdtb := kdtb_mem 1546 (by decide +kernel) rfl
theorem w_fl_X12_187 : Cond.fieldLink RX12 187 "KeyDeskModel" "letterMany" "I" ∈ kdtb := kdtb_mem 1338 (by decide +kernel) rfl
theorem w_fl_X12_13 : Cond.fieldLink RX12 13 "KeyDeskModel" "padLetters" "[I" ∈ kdtb := kdtb_mem 1337 (by decide +kernel) rfl
theorem w_fl_X12_190 : Cond.fieldLink RX12 190 "KeyDeskModel" "wordPad" "I" ∈ kdtb := kdtb_mem 1341 (by decide +kernel) rfl
theorem w_cl_X12_193 : Cond.constantLong RX12 193 (2) ∈ kdtb := kdtb_mem 1558 (by decide +kernel) rfl
theorem w_fl_X12_26 : Cond.fieldLink RX12 26 "KeyDeskModel" "ruleKeyMany" "[I" ∈ kdtb := kdtb_mem 1343 (by decide +kernel) rfl
theorem w_fl_X12_32 : Cond.fieldLink RX12 32 "KeyDeskModel" "ruleLetterMany" "[I" ∈ kdtb := kdtb_mem 1345 (by decide +kernel) rfl
theorem w_fl_X12_35 : Cond.fieldLink RX12 35 "KeyDeskModel" "ruleMany" "[I" ∈ kdtb := kdtb_mem 1346 (by decide +kernel) rfl
theorem w_fl_X12_29 : Cond.fieldLink RX12 29 "KeyDeskModel" "ruleLetters" "[I" ∈ kdtb := kdtb_mem 1344 (by decide +kernel) rfl
theorem w_fl_X12_23 : Cond.fieldLink RX12 23 "KeyDeskModel" "ruleKeys" "[I" ∈ kdtb := kdtb_mem 1342 (by decide +kernel) rfl
theorem w_cd_X12_isTongue : Cond.code yX12_isTongue cX12_isTongue 1 (some .boolean) ∈ kdtb := kdtb_mem 1557 (by decide +kernel) rfl
theorem w_ml_X12_195 : Cond.methodLink RX12 195 yX12_isTongue ∈ kdtb := kdtb_mem 1555 (by decide +kernel) rfl
theorem w_st_X12_isTongue : Cond.static yX12_isTongue ∈ kdtb := kdtb_mem 1556 (by decide +kernel) rfl
theorem w_cd_X12_isLetter : Cond.code yX12_isLetter cX12_isLetter 1 (some .boolean) ∈ kdtb := kdtb_mem 1565 (by decide +kernel) rfl
theorem w_ml_X12_199 : Cond.methodLink RX12 199 yX12_isLetter ∈ kdtb := kdtb_mem 1563 (by decide +kernel) rfl
theorem w_st_X12_isLetter : Cond.static yX12_isLetter ∈ kdtb := kdtb_mem 1564 (by decide +kernel) rfl
theorem w_fl_X12_41 : Cond.fieldLink RX12 41 "KeyDeskModel" "joinMany" "[I" ∈ kdtb := kdtb_mem 1348 (by decide +kernel) rfl
theorem w_fl_X12_38 : Cond.fieldLink RX12 38 "KeyDeskModel" "joins" "[I" ∈ kdtb := kdtb_mem 1347 (by decide +kernel) rfl
theorem w_fl_X12_44 : Cond.fieldLink RX12 44 "KeyDeskModel" "isOwn" "[Z" ∈ kdtb := kdtb_mem 1349 (by decide +kernel) rfl
theorem w_cd_X12_haveSameKeys : Cond.code yX12_haveSameKeys cX12_haveSameKeys 5 (some .boolean) ∈ kdtb := kdtb_mem 1577 (by decide +kernel) rfl
theorem w_ml_X12_202 : Cond.methodLink RX12 202 yX12_haveSameKeys ∈ kdtb := kdtb_mem 1574 (by decide +kernel) rfl
theorem w_im_X12_haveSameKeys : Cond.instanceMethod yX12_haveSameKeys ∈ kdtb := kdtb_mem 1576 (by decide +kernel) rfl
theorem w_se_X12_haveSameKeys : Cond.selects yX12_haveSameKeys.cls yX12_haveSameKeys yX12_haveSameKeys ∈ kdtb := kdtb_mem 40 (by decide +kernel) rfl
theorem w_cd_X12_haveSameLetters : Cond.code yX12_haveSameLetters cX12_haveSameLetters 5 (some .boolean) ∈ kdtb := kdtb_mem 1581 (by decide +kernel) rfl
theorem w_ml_X12_206 : Cond.methodLink RX12 206 yX12_haveSameLetters ∈ kdtb := kdtb_mem 1578 (by decide +kernel) rfl
theorem w_im_X12_haveSameLetters : Cond.instanceMethod yX12_haveSameLetters ∈ kdtb := kdtb_mem 1580 (by decide +kernel) rfl
theorem w_se_X12_haveSameLetters : Cond.selects yX12_haveSameLetters.cls yX12_haveSameLetters yX12_haveSameLetters ∈ kdtb := kdtb_mem 41 (by decide +kernel) rfl
theorem w_cd_X12_isIdle : Cond.code yX12_isIdle cX12_isIdle 5 (some .boolean) ∈ kdtb := kdtb_mem 1589 (by decide +kernel) rfl
theorem w_ml_X12_209 : Cond.methodLink RX12 209 yX12_isIdle ∈ kdtb := kdtb_mem 1586 (by decide +kernel) rfl
theorem w_im_X12_isIdle : Cond.instanceMethod yX12_isIdle ∈ kdtb := kdtb_mem 1588 (by decide +kernel) rfl
theorem w_se_X12_isIdle : Cond.selects yX12_isIdle.cls yX12_isIdle yX12_isIdle ∈ kdtb := kdtb_mem 42 (by decide +kernel) rfl
theorem w_fl_X12_47 : Cond.fieldLink RX12 47 "KeyDeskModel" "isMade" "[Z" ∈ kdtb := kdtb_mem 1350 (by decide +kernel) rfl
theorem w_cd_X12_findMade : Cond.code yX12_findMade cX12_findMade 5 none ∈ kdtb := kdtb_mem 1597 (by decide +kernel) rfl
theorem w_ml_X12_212 : Cond.methodLink RX12 212 yX12_findMade ∈ kdtb := kdtb_mem 1594 (by decide +kernel) rfl
theorem w_im_X12_findMade : Cond.instanceMethod yX12_findMade ∈ kdtb := kdtb_mem 1596 (by decide +kernel) rfl
theorem w_se_X12_findMade : Cond.selects yX12_findMade.cls yX12_findMade yX12_findMade ∈ kdtb := kdtb_mem 43 (by decide +kernel) rfl
theorem w_fl_X12_215 : Cond.fieldLink RX12 215 "KeyDeskModel" "lineTongue" "I" ∈ kdtb := kdtb_mem 1353 (by decide +kernel) rfl
theorem w_fl_X12_50 : Cond.fieldLink RX12 50 "KeyDeskModel" "line" "[I" ∈ kdtb := kdtb_mem 1351 (by decide +kernel) rfl
theorem w_fl_X12_218 : Cond.fieldLink RX12 218 "KeyDeskModel" "lineMany" "I" ∈ kdtb := kdtb_mem 1352 (by decide +kernel) rfl
theorem w_cd_X12_isKey : Cond.code yX12_isKey cX12_isKey 1 (some .boolean) ∈ kdtb := kdtb_mem 1608 (by decide +kernel) rfl
theorem w_ml_X12_221 : Cond.methodLink RX12 221 yX12_isKey ∈ kdtb := kdtb_mem 1606 (by decide +kernel) rfl
theorem w_st_X12_isKey : Cond.static yX12_isKey ∈ kdtb := kdtb_mem 1607 (by decide +kernel) rfl
theorem w_fl_X12_224 : Cond.fieldLink RX12 224 "KeyDeskModel" "signMany" "I" ∈ kdtb := kdtb_mem 1358 (by decide +kernel) rfl
theorem w_fl_X12_59 : Cond.fieldLink RX12 59 "KeyDeskModel" "signs" "[I" ∈ kdtb := kdtb_mem 1357 (by decide +kernel) rfl
theorem w_cd_X12_joinOf : Cond.code yX12_joinOf cX12_joinOf 5 (some .int) ∈ kdtb := kdtb_mem 1636 (by decide +kernel) rfl
theorem w_ml_X12_227 : Cond.methodLink RX12 227 yX12_joinOf ∈ kdtb := kdtb_mem 1633 (by decide +kernel) rfl
theorem w_im_X12_joinOf : Cond.instanceMethod yX12_joinOf ∈ kdtb := kdtb_mem 1635 (by decide +kernel) rfl
theorem w_se_X12_joinOf : Cond.selects yX12_joinOf.cls yX12_joinOf yX12_joinOf ∈ kdtb := kdtb_mem 47 (by decide +kernel) rfl
theorem w_cd_X12_come : Cond.code yX12_come cX12_come 5 none ∈ kdtb := kdtb_mem 1632 (by decide +kernel) rfl
theorem w_ml_X12_238 : Cond.methodLink RX12 238 yX12_come ∈ kdtb := kdtb_mem 1629 (by decide +kernel) rfl
theorem w_im_X12_come : Cond.instanceMethod yX12_come ∈ kdtb := kdtb_mem 1631 (by decide +kernel) rfl
theorem w_se_X12_come : Cond.selects yX12_come.cls yX12_come yX12_come ∈ kdtb := kdtb_mem 46 (by decide +kernel) rfl
theorem w_cd_X12_ruleAt : Cond.code yX12_ruleAt cX12_ruleAt 8 (some .int) ∈ kdtb := kdtb_mem 1628 (by decide +kernel) rfl
theorem w_ml_X12_234 : Cond.methodLink RX12 234 yX12_ruleAt ∈ kdtb := kdtb_mem 1625 (by decide +kernel) rfl
theorem w_im_X12_ruleAt : Cond.instanceMethod yX12_ruleAt ∈ kdtb := kdtb_mem 1627 (by decide +kernel) rfl
theorem w_se_X12_ruleAt : Cond.selects yX12_ruleAt.cls yX12_ruleAt yX12_ruleAt ∈ kdtb := kdtb_mem 45 (by decide +kernel) rfl
theorem w_fl_X12_53 : Cond.fieldLink RX12 53 "KeyDeskModel" "pieceRule" "[I" ∈ kdtb := kdtb_mem 1354 (by decide +kernel) rfl
theorem w_fl_X12_231 : Cond.fieldLink RX12 231 "KeyDeskModel" "pieceMany" "I" ∈ kdtb := kdtb_mem 1356 (by decide +kernel) rfl
theorem w_fl_X12_56 : Cond.fieldLink RX12 56 "KeyDeskModel" "pieceFrom" "[I" ∈ kdtb := kdtb_mem 1355 (by decide +kernel) rfl
theorem w_cd_X12_walk : Cond.code yX12_walk cX12_walk 5 none ∈ kdtb := kdtb_mem 1624 (by decide +kernel) rfl
theorem w_ml_X12_241 : Cond.methodLink RX12 241 yX12_walk ∈ kdtb := kdtb_mem 1621 (by decide +kernel) rfl
theorem w_im_X12_walk : Cond.instanceMethod yX12_walk ∈ kdtb := kdtb_mem 1623 (by decide +kernel) rfl
theorem w_se_X12_walk : Cond.selects yX12_walk.cls yX12_walk yX12_walk ∈ kdtb := kdtb_mem 44 (by decide +kernel) rfl
theorem w_fl_X12_244 : Cond.fieldLink RX12 244 "KeyDeskModel" "words" "I" ∈ kdtb := kdtb_mem 1364 (by decide +kernel) rfl
theorem w_fl_X12_74 : Cond.fieldLink RX12 74 "KeyDeskModel" "wordKeys" "[I" ∈ kdtb := kdtb_mem 1363 (by decide +kernel) rfl
theorem w_cl_X12_247 : Cond.constantLong RX12 247 (999) ∈ kdtb := kdtb_mem 1649 (by decide +kernel) rfl
theorem w_cl_X12_249 : Cond.constantLong RX12 249 (100) ∈ kdtb := kdtb_mem 1650 (by decide +kernel) rfl
theorem w_fl_X12_62 : Cond.fieldLink RX12 62 "KeyDeskModel" "wordTongue" "[I" ∈ kdtb := kdtb_mem 1359 (by decide +kernel) rfl
theorem w_fl_X12_65 : Cond.fieldLink RX12 65 "KeyDeskModel" "wordSign" "[I" ∈ kdtb := kdtb_mem 1360 (by decide +kernel) rfl
theorem w_fl_X12_68 : Cond.fieldLink RX12 68 "KeyDeskModel" "wordCount" "[I" ∈ kdtb := kdtb_mem 1361 (by decide +kernel) rfl
theorem w_fl_X12_71 : Cond.fieldLink RX12 71 "KeyDeskModel" "wordLong" "[I" ∈ kdtb := kdtb_mem 1362 (by decide +kernel) rfl
theorem w_cd_X12_isWord : Cond.code yX12_isWord cX12_isWord 2 (some .boolean) ∈ kdtb := kdtb_mem 1658 (by decide +kernel) rfl
theorem w_ml_X12_251 : Cond.methodLink RX12 251 yX12_isWord ∈ kdtb := kdtb_mem 1655 (by decide +kernel) rfl
theorem w_im_X12_isWord : Cond.instanceMethod yX12_isWord ∈ kdtb := kdtb_mem 1657 (by decide +kernel) rfl
theorem w_se_X12_isWord : Cond.selects yX12_isWord.cls yX12_isWord yX12_isWord ∈ kdtb := kdtb_mem 48 (by decide +kernel) rfl
theorem w_cl_X12_256 : Cond.constantLong RX12 256 (20) ∈ kdtb := kdtb_mem 1668 (by decide +kernel) rfl
theorem w_fl_X12_77 : Cond.fieldLink RX12 77 "KeyDeskModel" "prices" "[I" ∈ kdtb := kdtb_mem 1365 (by decide +kernel) rfl
theorem w_cl_X12_254 : Cond.constantLong RX12 254 (5) ∈ kdtb := kdtb_mem 1667 (by decide +kernel) rfl
theorem w_cd_X12_size : Cond.code yX12_size cX12_size 1 (some .int) ∈ kdtb := kdtb_mem 1690 (by decide +kernel) rfl
theorem w_ml_X12_258 : Cond.methodLink RX12 258 yX12_size ∈ kdtb := kdtb_mem 1688 (by decide +kernel) rfl
theorem w_st_X12_size : Cond.static yX12_size ∈ kdtb := kdtb_mem 1689 (by decide +kernel) rfl
theorem w_fl_X12_80 : Cond.fieldLink RX12 80 "KeyDeskModel" "table" "[I" ∈ kdtb := kdtb_mem 1366 (by decide +kernel) rfl
theorem w_cd_X12_lesser : Cond.code yX12_lesser cX12_lesser 2 (some .int) ∈ kdtb := kdtb_mem 1684 (by decide +kernel) rfl
theorem w_ml_X12_266 : Cond.methodLink RX12 266 yX12_lesser ∈ kdtb := kdtb_mem 1682 (by decide +kernel) rfl
theorem w_st_X12_lesser : Cond.static yX12_lesser ∈ kdtb := kdtb_mem 1683 (by decide +kernel) rfl
theorem w_cd_X12_areBeside : Cond.code yX12_areBeside cX12_areBeside 2 (some .boolean) ∈ kdtb := kdtb_mem 1687 (by decide +kernel) rfl
theorem w_ml_X12_269 : Cond.methodLink RX12 269 yX12_areBeside ∈ kdtb := kdtb_mem 1685 (by decide +kernel) rfl
theorem w_st_X12_areBeside : Cond.static yX12_areBeside ∈ kdtb := kdtb_mem 1686 (by decide +kernel) rfl
theorem w_ct_X12_265 : Cond.constant RX12 265 (1000000000) ∈ kdtb := kdtb_mem 1681 (by decide +kernel) rfl
theorem w_cd_X12_cheapest : Cond.code yX12_cheapest cX12_cheapest 10 (some .int) ∈ kdtb := kdtb_mem 1680 (by decide +kernel) rfl
theorem w_ml_X12_261 : Cond.methodLink RX12 261 yX12_cheapest ∈ kdtb := kdtb_mem 1677 (by decide +kernel) rfl
theorem w_im_X12_cheapest : Cond.instanceMethod yX12_cheapest ∈ kdtb := kdtb_mem 1679 (by decide +kernel) rfl
theorem w_se_X12_cheapest : Cond.selects yX12_cheapest.cls yX12_cheapest yX12_cheapest ∈ kdtb := kdtb_mem 50 (by decide +kernel) rfl
theorem w_cd_X12_priceOf : Cond.code yX12_priceOf cX12_priceOf 6 (some .int) ∈ kdtb := kdtb_mem 1676 (by decide +kernel) rfl
theorem w_ml_X12_272 : Cond.methodLink RX12 272 yX12_priceOf ∈ kdtb := kdtb_mem 1673 (by decide +kernel) rfl
theorem w_im_X12_priceOf : Cond.instanceMethod yX12_priceOf ∈ kdtb := kdtb_mem 1675 (by decide +kernel) rfl
theorem w_se_X12_priceOf : Cond.selects yX12_priceOf.cls yX12_priceOf yX12_priceOf ∈ kdtb := kdtb_mem 49 (by decide +kernel) rfl
theorem w_fl_X12_86 : Cond.fieldLink RX12 86 "KeyDeskModel" "guessPrice" "[I" ∈ kdtb := kdtb_mem 1368 (by decide +kernel) rfl
theorem w_fl_X12_89 : Cond.fieldLink RX12 89 "KeyDeskModel" "guessWorth" "[I" ∈ kdtb := kdtb_mem 1369 (by decide +kernel) rfl
theorem w_fl_X12_135 : Cond.fieldLink RX12 135 "KeyDeskModel" "fade" "I" ∈ kdtb := kdtb_mem 1387 (by decide +kernel) rfl
theorem w_fl_X12_360 : Cond.fieldLink RX12 360 "KeyDeskModel" "learnings" "I" ∈ kdtb := kdtb_mem 1386 (by decide +kernel) rfl
theorem w_fl_X12_126 : Cond.fieldLink RX12 126 "KeyDeskModel" "learnHand" "[I" ∈ kdtb := kdtb_mem 1383 (by decide +kernel) rfl
theorem w_fl_X12_129 : Cond.fieldLink RX12 129 "KeyDeskModel" "learnWord" "[I" ∈ kdtb := kdtb_mem 1384 (by decide +kernel) rfl
theorem w_fl_X12_132 : Cond.fieldLink RX12 132 "KeyDeskModel" "learnDay" "[I" ∈ kdtb := kdtb_mem 1385 (by decide +kernel) rfl
theorem w_fl_X12_83 : Cond.fieldLink RX12 83 "KeyDeskModel" "guessed" "[I" ∈ kdtb := kdtb_mem 1367 (by decide +kernel) rfl
theorem w_fl_X12_276 : Cond.fieldLink RX12 276 "KeyDeskModel" "guessMany" "I" ∈ kdtb := kdtb_mem 1370 (by decide +kernel) rfl
theorem w_cd_X12_isAhead : Cond.code yX12_isAhead cX12_isAhead 3 (some .boolean) ∈ kdtb := kdtb_mem 1710 (by decide +kernel) rfl
theorem w_ml_X12_282 : Cond.methodLink RX12 282 yX12_isAhead ∈ kdtb := kdtb_mem 1707 (by decide +kernel) rfl
theorem w_im_X12_isAhead : Cond.instanceMethod yX12_isAhead ∈ kdtb := kdtb_mem 1709 (by decide +kernel) rfl
theorem w_se_X12_isAhead : Cond.selects yX12_isAhead.cls yX12_isAhead yX12_isAhead ∈ kdtb := kdtb_mem 53 (by decide +kernel) rfl
theorem w_cd_X12_worthOf : Cond.code yX12_worthOf cX12_worthOf 8 (some .int) ∈ kdtb := kdtb_mem 1706 (by decide +kernel) rfl
theorem w_ml_X12_279 : Cond.methodLink RX12 279 yX12_worthOf ∈ kdtb := kdtb_mem 1703 (by decide +kernel) rfl
theorem w_im_X12_worthOf : Cond.instanceMethod yX12_worthOf ∈ kdtb := kdtb_mem 1705 (by decide +kernel) rfl
theorem w_se_X12_worthOf : Cond.selects yX12_worthOf.cls yX12_worthOf yX12_worthOf ∈ kdtb := kdtb_mem 52 (by decide +kernel) rfl
theorem w_cl_X12_285 : Cond.constantLong RX12 285 (7) ∈ kdtb := kdtb_mem 1698 (by decide +kernel) rfl
theorem w_cd_X12_areTongues : Cond.code yX12_areTongues cX12_areTongues 1 (some .boolean) ∈ kdtb := kdtb_mem 1697 (by decide +kernel) rfl
theorem w_ml_X12_287 : Cond.methodLink RX12 287 yX12_areTongues ∈ kdtb := kdtb_mem 1695 (by decide +kernel) rfl
theorem w_st_X12_areTongues : Cond.static yX12_areTongues ∈ kdtb := kdtb_mem 1696 (by decide +kernel) rfl
theorem w_cd_X12_findGuesses : Cond.code yX12_findGuesses cX12_findGuesses 7 none ∈ kdtb := kdtb_mem 1702 (by decide +kernel) rfl
theorem w_ml_X12_290 : Cond.methodLink RX12 290 yX12_findGuesses ∈ kdtb := kdtb_mem 1699 (by decide +kernel) rfl
theorem w_im_X12_findGuesses : Cond.instanceMethod yX12_findGuesses ∈ kdtb := kdtb_mem 1701 (by decide +kernel) rfl
theorem w_se_X12_findGuesses : Cond.selects yX12_findGuesses.cls yX12_findGuesses yX12_findGuesses ∈ kdtb := kdtb_mem 51 (by decide +kernel) rfl
theorem w_fl_X12_108 : Cond.fieldLink RX12 108 "KeyDeskModel" "piecePrice" "[I" ∈ kdtb := kdtb_mem 1376 (by decide +kernel) rfl
theorem w_cd_X12_priceAt : Cond.code yX12_priceAt cX12_priceAt 4 (some .int) ∈ kdtb := kdtb_mem 1741 (by decide +kernel) rfl
theorem w_ml_X12_297 : Cond.methodLink RX12 297 yX12_priceAt ∈ kdtb := kdtb_mem 1738 (by decide +kernel) rfl
theorem w_im_X12_priceAt : Cond.instanceMethod yX12_priceAt ∈ kdtb := kdtb_mem 1740 (by decide +kernel) rfl
theorem w_se_X12_priceAt : Cond.selects yX12_priceAt.cls yX12_priceAt yX12_priceAt ∈ kdtb := kdtb_mem 59 (by decide +kernel) rfl
theorem w_fl_X12_92 : Cond.fieldLink RX12 92 "KeyDeskModel" "partSum" "[I" ∈ kdtb := kdtb_mem 1371 (by decide +kernel) rfl
theorem w_cd_X12_placeOf : Cond.code yX12_placeOf cX12_placeOf 3 (some .int) ∈ kdtb := kdtb_mem 1729 (by decide +kernel) rfl
theorem w_ml_X12_294 : Cond.methodLink RX12 294 yX12_placeOf ∈ kdtb := kdtb_mem 1727 (by decide +kernel) rfl
theorem w_st_X12_placeOf : Cond.static yX12_placeOf ∈ kdtb := kdtb_mem 1728 (by decide +kernel) rfl
theorem w_fl_X12_95 : Cond.fieldLink RX12 95 "KeyDeskModel" "partProduct" "[J" ∈ kdtb := kdtb_mem 1372 (by decide +kernel) rfl
theorem w_fl_X12_99 : Cond.fieldLink RX12 99 "KeyDeskModel" "partMany" "[I" ∈ kdtb := kdtb_mem 1373 (by decide +kernel) rfl
theorem w_cd_X12_sumBy : Cond.code yX12_sumBy cX12_sumBy 8 (some .int) ∈ kdtb := kdtb_mem 1737 (by decide +kernel) rfl
theorem w_ml_X12_300 : Cond.methodLink RX12 300 yX12_sumBy ∈ kdtb := kdtb_mem 1734 (by decide +kernel) rfl
theorem w_im_X12_sumBy : Cond.instanceMethod yX12_sumBy ∈ kdtb := kdtb_mem 1736 (by decide +kernel) rfl
theorem w_se_X12_sumBy : Cond.selects yX12_sumBy.cls yX12_sumBy yX12_sumBy ∈ kdtb := kdtb_mem 58 (by decide +kernel) rfl
theorem w_cd_X12_productBy : Cond.code yX12_productBy cX12_productBy 5 (some .long) ∈ kdtb := kdtb_mem 1745 (by decide +kernel) rfl
theorem w_ml_X12_304 : Cond.methodLink RX12 304 yX12_productBy ∈ kdtb := kdtb_mem 1742 (by decide +kernel) rfl
theorem w_im_X12_productBy : Cond.instanceMethod yX12_productBy ∈ kdtb := kdtb_mem 1744 (by decide +kernel) rfl
theorem w_se_X12_productBy : Cond.selects yX12_productBy.cls yX12_productBy yX12_productBy ∈ kdtb := kdtb_mem 60 (by decide +kernel) rfl
theorem w_cd_X12_manyBy : Cond.code yX12_manyBy cX12_manyBy 5 (some .int) ∈ kdtb := kdtb_mem 1749 (by decide +kernel) rfl
theorem w_ml_X12_308 : Cond.methodLink RX12 308 yX12_manyBy ∈ kdtb := kdtb_mem 1746 (by decide +kernel) rfl
theorem w_im_X12_manyBy : Cond.instanceMethod yX12_manyBy ∈ kdtb := kdtb_mem 1748 (by decide +kernel) rfl
theorem w_se_X12_manyBy : Cond.selects yX12_manyBy.cls yX12_manyBy yX12_manyBy ∈ kdtb := kdtb_mem 61 (by decide +kernel) rfl
theorem w_cd_X12_findPart : Cond.code yX12_findPart cX12_findPart 14 none ∈ kdtb := kdtb_mem 1733 (by decide +kernel) rfl
theorem w_ml_X12_314 : Cond.methodLink RX12 314 yX12_findPart ∈ kdtb := kdtb_mem 1730 (by decide +kernel) rfl
theorem w_im_X12_findPart : Cond.instanceMethod yX12_findPart ∈ kdtb := kdtb_mem 1732 (by decide +kernel) rfl
theorem w_se_X12_findPart : Cond.selects yX12_findPart.cls yX12_findPart yX12_findPart ∈ kdtb := kdtb_mem 57 (by decide +kernel) rfl
theorem w_cd_X12_findPrices : Cond.code yX12_findPrices cX12_findPrices 5 none ∈ kdtb := kdtb_mem 1726 (by decide +kernel) rfl
theorem w_ml_X12_311 : Cond.methodLink RX12 311 yX12_findPrices ∈ kdtb := kdtb_mem 1723 (by decide +kernel) rfl
theorem w_im_X12_findPrices : Cond.instanceMethod yX12_findPrices ∈ kdtb := kdtb_mem 1725 (by decide +kernel) rfl
theorem w_se_X12_findPrices : Cond.selects yX12_findPrices.cls yX12_findPrices yX12_findPrices ∈ kdtb := kdtb_mem 56 (by decide +kernel) rfl
theorem w_fl_X12_105 : Cond.fieldLink RX12 105 "KeyDeskModel" "pieceLong" "[I" ∈ kdtb := kdtb_mem 1375 (by decide +kernel) rfl
theorem w_fl_X12_102 : Cond.fieldLink RX12 102 "KeyDeskModel" "pieceWord" "[I" ∈ kdtb := kdtb_mem 1374 (by decide +kernel) rfl
theorem w_cd_X12_isBestPart : Cond.code yX12_isBestPart cX12_isBestPart 7 (some .boolean) ∈ kdtb := kdtb_mem 1757 (by decide +kernel) rfl
theorem w_ml_X12_317 : Cond.methodLink RX12 317 yX12_isBestPart ∈ kdtb := kdtb_mem 1754 (by decide +kernel) rfl
theorem w_im_X12_isBestPart : Cond.instanceMethod yX12_isBestPart ∈ kdtb := kdtb_mem 1756 (by decide +kernel) rfl
theorem w_se_X12_isBestPart : Cond.selects yX12_isBestPart.cls yX12_isBestPart yX12_isBestPart ∈ kdtb := kdtb_mem 63 (by decide +kernel) rfl
theorem w_cd_X12_findParts : Cond.code yX12_findParts cX12_findParts 6 none ∈ kdtb := kdtb_mem 1722 (by decide +kernel) rfl
theorem w_ml_X12_321 : Cond.methodLink RX12 321 yX12_findParts ∈ kdtb := kdtb_mem 1719 (by decide +kernel) rfl
theorem w_im_X12_findParts : Cond.instanceMethod yX12_findParts ∈ kdtb := kdtb_mem 1721 (by decide +kernel) rfl
theorem w_se_X12_findParts : Cond.selects yX12_findParts.cls yX12_findParts yX12_findParts ∈ kdtb := kdtb_mem 55 (by decide +kernel) rfl
theorem w_cd_X12_whyNoParts : Cond.code yX12_whyNoParts cX12_whyNoParts 2 (some .int) ∈ kdtb := kdtb_mem 1718 (by decide +kernel) rfl
theorem w_ml_X12_324 : Cond.methodLink RX12 324 yX12_whyNoParts ∈ kdtb := kdtb_mem 1715 (by decide +kernel) rfl
theorem w_im_X12_whyNoParts : Cond.instanceMethod yX12_whyNoParts ∈ kdtb := kdtb_mem 1717 (by decide +kernel) rfl
theorem w_se_X12_whyNoParts : Cond.selects yX12_whyNoParts.cls yX12_whyNoParts yX12_whyNoParts ∈ kdtb := kdtb_mem 54 (by decide +kernel) rfl
theorem w_cd_X12_layParts : Cond.code yX12_layParts cX12_layParts 9 (some .int) ∈ kdtb := kdtb_mem 1753 (by decide +kernel) rfl
theorem w_ml_X12_327 : Cond.methodLink RX12 327 yX12_layParts ∈ kdtb := kdtb_mem 1750 (by decide +kernel) rfl
theorem w_im_X12_layParts : Cond.instanceMethod yX12_layParts ∈ kdtb := kdtb_mem 1752 (by decide +kernel) rfl
theorem w_se_X12_layParts : Cond.selects yX12_layParts.cls yX12_layParts yX12_layParts ∈ kdtb := kdtb_mem 62 (by decide +kernel) rfl
theorem w_fl_X12_330 : Cond.fieldLink RX12 330 "KeyDeskModel" "boths" "I" ∈ kdtb := kdtb_mem 1380 (by decide +kernel) rfl
theorem w_fl_X12_111 : Cond.fieldLink RX12 111 "KeyDeskModel" "bothFirst" "[I" ∈ kdtb := kdtb_mem 1377 (by decide +kernel) rfl
theorem w_fl_X12_114 : Cond.fieldLink RX12 114 "KeyDeskModel" "bothSecond" "[I" ∈ kdtb := kdtb_mem 1378 (by decide +kernel) rfl
theorem w_cd_X12_bothAt : Cond.code yX12_bothAt cX12_bothAt 4 (some .int) ∈ kdtb := kdtb_mem 1769 (by decide +kernel) rfl
theorem w_ml_X12_333 : Cond.methodLink RX12 333 yX12_bothAt ∈ kdtb := kdtb_mem 1766 (by decide +kernel) rfl
theorem w_im_X12_bothAt : Cond.instanceMethod yX12_bothAt ∈ kdtb := kdtb_mem 1768 (by decide +kernel) rfl
theorem w_se_X12_bothAt : Cond.selects yX12_bothAt.cls yX12_bothAt yX12_bothAt ∈ kdtb := kdtb_mem 64 (by decide +kernel) rfl
theorem w_fl_X12_117 : Cond.fieldLink RX12 117 "KeyDeskModel" "bothMany" "[I" ∈ kdtb := kdtb_mem 1379 (by decide +kernel) rfl
theorem w_cd_X12_bothOf : Cond.code yX12_bothOf cX12_bothOf 4 (some .int) ∈ kdtb := kdtb_mem 1773 (by decide +kernel) rfl
theorem w_ml_X12_336 : Cond.methodLink RX12 336 yX12_bothOf ∈ kdtb := kdtb_mem 1770 (by decide +kernel) rfl
theorem w_im_X12_bothOf : Cond.instanceMethod yX12_bothOf ∈ kdtb := kdtb_mem 1772 (by decide +kernel) rfl
theorem w_se_X12_bothOf : Cond.selects yX12_bothOf.cls yX12_bothOf yX12_bothOf ∈ kdtb := kdtb_mem 65 (by decide +kernel) rfl
theorem w_fl_X12_16 : Cond.fieldLink RX12 16 "KeyDeskModel" "padWords" "[I" ∈ kdtb := kdtb_mem 1339 (by decide +kernel) rfl
theorem w_fl_X12_19 : Cond.fieldLink RX12 19 "KeyDeskModel" "isFixed" "[Z" ∈ kdtb := kdtb_mem 1340 (by decide +kernel) rfl
theorem w_fl_X12_120 : Cond.fieldLink RX12 120 "KeyDeskModel" "onFrom" "[J" ∈ kdtb := kdtb_mem 1381 (by decide +kernel) rfl
theorem w_cd_X12_soundsAs : Cond.code yX12_soundsAs cX12_soundsAs 6 (some .boolean) ∈ kdtb := kdtb_mem 1793 (by decide +kernel) rfl
theorem w_ml_X12_339 : Cond.methodLink RX12 339 yX12_soundsAs ∈ kdtb := kdtb_mem 1790 (by decide +kernel) rfl
theorem w_im_X12_soundsAs : Cond.instanceMethod yX12_soundsAs ∈ kdtb := kdtb_mem 1792 (by decide +kernel) rfl
theorem w_se_X12_soundsAs : Cond.selects yX12_soundsAs.cls yX12_soundsAs yX12_soundsAs ∈ kdtb := kdtb_mem 68 (by decide +kernel) rfl
theorem w_cd_X12_onBy : Cond.code yX12_onBy cX12_onBy 4 (some .long) ∈ kdtb := kdtb_mem 1797 (by decide +kernel) rfl
theorem w_ml_X12_342 : Cond.methodLink RX12 342 yX12_onBy ∈ kdtb := kdtb_mem 1794 (by decide +kernel) rfl
theorem w_im_X12_onBy : Cond.instanceMethod yX12_onBy ∈ kdtb := kdtb_mem 1796 (by decide +kernel) rfl
theorem w_se_X12_onBy : Cond.selects yX12_onBy.cls yX12_onBy yX12_onBy ∈ kdtb := kdtb_mem 69 (by decide +kernel) rfl
theorem w_fl_X12_123 : Cond.fieldLink RX12 123 "KeyDeskModel" "chosenWords" "[I" ∈ kdtb := kdtb_mem 1382 (by decide +kernel) rfl
theorem w_cd_X12_findChosen : Cond.code yX12_findChosen cX12_findChosen 8 (some .long) ∈ kdtb := kdtb_mem 1789 (by decide +kernel) rfl
theorem w_ml_X12_346 : Cond.methodLink RX12 346 yX12_findChosen ∈ kdtb := kdtb_mem 1786 (by decide +kernel) rfl
theorem w_im_X12_findChosen : Cond.instanceMethod yX12_findChosen ∈ kdtb := kdtb_mem 1788 (by decide +kernel) rfl
theorem w_se_X12_findChosen : Cond.selects yX12_findChosen.cls yX12_findChosen yX12_findChosen ∈ kdtb := kdtb_mem 67 (by decide +kernel) rfl
theorem w_cd_X12_layChosen : Cond.code yX12_layChosen cX12_layChosen 8 none ∈ kdtb := kdtb_mem 1785 (by decide +kernel) rfl
theorem w_ml_X12_350 : Cond.methodLink RX12 350 yX12_layChosen ∈ kdtb := kdtb_mem 1782 (by decide +kernel) rfl
theorem w_im_X12_layChosen : Cond.instanceMethod yX12_layChosen ∈ kdtb := kdtb_mem 1784 (by decide +kernel) rfl
theorem w_se_X12_layChosen : Cond.selects yX12_layChosen.cls yX12_layChosen yX12_layChosen ∈ kdtb := kdtb_mem 66 (by decide +kernel) rfl
theorem w_cl_X12_353 : Cond.constantLong RX12 353 (3) ∈ kdtb := kdtb_mem 1809 (by decide +kernel) rfl
theorem w_cd_X12_isHand : Cond.code yX12_isHand cX12_isHand 1 (some .boolean) ∈ kdtb := kdtb_mem 1808 (by decide +kernel) rfl
theorem w_ml_X12_355 : Cond.methodLink RX12 355 yX12_isHand ∈ kdtb := kdtb_mem 1806 (by decide +kernel) rfl
theorem w_st_X12_isHand : Cond.static yX12_isHand ∈ kdtb := kdtb_mem 1807 (by decide +kernel) rfl
theorem w_cl_X12_358 : Cond.constantLong RX12 358 (3000) ∈ kdtb := kdtb_mem 1810 (by decide +kernel) rfl
theorem w_cl_X12_363 : Cond.constantLong RX12 363 (1000) ∈ kdtb := kdtb_mem 1823 (by decide +kernel) rfl
theorem w_fl_X12_139 : Cond.fieldLink RX12 139 "KeyDeskModel" "budgets" "[I" ∈ kdtb := kdtb_mem 1388 (by decide +kernel) rfl
theorem w_cl_X12_365 : Cond.constantLong RX12 365 (1000000) ∈ kdtb := kdtb_mem 1836 (by decide +kernel) rfl
theorem w_fl_X12_142 : Cond.fieldLink RX12 142 "KeyDeskModel" "lot" "I" ∈ kdtb := kdtb_mem 1389 (by decide +kernel) rfl
theorem w_ct_X12_368 : Cond.constant RX12 368 (-1000002) ∈ kdtb := kdtb_mem 1842 (by decide +kernel) rfl
theorem w_cl_X12_370 : Cond.constantLong RX12 370 (16807) ∈ kdtb := kdtb_mem 1844 (by decide +kernel) rfl
theorem w_cl_X12_372 : Cond.constantLong RX12 372 (2147483647) ∈ kdtb := kdtb_mem 1845 (by decide +kernel) rfl
theorem w_ct_X12_369 : Cond.constant RX12 369 (-1000005) ∈ kdtb := kdtb_mem 1843 (by decide +kernel) rfl
theorem w_ct_X12_367 : Cond.constant RX12 367 (-1000001) ∈ kdtb := kdtb_mem 1841 (by decide +kernel) rfl
theorem w_fl_X12_154 : Cond.fieldLink RX12 154 "KeyDeskModel" "pairs" "[I" ∈ kdtb := kdtb_mem 1394 (by decide +kernel) rfl
theorem w_fl_X12_145 : Cond.fieldLink RX12 145 "KeyDeskModel" "efforts" "[I" ∈ kdtb := kdtb_mem 1391 (by decide +kernel) rfl
theorem w_fl_X12_148 : Cond.fieldLink RX12 148 "KeyDeskModel" "fingers" "[I" ∈ kdtb := kdtb_mem 1392 (by decide +kernel) rfl
theorem w_fl_X12_151 : Cond.fieldLink RX12 151 "KeyDeskModel" "loads" "[I" ∈ kdtb := kdtb_mem 1393 (by decide +kernel) rfl
theorem w_fl_X12_374 : Cond.fieldLink RX12 374 "KeyDeskModel" "symbols" "I" ∈ kdtb := kdtb_mem 1390 (by decide +kernel) rfl
theorem w_cd_X12_clearLayout : Cond.code yX12_clearLayout cX12_clearLayout 3 none ∈ kdtb := kdtb_mem 1334 (by decide +kernel) rfl
theorem w_ml_X12_172 : Cond.methodLink RX12 172 yX12_clearLayout ∈ kdtb := kdtb_mem 1331 (by decide +kernel) rfl
theorem w_im_X12_clearLayout : Cond.instanceMethod yX12_clearLayout ∈ kdtb := kdtb_mem 1333 (by decide +kernel) rfl
theorem w_se_X12_clearLayout : Cond.selects yX12_clearLayout.cls yX12_clearLayout yX12_clearLayout ∈ kdtb := kdtb_mem 39 (by decide +kernel) rfl
theorem w_cd_X12_isSymbol : Cond.code yX12_isSymbol cX12_isSymbol 2 (some .boolean) ∈ kdtb := kdtb_mem 1857 (by decide +kernel) rfl
theorem w_ml_X12_377 : Cond.methodLink RX12 377 yX12_isSymbol ∈ kdtb := kdtb_mem 1854 (by decide +kernel) rfl
theorem w_im_X12_isSymbol : Cond.instanceMethod yX12_isSymbol ∈ kdtb := kdtb_mem 1856 (by decide +kernel) rfl
theorem w_se_X12_isSymbol : Cond.selects yX12_isSymbol.cls yX12_isSymbol yX12_isSymbol ∈ kdtb := kdtb_mem 70 (by decide +kernel) rfl
theorem w_cl_X12_380 : Cond.constantLong RX12 380 (4) ∈ kdtb := kdtb_mem 1858 (by decide +kernel) rfl
theorem w_cl_X12_382 : Cond.constantLong RX12 382 (99) ∈ kdtb := kdtb_mem 1859 (by decide +kernel) rfl
theorem w_cl_X12_384 : Cond.constantLong RX12 384 (50) ∈ kdtb := kdtb_mem 1864 (by decide +kernel) rfl
theorem w_fl_X12_157 : Cond.fieldLink RX12 157 "KeyDeskModel" "same" "I" ∈ kdtb := kdtb_mem 1395 (by decide +kernel) rfl
theorem w_fl_X12_160 : Cond.fieldLink RX12 160 "KeyDeskModel" "places" "[I" ∈ kdtb := kdtb_mem 1396 (by decide +kernel) rfl
theorem w_ct_X12_386 : Cond.constant RX12 386 (99999999) ∈ kdtb := kdtb_mem 1877 (by decide +kernel) rfl
theorem w_cd_X12_lay : Cond.code yX12_lay cX12_lay 5 (some .boolean) ∈ kdtb := kdtb_mem 1876 (by decide +kernel) rfl
theorem w_ml_X12_387 : Cond.methodLink RX12 387 yX12_lay ∈ kdtb := kdtb_mem 1873 (by decide +kernel) rfl
theorem w_im_X12_lay : Cond.instanceMethod yX12_lay ∈ kdtb := kdtb_mem 1875 (by decide +kernel) rfl
theorem w_se_X12_lay : Cond.selects yX12_lay.cls yX12_lay yX12_lay ∈ kdtb := kdtb_mem 71 (by decide +kernel) rfl
theorem w_cd_X12_costOf : Cond.code yX12_costOf cX12_costOf 5 (some .int) ∈ kdtb := kdtb_mem 1881 (by decide +kernel) rfl
theorem w_ml_X12_390 : Cond.methodLink RX12 390 yX12_costOf ∈ kdtb := kdtb_mem 1878 (by decide +kernel) rfl
theorem w_im_X12_costOf : Cond.instanceMethod yX12_costOf ∈ kdtb := kdtb_mem 1880 (by decide +kernel) rfl
theorem w_se_X12_costOf : Cond.selects yX12_costOf.cls yX12_costOf yX12_costOf ∈ kdtb := kdtb_mem 72 (by decide +kernel) rfl
theorem w_cd_X12_exchange : Cond.code yX12_exchange cX12_exchange 4 none ∈ kdtb := kdtb_mem 1901 (by decide +kernel) rfl
theorem w_ml_X12_394 : Cond.methodLink RX12 394 yX12_exchange ∈ kdtb := kdtb_mem 1898 (by decide +kernel) rfl
theorem w_im_X12_exchange : Cond.instanceMethod yX12_exchange ∈ kdtb := kdtb_mem 1900 (by decide +kernel) rfl
theorem w_se_X12_exchange : Cond.selects yX12_exchange.cls yX12_exchange yX12_exchange ∈ kdtb := kdtb_mem 76 (by decide +kernel) rfl
theorem w_cd_X12_next : Cond.code yX12_next cX12_next 5 (some .boolean) ∈ kdtb := kdtb_mem 1897 (by decide +kernel) rfl
theorem w_ml_X12_404 : Cond.methodLink RX12 404 yX12_next ∈ kdtb := kdtb_mem 1894 (by decide +kernel) rfl
theorem w_im_X12_next : Cond.instanceMethod yX12_next ∈ kdtb := kdtb_mem 1896 (by decide +kernel) rfl
theorem w_se_X12_next : Cond.selects yX12_next.cls yX12_next yX12_next ∈ kdtb := kdtb_mem 75 (by decide +kernel) rfl
theorem w_cd_X12_digits : Cond.code yX12_digits cX12_digits 3 (some .int) ∈ kdtb := kdtb_mem 1893 (by decide +kernel) rfl
theorem w_ml_X12_401 : Cond.methodLink RX12 401 yX12_digits ∈ kdtb := kdtb_mem 1890 (by decide +kernel) rfl
theorem w_im_X12_digits : Cond.instanceMethod yX12_digits ∈ kdtb := kdtb_mem 1892 (by decide +kernel) rfl
theorem w_se_X12_digits : Cond.selects yX12_digits.cls yX12_digits yX12_digits ∈ kdtb := kdtb_mem 74 (by decide +kernel) rfl
theorem w_cd_X12_layFirst : Cond.code yX12_layFirst cX12_layFirst 2 none ∈ kdtb := kdtb_mem 1889 (by decide +kernel) rfl
theorem w_ml_X12_398 : Cond.methodLink RX12 398 yX12_layFirst ∈ kdtb := kdtb_mem 1886 (by decide +kernel) rfl
theorem w_im_X12_layFirst : Cond.instanceMethod yX12_layFirst ∈ kdtb := kdtb_mem 1888 (by decide +kernel) rfl
theorem w_se_X12_layFirst : Cond.selects yX12_layFirst.cls yX12_layFirst yX12_layFirst ∈ kdtb := kdtb_mem 73 (by decide +kernel) rfl
theorem w_fl_X12_163 : Cond.fieldLink RX12 163 "KeyDeskModel" "layouts" "[I" ∈ kdtb := kdtb_mem 1397 (by decide +kernel) rfl
theorem w_fl_X12_408 : Cond.fieldLink RX12 408 "KeyDeskModel" "layoutMany" "I" ∈ kdtb := kdtb_mem 1400 (by decide +kernel) rfl
theorem w_fl_X12_166 : Cond.fieldLink RX12 166 "KeyDeskModel" "layoutCost" "[I" ∈ kdtb := kdtb_mem 1398 (by decide +kernel) rfl
theorem w_fl_X12_169 : Cond.fieldLink RX12 169 "KeyDeskModel" "stepsTo" "[I" ∈ kdtb := kdtb_mem 1399 (by decide +kernel) rfl
theorem w_cd_X12_areOneApart : Cond.code yX12_areOneApart cX12_areOneApart 7 (some .boolean) ∈ kdtb := kdtb_mem 1933 (by decide +kernel) rfl
theorem w_ml_X12_411 : Cond.methodLink RX12 411 yX12_areOneApart ∈ kdtb := kdtb_mem 1930 (by decide +kernel) rfl
theorem w_im_X12_areOneApart : Cond.instanceMethod yX12_areOneApart ∈ kdtb := kdtb_mem 1932 (by decide +kernel) rfl
theorem w_se_X12_areOneApart : Cond.selects yX12_areOneApart.cls yX12_areOneApart yX12_areOneApart ∈ kdtb := kdtb_mem 81 (by decide +kernel) rfl
theorem w_cd_X12_findSteps : Cond.code yX12_findSteps cX12_findSteps 7 none ∈ kdtb := kdtb_mem 1929 (by decide +kernel) rfl
theorem w_ml_X12_414 : Cond.methodLink RX12 414 yX12_findSteps ∈ kdtb := kdtb_mem 1926 (by decide +kernel) rfl
theorem w_im_X12_findSteps : Cond.instanceMethod yX12_findSteps ∈ kdtb := kdtb_mem 1928 (by decide +kernel) rfl
theorem w_se_X12_findSteps : Cond.selects yX12_findSteps.cls yX12_findSteps yX12_findSteps ∈ kdtb := kdtb_mem 80 (by decide +kernel) rfl
theorem w_cd_X12_findLayouts : Cond.code yX12_findLayouts cX12_findLayouts 2 none ∈ kdtb := kdtb_mem 1917 (by decide +kernel) rfl
theorem w_ml_X12_417 : Cond.methodLink RX12 417 yX12_findLayouts ∈ kdtb := kdtb_mem 1914 (by decide +kernel) rfl
theorem w_im_X12_findLayouts : Cond.instanceMethod yX12_findLayouts ∈ kdtb := kdtb_mem 1916 (by decide +kernel) rfl
theorem w_se_X12_findLayouts : Cond.selects yX12_findLayouts.cls yX12_findLayouts yX12_findLayouts ∈ kdtb := kdtb_mem 77 (by decide +kernel) rfl
theorem w_cd_X12_indexOf : Cond.code yX12_indexOf cX12_indexOf 3 (some .int) ∈ kdtb := kdtb_mem 1921 (by decide +kernel) rfl
theorem w_ml_X12_420 : Cond.methodLink RX12 420 yX12_indexOf ∈ kdtb := kdtb_mem 1918 (by decide +kernel) rfl
theorem w_im_X12_indexOf : Cond.instanceMethod yX12_indexOf ∈ kdtb := kdtb_mem 1920 (by decide +kernel) rfl
theorem w_se_X12_indexOf : Cond.selects yX12_indexOf.cls yX12_indexOf yX12_indexOf ∈ kdtb := kdtb_mem 78 (by decide +kernel) rfl
theorem w_cd_X12_leastMost : Cond.code yX12_leastMost cX12_leastMost 6 (some .int) ∈ kdtb := kdtb_mem 1925 (by decide +kernel) rfl
theorem w_ml_X12_423 : Cond.methodLink RX12 423 yX12_leastMost ∈ kdtb := kdtb_mem 1922 (by decide +kernel) rfl
theorem w_im_X12_leastMost : Cond.instanceMethod yX12_leastMost ∈ kdtb := kdtb_mem 1924 (by decide +kernel) rfl
theorem w_se_X12_leastMost : Cond.selects yX12_leastMost.cls yX12_leastMost yX12_leastMost ∈ kdtb := kdtb_mem 79 (by decide +kernel) rfl
theorem w_cl_X12_426 : Cond.constantLong RX12 426 (10) ∈ kdtb := kdtb_mem 1938 (by decide +kernel) rfl
theorem w_cl_X12_428 : Cond.constantLong RX12 428 (12) ∈ kdtb := kdtb_mem 1939 (by decide +kernel) rfl
theorem w_cl_X12_430 : Cond.constantLong RX12 430 (22) ∈ kdtb := kdtb_mem 1940 (by decide +kernel) rfl
theorem w_cl_X12_432 : Cond.constantLong RX12 432 (30) ∈ kdtb := kdtb_mem 1941 (by decide +kernel) rfl
theorem w_cl_X12_434 : Cond.constantLong RX12 434 (33) ∈ kdtb := kdtb_mem 1942 (by decide +kernel) rfl
theorem kd_in_X0 : ∀ w ∈ u_ws RX0 TX0 8, w ∈ kdtb := by decide +kernel
theorem kd_in_X1 : ∀ w ∈ u_ws RX1 TX1 3, w ∈ kdtb := by decide +kernel
theorem kd_in_X2 : ∀ w ∈ u_ws RX2 TX2 6, w ∈ kdtb := by decide +kernel
theorem kd_in_X3 : ∀ w ∈ u_ws RX3 TX3 9, w ∈ kdtb := by decide +kernel
theorem kd_in_X4 : ∀ w ∈ u_ws RX4 TX4 5, w ∈ kdtb := by decide +kernel
theorem kd_in_X5 : ∀ w ∈ u_ws RX5 TX5 9, w ∈ kdtb := by decide +kernel
theorem kd_in_X6 : ∀ w ∈ u_ws RX6 TX6 2, w ∈ kdtb := by decide +kernel
theorem kd_in_X7 : ∀ w ∈ u_ws RX7 TX7 2, w ∈ kdtb := by decide +kernel
theorem kd_in_X8 : ∀ w ∈ u_ws RX8 TX8 8, w ∈ kdtb := by decide +kernel
theorem kd_in_X9 : ∀ w ∈ u_ws RX9 TX9 12, w ∈ kdtb := by decide +kernel
theorem kd_in_X10 : ∀ w ∈ u_ws RX10 TX10 4, w ∈ kdtb := by decide +kernel
theorem kd_in_X11 : ∀ w ∈ u_ws RX11 TX11 12, w ∈ kdtb := by decide +kernel
theorem kd_in_X12 : ∀ w ∈ u_ws RX12 TX12 66, w ∈ kdtb := by decide +kernel
theorem kf_X6_21 : kdF RX6 21 6 1 := ⟨RX6, TX6, 2, rfl, by decide, w_fl_X6_21, rfl, kd_in_X6, nmX6, tyX6, tyX6_ok, fun _ _ => rfl⟩
theorem kf_X6_15 : kdF RX6 15 6 0 := ⟨RX6, TX6, 2, rfl, by decide, w_fl_X6_15, rfl, kd_in_X6, nmX6, tyX6, tyX6_ok, fun h => absurd h (by decide +kernel)⟩
theorem kf_X8_40 : kdF RX8 40 8 2 := ⟨RX8, TX8, 8, rfl, by decide, w_fl_X8_40, rfl, kd_in_X8, nmX8, tyX8, tyX8_ok, fun _ _ => rfl⟩
theorem kf_X8_30 : kdF RX8 30 8 5 := ⟨RX8, TX8, 8, rfl, by decide, w_fl_X8_30, rfl, kd_in_X8, nmX8, tyX8, tyX8_ok, fun h => absurd h (by decide +kernel)⟩
theorem kf_X8_11 : kdF RX8 11 8 0 := ⟨RX8, TX8, 8, rfl, by decide, w_fl_X8_11, rfl, kd_in_X8, nmX8, tyX8, tyX8_ok, fun h => absurd h (by decide +kernel)⟩
theorem kf_X8_17 : kdF RX8 17 8 1 := ⟨RX8, TX8, 8, rfl, by decide, w_fl_X8_17, rfl, kd_in_X8, nmX8, tyX8, tyX8_ok, fun h => absurd h (by decide +kernel)⟩
theorem kf_X8_23 : kdF RX8 23 8 3 := ⟨RX8, TX8, 8, rfl, by decide, w_fl_X8_23, rfl, kd_in_X8, nmX8, tyX8, tyX8_ok, fun h => absurd h (by decide +kernel)⟩
theorem kf_X8_27 : kdF RX8 27 8 4 := ⟨RX8, TX8, 8, rfl, by decide, w_fl_X8_27, rfl, kd_in_X8, nmX8, tyX8, tyX8_ok, fun h => absurd h (by decide +kernel)⟩
theorem kf_X8_33 : kdF RX8 33 8 6 := ⟨RX8, TX8, 8, rfl, by decide, w_fl_X8_33, rfl, kd_in_X8, nmX8, tyX8, tyX8_ok, fun h => absurd h (by decide +kernel)⟩
theorem kf_X8_37 : kdF RX8 37 8 7 := ⟨RX8, TX8, 8, rfl, by decide, w_fl_X8_37, rfl, kd_in_X8, nmX8, tyX8, tyX8_ok, fun h => absurd h (by decide +kernel)⟩
theorem kf_X4_14 : kdF RX4 14 4 0 := ⟨RX4, TX4, 5, rfl, by decide, w_fl_X4_14, rfl, kd_in_X4, nmX4, tyX4, tyX4_ok, fun h => absurd h (by decide +kernel)⟩
theorem kf_X4_26 : kdF RX4 26 4 3 := ⟨RX4, TX4, 5, rfl, by decide, w_fl_X4_26, rfl, kd_in_X4, nmX4, tyX4, tyX4_ok, fun h => absurd h (by decide +kernel)⟩
theorem kf_X4_29 : kdF RX4 29 4 4 := ⟨RX4, TX4, 5, rfl, by decide, w_fl_X4_29, rfl, kd_in_X4, nmX4, tyX4, tyX4_ok, fun _ _ => rfl⟩
theorem kf_X4_23 : kdF RX4 23 4 2 := ⟨RX4, TX4, 5, rfl, by decide, w_fl_X4_23, rfl, kd_in_X4, nmX4, tyX4, tyX4_ok, fun h => absurd h (by decide +kernel)⟩
theorem kf_X4_20 : kdF RX4 20 4 1 := ⟨RX4, TX4, 5, rfl, by decide, w_fl_X4_20, rfl, kd_in_X4, nmX4, tyX4, tyX4_ok, fun h => absurd h (by decide +kernel)⟩
theorem kf_X10_14 : kdF RX10 14 10 0 := ⟨RX10, TX10, 4, rfl, by decide, w_fl_X10_14, rfl, kd_in_X10, nmX10, tyX10, tyX10_ok, fun h => absurd h (by decide +kernel)⟩
theorem kf_X10_20 : kdF RX10 20 10 1 := ⟨RX10, TX10, 4, rfl, by decide, w_fl_X10_20, rfl, kd_in_X10, nmX10, tyX10, tyX10_ok, fun h => absurd h (by decide +kernel)⟩
theorem kf_X10_23 : kdF RX10 23 10 2 := ⟨RX10, TX10, 4, rfl, by decide, w_fl_X10_23, rfl, kd_in_X10, nmX10, tyX10, tyX10_ok, fun h => absurd h (by decide +kernel)⟩
theorem kf_X10_26 : kdF RX10 26 10 3 := ⟨RX10, TX10, 4, rfl, by decide, w_fl_X10_26, rfl, kd_in_X10, nmX10, tyX10, tyX10_ok, fun h => absurd h (by decide +kernel)⟩
theorem kf_X7_9 : kdF RX7 9 7 0 := ⟨RX7, TX7, 2, rfl, by decide, w_fl_X7_9, rfl, kd_in_X7, nmX7, tyX7, tyX7_ok, fun h => absurd h (by decide +kernel)⟩
theorem kf_X7_17 : kdF RX7 17 7 1 := ⟨RX7, TX7, 2, rfl, by decide, w_fl_X7_17, rfl, kd_in_X7, nmX7, tyX7, tyX7_ok, fun h => absurd h (by decide +kernel)⟩
theorem kf_X1_14 : kdF RX1 14 1 0 := ⟨RX1, TX1, 3, rfl, by decide, w_fl_X1_14, rfl, kd_in_X1, nmX1, tyX1, tyX1_ok, fun h => absurd h (by decide +kernel)⟩
theorem kf_X1_20 : kdF RX1 20 1 1 := ⟨RX1, TX1, 3, rfl, by decide, w_fl_X1_20, rfl, kd_in_X1, nmX1, tyX1, tyX1_ok, fun h => absurd h (by decide +kernel)⟩
theorem kf_X1_23 : kdF RX1 23 1 2 := ⟨RX1, TX1, 3, rfl, by decide, w_fl_X1_23, rfl, kd_in_X1, nmX1, tyX1, tyX1_ok, fun h => absurd h (by decide +kernel)⟩
theorem kf_X5_44 : kdF RX5 44 5 8 := ⟨RX5, TX5, 9, rfl, by decide, w_fl_X5_44, rfl, kd_in_X5, nmX5, tyX5, tyX5_ok, fun _ _ => rfl⟩
theorem kf_X5_29 : kdF RX5 29 5 6 := ⟨RX5, TX5, 9, rfl, by decide, w_fl_X5_29, rfl, kd_in_X5, nmX5, tyX5, tyX5_ok, fun h => absurd h (by decide +kernel)⟩
theorem kf_X5_33 : kdF RX5 33 5 7 := ⟨RX5, TX5, 9, rfl, by decide, w_fl_X5_33, rfl, kd_in_X5, nmX5, tyX5, tyX5_ok, fun h => absurd h (by decide +kernel)⟩
theorem kf_X5_11 : kdF RX5 11 5 2 := ⟨RX5, TX5, 9, rfl, by decide, w_fl_X5_11, rfl, kd_in_X5, nmX5, tyX5, tyX5_ok, fun h => absurd h (by decide +kernel)⟩
theorem kf_X5_15 : kdF RX5 15 5 3 := ⟨RX5, TX5, 9, rfl, by decide, w_fl_X5_15, rfl, kd_in_X5, nmX5, tyX5, tyX5_ok, fun h => absurd h (by decide +kernel)⟩
theorem kf_X5_18 : kdF RX5 18 5 4 := ⟨RX5, TX5, 9, rfl, by decide, w_fl_X5_18, rfl, kd_in_X5, nmX5, tyX5, tyX5_ok, fun h => absurd h (by decide +kernel)⟩
theorem kf_X5_21 : kdF RX5 21 5 5 := ⟨RX5, TX5, 9, rfl, by decide, w_fl_X5_21, rfl, kd_in_X5, nmX5, tyX5, tyX5_ok, fun h => absurd h (by decide +kernel)⟩
theorem kf_X5_36 : kdF RX5 36 5 0 := ⟨RX5, TX5, 9, rfl, by decide, w_fl_X5_36, rfl, kd_in_X5, nmX5, tyX5, tyX5_ok, fun h => absurd h (by decide +kernel)⟩
theorem kf_X5_40 : kdF RX5 40 5 1 := ⟨RX5, TX5, 9, rfl, by decide, w_fl_X5_40, rfl, kd_in_X5, nmX5, tyX5, tyX5_ok, fun h => absurd h (by decide +kernel)⟩
theorem kf_X0_43 : kdF RX0 43 0 2 := ⟨RX0, TX0, 8, rfl, by decide, w_fl_X0_43, rfl, kd_in_X0, nmX0, tyX0, tyX0_ok, fun _ _ => rfl⟩
theorem kf_X0_11 : kdF RX0 11 0 1 := ⟨RX0, TX0, 8, rfl, by decide, w_fl_X0_11, rfl, kd_in_X0, nmX0, tyX0, tyX0_ok, fun h => absurd h (by decide +kernel)⟩
theorem kf_X0_21 : kdF RX0 21 0 3 := ⟨RX0, TX0, 8, rfl, by decide, w_fl_X0_21, rfl, kd_in_X0, nmX0, tyX0, tyX0_ok, fun h => absurd h (by decide +kernel)⟩
theorem kf_X0_25 : kdF RX0 25 0 4 := ⟨RX0, TX0, 8, rfl, by decide, w_fl_X0_25, rfl, kd_in_X0, nmX0, tyX0, tyX0_ok, fun h => absurd h (by decide +kernel)⟩
theorem kf_X0_28 : kdF RX0 28 0 5 := ⟨RX0, TX0, 8, rfl, by decide, w_fl_X0_28, rfl, kd_in_X0, nmX0, tyX0, tyX0_ok, fun h => absurd h (by decide +kernel)⟩
theorem kf_X0_39 : kdF RX0 39 0 0 := ⟨RX0, TX0, 8, rfl, by decide, w_fl_X0_39, rfl, kd_in_X0, nmX0, tyX0, tyX0_ok, fun h => absurd h (by decide +kernel)⟩
theorem kf_X0_33 : kdF RX0 33 0 6 := ⟨RX0, TX0, 8, rfl, by decide, w_fl_X0_33, rfl, kd_in_X0, nmX0, tyX0, tyX0_ok, fun h => absurd h (by decide +kernel)⟩
theorem kf_X0_36 : kdF RX0 36 0 7 := ⟨RX0, TX0, 8, rfl, by decide, w_fl_X0_36, rfl, kd_in_X0, nmX0, tyX0, tyX0_ok, fun h => absurd h (by decide +kernel)⟩
theorem kf_X2_14 : kdF RX2 14 2 0 := ⟨RX2, TX2, 6, rfl, by decide, w_fl_X2_14, rfl, kd_in_X2, nmX2, tyX2, tyX2_ok, fun h => absurd h (by decide +kernel)⟩
theorem kf_X2_20 : kdF RX2 20 2 1 := ⟨RX2, TX2, 6, rfl, by decide, w_fl_X2_20, rfl, kd_in_X2, nmX2, tyX2, tyX2_ok, fun h => absurd h (by decide +kernel)⟩
theorem kf_X2_23 : kdF RX2 23 2 2 := ⟨RX2, TX2, 6, rfl, by decide, w_fl_X2_23, rfl, kd_in_X2, nmX2, tyX2, tyX2_ok, fun h => absurd h (by decide +kernel)⟩
theorem kf_X2_30 : kdF RX2 30 2 4 := ⟨RX2, TX2, 6, rfl, by decide, w_fl_X2_30, rfl, kd_in_X2, nmX2, tyX2, tyX2_ok, fun _ _ => rfl⟩
theorem kf_X2_26 : kdF RX2 26 2 3 := ⟨RX2, TX2, 6, rfl, by decide, w_fl_X2_26, rfl, kd_in_X2, nmX2, tyX2, tyX2_ok, fun h => absurd h (by decide +kernel)⟩
theorem kf_X2_34 : kdF RX2 34 2 5 := ⟨RX2, TX2, 6, rfl, by decide, w_fl_X2_34, rfl, kd_in_X2, nmX2, tyX2, tyX2_ok, fun _ _ => rfl⟩
theorem kf_X3_37 : kdF RX3 37 3 0 := ⟨RX3, TX3, 9, rfl, by decide, w_fl_X3_37, rfl, kd_in_X3, nmX3, tyX3, tyX3_ok, fun _ _ => rfl⟩
theorem kf_X3_23 : kdF RX3 23 3 4 := ⟨RX3, TX3, 9, rfl, by decide, w_fl_X3_23, rfl, kd_in_X3, nmX3, tyX3, tyX3_ok, fun h => absurd h (by decide +kernel)⟩
theorem kf_X3_9 : kdF RX3 9 3 1 := ⟨RX3, TX3, 9, rfl, by decide, w_fl_X3_9, rfl, kd_in_X3, nmX3, tyX3, tyX3_ok, fun h => absurd h (by decide +kernel)⟩
theorem kf_X3_15 : kdF RX3 15 3 2 := ⟨RX3, TX3, 9, rfl, by decide, w_fl_X3_15, rfl, kd_in_X3, nmX3, tyX3, tyX3_ok, fun h => absurd h (by decide +kernel)⟩
theorem kf_X3_18 : kdF RX3 18 3 3 := ⟨RX3, TX3, 9, rfl, by decide, w_fl_X3_18, rfl, kd_in_X3, nmX3, tyX3, tyX3_ok, fun h => absurd h (by decide +kernel)⟩
theorem kf_X3_26 : kdF RX3 26 3 5 := ⟨RX3, TX3, 9, rfl, by decide, w_fl_X3_26, rfl, kd_in_X3, nmX3, tyX3, tyX3_ok, fun _ _ => rfl⟩
theorem kf_X3_30 : kdF RX3 30 3 6 := ⟨RX3, TX3, 9, rfl, by decide, w_fl_X3_30, rfl, kd_in_X3, nmX3, tyX3, tyX3_ok, fun h => absurd h (by decide +kernel)⟩
theorem kf_X3_56 : kdF RX3 56 3 7 := ⟨RX3, TX3, 9, rfl, by decide, w_fl_X3_56, rfl, kd_in_X3, nmX3, tyX3, tyX3_ok, fun _ _ => rfl⟩
theorem kf_X3_59 : kdF RX3 59 3 8 := ⟨RX3, TX3, 9, rfl, by decide, w_fl_X3_59, rfl, kd_in_X3, nmX3, tyX3, tyX3_ok, fun _ _ => rfl⟩
theorem kf_X9_47 : kdF RX9 47 9 11 := ⟨RX9, TX9, 12, rfl, by decide, w_fl_X9_47, rfl, kd_in_X9, nmX9, tyX9, tyX9_ok, fun _ _ => rfl⟩
theorem kf_X9_40 : kdF RX9 40 9 8 := ⟨RX9, TX9, 12, rfl, by decide, w_fl_X9_40, rfl, kd_in_X9, nmX9, tyX9, tyX9_ok, fun h => absurd h (by decide +kernel)⟩
theorem kf_X9_18 : kdF RX9 18 9 3 := ⟨RX9, TX9, 12, rfl, by decide, w_fl_X9_18, rfl, kd_in_X9, nmX9, tyX9, tyX9_ok, fun h => absurd h (by decide +kernel)⟩
theorem kf_X9_79 : kdF RX9 79 9 10 := ⟨RX9, TX9, 12, rfl, by decide, w_fl_X9_79, rfl, kd_in_X9, nmX9, tyX9, tyX9_ok, fun _ _ => rfl⟩
theorem kf_X9_28 : kdF RX9 28 9 6 := ⟨RX9, TX9, 12, rfl, by decide, w_fl_X9_28, rfl, kd_in_X9, nmX9, tyX9, tyX9_ok, fun h => absurd h (by decide +kernel)⟩
theorem kf_X9_15 : kdF RX9 15 9 2 := ⟨RX9, TX9, 12, rfl, by decide, w_fl_X9_15, rfl, kd_in_X9, nmX9, tyX9, tyX9_ok, fun h => absurd h (by decide +kernel)⟩
theorem kf_X9_36 : kdF RX9 36 9 7 := ⟨RX9, TX9, 12, rfl, by decide, w_fl_X9_36, rfl, kd_in_X9, nmX9, tyX9, tyX9_ok, fun h => absurd h (by decide +kernel)⟩
theorem kf_X9_74 : kdF RX9 74 9 9 := ⟨RX9, TX9, 12, rfl, by decide, w_fl_X9_74, rfl, kd_in_X9, nmX9, tyX9, tyX9_ok, fun _ _ => rfl⟩
theorem kf_X9_43 : kdF RX9 43 9 0 := ⟨RX9, TX9, 12, rfl, by decide, w_fl_X9_43, rfl, kd_in_X9, nmX9, tyX9, tyX9_ok, fun h => absurd h (by decide +kernel)⟩
theorem kf_X9_9 : kdF RX9 9 9 1 := ⟨RX9, TX9, 12, rfl, by decide, w_fl_X9_9, rfl, kd_in_X9, nmX9, tyX9, tyX9_ok, fun h => absurd h (by decide +kernel)⟩
theorem kf_X9_24 : kdF RX9 24 9 5 := ⟨RX9, TX9, 12, rfl, by decide, w_fl_X9_24, rfl, kd_in_X9, nmX9, tyX9, tyX9_ok, fun h => absurd h (by decide +kernel)⟩
theorem kf_X9_21 : kdF RX9 21 9 4 := ⟨RX9, TX9, 12, rfl, by decide, w_fl_X9_21, rfl, kd_in_X9, nmX9, tyX9, tyX9_ok, fun h => absurd h (by decide +kernel)⟩
theorem kf_X11_14 : kdF RX11 14 11 0 := ⟨RX11, TX11, 12, rfl, by decide, w_fl_X11_14, rfl, kd_in_X11, nmX11, tyX11, tyX11_ok, fun h => absurd h (by decide +kernel)⟩
theorem kf_X11_18 : kdF RX11 18 11 1 := ⟨RX11, TX11, 12, rfl, by decide, w_fl_X11_18, rfl, kd_in_X11, nmX11, tyX11, tyX11_ok, fun h => absurd h (by decide +kernel)⟩
theorem kf_X11_70 : kdF RX11 70 11 8 := ⟨RX11, TX11, 12, rfl, by decide, w_fl_X11_70, rfl, kd_in_X11, nmX11, tyX11, tyX11_ok, fun h => absurd h (by decide +kernel)⟩
theorem kf_X11_23 : kdF RX11 23 11 2 := ⟨RX11, TX11, 12, rfl, by decide, w_fl_X11_23, rfl, kd_in_X11, nmX11, tyX11, tyX11_ok, fun h => absurd h (by decide +kernel)⟩
theorem kf_X11_31 : kdF RX11 31 11 3 := ⟨RX11, TX11, 12, rfl, by decide, w_fl_X11_31, rfl, kd_in_X11, nmX11, tyX11, tyX11_ok, fun h => absurd h (by decide +kernel)⟩
theorem kf_X11_38 : kdF RX11 38 11 4 := ⟨RX11, TX11, 12, rfl, by decide, w_fl_X11_38, rfl, kd_in_X11, nmX11, tyX11, tyX11_ok, fun h => absurd h (by decide +kernel)⟩
theorem kf_X11_45 : kdF RX11 45 11 5 := ⟨RX11, TX11, 12, rfl, by decide, w_fl_X11_45, rfl, kd_in_X11, nmX11, tyX11, tyX11_ok, fun h => absurd h (by decide +kernel)⟩
theorem kf_X11_52 : kdF RX11 52 11 6 := ⟨RX11, TX11, 12, rfl, by decide, w_fl_X11_52, rfl, kd_in_X11, nmX11, tyX11, tyX11_ok, fun h => absurd h (by decide +kernel)⟩
theorem kf_X11_77 : kdF RX11 77 11 9 := ⟨RX11, TX11, 12, rfl, by decide, w_fl_X11_77, rfl, kd_in_X11, nmX11, tyX11, tyX11_ok, fun h => absurd h (by decide +kernel)⟩
theorem kf_X11_61 : kdF RX11 61 11 7 := ⟨RX11, TX11, 12, rfl, by decide, w_fl_X11_61, rfl, kd_in_X11, nmX11, tyX11, tyX11_ok, fun h => absurd h (by decide +kernel)⟩
theorem kf_X11_84 : kdF RX11 84 11 10 := ⟨RX11, TX11, 12, rfl, by decide, w_fl_X11_84, rfl, kd_in_X11, nmX11, tyX11, tyX11_ok, fun h => absurd h (by decide +kernel)⟩
theorem kf_X11_93 : kdF RX11 93 11 11 := ⟨RX11, TX11, 12, rfl, by decide, w_fl_X11_93, rfl, kd_in_X11, nmX11, tyX11, tyX11_ok, fun h => absurd h (by decide +kernel)⟩
theorem kf_X12_182 : kdF RX12 182 12 1 := ⟨RX12, TX12, 66, rfl, by decide, w_fl_X12_182, rfl, kd_in_X12, nmX12, tyX12, tyX12_ok, fun _ _ => rfl⟩
theorem kf_X12_7 : kdF RX12 7 12 0 := ⟨RX12, TX12, 66, rfl, by decide, w_fl_X12_7, rfl, kd_in_X12, nmX12, tyX12, tyX12_ok, fun h => absurd h (by decide +kernel)⟩
theorem kf_X12_187 : kdF RX12 187 12 3 := ⟨RX12, TX12, 66, rfl, by decide, w_fl_X12_187, rfl, kd_in_X12, nmX12, tyX12, tyX12_ok, fun _ _ => rfl⟩
theorem kf_X12_13 : kdF RX12 13 12 2 := ⟨RX12, TX12, 66, rfl, by decide, w_fl_X12_13, rfl, kd_in_X12, nmX12, tyX12, tyX12_ok, fun h => absurd h (by decide +kernel)⟩
theorem kf_X12_190 : kdF RX12 190 12 6 := ⟨RX12, TX12, 66, rfl, by decide, w_fl_X12_190, rfl, kd_in_X12, nmX12, tyX12, tyX12_ok, fun _ _ => rfl⟩
theorem kf_X12_26 : kdF RX12 26 12 8 := ⟨RX12, TX12, 66, rfl, by decide, w_fl_X12_26, rfl, kd_in_X12, nmX12, tyX12, tyX12_ok, fun h => absurd h (by decide +kernel)⟩
theorem kf_X12_32 : kdF RX12 32 12 10 := ⟨RX12, TX12, 66, rfl, by decide, w_fl_X12_32, rfl, kd_in_X12, nmX12, tyX12, tyX12_ok, fun h => absurd h (by decide +kernel)⟩
theorem kf_X12_35 : kdF RX12 35 12 11 := ⟨RX12, TX12, 66, rfl, by decide, w_fl_X12_35, rfl, kd_in_X12, nmX12, tyX12, tyX12_ok, fun h => absurd h (by decide +kernel)⟩
theorem kf_X12_29 : kdF RX12 29 12 9 := ⟨RX12, TX12, 66, rfl, by decide, w_fl_X12_29, rfl, kd_in_X12, nmX12, tyX12, tyX12_ok, fun h => absurd h (by decide +kernel)⟩
theorem kf_X12_23 : kdF RX12 23 12 7 := ⟨RX12, TX12, 66, rfl, by decide, w_fl_X12_23, rfl, kd_in_X12, nmX12, tyX12, tyX12_ok, fun h => absurd h (by decide +kernel)⟩
theorem kf_X12_41 : kdF RX12 41 12 13 := ⟨RX12, TX12, 66, rfl, by decide, w_fl_X12_41, rfl, kd_in_X12, nmX12, tyX12, tyX12_ok, fun h => absurd h (by decide +kernel)⟩
theorem kf_X12_38 : kdF RX12 38 12 12 := ⟨RX12, TX12, 66, rfl, by decide, w_fl_X12_38, rfl, kd_in_X12, nmX12, tyX12, tyX12_ok, fun h => absurd h (by decide +kernel)⟩
theorem kf_X12_44 : kdF RX12 44 12 14 := ⟨RX12, TX12, 66, rfl, by decide, w_fl_X12_44, rfl, kd_in_X12, nmX12, tyX12, tyX12_ok, fun h => absurd h (by decide +kernel)⟩
theorem kf_X12_47 : kdF RX12 47 12 15 := ⟨RX12, TX12, 66, rfl, by decide, w_fl_X12_47, rfl, kd_in_X12, nmX12, tyX12, tyX12_ok, fun h => absurd h (by decide +kernel)⟩
theorem kf_X12_215 : kdF RX12 215 12 18 := ⟨RX12, TX12, 66, rfl, by decide, w_fl_X12_215, rfl, kd_in_X12, nmX12, tyX12, tyX12_ok, fun _ _ => rfl⟩
theorem kf_X12_50 : kdF RX12 50 12 16 := ⟨RX12, TX12, 66, rfl, by decide, w_fl_X12_50, rfl, kd_in_X12, nmX12, tyX12, tyX12_ok, fun h => absurd h (by decide +kernel)⟩
theorem kf_X12_218 : kdF RX12 218 12 17 := ⟨RX12, TX12, 66, rfl, by decide, w_fl_X12_218, rfl, kd_in_X12, nmX12, tyX12, tyX12_ok, fun _ _ => rfl⟩
theorem kf_X12_224 : kdF RX12 224 12 23 := ⟨RX12, TX12, 66, rfl, by decide, w_fl_X12_224, rfl, kd_in_X12, nmX12, tyX12, tyX12_ok, fun _ _ => rfl⟩
theorem kf_X12_59 : kdF RX12 59 12 22 := ⟨RX12, TX12, 66, rfl, by decide, w_fl_X12_59, rfl, kd_in_X12, nmX12, tyX12, tyX12_ok, fun h => absurd h (by decide +kernel)⟩
theorem kf_X12_53 : kdF RX12 53 12 19 := ⟨RX12, TX12, 66, rfl, by decide, w_fl_X12_53, rfl, kd_in_X12, nmX12, tyX12, tyX12_ok, fun h => absurd h (by decide +kernel)⟩
theorem kf_X12_231 : kdF RX12 231 12 21 := ⟨RX12, TX12, 66, rfl, by decide, w_fl_X12_231, rfl, kd_in_X12, nmX12, tyX12, tyX12_ok, fun _ _ => rfl⟩
theorem kf_X12_56 : kdF RX12 56 12 20 := ⟨RX12, TX12, 66, rfl, by decide, w_fl_X12_56, rfl, kd_in_X12, nmX12, tyX12, tyX12_ok, fun h => absurd h (by decide +kernel)⟩
theorem kf_X12_244 : kdF RX12 244 12 29 := ⟨RX12, TX12, 66, rfl, by decide, w_fl_X12_244, rfl, kd_in_X12, nmX12, tyX12, tyX12_ok, fun _ _ => rfl⟩
theorem kf_X12_74 : kdF RX12 74 12 28 := ⟨RX12, TX12, 66, rfl, by decide, w_fl_X12_74, rfl, kd_in_X12, nmX12, tyX12, tyX12_ok, fun h => absurd h (by decide +kernel)⟩
theorem kf_X12_62 : kdF RX12 62 12 24 := ⟨RX12, TX12, 66, rfl, by decide, w_fl_X12_62, rfl, kd_in_X12, nmX12, tyX12, tyX12_ok, fun h => absurd h (by decide +kernel)⟩
theorem kf_X12_65 : kdF RX12 65 12 25 := ⟨RX12, TX12, 66, rfl, by decide, w_fl_X12_65, rfl, kd_in_X12, nmX12, tyX12, tyX12_ok, fun h => absurd h (by decide +kernel)⟩
theorem kf_X12_68 : kdF RX12 68 12 26 := ⟨RX12, TX12, 66, rfl, by decide, w_fl_X12_68, rfl, kd_in_X12, nmX12, tyX12, tyX12_ok, fun h => absurd h (by decide +kernel)⟩
theorem kf_X12_71 : kdF RX12 71 12 27 := ⟨RX12, TX12, 66, rfl, by decide, w_fl_X12_71, rfl, kd_in_X12, nmX12, tyX12, tyX12_ok, fun h => absurd h (by decide +kernel)⟩
theorem kf_X12_77 : kdF RX12 77 12 30 := ⟨RX12, TX12, 66, rfl, by decide, w_fl_X12_77, rfl, kd_in_X12, nmX12, tyX12, tyX12_ok, fun h => absurd h (by decide +kernel)⟩
theorem kf_X12_80 : kdF RX12 80 12 31 := ⟨RX12, TX12, 66, rfl, by decide, w_fl_X12_80, rfl, kd_in_X12, nmX12, tyX12, tyX12_ok, fun h => absurd h (by decide +kernel)⟩
theorem kf_X12_86 : kdF RX12 86 12 33 := ⟨RX12, TX12, 66, rfl, by decide, w_fl_X12_86, rfl, kd_in_X12, nmX12, tyX12, tyX12_ok, fun h => absurd h (by decide +kernel)⟩
theorem kf_X12_89 : kdF RX12 89 12 34 := ⟨RX12, TX12, 66, rfl, by decide, w_fl_X12_89, rfl, kd_in_X12, nmX12, tyX12, tyX12_ok, fun h => absurd h (by decide +kernel)⟩
theorem kf_X12_135 : kdF RX12 135 12 52 := ⟨RX12, TX12, 66, rfl, by decide, w_fl_X12_135, rfl, kd_in_X12, nmX12, tyX12, tyX12_ok, fun _ _ => rfl⟩
theorem kf_X12_360 : kdF RX12 360 12 51 := ⟨RX12, TX12, 66, rfl, by decide, w_fl_X12_360, rfl, kd_in_X12, nmX12, tyX12, tyX12_ok, fun _ _ => rfl⟩
theorem kf_X12_126 : kdF RX12 126 12 48 := ⟨RX12, TX12, 66, rfl, by decide, w_fl_X12_126, rfl, kd_in_X12, nmX12, tyX12, tyX12_ok, fun h => absurd h (by decide +kernel)⟩
theorem kf_X12_129 : kdF RX12 129 12 49 := ⟨RX12, TX12, 66, rfl, by decide, w_fl_X12_129, rfl, kd_in_X12, nmX12, tyX12, tyX12_ok, fun h => absurd h (by decide +kernel)⟩
theorem kf_X12_132 : kdF RX12 132 12 50 := ⟨RX12, TX12, 66, rfl, by decide, w_fl_X12_132, rfl, kd_in_X12, nmX12, tyX12, tyX12_ok, fun h => absurd h (by decide +kernel)⟩
theorem kf_X12_83 : kdF RX12 83 12 32 := ⟨RX12, TX12, 66, rfl, by decide, w_fl_X12_83, rfl, kd_in_X12, nmX12, tyX12, tyX12_ok, fun h => absurd h (by decide +kernel)⟩
theorem kf_X12_276 : kdF RX12 276 12 35 := ⟨RX12, TX12, 66, rfl, by decide, w_fl_X12_276, rfl, kd_in_X12, nmX12, tyX12, tyX12_ok, fun _ _ => rfl⟩
theorem kf_X12_108 : kdF RX12 108 12 41 := ⟨RX12, TX12, 66, rfl, by decide, w_fl_X12_108, rfl, kd_in_X12, nmX12, tyX12, tyX12_ok, fun h => absurd h (by decide +kernel)⟩
theorem kf_X12_92 : kdF RX12 92 12 36 := ⟨RX12, TX12, 66, rfl, by decide, w_fl_X12_92, rfl, kd_in_X12, nmX12, tyX12, tyX12_ok, fun h => absurd h (by decide +kernel)⟩
theorem kf_X12_95 : kdF RX12 95 12 37 := ⟨RX12, TX12, 66, rfl, by decide, w_fl_X12_95, rfl, kd_in_X12, nmX12, tyX12, tyX12_ok, fun h => absurd h (by decide +kernel)⟩
theorem kf_X12_99 : kdF RX12 99 12 38 := ⟨RX12, TX12, 66, rfl, by decide, w_fl_X12_99, rfl, kd_in_X12, nmX12, tyX12, tyX12_ok, fun h => absurd h (by decide +kernel)⟩
theorem kf_X12_105 : kdF RX12 105 12 40 := ⟨RX12, TX12, 66, rfl, by decide, w_fl_X12_105, rfl, kd_in_X12, nmX12, tyX12, tyX12_ok, fun h => absurd h (by decide +kernel)⟩
theorem kf_X12_102 : kdF RX12 102 12 39 := ⟨RX12, TX12, 66, rfl, by decide, w_fl_X12_102, rfl, kd_in_X12, nmX12, tyX12, tyX12_ok, fun h => absurd h (by decide +kernel)⟩
theorem kf_X12_330 : kdF RX12 330 12 45 := ⟨RX12, TX12, 66, rfl, by decide, w_fl_X12_330, rfl, kd_in_X12, nmX12, tyX12, tyX12_ok, fun _ _ => rfl⟩
theorem kf_X12_111 : kdF RX12 111 12 42 := ⟨RX12, TX12, 66, rfl, by decide, w_fl_X12_111, rfl, kd_in_X12, nmX12, tyX12, tyX12_ok, fun h => absurd h (by decide +kernel)⟩
theorem kf_X12_114 : kdF RX12 114 12 43 := ⟨RX12, TX12, 66, rfl, by decide, w_fl_X12_114, rfl, kd_in_X12, nmX12, tyX12, tyX12_ok, fun h => absurd h (by decide +kernel)⟩
theorem kf_X12_117 : kdF RX12 117 12 44 := ⟨RX12, TX12, 66, rfl, by decide, w_fl_X12_117, rfl, kd_in_X12, nmX12, tyX12, tyX12_ok, fun h => absurd h (by decide +kernel)⟩
theorem kf_X12_16 : kdF RX12 16 12 4 := ⟨RX12, TX12, 66, rfl, by decide, w_fl_X12_16, rfl, kd_in_X12, nmX12, tyX12, tyX12_ok, fun h => absurd h (by decide +kernel)⟩
theorem kf_X12_19 : kdF RX12 19 12 5 := ⟨RX12, TX12, 66, rfl, by decide, w_fl_X12_19, rfl, kd_in_X12, nmX12, tyX12, tyX12_ok, fun h => absurd h (by decide +kernel)⟩
theorem kf_X12_120 : kdF RX12 120 12 46 := ⟨RX12, TX12, 66, rfl, by decide, w_fl_X12_120, rfl, kd_in_X12, nmX12, tyX12, tyX12_ok, fun h => absurd h (by decide +kernel)⟩
theorem kf_X12_123 : kdF RX12 123 12 47 := ⟨RX12, TX12, 66, rfl, by decide, w_fl_X12_123, rfl, kd_in_X12, nmX12, tyX12, tyX12_ok, fun h => absurd h (by decide +kernel)⟩
theorem kf_X12_139 : kdF RX12 139 12 53 := ⟨RX12, TX12, 66, rfl, by decide, w_fl_X12_139, rfl, kd_in_X12, nmX12, tyX12, tyX12_ok, fun h => absurd h (by decide +kernel)⟩
theorem kf_X12_142 : kdF RX12 142 12 54 := ⟨RX12, TX12, 66, rfl, by decide, w_fl_X12_142, rfl, kd_in_X12, nmX12, tyX12, tyX12_ok, fun _ _ => rfl⟩
theorem kf_X12_154 : kdF RX12 154 12 59 := ⟨RX12, TX12, 66, rfl, by decide, w_fl_X12_154, rfl, kd_in_X12, nmX12, tyX12, tyX12_ok, fun h => absurd h (by decide +kernel)⟩
theorem kf_X12_145 : kdF RX12 145 12 56 := ⟨RX12, TX12, 66, rfl, by decide, w_fl_X12_145, rfl, kd_in_X12, nmX12, tyX12, tyX12_ok, fun h => absurd h (by decide +kernel)⟩
theorem kf_X12_148 : kdF RX12 148 12 57 := ⟨RX12, TX12, 66, rfl, by decide, w_fl_X12_148, rfl, kd_in_X12, nmX12, tyX12, tyX12_ok, fun h => absurd h (by decide +kernel)⟩
theorem kf_X12_151 : kdF RX12 151 12 58 := ⟨RX12, TX12, 66, rfl, by decide, w_fl_X12_151, rfl, kd_in_X12, nmX12, tyX12, tyX12_ok, fun h => absurd h (by decide +kernel)⟩
theorem kf_X12_374 : kdF RX12 374 12 55 := ⟨RX12, TX12, 66, rfl, by decide, w_fl_X12_374, rfl, kd_in_X12, nmX12, tyX12, tyX12_ok, fun _ _ => rfl⟩
theorem kf_X12_157 : kdF RX12 157 12 60 := ⟨RX12, TX12, 66, rfl, by decide, w_fl_X12_157, rfl, kd_in_X12, nmX12, tyX12, tyX12_ok, fun _ _ => rfl⟩
theorem kf_X12_160 : kdF RX12 160 12 61 := ⟨RX12, TX12, 66, rfl, by decide, w_fl_X12_160, rfl, kd_in_X12, nmX12, tyX12, tyX12_ok, fun h => absurd h (by decide +kernel)⟩
theorem kf_X12_163 : kdF RX12 163 12 62 := ⟨RX12, TX12, 66, rfl, by decide, w_fl_X12_163, rfl, kd_in_X12, nmX12, tyX12, tyX12_ok, fun h => absurd h (by decide +kernel)⟩
theorem kf_X12_408 : kdF RX12 408 12 65 := ⟨RX12, TX12, 66, rfl, by decide, w_fl_X12_408, rfl, kd_in_X12, nmX12, tyX12, tyX12_ok, fun _ _ => rfl⟩
theorem kf_X12_166 : kdF RX12 166 12 63 := ⟨RX12, TX12, 66, rfl, by decide, w_fl_X12_166, rfl, kd_in_X12, nmX12, tyX12, tyX12_ok, fun h => absurd h (by decide +kernel)⟩
theorem kf_X12_169 : kdF RX12 169 12 64 := ⟨RX12, TX12, 66, rfl, by decide, w_fl_X12_169, rfl, kd_in_X12, nmX12, tyX12, tyX12_ok, fun h => absurd h (by decide +kernel)⟩
theorem kl_X6_isFull : kdL yX6_isFull cX6_isFull 1 (some .boolean) 0 := ⟨w_cd_X6_isFull, w_in_X6, by decide +kernel, by decide +kernel, by decide⟩
theorem kl_X6_insert : kdL yX6_insert cX6_insert 4 none 2 := ⟨w_cd_X6_insert, w_in_X6, by decide +kernel, by decide +kernel, by decide⟩
theorem kl_X6_at : kdL yX6_at cX6_at 2 (some .int) 1 := ⟨w_cd_X6_at, w_in_X6, by decide +kernel, by decide +kernel, by decide⟩
theorem kl_X6_has : kdL yX6_has cX6_has 2 (some .boolean) 1 := ⟨w_cd_X6_has, w_in_X6, by decide +kernel, by decide +kernel, by decide⟩
theorem kl_X6_add : kdL yX6_add cX6_add 2 none 1 := ⟨w_cd_X6_add, w_in_X6, by decide +kernel, by decide +kernel, by decide⟩
theorem kl_X6_clear : kdL yX6_clear cX6_clear 2 (some .int) 0 := ⟨w_cd_X6_clear, w_in_X6, by decide +kernel, by decide +kernel, by decide⟩
theorem kl_X6_agrees : kdL yX6_agrees cX6_agrees 5 (some .boolean) 3 := ⟨w_cd_X6_agrees, w_in_X6, by decide +kernel, by decide +kernel, by decide⟩
theorem kl_X6_size : kdL yX6_size cX6_size 1 (some .int) 0 := ⟨w_cd_X6_size, w_in_X6, by decide +kernel, by decide +kernel, by decide⟩
theorem kl_X8_isFullOfRules : kdL yX8_isFullOfRules cX8_isFullOfRules 1 (some .boolean) 0 := ⟨w_cd_X8_isFullOfRules, w_in_X8, by decide +kernel, by decide +kernel, by decide⟩
theorem kl_X6_copy : kdL yX6_copy cX6_copy 3 none 1 := ⟨w_cd_X6_copy, w_in_X6, by decide +kernel, by decide +kernel, by decide⟩
theorem kl_X6_isLike : kdL yX6_isLike cX6_isLike 2 (some .boolean) 1 := ⟨w_cd_X6_isLike, w_in_X6, by decide +kernel, by decide +kernel, by decide⟩
theorem kl_X8_isIdle : kdL yX8_isIdle cX8_isIdle 3 (some .boolean) 1 := ⟨w_cd_X8_isIdle, w_in_X8, by decide +kernel, by decide +kernel, by decide⟩
theorem kl_X11_within : kdL yX11_within cX11_within 3 (some .boolean) 3 := ⟨w_cd_X11_within, w_in_X11, by decide +kernel, by decide +kernel, by decide⟩
theorem kl_X11_isLetter : kdL yX11_isLetter cX11_isLetter 1 (some .boolean) 1 := ⟨w_cd_X11_isLetter, w_in_X11, by decide +kernel, by decide +kernel, by decide⟩
theorem kl_X8_isMade : kdL yX8_isMade cX8_isMade 2 (some .boolean) 1 := ⟨w_cd_X8_isMade, w_in_X8, by decide +kernel, by decide +kernel, by decide⟩
theorem kl_X8_mark : kdL yX8_mark cX8_mark 2 none 1 := ⟨w_cd_X8_mark, w_in_X8, by decide +kernel, by decide +kernel, by decide⟩
theorem kl_X8_markJoints : kdL yX8_markJoints cX8_markJoints 2 none 0 := ⟨w_cd_X8_markJoints, w_in_X8, by decide +kernel, by decide +kernel, by decide⟩
theorem kl_X8_markLettersOf : kdL yX8_markLettersOf cX8_markLettersOf 3 none 1 := ⟨w_cd_X8_markLettersOf, w_in_X8, by decide +kernel, by decide +kernel, by decide⟩
theorem kl_X8_markMade : kdL yX8_markMade cX8_markMade 2 none 0 := ⟨w_cd_X8_markMade, w_in_X8, by decide +kernel, by decide +kernel, by decide⟩
theorem kl_X8_keysOfRule : kdL yX8_keysOfRule cX8_keysOfRule 2 (some (.object "KeyDesk$Row")) 1 := ⟨w_cd_X8_keysOfRule, w_in_X8, by decide +kernel, by decide +kernel, by decide⟩
theorem kl_X8_longestRule : kdL yX8_longestRule cX8_longestRule 7 (some .int) 2 := ⟨w_cd_X8_longestRule, w_in_X8, by decide +kernel, by decide +kernel, by decide⟩
theorem kl_X8_keysBehind : kdL yX8_keysBehind cX8_keysBehind 7 (some .int) 2 := ⟨w_cd_X8_keysBehind, w_in_X8, by decide +kernel, by decide +kernel, by decide⟩
theorem kl_X4_cut : kdL yX4_cut cX4_cut 4 none 1 := ⟨w_cd_X4_cut, w_in_X4, by decide +kernel, by decide +kernel, by decide⟩
theorem kl_X6_isEmpty : kdL yX6_isEmpty cX6_isEmpty 1 (some .boolean) 0 := ⟨w_cd_X6_isEmpty, w_in_X6, by decide +kernel, by decide +kernel, by decide⟩
theorem kl_X8_joined : kdL yX8_joined cX8_joined 4 (some .int) 2 := ⟨w_cd_X8_joined, w_in_X8, by decide +kernel, by decide +kernel, by decide⟩
theorem kl_X6_remove : kdL yX6_remove cX6_remove 4 (some .int) 1 := ⟨w_cd_X6_remove, w_in_X6, by decide +kernel, by decide +kernel, by decide⟩
theorem kl_X4_jointWithLast : kdL yX4_jointWithLast cX4_jointWithLast 3 (some .int) 2 := ⟨w_cd_X4_jointWithLast, w_in_X4, by decide +kernel, by decide +kernel, by decide⟩
theorem kl_X4_arrive : kdL yX4_arrive cX4_arrive 5 none 2 := ⟨w_cd_X4_arrive, w_in_X4, by decide +kernel, by decide +kernel, by decide⟩
theorem kl_X8_lettersOfRule : kdL yX8_lettersOfRule cX8_lettersOfRule 2 (some (.object "KeyDesk$Row")) 1 := ⟨w_cd_X8_lettersOfRule, w_in_X8, by decide +kernel, by decide +kernel, by decide⟩
theorem kl_X6_replace : kdL yX6_replace cX6_replace 4 (some .int) 2 := ⟨w_cd_X6_replace, w_in_X6, by decide +kernel, by decide +kernel, by decide⟩
theorem kl_X10_isFull : kdL yX10_isFull cX10_isFull 1 (some .boolean) 0 := ⟨w_cd_X10_isFull, w_in_X10, by decide +kernel, by decide +kernel, by decide⟩
theorem kl_X10_size : kdL yX10_size cX10_size 1 (some .int) 0 := ⟨w_cd_X10_size, w_in_X10, by decide +kernel, by decide +kernel, by decide⟩
theorem kl_X10_tongueOf : kdL yX10_tongueOf cX10_tongueOf 2 (some .int) 1 := ⟨w_cd_X10_tongueOf, w_in_X10, by decide +kernel, by decide +kernel, by decide⟩
theorem kl_X7_priceOfOne : kdL yX7_priceOfOne cX7_priceOfOne 5 (some .int) 2 := ⟨w_cd_X7_priceOfOne, w_in_X7, by decide +kernel, by decide +kernel, by decide⟩
theorem kl_X7_leastSum : kdL yX7_leastSum cX7_leastSum 9 (some .int) 5 := ⟨w_cd_X7_leastSum, w_in_X7, by decide +kernel, by decide +kernel, by decide⟩
theorem kl_X7_workOut : kdL yX7_workOut cX7_workOut 7 none 4 := ⟨w_cd_X7_workOut, w_in_X7, by decide +kernel, by decide +kernel, by decide⟩
theorem kl_X7_leastFor : kdL yX7_leastFor cX7_leastFor 3 (some .int) 2 := ⟨w_cd_X7_leastFor, w_in_X7, by decide +kernel, by decide +kernel, by decide⟩
theorem kl_X1_goesAhead : kdL yX1_goesAhead cX1_goesAhead 4 (some .boolean) 3 := ⟨w_cd_X1_goesAhead, w_in_X1, by decide +kernel, by decide +kernel, by decide⟩
theorem kl_X5_caseOf : kdL yX5_caseOf cX5_caseOf 3 (some .int) 3 := ⟨w_cd_X5_caseOf, w_in_X5, by decide +kernel, by decide +kernel, by decide⟩
theorem kl_X5_isBetter : kdL yX5_isBetter cX5_isBetter 4 (some .boolean) 3 := ⟨w_cd_X5_isBetter, w_in_X5, by decide +kernel, by decide +kernel, by decide⟩
theorem kl_X7_switchPrice : kdL yX7_switchPrice cX7_switchPrice 1 (some .int) 0 := ⟨w_cd_X7_switchPrice, w_in_X7, by decide +kernel, by decide +kernel, by decide⟩
theorem kl_X10_countOf : kdL yX10_countOf cX10_countOf 2 (some .int) 1 := ⟨w_cd_X10_countOf, w_in_X10, by decide +kernel, by decide +kernel, by decide⟩
theorem kl_X5_tryPiece : kdL yX5_tryPiece cX5_tryPiece 13 none 5 := ⟨w_cd_X5_tryPiece, w_in_X5, by decide +kernel, by decide +kernel, by decide⟩
theorem kl_X10_keysOf : kdL yX10_keysOf cX10_keysOf 2 (some (.object "KeyDesk$Row")) 1 := ⟨w_cd_X10_keysOf, w_in_X10, by decide +kernel, by decide +kernel, by decide⟩
theorem kl_X11_hasBit : kdL yX11_hasBit cX11_hasBit 2 (some .boolean) 2 := ⟨w_cd_X11_hasBit, w_in_X11, by decide +kernel, by decide +kernel, by decide⟩
theorem kl_X5_tryWord : kdL yX5_tryWord cX5_tryWord 8 none 3 := ⟨w_cd_X5_tryWord, w_in_X5, by decide +kernel, by decide +kernel, by decide⟩
theorem kl_X5_bestNumberOfPieces : kdL yX5_bestNumberOfPieces cX5_bestNumberOfPieces 4 (some .int) 0 := ⟨w_cd_X5_bestNumberOfPieces, w_in_X5, by decide +kernel, by decide +kernel, by decide⟩
theorem kl_X5_follow : kdL yX5_follow cX5_follow 6 none 1 := ⟨w_cd_X5_follow, w_in_X5, by decide +kernel, by decide +kernel, by decide⟩
theorem kl_X5_start : kdL yX5_start cX5_start 3 none 1 := ⟨w_cd_X5_start, w_in_X5, by decide +kernel, by decide +kernel, by decide⟩
theorem kl_X10_soundAlike : kdL yX10_soundAlike cX10_soundAlike 3 (some .boolean) 2 := ⟨w_cd_X10_soundAlike, w_in_X10, by decide +kernel, by decide +kernel, by decide⟩
theorem kl_X0_canStand : kdL yX0_canStand cX0_canStand 4 (some .boolean) 2 := ⟨w_cd_X0_canStand, w_in_X0, by decide +kernel, by decide +kernel, by decide⟩
theorem kl_X0_greatestBehind : kdL yX0_greatestBehind cX0_greatestBehind 8 (some .long) 2 := ⟨w_cd_X0_greatestBehind, w_in_X0, by decide +kernel, by decide +kernel, by decide⟩
theorem kl_X0_weighPlace : kdL yX0_weighPlace cX0_weighPlace 3 none 1 := ⟨w_cd_X0_weighPlace, w_in_X0, by decide +kernel, by decide +kernel, by decide⟩
theorem kl_X2_learnings : kdL yX2_learnings cX2_learnings 1 (some .int) 0 := ⟨w_cd_X2_learnings, w_in_X2, by decide +kernel, by decide +kernel, by decide⟩
theorem kl_X2_isOf : kdL yX2_isOf cX2_isOf 4 (some .boolean) 3 := ⟨w_cd_X2_isOf, w_in_X2, by decide +kernel, by decide +kernel, by decide⟩
theorem kl_X2_faded : kdL yX2_faded cX2_faded 5 (some .int) 1 := ⟨w_cd_X2_faded, w_in_X2, by decide +kernel, by decide +kernel, by decide⟩
theorem kl_X2_drawLot : kdL yX2_drawLot cX2_drawLot 2 (some .int) 1 := ⟨w_cd_X2_drawLot, w_in_X2, by decide +kernel, by decide +kernel, by decide⟩
theorem kl_X2_worthOf : kdL yX2_worthOf cX2_worthOf 6 (some .int) 3 := ⟨w_cd_X2_worthOf, w_in_X2, by decide +kernel, by decide +kernel, by decide⟩
theorem kl_X3_farness : kdL yX3_farness cX3_farness 3 (some .int) 2 := ⟨w_cd_X3_farness, w_in_X3, by decide +kernel, by decide +kernel, by decide⟩
theorem kl_X3_addedCost : kdL yX3_addedCost cX3_addedCost 5 (some .int) 1 := ⟨w_cd_X3_addedCost, w_in_X3, by decide +kernel, by decide +kernel, by decide⟩
theorem kl_X3_placeOnward : kdL yX3_placeOnward cX3_placeOnward 5 none 4 := ⟨w_cd_X3_placeOnward, w_in_X3, by decide +kernel, by decide +kernel, by decide⟩
theorem kl_X3_digits : kdL yX3_digits cX3_digits 3 (some .int) 0 := ⟨w_cd_X3_digits, w_in_X3, by decide +kernel, by decide +kernel, by decide⟩
theorem kl_X3_ranked : kdL yX3_ranked cX3_ranked 6 (some .int) 2 := ⟨w_cd_X3_ranked, w_in_X3, by decide +kernel, by decide +kernel, by decide⟩
theorem kl_X3_exchange : kdL yX3_exchange cX3_exchange 4 none 2 := ⟨w_cd_X3_exchange, w_in_X3, by decide +kernel, by decide +kernel, by decide⟩
theorem kl_X3_totalCost : kdL yX3_totalCost cX3_totalCost 3 (some .int) 0 := ⟨w_cd_X3_totalCost, w_in_X3, by decide +kernel, by decide +kernel, by decide⟩
theorem kl_X3_improveOnce : kdL yX3_improveOnce cX3_improveOnce 7 (some .boolean) 0 := ⟨w_cd_X3_improveOnce, w_in_X3, by decide +kernel, by decide +kernel, by decide⟩
theorem kl_X9_neighbour : kdL yX9_neighbour cX9_neighbour 3 (some .int) 2 := ⟨w_cd_X9_neighbour, w_in_X9, by decide +kernel, by decide +kernel, by decide⟩
theorem kl_X3_size : kdL yX3_size cX3_size 1 (some .int) 0 := ⟨w_cd_X3_size, w_in_X3, by decide +kernel, by decide +kernel, by decide⟩
theorem kl_X3_rank : kdL yX3_rank cX3_rank 5 (some .int) 0 := ⟨w_cd_X3_rank, w_in_X3, by decide +kernel, by decide +kernel, by decide⟩
theorem kl_X9_listNeighbours : kdL yX9_listNeighbours cX9_listNeighbours 5 none 1 := ⟨w_cd_X9_listNeighbours, w_in_X9, by decide +kernel, by decide +kernel, by decide⟩
theorem kl_X3_stepOn : kdL yX3_stepOn cX3_stepOn 5 (some .boolean) 0 := ⟨w_cd_X3_stepOn, w_in_X3, by decide +kernel, by decide +kernel, by decide⟩
theorem kl_X3_startAtFirst : kdL yX3_startAtFirst cX3_startAtFirst 2 none 0 := ⟨w_cd_X3_startAtFirst, w_in_X3, by decide +kernel, by decide +kernel, by decide⟩
theorem kl_X9_lowestUnsettled : kdL yX9_lowestUnsettled cX9_lowestUnsettled 3 (some .int) 0 := ⟨w_cd_X9_lowestUnsettled, w_in_X9, by decide +kernel, by decide +kernel, by decide⟩
theorem kl_X9_firstWith : kdL yX9_firstWith cX9_firstWith 6 (some .int) 2 := ⟨w_cd_X9_firstWith, w_in_X9, by decide +kernel, by decide +kernel, by decide⟩
theorem kl_X3_read : kdL yX3_read cX3_read 5 (some .boolean) 1 := ⟨w_cd_X3_read, w_in_X3, by decide +kernel, by decide +kernel, by decide⟩
theorem kl_X9_listLayouts : kdL yX9_listLayouts cX9_listLayouts 2 none 0 := ⟨w_cd_X9_listLayouts, w_in_X9, by decide +kernel, by decide +kernel, by decide⟩
theorem kl_X9_peakOfWay : kdL yX9_peakOfWay cX9_peakOfWay 7 (some .int) 2 := ⟨w_cd_X9_peakOfWay, w_in_X9, by decide +kernel, by decide +kernel, by decide⟩
theorem kl_X9_countSteps : kdL yX9_countSteps cX9_countSteps 6 none 1 := ⟨w_cd_X9_countSteps, w_in_X9, by decide +kernel, by decide +kernel, by decide⟩
theorem kl_X9_walk : kdL yX9_walk cX9_walk 4 none 1 := ⟨w_cd_X9_walk, w_in_X9, by decide +kernel, by decide +kernel, by decide⟩
theorem kl_X11_isKey : kdL yX11_isKey cX11_isKey 1 (some .boolean) 1 := ⟨w_cd_X11_isKey, w_in_X11, by decide +kernel, by decide +kernel, by decide⟩
theorem kl_X0_clearPad : kdL yX0_clearPad cX0_clearPad 1 (some .int) 0 := ⟨w_cd_X0_clearPad, w_in_X0, by decide +kernel, by decide +kernel, by decide⟩
theorem kl_X11_isTongue : kdL yX11_isTongue cX11_isTongue 1 (some .boolean) 1 := ⟨w_cd_X11_isTongue, w_in_X11, by decide +kernel, by decide +kernel, by decide⟩
theorem kl_X8_addRule : kdL yX8_addRule cX8_addRule 3 (some .int) 2 := ⟨w_cd_X8_addRule, w_in_X8, by decide +kernel, by decide +kernel, by decide⟩
theorem kl_X8_isFullOfJoins : kdL yX8_isFullOfJoins cX8_isFullOfJoins 1 (some .boolean) 0 := ⟨w_cd_X8_isFullOfJoins, w_in_X8, by decide +kernel, by decide +kernel, by decide⟩
theorem kl_X8_addJoin : kdL yX8_addJoin cX8_addJoin 4 (some .int) 3 := ⟨w_cd_X8_addJoin, w_in_X8, by decide +kernel, by decide +kernel, by decide⟩
theorem kl_X8_setLetter : kdL yX8_setLetter cX8_setLetter 4 (some .boolean) 2 := ⟨w_cd_X8_setLetter, w_in_X8, by decide +kernel, by decide +kernel, by decide⟩
theorem kl_X8_quarrelAt : kdL yX8_quarrelAt cX8_quarrelAt 5 (some .int) 1 := ⟨w_cd_X8_quarrelAt, w_in_X8, by decide +kernel, by decide +kernel, by decide⟩
theorem kl_X8_idleRules : kdL yX8_idleRules cX8_idleRules 3 (some .int) 0 := ⟨w_cd_X8_idleRules, w_in_X8, by decide +kernel, by decide +kernel, by decide⟩
theorem kl_X8_unusedKeys : kdL yX8_unusedKeys cX8_unusedKeys 4 (some .int) 0 := ⟨w_cd_X8_unusedKeys, w_in_X8, by decide +kernel, by decide +kernel, by decide⟩
theorem kl_X8_missingAt : kdL yX8_missingAt cX8_missingAt 4 (some .int) 1 := ⟨w_cd_X8_missingAt, w_in_X8, by decide +kernel, by decide +kernel, by decide⟩
theorem kl_X4_setTongue : kdL yX4_setTongue cX4_setTongue 3 (some .int) 1 := ⟨w_cd_X4_setTongue, w_in_X4, by decide +kernel, by decide +kernel, by decide⟩
theorem kl_X4_strokes : kdL yX4_strokes cX4_strokes 1 (some (.object "KeyDesk$Row")) 0 := ⟨w_cd_X4_strokes, w_in_X4, by decide +kernel, by decide +kernel, by decide⟩
theorem kl_X4_tongue : kdL yX4_tongue cX4_tongue 1 (some .int) 0 := ⟨w_cd_X4_tongue, w_in_X4, by decide +kernel, by decide +kernel, by decide⟩
theorem kl_X11_tongueOfLine : kdL yX11_tongueOfLine cX11_tongueOfLine 1 (some (.object "KeyDesk$Tongue")) 0 := ⟨w_cd_X11_tongueOfLine, w_in_X11, by decide +kernel, by decide +kernel, by decide⟩
theorem kl_X4_write : kdL yX4_write cX4_write 6 none 1 := ⟨w_cd_X4_write, w_in_X4, by decide +kernel, by decide +kernel, by decide⟩
theorem kl_X4_signs : kdL yX4_signs cX4_signs 1 (some (.object "KeyDesk$Row")) 0 := ⟨w_cd_X4_signs, w_in_X4, by decide +kernel, by decide +kernel, by decide⟩
theorem kl_X4_pieceAt : kdL yX4_pieceAt cX4_pieceAt 2 (some .int) 1 := ⟨w_cd_X4_pieceAt, w_in_X4, by decide +kernel, by decide +kernel, by decide⟩
theorem kl_X4_onward : kdL yX4_onward cX4_onward 3 (some .int) 1 := ⟨w_cd_X4_onward, w_in_X4, by decide +kernel, by decide +kernel, by decide⟩
theorem kl_X10_addWord : kdL yX10_addWord cX10_addWord 5 (some .int) 4 := ⟨w_cd_X10_addWord, w_in_X10, by decide +kernel, by decide +kernel, by decide⟩
theorem kl_X10_has : kdL yX10_has cX10_has 2 (some .boolean) 1 := ⟨w_cd_X10_has, w_in_X10, by decide +kernel, by decide +kernel, by decide⟩
theorem kl_X10_signOf : kdL yX10_signOf cX10_signOf 2 (some .int) 1 := ⟨w_cd_X10_signOf, w_in_X10, by decide +kernel, by decide +kernel, by decide⟩
theorem kl_X10_setCount : kdL yX10_setCount cX10_setCount 3 (some .int) 2 := ⟨w_cd_X10_setCount, w_in_X10, by decide +kernel, by decide +kernel, by decide⟩
theorem kl_X7_setPrice : kdL yX7_setPrice cX7_setPrice 4 (some .int) 2 := ⟨w_cd_X7_setPrice, w_in_X7, by decide +kernel, by decide +kernel, by decide⟩
theorem kl_X7_priceOf : kdL yX7_priceOf cX7_priceOf 3 (some .int) 2 := ⟨w_cd_X7_priceOf, w_in_X7, by decide +kernel, by decide +kernel, by decide⟩
theorem kl_X1_insert : kdL yX1_insert cX1_insert 5 none 3 := ⟨w_cd_X1_insert, w_in_X1, by decide +kernel, by decide +kernel, by decide⟩
theorem kl_X1_clear : kdL yX1_clear cX1_clear 1 none 0 := ⟨w_cd_X1_clear, w_in_X1, by decide +kernel, by decide +kernel, by decide⟩
theorem kl_X11_gather : kdL yX11_gather cX11_gather 7 none 4 := ⟨w_cd_X11_gather, w_in_X11, by decide +kernel, by decide +kernel, by decide⟩
theorem kl_X1_guessAt : kdL yX1_guessAt cX1_guessAt 2 (some .int) 1 := ⟨w_cd_X1_guessAt, w_in_X1, by decide +kernel, by decide +kernel, by decide⟩
theorem kl_X5_find : kdL yX5_find cX5_find 5 (some .boolean) 2 := ⟨w_cd_X5_find, w_in_X5, by decide +kernel, by decide +kernel, by decide⟩
theorem kl_X11_partPad : kdL yX11_partPad cX11_partPad 2 (some .int) 1 := ⟨w_cd_X11_partPad, w_in_X11, by decide +kernel, by decide +kernel, by decide⟩
theorem kl_X5_words : kdL yX5_words cX5_words 1 (some (.object "KeyDesk$Row")) 0 := ⟨w_cd_X5_words, w_in_X5, by decide +kernel, by decide +kernel, by decide⟩
theorem kl_X5_sum : kdL yX5_sum cX5_sum 1 (some .int) 0 := ⟨w_cd_X5_sum, w_in_X5, by decide +kernel, by decide +kernel, by decide⟩
theorem kl_X5_lengths : kdL yX5_lengths cX5_lengths 1 (some (.object "KeyDesk$Row")) 0 := ⟨w_cd_X5_lengths, w_in_X5, by decide +kernel, by decide +kernel, by decide⟩
theorem kl_X0_setTogether : kdL yX0_setTogether cX0_setTogether 5 (some .int) 3 := ⟨w_cd_X0_setTogether, w_in_X0, by decide +kernel, by decide +kernel, by decide⟩
theorem kl_X0_together : kdL yX0_together cX0_together 3 (some .int) 2 := ⟨w_cd_X0_together, w_in_X0, by decide +kernel, by decide +kernel, by decide⟩
theorem kl_X0_pairs : kdL yX0_pairs cX0_pairs 1 (some .int) 0 := ⟨w_cd_X0_pairs, w_in_X0, by decide +kernel, by decide +kernel, by decide⟩
theorem kl_X0_isPadFull : kdL yX0_isPadFull cX0_isPadFull 1 (some .boolean) 0 := ⟨w_cd_X0_isPadFull, w_in_X0, by decide +kernel, by decide +kernel, by decide⟩
theorem kl_X0_addToPad : kdL yX0_addToPad cX0_addToPad 3 (some .int) 2 := ⟨w_cd_X0_addToPad, w_in_X0, by decide +kernel, by decide +kernel, by decide⟩
theorem kl_X0_choose : kdL yX0_choose cX0_choose 4 (some .long) 0 := ⟨w_cd_X0_choose, w_in_X0, by decide +kernel, by decide +kernel, by decide⟩
theorem kl_X0_chosenWords : kdL yX0_chosenWords cX0_chosenWords 1 (some (.object "KeyDesk$Row")) 0 := ⟨w_cd_X0_chosenWords, w_in_X0, by decide +kernel, by decide +kernel, by decide⟩
theorem kl_X11_isHand : kdL yX11_isHand cX11_isHand 1 (some .boolean) 1 := ⟨w_cd_X11_isHand, w_in_X11, by decide +kernel, by decide +kernel, by decide⟩
theorem kl_X11_isDay : kdL yX11_isDay cX11_isDay 1 (some .boolean) 1 := ⟨w_cd_X11_isDay, w_in_X11, by decide +kernel, by decide +kernel, by decide⟩
theorem kl_X2_isFull : kdL yX2_isFull cX2_isFull 1 (some .boolean) 0 := ⟨w_cd_X2_isFull, w_in_X2, by decide +kernel, by decide +kernel, by decide⟩
theorem kl_X2_latestDay : kdL yX2_latestDay cX2_latestDay 4 (some .int) 1 := ⟨w_cd_X2_latestDay, w_in_X2, by decide +kernel, by decide +kernel, by decide⟩
theorem kl_X2_addLearning : kdL yX2_addLearning cX2_addLearning 4 (some .int) 3 := ⟨w_cd_X2_addLearning, w_in_X2, by decide +kernel, by decide +kernel, by decide⟩
theorem kl_X2_dropLearnings : kdL yX2_dropLearnings cX2_dropLearnings 5 (some .int) 2 := ⟨w_cd_X2_dropLearnings, w_in_X2, by decide +kernel, by decide +kernel, by decide⟩
theorem kl_X2_setFade : kdL yX2_setFade cX2_setFade 3 (some .int) 1 := ⟨w_cd_X2_setFade, w_in_X2, by decide +kernel, by decide +kernel, by decide⟩
theorem kl_X2_setBudget : kdL yX2_setBudget cX2_setBudget 4 (some .int) 2 := ⟨w_cd_X2_setBudget, w_in_X2, by decide +kernel, by decide +kernel, by decide⟩
theorem kl_X2_setSeed : kdL yX2_setSeed cX2_setSeed 3 (some .int) 1 := ⟨w_cd_X2_setSeed, w_in_X2, by decide +kernel, by decide +kernel, by decide⟩
theorem kl_X2_givers : kdL yX2_givers cX2_givers 4 (some .int) 1 := ⟨w_cd_X2_givers, w_in_X2, by decide +kernel, by decide +kernel, by decide⟩
theorem kl_X2_sumWithLot : kdL yX2_sumWithLot cX2_sumWithLot 6 (some .int) 3 := ⟨w_cd_X2_sumWithLot, w_in_X2, by decide +kernel, by decide +kernel, by decide⟩
theorem kl_X3_startAnew : kdL yX3_startAnew cX3_startAnew 5 (some .int) 1 := ⟨w_cd_X3_startAnew, w_in_X3, by decide +kernel, by decide +kernel, by decide⟩
theorem kl_X3_has : kdL yX3_has cX3_has 2 (some .boolean) 1 := ⟨w_cd_X3_has, w_in_X3, by decide +kernel, by decide +kernel, by decide⟩
theorem kl_X3_setEffort : kdL yX3_setEffort cX3_setEffort 4 (some .int) 2 := ⟨w_cd_X3_setEffort, w_in_X3, by decide +kernel, by decide +kernel, by decide⟩
theorem kl_X3_setFinger : kdL yX3_setFinger cX3_setFinger 4 (some .int) 2 := ⟨w_cd_X3_setFinger, w_in_X3, by decide +kernel, by decide +kernel, by decide⟩
theorem kl_X3_setLoad : kdL yX3_setLoad cX3_setLoad 4 (some .int) 2 := ⟨w_cd_X3_setLoad, w_in_X3, by decide +kernel, by decide +kernel, by decide⟩
theorem kl_X3_setPair : kdL yX3_setPair cX3_setPair 5 (some .int) 3 := ⟨w_cd_X3_setPair, w_in_X3, by decide +kernel, by decide +kernel, by decide⟩
theorem kl_X3_setSame : kdL yX3_setSame cX3_setSame 3 (some .int) 1 := ⟨w_cd_X3_setSame, w_in_X3, by decide +kernel, by decide +kernel, by decide⟩
theorem kl_X3_leastCostly : kdL yX3_leastCostly cX3_leastCostly 1 (some .int) 0 := ⟨w_cd_X3_leastCostly, w_in_X3, by decide +kernel, by decide +kernel, by decide⟩
theorem kl_X3_lowerBound : kdL yX3_lowerBound cX3_lowerBound 4 (some .int) 0 := ⟨w_cd_X3_lowerBound, w_in_X3, by decide +kernel, by decide +kernel, by decide⟩
theorem kl_X3_improve : kdL yX3_improve cX3_improve 2 (some .int) 0 := ⟨w_cd_X3_improve, w_in_X3, by decide +kernel, by decide +kernel, by decide⟩
theorem kl_X9_find : kdL yX9_find cX9_find 5 none 2 := ⟨w_cd_X9_find, w_in_X9, by decide +kernel, by decide +kernel, by decide⟩
theorem kl_X9_path : kdL yX9_path cX9_path 1 (some (.object "KeyDesk$Row")) 0 := ⟨w_cd_X9_path, w_in_X9, by decide +kernel, by decide +kernel, by decide⟩
theorem kl_X9_peak : kdL yX9_peak cX9_peak 1 (some .int) 0 := ⟨w_cd_X9_peak, w_in_X9, by decide +kernel, by decide +kernel, by decide⟩
theorem kl_X2_budgetOf : kdL yX2_budgetOf cX2_budgetOf 2 (some .int) 1 := ⟨w_cd_X2_budgetOf, w_in_X2, by decide +kernel, by decide +kernel, by decide⟩
theorem kl_X8_joins : kdL yX8_joins cX8_joins 1 (some .int) 0 := ⟨w_cd_X8_joins, w_in_X8, by decide +kernel, by decide +kernel, by decide⟩
theorem kl_X8_rules : kdL yX8_rules cX8_rules 1 (some .int) 0 := ⟨w_cd_X8_rules, w_in_X8, by decide +kernel, by decide +kernel, by decide⟩
theorem kl_X0_padSize : kdL yX0_padSize cX0_padSize 1 (some .int) 0 := ⟨w_cd_X0_padSize, w_in_X0, by decide +kernel, by decide +kernel, by decide⟩
theorem kl_X11_toldOfOne : kdL yX11_toldOfOne cX11_toldOfOne 2 (some .int) 1 := ⟨w_cd_X11_toldOfOne, w_in_X11, by decide +kernel, by decide +kernel, by decide⟩
theorem kl_X12_in : kdL yX12_in cX12_in 6 (some .boolean) 3 := ⟨w_cd_X12_in, w_in_X12, by decide +kernel, by decide +kernel, by decide⟩
theorem kl_X12_isTongue : kdL yX12_isTongue cX12_isTongue 1 (some .boolean) 1 := ⟨w_cd_X12_isTongue, w_in_X12, by decide +kernel, by decide +kernel, by decide⟩
theorem kl_X12_isLetter : kdL yX12_isLetter cX12_isLetter 1 (some .boolean) 1 := ⟨w_cd_X12_isLetter, w_in_X12, by decide +kernel, by decide +kernel, by decide⟩
theorem kl_X12_haveSameKeys : kdL yX12_haveSameKeys cX12_haveSameKeys 5 (some .boolean) 2 := ⟨w_cd_X12_haveSameKeys, w_in_X12, by decide +kernel, by decide +kernel, by decide⟩
theorem kl_X12_haveSameLetters : kdL yX12_haveSameLetters cX12_haveSameLetters 5 (some .boolean) 2 := ⟨w_cd_X12_haveSameLetters, w_in_X12, by decide +kernel, by decide +kernel, by decide⟩
theorem kl_X12_isIdle : kdL yX12_isIdle cX12_isIdle 5 (some .boolean) 2 := ⟨w_cd_X12_isIdle, w_in_X12, by decide +kernel, by decide +kernel, by decide⟩
theorem kl_X12_findMade : kdL yX12_findMade cX12_findMade 5 none 1 := ⟨w_cd_X12_findMade, w_in_X12, by decide +kernel, by decide +kernel, by decide⟩
theorem kl_X12_isKey : kdL yX12_isKey cX12_isKey 1 (some .boolean) 1 := ⟨w_cd_X12_isKey, w_in_X12, by decide +kernel, by decide +kernel, by decide⟩
theorem kl_X12_joinOf : kdL yX12_joinOf cX12_joinOf 5 (some .int) 2 := ⟨w_cd_X12_joinOf, w_in_X12, by decide +kernel, by decide +kernel, by decide⟩
theorem kl_X12_come : kdL yX12_come cX12_come 5 none 1 := ⟨w_cd_X12_come, w_in_X12, by decide +kernel, by decide +kernel, by decide⟩
theorem kl_X12_ruleAt : kdL yX12_ruleAt cX12_ruleAt 8 (some .int) 1 := ⟨w_cd_X12_ruleAt, w_in_X12, by decide +kernel, by decide +kernel, by decide⟩
theorem kl_X12_walk : kdL yX12_walk cX12_walk 5 none 0 := ⟨w_cd_X12_walk, w_in_X12, by decide +kernel, by decide +kernel, by decide⟩
theorem kl_X12_isWord : kdL yX12_isWord cX12_isWord 2 (some .boolean) 1 := ⟨w_cd_X12_isWord, w_in_X12, by decide +kernel, by decide +kernel, by decide⟩
theorem kl_X12_size : kdL yX12_size cX12_size 1 (some .int) 1 := ⟨w_cd_X12_size, w_in_X12, by decide +kernel, by decide +kernel, by decide⟩
theorem kl_X12_lesser : kdL yX12_lesser cX12_lesser 2 (some .int) 2 := ⟨w_cd_X12_lesser, w_in_X12, by decide +kernel, by decide +kernel, by decide⟩
theorem kl_X12_areBeside : kdL yX12_areBeside cX12_areBeside 2 (some .boolean) 2 := ⟨w_cd_X12_areBeside, w_in_X12, by decide +kernel, by decide +kernel, by decide⟩
theorem kl_X12_cheapest : kdL yX12_cheapest cX12_cheapest 10 (some .int) 4 := ⟨w_cd_X12_cheapest, w_in_X12, by decide +kernel, by decide +kernel, by decide⟩
theorem kl_X12_priceOf : kdL yX12_priceOf cX12_priceOf 6 (some .int) 3 := ⟨w_cd_X12_priceOf, w_in_X12, by decide +kernel, by decide +kernel, by decide⟩
theorem kl_X12_isAhead : kdL yX12_isAhead cX12_isAhead 3 (some .boolean) 2 := ⟨w_cd_X12_isAhead, w_in_X12, by decide +kernel, by decide +kernel, by decide⟩
theorem kl_X12_worthOf : kdL yX12_worthOf cX12_worthOf 8 (some .int) 3 := ⟨w_cd_X12_worthOf, w_in_X12, by decide +kernel, by decide +kernel, by decide⟩
theorem kl_X12_areTongues : kdL yX12_areTongues cX12_areTongues 1 (some .boolean) 1 := ⟨w_cd_X12_areTongues, w_in_X12, by decide +kernel, by decide +kernel, by decide⟩
theorem kl_X12_findGuesses : kdL yX12_findGuesses cX12_findGuesses 7 none 4 := ⟨w_cd_X12_findGuesses, w_in_X12, by decide +kernel, by decide +kernel, by decide⟩
theorem kl_X12_priceAt : kdL yX12_priceAt cX12_priceAt 4 (some .int) 3 := ⟨w_cd_X12_priceAt, w_in_X12, by decide +kernel, by decide +kernel, by decide⟩
theorem kl_X12_placeOf : kdL yX12_placeOf cX12_placeOf 3 (some .int) 3 := ⟨w_cd_X12_placeOf, w_in_X12, by decide +kernel, by decide +kernel, by decide⟩
theorem kl_X12_sumBy : kdL yX12_sumBy cX12_sumBy 8 (some .int) 5 := ⟨w_cd_X12_sumBy, w_in_X12, by decide +kernel, by decide +kernel, by decide⟩
theorem kl_X12_productBy : kdL yX12_productBy cX12_productBy 5 (some .long) 4 := ⟨w_cd_X12_productBy, w_in_X12, by decide +kernel, by decide +kernel, by decide⟩
theorem kl_X12_manyBy : kdL yX12_manyBy cX12_manyBy 5 (some .int) 4 := ⟨w_cd_X12_manyBy, w_in_X12, by decide +kernel, by decide +kernel, by decide⟩
theorem kl_X12_findPart : kdL yX12_findPart cX12_findPart 14 none 4 := ⟨w_cd_X12_findPart, w_in_X12, by decide +kernel, by decide +kernel, by decide⟩
theorem kl_X12_findPrices : kdL yX12_findPrices cX12_findPrices 5 none 1 := ⟨w_cd_X12_findPrices, w_in_X12, by decide +kernel, by decide +kernel, by decide⟩
theorem kl_X12_isBestPart : kdL yX12_isBestPart cX12_isBestPart 7 (some .boolean) 5 := ⟨w_cd_X12_isBestPart, w_in_X12, by decide +kernel, by decide +kernel, by decide⟩
theorem kl_X12_findParts : kdL yX12_findParts cX12_findParts 6 none 1 := ⟨w_cd_X12_findParts, w_in_X12, by decide +kernel, by decide +kernel, by decide⟩
theorem kl_X12_whyNoParts : kdL yX12_whyNoParts cX12_whyNoParts 2 (some .int) 1 := ⟨w_cd_X12_whyNoParts, w_in_X12, by decide +kernel, by decide +kernel, by decide⟩
theorem kl_X12_layParts : kdL yX12_layParts cX12_layParts 9 (some .int) 1 := ⟨w_cd_X12_layParts, w_in_X12, by decide +kernel, by decide +kernel, by decide⟩
theorem kl_X12_bothAt : kdL yX12_bothAt cX12_bothAt 4 (some .int) 2 := ⟨w_cd_X12_bothAt, w_in_X12, by decide +kernel, by decide +kernel, by decide⟩
theorem kl_X12_bothOf : kdL yX12_bothOf cX12_bothOf 4 (some .int) 2 := ⟨w_cd_X12_bothOf, w_in_X12, by decide +kernel, by decide +kernel, by decide⟩
theorem kl_X12_soundsAs : kdL yX12_soundsAs cX12_soundsAs 6 (some .boolean) 2 := ⟨w_cd_X12_soundsAs, w_in_X12, by decide +kernel, by decide +kernel, by decide⟩
theorem kl_X12_onBy : kdL yX12_onBy cX12_onBy 4 (some .long) 3 := ⟨w_cd_X12_onBy, w_in_X12, by decide +kernel, by decide +kernel, by decide⟩
theorem kl_X12_findChosen : kdL yX12_findChosen cX12_findChosen 8 (some .long) 0 := ⟨w_cd_X12_findChosen, w_in_X12, by decide +kernel, by decide +kernel, by decide⟩
theorem kl_X12_layChosen : kdL yX12_layChosen cX12_layChosen 8 none 0 := ⟨w_cd_X12_layChosen, w_in_X12, by decide +kernel, by decide +kernel, by decide⟩
theorem kl_X12_isHand : kdL yX12_isHand cX12_isHand 1 (some .boolean) 1 := ⟨w_cd_X12_isHand, w_in_X12, by decide +kernel, by decide +kernel, by decide⟩
theorem kl_X12_clearLayout : kdL yX12_clearLayout cX12_clearLayout 3 none 1 := ⟨w_cd_X12_clearLayout, w_in_X12, by decide +kernel, by decide +kernel, by decide⟩
theorem kl_X12_isSymbol : kdL yX12_isSymbol cX12_isSymbol 2 (some .boolean) 1 := ⟨w_cd_X12_isSymbol, w_in_X12, by decide +kernel, by decide +kernel, by decide⟩
theorem kl_X12_lay : kdL yX12_lay cX12_lay 5 (some .boolean) 1 := ⟨w_cd_X12_lay, w_in_X12, by decide +kernel, by decide +kernel, by decide⟩
theorem kl_X12_costOf : kdL yX12_costOf cX12_costOf 5 (some .int) 0 := ⟨w_cd_X12_costOf, w_in_X12, by decide +kernel, by decide +kernel, by decide⟩
theorem kl_X12_exchange : kdL yX12_exchange cX12_exchange 4 none 2 := ⟨w_cd_X12_exchange, w_in_X12, by decide +kernel, by decide +kernel, by decide⟩
theorem kl_X12_next : kdL yX12_next cX12_next 5 (some .boolean) 0 := ⟨w_cd_X12_next, w_in_X12, by decide +kernel, by decide +kernel, by decide⟩
theorem kl_X12_digits : kdL yX12_digits cX12_digits 3 (some .int) 0 := ⟨w_cd_X12_digits, w_in_X12, by decide +kernel, by decide +kernel, by decide⟩
theorem kl_X12_layFirst : kdL yX12_layFirst cX12_layFirst 2 none 0 := ⟨w_cd_X12_layFirst, w_in_X12, by decide +kernel, by decide +kernel, by decide⟩
theorem kl_X12_areOneApart : kdL yX12_areOneApart cX12_areOneApart 7 (some .boolean) 2 := ⟨w_cd_X12_areOneApart, w_in_X12, by decide +kernel, by decide +kernel, by decide⟩
theorem kl_X12_findSteps : kdL yX12_findSteps cX12_findSteps 7 none 2 := ⟨w_cd_X12_findSteps, w_in_X12, by decide +kernel, by decide +kernel, by decide⟩
theorem kl_X12_findLayouts : kdL yX12_findLayouts cX12_findLayouts 2 none 0 := ⟨w_cd_X12_findLayouts, w_in_X12, by decide +kernel, by decide +kernel, by decide⟩
theorem kl_X12_indexOf : kdL yX12_indexOf cX12_indexOf 3 (some .int) 1 := ⟨w_cd_X12_indexOf, w_in_X12, by decide +kernel, by decide +kernel, by decide⟩
theorem kl_X12_leastMost : kdL yX12_leastMost cX12_leastMost 6 (some .int) 2 := ⟨w_cd_X12_leastMost, w_in_X12, by decide +kernel, by decide +kernel, by decide⟩
