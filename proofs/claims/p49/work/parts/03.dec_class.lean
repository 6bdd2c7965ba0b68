theorem dX0_init_0 : decode cX0_init 0 = .ok (.aload_n 0, 1) := by decide +kernel
theorem dX0_init_1 : decode cX0_init 1 = .ok (.invokespecial 3, 3) := by decide +kernel
theorem dX0_init_4 : decode cX0_init 4 = .ok (.aload_n 0, 1) := by decide +kernel
theorem dX0_init_5 : decode cX0_init 5 = .ok (.bipush 60, 2) := by decide +kernel
theorem dX0_init_7 : decode cX0_init 7 = .ok (.bipush 60, 2) := by decide +kernel
theorem dX0_init_9 : decode cX0_init 9 = .ok (.multianewarray 9 2, 4) := by decide +kernel
theorem dX0_init_13 : decode cX0_init 13 = .ok (.putfield 11, 3) := by decide +kernel
theorem dX0_init_16 : decode cX0_init 16 = .ok (.aload_n 0, 1) := by decide +kernel
theorem dX0_init_17 : decode cX0_init 17 = .ok (.new 16, 3) := by decide +kernel
theorem dX0_init_20 : decode cX0_init 20 = .ok (.dup, 1) := by decide +kernel
theorem dX0_init_21 : decode cX0_init 21 = .ok (.iconst 5, 1) := by decide +kernel
theorem dX0_init_22 : decode cX0_init 22 = .ok (.invokespecial 18, 3) := by decide +kernel
theorem dX0_init_25 : decode cX0_init 25 = .ok (.putfield 21, 3) := by decide +kernel
theorem dX0_init_28 : decode cX0_init 28 = .ok (.aload_n 0, 1) := by decide +kernel
theorem dX0_init_29 : decode cX0_init 29 = .ok (.new 16, 3) := by decide +kernel
theorem dX0_init_32 : decode cX0_init 32 = .ok (.dup, 1) := by decide +kernel
theorem dX0_init_33 : decode cX0_init 33 = .ok (.iconst 5, 1) := by decide +kernel
theorem dX0_init_34 : decode cX0_init 34 = .ok (.invokespecial 18, 3) := by decide +kernel
theorem dX0_init_37 : decode cX0_init 37 = .ok (.putfield 25, 3) := by decide +kernel
theorem dX0_init_40 : decode cX0_init 40 = .ok (.aload_n 0, 1) := by decide +kernel
theorem dX0_init_41 : decode cX0_init 41 = .ok (.new 16, 3) := by decide +kernel
theorem dX0_init_44 : decode cX0_init 44 = .ok (.dup, 1) := by decide +kernel
theorem dX0_init_45 : decode cX0_init 45 = .ok (.iconst 5, 1) := by decide +kernel
theorem dX0_init_46 : decode cX0_init 46 = .ok (.invokespecial 18, 3) := by decide +kernel
theorem dX0_init_49 : decode cX0_init 49 = .ok (.putfield 28, 3) := by decide +kernel
theorem dX0_init_52 : decode cX0_init 52 = .ok (.aload_n 0, 1) := by decide +kernel
theorem dX0_init_53 : decode cX0_init 53 = .ok (.iconst 5, 1) := by decide +kernel
theorem dX0_init_54 : decode cX0_init 54 = .ok (.bipush 60, 2) := by decide +kernel
theorem dX0_init_56 : decode cX0_init 56 = .ok (.multianewarray 31 2, 4) := by decide +kernel
theorem dX0_init_60 : decode cX0_init 60 = .ok (.putfield 33, 3) := by decide +kernel
theorem dX0_init_63 : decode cX0_init 63 = .ok (.aload_n 0, 1) := by decide +kernel
theorem dX0_init_64 : decode cX0_init 64 = .ok (.iconst 5, 1) := by decide +kernel
theorem dX0_init_65 : decode cX0_init 65 = .ok (.bipush 60, 2) := by decide +kernel
theorem dX0_init_67 : decode cX0_init 67 = .ok (.multianewarray 9 2, 4) := by decide +kernel
theorem dX0_init_71 : decode cX0_init 71 = .ok (.putfield 36, 3) := by decide +kernel
theorem dX0_init_74 : decode cX0_init 74 = .ok (.aload_n 0, 1) := by decide +kernel
theorem dX0_init_75 : decode cX0_init 75 = .ok (.aload_n 1, 1) := by decide +kernel
theorem dX0_init_76 : decode cX0_init 76 = .ok (.putfield 39, 3) := by decide +kernel
theorem dX0_init_79 : decode cX0_init 79 = .ok (.return_, 1) := by decide +kernel
theorem dX0_pairs_0 : decode cX0_pairs 0 = .ok (.aload_n 0, 1) := by decide +kernel
theorem dX0_pairs_1 : decode cX0_pairs 1 = .ok (.getfield 43, 3) := by decide +kernel
theorem dX0_pairs_4 : decode cX0_pairs 4 = .ok (.ireturn, 1) := by decide +kernel
theorem dX0_padSize_0 : decode cX0_padSize 0 = .ok (.aload_n 0, 1) := by decide +kernel
theorem dX0_padSize_1 : decode cX0_padSize 1 = .ok (.getfield 21, 3) := by decide +kernel
theorem dX0_padSize_4 : decode cX0_padSize 4 = .ok (.invokevirtual 47, 3) := by decide +kernel
theorem dX0_padSize_7 : decode cX0_padSize 7 = .ok (.ireturn, 1) := by decide +kernel
theorem dX1_init_0 : decode cX1_init 0 = .ok (.aload_n 0, 1) := by decide +kernel
theorem dX1_init_1 : decode cX1_init 1 = .ok (.invokespecial 3, 3) := by decide +kernel
theorem dX1_init_4 : decode cX1_init 4 = .ok (.aload_n 0, 1) := by decide +kernel
theorem dX1_init_5 : decode cX1_init 5 = .ok (.new 9, 3) := by decide +kernel
theorem dX1_init_8 : decode cX1_init 8 = .ok (.dup, 1) := by decide +kernel
theorem dX1_init_9 : decode cX1_init 9 = .ok (.bipush 60, 2) := by decide +kernel
theorem dX1_init_11 : decode cX1_init 11 = .ok (.invokespecial 11, 3) := by decide +kernel
theorem dX1_init_14 : decode cX1_init 14 = .ok (.putfield 14, 3) := by decide +kernel
theorem dX1_init_17 : decode cX1_init 17 = .ok (.aload_n 0, 1) := by decide +kernel
theorem dX1_init_18 : decode cX1_init 18 = .ok (.new 9, 3) := by decide +kernel
theorem dX1_init_21 : decode cX1_init 21 = .ok (.dup, 1) := by decide +kernel
theorem dX1_init_22 : decode cX1_init 22 = .ok (.bipush 60, 2) := by decide +kernel
theorem dX1_init_24 : decode cX1_init 24 = .ok (.invokespecial 11, 3) := by decide +kernel
theorem dX1_init_27 : decode cX1_init 27 = .ok (.putfield 20, 3) := by decide +kernel
theorem dX1_init_30 : decode cX1_init 30 = .ok (.aload_n 0, 1) := by decide +kernel
theorem dX1_init_31 : decode cX1_init 31 = .ok (.new 9, 3) := by decide +kernel
theorem dX1_init_34 : decode cX1_init 34 = .ok (.dup, 1) := by decide +kernel
theorem dX1_init_35 : decode cX1_init 35 = .ok (.bipush 60, 2) := by decide +kernel
theorem dX1_init_37 : decode cX1_init 37 = .ok (.invokespecial 11, 3) := by decide +kernel
theorem dX1_init_40 : decode cX1_init 40 = .ok (.putfield 23, 3) := by decide +kernel
theorem dX1_init_43 : decode cX1_init 43 = .ok (.return_, 1) := by decide +kernel
theorem dX1_clear_0 : decode cX1_clear 0 = .ok (.aload_n 0, 1) := by decide +kernel
theorem dX1_clear_1 : decode cX1_clear 1 = .ok (.getfield 14, 3) := by decide +kernel
theorem dX1_clear_4 : decode cX1_clear 4 = .ok (.invokevirtual 26, 3) := by decide +kernel
theorem dX1_clear_7 : decode cX1_clear 7 = .ok (.pop, 1) := by decide +kernel
theorem dX1_clear_8 : decode cX1_clear 8 = .ok (.aload_n 0, 1) := by decide +kernel
theorem dX1_clear_9 : decode cX1_clear 9 = .ok (.getfield 20, 3) := by decide +kernel
theorem dX1_clear_12 : decode cX1_clear 12 = .ok (.invokevirtual 26, 3) := by decide +kernel
theorem dX1_clear_15 : decode cX1_clear 15 = .ok (.pop, 1) := by decide +kernel
theorem dX1_clear_16 : decode cX1_clear 16 = .ok (.aload_n 0, 1) := by decide +kernel
theorem dX1_clear_17 : decode cX1_clear 17 = .ok (.getfield 23, 3) := by decide +kernel
theorem dX1_clear_20 : decode cX1_clear 20 = .ok (.invokevirtual 26, 3) := by decide +kernel
theorem dX1_clear_23 : decode cX1_clear 23 = .ok (.pop, 1) := by decide +kernel
theorem dX1_clear_24 : decode cX1_clear 24 = .ok (.return_, 1) := by decide +kernel
theorem dX1_insert_0 : decode cX1_insert 0 = .ok (.aload_n 0, 1) := by decide +kernel
theorem dX1_insert_1 : decode cX1_insert 1 = .ok (.getfield 14, 3) := by decide +kernel
theorem dX1_insert_4 : decode cX1_insert 4 = .ok (.invokevirtual 30, 3) := by decide +kernel
theorem dX1_insert_7 : decode cX1_insert 7 = .ok (.istore 4, 2) := by decide +kernel
theorem dX1_insert_9 : decode cX1_insert 9 = .ok (.iload 4, 2) := by decide +kernel
theorem dX1_insert_11 : decode cX1_insert 11 = .ok (.ifCond .le 22, 3) := by decide +kernel
theorem dX1_insert_14 : decode cX1_insert 14 = .ok (.aload_n 0, 1) := by decide +kernel
theorem dX1_insert_15 : decode cX1_insert 15 = .ok (.iload_n 2, 1) := by decide +kernel
theorem dX1_insert_16 : decode cX1_insert 16 = .ok (.iload_n 3, 1) := by decide +kernel
theorem dX1_insert_17 : decode cX1_insert 17 = .ok (.iload 4, 2) := by decide +kernel
theorem dX1_insert_19 : decode cX1_insert 19 = .ok (.iconst 1, 1) := by decide +kernel
theorem dX1_insert_20 : decode cX1_insert 20 = .ok (.isub, 1) := by decide +kernel
theorem dX1_insert_21 : decode cX1_insert 21 = .ok (.invokevirtual 33, 3) := by decide +kernel
theorem dX1_insert_24 : decode cX1_insert 24 = .ok (.ifCond .eq 9, 3) := by decide +kernel
theorem dX1_insert_27 : decode cX1_insert 27 = .ok (.iinc 4 (-1), 3) := by decide +kernel
theorem dX1_insert_30 : decode cX1_insert 30 = .ok (.goto (-21), 3) := by decide +kernel
theorem dX1_insert_33 : decode cX1_insert 33 = .ok (.aload_n 0, 1) := by decide +kernel
theorem dX1_insert_34 : decode cX1_insert 34 = .ok (.getfield 14, 3) := by decide +kernel
theorem dX1_insert_37 : decode cX1_insert 37 = .ok (.iload 4, 2) := by decide +kernel
theorem dX1_insert_39 : decode cX1_insert 39 = .ok (.iload_n 1, 1) := by decide +kernel
theorem dX1_insert_40 : decode cX1_insert 40 = .ok (.invokevirtual 37, 3) := by decide +kernel
theorem dX1_insert_43 : decode cX1_insert 43 = .ok (.aload_n 0, 1) := by decide +kernel
theorem dX1_insert_44 : decode cX1_insert 44 = .ok (.getfield 20, 3) := by decide +kernel
theorem dX1_insert_47 : decode cX1_insert 47 = .ok (.iload 4, 2) := by decide +kernel
theorem dX1_insert_49 : decode cX1_insert 49 = .ok (.iload_n 2, 1) := by decide +kernel
theorem dX1_insert_50 : decode cX1_insert 50 = .ok (.invokevirtual 37, 3) := by decide +kernel
theorem dX1_insert_53 : decode cX1_insert 53 = .ok (.aload_n 0, 1) := by decide +kernel
theorem dX1_insert_54 : decode cX1_insert 54 = .ok (.getfield 23, 3) := by decide +kernel
theorem dX1_insert_57 : decode cX1_insert 57 = .ok (.iload 4, 2) := by decide +kernel
theorem dX1_insert_59 : decode cX1_insert 59 = .ok (.iload_n 3, 1) := by decide +kernel
theorem dX1_insert_60 : decode cX1_insert 60 = .ok (.invokevirtual 37, 3) := by decide +kernel
theorem dX1_insert_63 : decode cX1_insert 63 = .ok (.return_, 1) := by decide +kernel
theorem dX1_goesAhead_0 : decode cX1_goesAhead 0 = .ok (.iload_n 1, 1) := by decide +kernel
theorem dX1_goesAhead_1 : decode cX1_goesAhead 1 = .ok (.aload_n 0, 1) := by decide +kernel
theorem dX1_goesAhead_2 : decode cX1_goesAhead 2 = .ok (.getfield 20, 3) := by decide +kernel
theorem dX1_goesAhead_5 : decode cX1_goesAhead 5 = .ok (.iload_n 3, 1) := by decide +kernel
theorem dX1_goesAhead_6 : decode cX1_goesAhead 6 = .ok (.invokevirtual 41, 3) := by decide +kernel
theorem dX1_goesAhead_9 : decode cX1_goesAhead 9 = .ok (.if_icmp .lt 27, 3) := by decide +kernel
theorem dX1_goesAhead_12 : decode cX1_goesAhead 12 = .ok (.iload_n 1, 1) := by decide +kernel
theorem dX1_goesAhead_13 : decode cX1_goesAhead 13 = .ok (.aload_n 0, 1) := by decide +kernel
theorem dX1_goesAhead_14 : decode cX1_goesAhead 14 = .ok (.getfield 20, 3) := by decide +kernel
theorem dX1_goesAhead_17 : decode cX1_goesAhead 17 = .ok (.iload_n 3, 1) := by decide +kernel
theorem dX1_goesAhead_18 : decode cX1_goesAhead 18 = .ok (.invokevirtual 41, 3) := by decide +kernel
theorem dX1_goesAhead_21 : decode cX1_goesAhead 21 = .ok (.if_icmp .ne 19, 3) := by decide +kernel
theorem dX1_goesAhead_24 : decode cX1_goesAhead 24 = .ok (.iload_n 2, 1) := by decide +kernel
theorem dX1_goesAhead_25 : decode cX1_goesAhead 25 = .ok (.aload_n 0, 1) := by decide +kernel
theorem dX1_goesAhead_26 : decode cX1_goesAhead 26 = .ok (.getfield 23, 3) := by decide +kernel
theorem dX1_goesAhead_29 : decode cX1_goesAhead 29 = .ok (.iload_n 3, 1) := by decide +kernel
theorem dX1_goesAhead_30 : decode cX1_goesAhead 30 = .ok (.invokevirtual 41, 3) := by decide +kernel
theorem dX1_goesAhead_33 : decode cX1_goesAhead 33 = .ok (.if_icmp .le 7, 3) := by decide +kernel
theorem dX1_goesAhead_36 : decode cX1_goesAhead 36 = .ok (.iconst 1, 1) := by decide +kernel
theorem dX1_goesAhead_37 : decode cX1_goesAhead 37 = .ok (.goto 4, 3) := by decide +kernel
theorem dX1_goesAhead_40 : decode cX1_goesAhead 40 = .ok (.iconst 0, 1) := by decide +kernel
theorem dX1_goesAhead_41 : decode cX1_goesAhead 41 = .ok (.ireturn, 1) := by decide +kernel
theorem dX1_guessAt_0 : decode cX1_guessAt 0 = .ok (.iload_n 1, 1) := by decide +kernel
theorem dX1_guessAt_1 : decode cX1_guessAt 1 = .ok (.iconst (-1), 1) := by decide +kernel
theorem dX1_guessAt_2 : decode cX1_guessAt 2 = .ok (.if_icmp .ne 11, 3) := by decide +kernel
theorem dX1_guessAt_5 : decode cX1_guessAt 5 = .ok (.aload_n 0, 1) := by decide +kernel
theorem dX1_guessAt_6 : decode cX1_guessAt 6 = .ok (.getfield 14, 3) := by decide +kernel
theorem dX1_guessAt_9 : decode cX1_guessAt 9 = .ok (.invokevirtual 30, 3) := by decide +kernel
theorem dX1_guessAt_12 : decode cX1_guessAt 12 = .ok (.ireturn, 1) := by decide +kernel
theorem dX1_guessAt_13 : decode cX1_guessAt 13 = .ok (.aload_n 0, 1) := by decide +kernel
theorem dX1_guessAt_14 : decode cX1_guessAt 14 = .ok (.getfield 14, 3) := by decide +kernel
theorem dX1_guessAt_17 : decode cX1_guessAt 17 = .ok (.iload_n 1, 1) := by decide +kernel
theorem dX1_guessAt_18 : decode cX1_guessAt 18 = .ok (.invokevirtual 45, 3) := by decide +kernel
theorem dX1_guessAt_21 : decode cX1_guessAt 21 = .ok (.ifCond .eq 14, 3) := by decide +kernel
theorem dX1_guessAt_24 : decode cX1_guessAt 24 = .ok (.aload_n 0, 1) := by decide +kernel
theorem dX1_guessAt_25 : decode cX1_guessAt 25 = .ok (.getfield 14, 3) := by decide +kernel
theorem dX1_guessAt_28 : decode cX1_guessAt 28 = .ok (.iload_n 1, 1) := by decide +kernel
theorem dX1_guessAt_29 : decode cX1_guessAt 29 = .ok (.invokevirtual 41, 3) := by decide +kernel
theorem dX1_guessAt_32 : decode cX1_guessAt 32 = .ok (.goto 5, 3) := by decide +kernel
theorem dX1_guessAt_35 : decode cX1_guessAt 35 = .ok (.bipush (-6), 2) := by decide +kernel
theorem dX1_guessAt_37 : decode cX1_guessAt 37 = .ok (.ireturn, 1) := by decide +kernel
theorem dX2_init_0 : decode cX2_init 0 = .ok (.aload_n 0, 1) := by decide +kernel
theorem dX2_init_1 : decode cX2_init 1 = .ok (.invokespecial 3, 3) := by decide +kernel
theorem dX2_init_4 : decode cX2_init 4 = .ok (.aload_n 0, 1) := by decide +kernel
theorem dX2_init_5 : decode cX2_init 5 = .ok (.new 9, 3) := by decide +kernel
theorem dX2_init_8 : decode cX2_init 8 = .ok (.dup, 1) := by decide +kernel
theorem dX2_init_9 : decode cX2_init 9 = .ok (.bipush 60, 2) := by decide +kernel
theorem dX2_init_11 : decode cX2_init 11 = .ok (.invokespecial 11, 3) := by decide +kernel
theorem dX2_init_14 : decode cX2_init 14 = .ok (.putfield 14, 3) := by decide +kernel
theorem dX2_init_17 : decode cX2_init 17 = .ok (.aload_n 0, 1) := by decide +kernel
theorem dX2_init_18 : decode cX2_init 18 = .ok (.new 9, 3) := by decide +kernel
theorem dX2_init_21 : decode cX2_init 21 = .ok (.dup, 1) := by decide +kernel
theorem dX2_init_22 : decode cX2_init 22 = .ok (.bipush 60, 2) := by decide +kernel
theorem dX2_init_24 : decode cX2_init 24 = .ok (.invokespecial 11, 3) := by decide +kernel
theorem dX2_init_27 : decode cX2_init 27 = .ok (.putfield 20, 3) := by decide +kernel
theorem dX2_init_30 : decode cX2_init 30 = .ok (.aload_n 0, 1) := by decide +kernel
theorem dX2_init_31 : decode cX2_init 31 = .ok (.new 9, 3) := by decide +kernel
theorem dX2_init_34 : decode cX2_init 34 = .ok (.dup, 1) := by decide +kernel
theorem dX2_init_35 : decode cX2_init 35 = .ok (.bipush 60, 2) := by decide +kernel
theorem dX2_init_37 : decode cX2_init 37 = .ok (.invokespecial 11, 3) := by decide +kernel
theorem dX2_init_40 : decode cX2_init 40 = .ok (.putfield 23, 3) := by decide +kernel
theorem dX2_init_43 : decode cX2_init 43 = .ok (.aload_n 0, 1) := by decide +kernel
theorem dX2_init_44 : decode cX2_init 44 = .ok (.iconst 4, 1) := by decide +kernel
theorem dX2_init_45 : decode cX2_init 45 = .ok (.newarray .int, 2) := by decide +kernel
theorem dX2_init_47 : decode cX2_init 47 = .ok (.dup, 1) := by decide +kernel
theorem dX2_init_48 : decode cX2_init 48 = .ok (.iconst 0, 1) := by decide +kernel
theorem dX2_init_49 : decode cX2_init 49 = .ok (.bipush 100, 2) := by decide +kernel
theorem dX2_init_51 : decode cX2_init 51 = .ok (.iastore, 1) := by decide +kernel
theorem dX2_init_52 : decode cX2_init 52 = .ok (.dup, 1) := by decide +kernel
theorem dX2_init_53 : decode cX2_init 53 = .ok (.iconst 1, 1) := by decide +kernel
theorem dX2_init_54 : decode cX2_init 54 = .ok (.bipush 100, 2) := by decide +kernel
theorem dX2_init_56 : decode cX2_init 56 = .ok (.iastore, 1) := by decide +kernel
theorem dX2_init_57 : decode cX2_init 57 = .ok (.dup, 1) := by decide +kernel
theorem dX2_init_58 : decode cX2_init 58 = .ok (.iconst 2, 1) := by decide +kernel
theorem dX2_init_59 : decode cX2_init 59 = .ok (.bipush 100, 2) := by decide +kernel
theorem dX2_init_61 : decode cX2_init 61 = .ok (.iastore, 1) := by decide +kernel
theorem dX2_init_62 : decode cX2_init 62 = .ok (.dup, 1) := by decide +kernel
theorem dX2_init_63 : decode cX2_init 63 = .ok (.iconst 3, 1) := by decide +kernel
theorem dX2_init_64 : decode cX2_init 64 = .ok (.bipush 100, 2) := by decide +kernel
theorem dX2_init_66 : decode cX2_init 66 = .ok (.iastore, 1) := by decide +kernel
theorem dX2_init_67 : decode cX2_init 67 = .ok (.putfield 26, 3) := by decide +kernel
theorem dX2_init_70 : decode cX2_init 70 = .ok (.aload_n 0, 1) := by decide +kernel
theorem dX2_init_71 : decode cX2_init 71 = .ok (.sipush 900, 3) := by decide +kernel
theorem dX2_init_74 : decode cX2_init 74 = .ok (.putfield 30, 3) := by decide +kernel
theorem dX2_init_77 : decode cX2_init 77 = .ok (.aload_n 0, 1) := by decide +kernel
theorem dX2_init_78 : decode cX2_init 78 = .ok (.iconst 1, 1) := by decide +kernel
theorem dX2_init_79 : decode cX2_init 79 = .ok (.putfield 34, 3) := by decide +kernel
theorem dX2_init_82 : decode cX2_init 82 = .ok (.return_, 1) := by decide +kernel
theorem dX2_learnings_0 : decode cX2_learnings 0 = .ok (.aload_n 0, 1) := by decide +kernel
theorem dX2_learnings_1 : decode cX2_learnings 1 = .ok (.getfield 14, 3) := by decide +kernel
theorem dX2_learnings_4 : decode cX2_learnings 4 = .ok (.invokevirtual 37, 3) := by decide +kernel
theorem dX2_learnings_7 : decode cX2_learnings 7 = .ok (.ireturn, 1) := by decide +kernel
theorem dX2_isFull_0 : decode cX2_isFull 0 = .ok (.aload_n 0, 1) := by decide +kernel
theorem dX2_isFull_1 : decode cX2_isFull 1 = .ok (.getfield 14, 3) := by decide +kernel
theorem dX2_isFull_4 : decode cX2_isFull 4 = .ok (.invokevirtual 41, 3) := by decide +kernel
theorem dX2_isFull_7 : decode cX2_isFull 7 = .ok (.ireturn, 1) := by decide +kernel
theorem dX2_addLearning_0 : decode cX2_addLearning 0 = .ok (.aload_n 0, 1) := by decide +kernel
theorem dX2_addLearning_1 : decode cX2_addLearning 1 = .ok (.getfield 14, 3) := by decide +kernel
theorem dX2_addLearning_4 : decode cX2_addLearning 4 = .ok (.iload_n 1, 1) := by decide +kernel
theorem dX2_addLearning_5 : decode cX2_addLearning 5 = .ok (.invokevirtual 45, 3) := by decide +kernel
theorem dX2_addLearning_8 : decode cX2_addLearning 8 = .ok (.aload_n 0, 1) := by decide +kernel
theorem dX2_addLearning_9 : decode cX2_addLearning 9 = .ok (.getfield 20, 3) := by decide +kernel
theorem dX2_addLearning_12 : decode cX2_addLearning 12 = .ok (.iload_n 2, 1) := by decide +kernel
theorem dX2_addLearning_13 : decode cX2_addLearning 13 = .ok (.invokevirtual 45, 3) := by decide +kernel
theorem dX2_addLearning_16 : decode cX2_addLearning 16 = .ok (.aload_n 0, 1) := by decide +kernel
theorem dX2_addLearning_17 : decode cX2_addLearning 17 = .ok (.getfield 23, 3) := by decide +kernel
theorem dX2_addLearning_20 : decode cX2_addLearning 20 = .ok (.iload_n 3, 1) := by decide +kernel
theorem dX2_addLearning_21 : decode cX2_addLearning 21 = .ok (.invokevirtual 45, 3) := by decide +kernel
theorem dX2_addLearning_24 : decode cX2_addLearning 24 = .ok (.aload_n 0, 1) := by decide +kernel
theorem dX2_addLearning_25 : decode cX2_addLearning 25 = .ok (.invokevirtual 48, 3) := by decide +kernel
theorem dX2_addLearning_28 : decode cX2_addLearning 28 = .ok (.ireturn, 1) := by decide +kernel
theorem dX2_latestDay_0 : decode cX2_latestDay 0 = .ok (.iconst 0, 1) := by decide +kernel
theorem dX2_latestDay_1 : decode cX2_latestDay 1 = .ok (.istore_n 2, 1) := by decide +kernel
theorem dX2_latestDay_2 : decode cX2_latestDay 2 = .ok (.iconst 0, 1) := by decide +kernel
theorem dX2_latestDay_3 : decode cX2_latestDay 3 = .ok (.istore_n 3, 1) := by decide +kernel
theorem dX2_latestDay_4 : decode cX2_latestDay 4 = .ok (.iload_n 3, 1) := by decide +kernel
theorem dX2_latestDay_5 : decode cX2_latestDay 5 = .ok (.aload_n 0, 1) := by decide +kernel
theorem dX2_latestDay_6 : decode cX2_latestDay 6 = .ok (.invokevirtual 48, 3) := by decide +kernel
theorem dX2_latestDay_9 : decode cX2_latestDay 9 = .ok (.if_icmp .ge 34, 3) := by decide +kernel
theorem dX2_latestDay_12 : decode cX2_latestDay 12 = .ok (.aload_n 0, 1) := by decide +kernel
theorem dX2_latestDay_13 : decode cX2_latestDay 13 = .ok (.getfield 14, 3) := by decide +kernel
theorem dX2_latestDay_16 : decode cX2_latestDay 16 = .ok (.iload_n 3, 1) := by decide +kernel
theorem dX2_latestDay_17 : decode cX2_latestDay 17 = .ok (.invokevirtual 51, 3) := by decide +kernel
theorem dX2_latestDay_20 : decode cX2_latestDay 20 = .ok (.iload_n 1, 1) := by decide +kernel
theorem dX2_latestDay_21 : decode cX2_latestDay 21 = .ok (.if_icmp .ne 16, 3) := by decide +kernel
theorem dX2_latestDay_24 : decode cX2_latestDay 24 = .ok (.iload_n 2, 1) := by decide +kernel
theorem dX2_latestDay_25 : decode cX2_latestDay 25 = .ok (.aload_n 0, 1) := by decide +kernel
theorem dX2_latestDay_26 : decode cX2_latestDay 26 = .ok (.getfield 23, 3) := by decide +kernel
theorem dX2_latestDay_29 : decode cX2_latestDay 29 = .ok (.iload_n 3, 1) := by decide +kernel
theorem dX2_latestDay_30 : decode cX2_latestDay 30 = .ok (.invokevirtual 51, 3) := by decide +kernel
theorem dX2_latestDay_33 : decode cX2_latestDay 33 = .ok (.invokestatic 55, 3) := by decide +kernel
theorem dX2_latestDay_36 : decode cX2_latestDay 36 = .ok (.istore_n 2, 1) := by decide +kernel
theorem dX2_latestDay_37 : decode cX2_latestDay 37 = .ok (.iinc 3 1, 3) := by decide +kernel
theorem dX2_latestDay_40 : decode cX2_latestDay 40 = .ok (.goto (-36), 3) := by decide +kernel
theorem dX2_latestDay_43 : decode cX2_latestDay 43 = .ok (.iload_n 2, 1) := by decide +kernel
theorem dX2_latestDay_44 : decode cX2_latestDay 44 = .ok (.ireturn, 1) := by decide +kernel
theorem dX2_worthOf_0 : decode cX2_worthOf 0 = .ok (.iconst 0, 1) := by decide +kernel
theorem dX2_worthOf_1 : decode cX2_worthOf 1 = .ok (.istore 4, 2) := by decide +kernel
theorem dX2_worthOf_3 : decode cX2_worthOf 3 = .ok (.iconst 0, 1) := by decide +kernel
theorem dX2_worthOf_4 : decode cX2_worthOf 4 = .ok (.istore 5, 2) := by decide +kernel
theorem dX2_worthOf_6 : decode cX2_worthOf 6 = .ok (.iload 5, 2) := by decide +kernel
theorem dX2_worthOf_8 : decode cX2_worthOf 8 = .ok (.aload_n 0, 1) := by decide +kernel
theorem dX2_worthOf_9 : decode cX2_worthOf 9 = .ok (.invokevirtual 48, 3) := by decide +kernel
theorem dX2_worthOf_12 : decode cX2_worthOf 12 = .ok (.if_icmp .ge 53, 3) := by decide +kernel
theorem dX2_worthOf_15 : decode cX2_worthOf 15 = .ok (.aload_n 0, 1) := by decide +kernel
theorem dX2_worthOf_16 : decode cX2_worthOf 16 = .ok (.iload 5, 2) := by decide +kernel
theorem dX2_worthOf_18 : decode cX2_worthOf 18 = .ok (.iload_n 1, 1) := by decide +kernel
theorem dX2_worthOf_19 : decode cX2_worthOf 19 = .ok (.iload_n 2, 1) := by decide +kernel
theorem dX2_worthOf_20 : decode cX2_worthOf 20 = .ok (.invokevirtual 61, 3) := by decide +kernel
theorem dX2_worthOf_23 : decode cX2_worthOf 23 = .ok (.ifCond .eq 36, 3) := by decide +kernel
theorem dX2_worthOf_26 : decode cX2_worthOf 26 = .ok (.aload_n 0, 1) := by decide +kernel
theorem dX2_worthOf_27 : decode cX2_worthOf 27 = .ok (.getfield 23, 3) := by decide +kernel
theorem dX2_worthOf_30 : decode cX2_worthOf 30 = .ok (.iload 5, 2) := by decide +kernel
theorem dX2_worthOf_32 : decode cX2_worthOf 32 = .ok (.invokevirtual 51, 3) := by decide +kernel
theorem dX2_worthOf_35 : decode cX2_worthOf 35 = .ok (.iload_n 3, 1) := by decide +kernel
theorem dX2_worthOf_36 : decode cX2_worthOf 36 = .ok (.if_icmp .gt 23, 3) := by decide +kernel
theorem dX2_worthOf_39 : decode cX2_worthOf 39 = .ok (.iload 4, 2) := by decide +kernel
theorem dX2_worthOf_41 : decode cX2_worthOf 41 = .ok (.aload_n 0, 1) := by decide +kernel
theorem dX2_worthOf_42 : decode cX2_worthOf 42 = .ok (.iload_n 3, 1) := by decide +kernel
theorem dX2_worthOf_43 : decode cX2_worthOf 43 = .ok (.aload_n 0, 1) := by decide +kernel
theorem dX2_worthOf_44 : decode cX2_worthOf 44 = .ok (.getfield 23, 3) := by decide +kernel
theorem dX2_worthOf_47 : decode cX2_worthOf 47 = .ok (.iload 5, 2) := by decide +kernel
theorem dX2_worthOf_49 : decode cX2_worthOf 49 = .ok (.invokevirtual 51, 3) := by decide +kernel
theorem dX2_worthOf_52 : decode cX2_worthOf 52 = .ok (.isub, 1) := by decide +kernel
theorem dX2_worthOf_53 : decode cX2_worthOf 53 = .ok (.invokevirtual 65, 3) := by decide +kernel
theorem dX2_worthOf_56 : decode cX2_worthOf 56 = .ok (.iadd, 1) := by decide +kernel
theorem dX2_worthOf_57 : decode cX2_worthOf 57 = .ok (.istore 4, 2) := by decide +kernel
theorem dX2_worthOf_59 : decode cX2_worthOf 59 = .ok (.iinc 5 1, 3) := by decide +kernel
theorem dX2_worthOf_62 : decode cX2_worthOf 62 = .ok (.goto (-56), 3) := by decide +kernel
theorem dX2_worthOf_65 : decode cX2_worthOf 65 = .ok (.iload 4, 2) := by decide +kernel
theorem dX2_worthOf_67 : decode cX2_worthOf 67 = .ok (.ireturn, 1) := by decide +kernel
theorem dX2_isOf_0 : decode cX2_isOf 0 = .ok (.aload_n 0, 1) := by decide +kernel
theorem dX2_isOf_1 : decode cX2_isOf 1 = .ok (.getfield 14, 3) := by decide +kernel
theorem dX2_isOf_4 : decode cX2_isOf 4 = .ok (.iload_n 1, 1) := by decide +kernel
theorem dX2_isOf_5 : decode cX2_isOf 5 = .ok (.invokevirtual 51, 3) := by decide +kernel
theorem dX2_isOf_8 : decode cX2_isOf 8 = .ok (.iload_n 2, 1) := by decide +kernel
theorem dX2_isOf_9 : decode cX2_isOf 9 = .ok (.if_icmp .ne 19, 3) := by decide +kernel
theorem dX2_isOf_12 : decode cX2_isOf 12 = .ok (.aload_n 0, 1) := by decide +kernel
theorem dX2_isOf_13 : decode cX2_isOf 13 = .ok (.getfield 20, 3) := by decide +kernel
theorem dX2_isOf_16 : decode cX2_isOf 16 = .ok (.iload_n 1, 1) := by decide +kernel
theorem dX2_isOf_17 : decode cX2_isOf 17 = .ok (.invokevirtual 51, 3) := by decide +kernel
theorem dX2_isOf_20 : decode cX2_isOf 20 = .ok (.iload_n 3, 1) := by decide +kernel
theorem dX2_isOf_21 : decode cX2_isOf 21 = .ok (.if_icmp .ne 7, 3) := by decide +kernel
theorem dX2_isOf_24 : decode cX2_isOf 24 = .ok (.iconst 1, 1) := by decide +kernel
theorem dX2_isOf_25 : decode cX2_isOf 25 = .ok (.goto 4, 3) := by decide +kernel
theorem dX2_isOf_28 : decode cX2_isOf 28 = .ok (.iconst 0, 1) := by decide +kernel
theorem dX2_isOf_29 : decode cX2_isOf 29 = .ok (.ireturn, 1) := by decide +kernel
theorem dX2_faded_0 : decode cX2_faded 0 = .ok (.sipush 1000, 3) := by decide +kernel
theorem dX2_faded_3 : decode cX2_faded 3 = .ok (.istore_n 2, 1) := by decide +kernel
theorem dX2_faded_4 : decode cX2_faded 4 = .ok (.iconst 0, 1) := by decide +kernel
theorem dX2_faded_5 : decode cX2_faded 5 = .ok (.istore_n 3, 1) := by decide +kernel
theorem dX2_faded_6 : decode cX2_faded 6 = .ok (.iload_n 3, 1) := by decide +kernel
theorem dX2_faded_7 : decode cX2_faded 7 = .ok (.iload_n 1, 1) := by decide +kernel
theorem dX2_faded_8 : decode cX2_faded 8 = .ok (.if_icmp .ge 32, 3) := by decide +kernel
theorem dX2_faded_11 : decode cX2_faded 11 = .ok (.iload_n 2, 1) := by decide +kernel
theorem dX2_faded_12 : decode cX2_faded 12 = .ok (.aload_n 0, 1) := by decide +kernel
theorem dX2_faded_13 : decode cX2_faded 13 = .ok (.getfield 30, 3) := by decide +kernel
theorem dX2_faded_16 : decode cX2_faded 16 = .ok (.imul, 1) := by decide +kernel
theorem dX2_faded_17 : decode cX2_faded 17 = .ok (.sipush 1000, 3) := by decide +kernel
theorem dX2_faded_20 : decode cX2_faded 20 = .ok (.idiv, 1) := by decide +kernel
theorem dX2_faded_21 : decode cX2_faded 21 = .ok (.istore 4, 2) := by decide +kernel
theorem dX2_faded_23 : decode cX2_faded 23 = .ok (.iload 4, 2) := by decide +kernel
theorem dX2_faded_25 : decode cX2_faded 25 = .ok (.iload_n 2, 1) := by decide +kernel
theorem dX2_faded_26 : decode cX2_faded 26 = .ok (.if_icmp .ne 5, 3) := by decide +kernel
theorem dX2_faded_29 : decode cX2_faded 29 = .ok (.iload_n 2, 1) := by decide +kernel
theorem dX2_faded_30 : decode cX2_faded 30 = .ok (.ireturn, 1) := by decide +kernel
theorem dX2_faded_31 : decode cX2_faded 31 = .ok (.iload 4, 2) := by decide +kernel
theorem dX2_faded_33 : decode cX2_faded 33 = .ok (.istore_n 2, 1) := by decide +kernel
theorem dX2_faded_34 : decode cX2_faded 34 = .ok (.iinc 3 1, 3) := by decide +kernel
theorem dX2_faded_37 : decode cX2_faded 37 = .ok (.goto (-31), 3) := by decide +kernel
theorem dX2_faded_40 : decode cX2_faded 40 = .ok (.iload_n 2, 1) := by decide +kernel
theorem dX2_faded_41 : decode cX2_faded 41 = .ok (.ireturn, 1) := by decide +kernel
theorem dX2_dropLearnings_0 : decode cX2_dropLearnings 0 = .ok (.aload_n 0, 1) := by decide +kernel
theorem dX2_dropLearnings_1 : decode cX2_dropLearnings 1 = .ok (.invokevirtual 48, 3) := by decide +kernel
theorem dX2_dropLearnings_4 : decode cX2_dropLearnings 4 = .ok (.istore_n 3, 1) := by decide +kernel
theorem dX2_dropLearnings_5 : decode cX2_dropLearnings 5 = .ok (.iload_n 3, 1) := by decide +kernel
theorem dX2_dropLearnings_6 : decode cX2_dropLearnings 6 = .ok (.iconst 1, 1) := by decide +kernel
theorem dX2_dropLearnings_7 : decode cX2_dropLearnings 7 = .ok (.isub, 1) := by decide +kernel
theorem dX2_dropLearnings_8 : decode cX2_dropLearnings 8 = .ok (.istore 4, 2) := by decide +kernel
theorem dX2_dropLearnings_10 : decode cX2_dropLearnings 10 = .ok (.iload 4, 2) := by decide +kernel
theorem dX2_dropLearnings_12 : decode cX2_dropLearnings 12 = .ok (.ifCond .lt 67, 3) := by decide +kernel
theorem dX2_dropLearnings_15 : decode cX2_dropLearnings 15 = .ok (.aload_n 0, 1) := by decide +kernel
theorem dX2_dropLearnings_16 : decode cX2_dropLearnings 16 = .ok (.iload 4, 2) := by decide +kernel
theorem dX2_dropLearnings_18 : decode cX2_dropLearnings 18 = .ok (.iload_n 1, 1) := by decide +kernel
theorem dX2_dropLearnings_19 : decode cX2_dropLearnings 19 = .ok (.iload_n 2, 1) := by decide +kernel
theorem dX2_dropLearnings_20 : decode cX2_dropLearnings 20 = .ok (.iconst (-1), 1) := by decide +kernel
theorem dX2_dropLearnings_21 : decode cX2_dropLearnings 21 = .ok (.if_icmp .ne 15, 3) := by decide +kernel
theorem dX2_dropLearnings_24 : decode cX2_dropLearnings 24 = .ok (.aload_n 0, 1) := by decide +kernel
theorem dX2_dropLearnings_25 : decode cX2_dropLearnings 25 = .ok (.getfield 20, 3) := by decide +kernel
theorem dX2_dropLearnings_28 : decode cX2_dropLearnings 28 = .ok (.iload 4, 2) := by decide +kernel
theorem dX2_dropLearnings_30 : decode cX2_dropLearnings 30 = .ok (.invokevirtual 51, 3) := by decide +kernel
theorem dX2_dropLearnings_33 : decode cX2_dropLearnings 33 = .ok (.goto 4, 3) := by decide +kernel
theorem dX2_dropLearnings_36 : decode cX2_dropLearnings 36 = .ok (.iload_n 2, 1) := by decide +kernel
theorem dX2_dropLearnings_37 : decode cX2_dropLearnings 37 = .ok (.invokevirtual 61, 3) := by decide +kernel
theorem dX2_dropLearnings_40 : decode cX2_dropLearnings 40 = .ok (.ifCond .eq 33, 3) := by decide +kernel
theorem dX2_dropLearnings_43 : decode cX2_dropLearnings 43 = .ok (.aload_n 0, 1) := by decide +kernel
theorem dX2_dropLearnings_44 : decode cX2_dropLearnings 44 = .ok (.getfield 14, 3) := by decide +kernel
theorem dX2_dropLearnings_47 : decode cX2_dropLearnings 47 = .ok (.iload 4, 2) := by decide +kernel
theorem dX2_dropLearnings_49 : decode cX2_dropLearnings 49 = .ok (.invokevirtual 68, 3) := by decide +kernel
theorem dX2_dropLearnings_52 : decode cX2_dropLearnings 52 = .ok (.pop, 1) := by decide +kernel
theorem dX2_dropLearnings_53 : decode cX2_dropLearnings 53 = .ok (.aload_n 0, 1) := by decide +kernel
theorem dX2_dropLearnings_54 : decode cX2_dropLearnings 54 = .ok (.getfield 20, 3) := by decide +kernel
theorem dX2_dropLearnings_57 : decode cX2_dropLearnings 57 = .ok (.iload 4, 2) := by decide +kernel
theorem dX2_dropLearnings_59 : decode cX2_dropLearnings 59 = .ok (.invokevirtual 68, 3) := by decide +kernel
theorem dX2_dropLearnings_62 : decode cX2_dropLearnings 62 = .ok (.pop, 1) := by decide +kernel
theorem dX2_dropLearnings_63 : decode cX2_dropLearnings 63 = .ok (.aload_n 0, 1) := by decide +kernel
theorem dX2_dropLearnings_64 : decode cX2_dropLearnings 64 = .ok (.getfield 23, 3) := by decide +kernel
theorem dX2_dropLearnings_67 : decode cX2_dropLearnings 67 = .ok (.iload 4, 2) := by decide +kernel
theorem dX2_dropLearnings_69 : decode cX2_dropLearnings 69 = .ok (.invokevirtual 68, 3) := by decide +kernel
theorem dX2_dropLearnings_72 : decode cX2_dropLearnings 72 = .ok (.pop, 1) := by decide +kernel
theorem dX2_dropLearnings_73 : decode cX2_dropLearnings 73 = .ok (.iinc 4 (-1), 3) := by decide +kernel
theorem dX2_dropLearnings_76 : decode cX2_dropLearnings 76 = .ok (.goto (-66), 3) := by decide +kernel
theorem dX2_dropLearnings_79 : decode cX2_dropLearnings 79 = .ok (.iload_n 3, 1) := by decide +kernel
theorem dX2_dropLearnings_80 : decode cX2_dropLearnings 80 = .ok (.aload_n 0, 1) := by decide +kernel
theorem dX2_dropLearnings_81 : decode cX2_dropLearnings 81 = .ok (.invokevirtual 48, 3) := by decide +kernel
theorem dX2_dropLearnings_84 : decode cX2_dropLearnings 84 = .ok (.isub, 1) := by decide +kernel
theorem dX2_dropLearnings_85 : decode cX2_dropLearnings 85 = .ok (.ireturn, 1) := by decide +kernel
theorem dX2_setFade_0 : decode cX2_setFade 0 = .ok (.aload_n 0, 1) := by decide +kernel
theorem dX2_setFade_1 : decode cX2_setFade 1 = .ok (.getfield 30, 3) := by decide +kernel
theorem dX2_setFade_4 : decode cX2_setFade 4 = .ok (.istore_n 2, 1) := by decide +kernel
theorem dX2_setFade_5 : decode cX2_setFade 5 = .ok (.aload_n 0, 1) := by decide +kernel
theorem dX2_setFade_6 : decode cX2_setFade 6 = .ok (.iload_n 1, 1) := by decide +kernel
theorem dX2_setFade_7 : decode cX2_setFade 7 = .ok (.putfield 30, 3) := by decide +kernel
theorem dX2_setFade_10 : decode cX2_setFade 10 = .ok (.iload_n 2, 1) := by decide +kernel
theorem dX2_setFade_11 : decode cX2_setFade 11 = .ok (.ireturn, 1) := by decide +kernel
theorem dX2_budgetOf_0 : decode cX2_budgetOf 0 = .ok (.aload_n 0, 1) := by decide +kernel
theorem dX2_budgetOf_1 : decode cX2_budgetOf 1 = .ok (.getfield 26, 3) := by decide +kernel
theorem dX2_budgetOf_4 : decode cX2_budgetOf 4 = .ok (.iload_n 1, 1) := by decide +kernel
theorem dX2_budgetOf_5 : decode cX2_budgetOf 5 = .ok (.iaload, 1) := by decide +kernel
theorem dX2_budgetOf_6 : decode cX2_budgetOf 6 = .ok (.ireturn, 1) := by decide +kernel
theorem dX2_setBudget_0 : decode cX2_setBudget 0 = .ok (.aload_n 0, 1) := by decide +kernel
theorem dX2_setBudget_1 : decode cX2_setBudget 1 = .ok (.getfield 26, 3) := by decide +kernel
theorem dX2_setBudget_4 : decode cX2_setBudget 4 = .ok (.iload_n 1, 1) := by decide +kernel
theorem dX2_setBudget_5 : decode cX2_setBudget 5 = .ok (.iaload, 1) := by decide +kernel
theorem dX2_setBudget_6 : decode cX2_setBudget 6 = .ok (.istore_n 3, 1) := by decide +kernel
theorem dX2_setBudget_7 : decode cX2_setBudget 7 = .ok (.aload_n 0, 1) := by decide +kernel
theorem dX2_setBudget_8 : decode cX2_setBudget 8 = .ok (.getfield 26, 3) := by decide +kernel
theorem dX2_setBudget_11 : decode cX2_setBudget 11 = .ok (.iload_n 1, 1) := by decide +kernel
theorem dX2_setBudget_12 : decode cX2_setBudget 12 = .ok (.iload_n 2, 1) := by decide +kernel
theorem dX2_setBudget_13 : decode cX2_setBudget 13 = .ok (.iastore, 1) := by decide +kernel
theorem dX2_setBudget_14 : decode cX2_setBudget 14 = .ok (.iload_n 3, 1) := by decide +kernel
theorem dX2_setBudget_15 : decode cX2_setBudget 15 = .ok (.ireturn, 1) := by decide +kernel
theorem dX2_setSeed_0 : decode cX2_setSeed 0 = .ok (.aload_n 0, 1) := by decide +kernel
theorem dX2_setSeed_1 : decode cX2_setSeed 1 = .ok (.getfield 34, 3) := by decide +kernel
theorem dX2_setSeed_4 : decode cX2_setSeed 4 = .ok (.istore_n 2, 1) := by decide +kernel
theorem dX2_setSeed_5 : decode cX2_setSeed 5 = .ok (.aload_n 0, 1) := by decide +kernel
theorem dX2_setSeed_6 : decode cX2_setSeed 6 = .ok (.iload_n 1, 1) := by decide +kernel
theorem dX2_setSeed_7 : decode cX2_setSeed 7 = .ok (.putfield 34, 3) := by decide +kernel
theorem dX2_setSeed_10 : decode cX2_setSeed 10 = .ok (.iload_n 2, 1) := by decide +kernel
theorem dX2_setSeed_11 : decode cX2_setSeed 11 = .ok (.ireturn, 1) := by decide +kernel
theorem dX2_givers_0 : decode cX2_givers 0 = .ok (.iconst 0, 1) := by decide +kernel
theorem dX2_givers_1 : decode cX2_givers 1 = .ok (.istore_n 2, 1) := by decide +kernel
theorem dX2_givers_2 : decode cX2_givers 2 = .ok (.iconst 0, 1) := by decide +kernel
theorem dX2_givers_3 : decode cX2_givers 3 = .ok (.istore_n 3, 1) := by decide +kernel
theorem dX2_givers_4 : decode cX2_givers 4 = .ok (.iload_n 3, 1) := by decide +kernel
theorem dX2_givers_5 : decode cX2_givers 5 = .ok (.iconst 4, 1) := by decide +kernel
theorem dX2_givers_6 : decode cX2_givers 6 = .ok (.if_icmp .ge 27, 3) := by decide +kernel
theorem dX2_givers_9 : decode cX2_givers 9 = .ok (.iload_n 2, 1) := by decide +kernel
theorem dX2_givers_10 : decode cX2_givers 10 = .ok (.aload_n 0, 1) := by decide +kernel
theorem dX2_givers_11 : decode cX2_givers 11 = .ok (.getfield 26, 3) := by decide +kernel
theorem dX2_givers_14 : decode cX2_givers 14 = .ok (.iload_n 3, 1) := by decide +kernel
theorem dX2_givers_15 : decode cX2_givers 15 = .ok (.iaload, 1) := by decide +kernel
theorem dX2_givers_16 : decode cX2_givers 16 = .ok (.iload_n 1, 1) := by decide +kernel
theorem dX2_givers_17 : decode cX2_givers 17 = .ok (.if_icmp .lt 7, 3) := by decide +kernel
theorem dX2_givers_20 : decode cX2_givers 20 = .ok (.iconst 1, 1) := by decide +kernel
theorem dX2_givers_21 : decode cX2_givers 21 = .ok (.goto 4, 3) := by decide +kernel
theorem dX2_givers_24 : decode cX2_givers 24 = .ok (.iconst 0, 1) := by decide +kernel
theorem dX2_givers_25 : decode cX2_givers 25 = .ok (.iadd, 1) := by decide +kernel
theorem dX2_givers_26 : decode cX2_givers 26 = .ok (.istore_n 2, 1) := by decide +kernel
theorem dX2_givers_27 : decode cX2_givers 27 = .ok (.iinc 3 1, 3) := by decide +kernel
theorem dX2_givers_30 : decode cX2_givers 30 = .ok (.goto (-26), 3) := by decide +kernel
theorem dX2_givers_33 : decode cX2_givers 33 = .ok (.iload_n 2, 1) := by decide +kernel
theorem dX2_givers_34 : decode cX2_givers 34 = .ok (.ireturn, 1) := by decide +kernel
theorem dX2_sumWithLot_0 : decode cX2_sumWithLot 0 = .ok (.iconst 0, 1) := by decide +kernel
theorem dX2_sumWithLot_1 : decode cX2_sumWithLot 1 = .ok (.istore 4, 2) := by decide +kernel
theorem dX2_sumWithLot_3 : decode cX2_sumWithLot 3 = .ok (.iconst 0, 1) := by decide +kernel
theorem dX2_sumWithLot_4 : decode cX2_sumWithLot 4 = .ok (.istore 5, 2) := by decide +kernel
theorem dX2_sumWithLot_6 : decode cX2_sumWithLot 6 = .ok (.iload 5, 2) := by decide +kernel
theorem dX2_sumWithLot_8 : decode cX2_sumWithLot 8 = .ok (.iconst 4, 1) := by decide +kernel
theorem dX2_sumWithLot_9 : decode cX2_sumWithLot 9 = .ok (.if_icmp .ge 50, 3) := by decide +kernel
theorem dX2_sumWithLot_12 : decode cX2_sumWithLot 12 = .ok (.aload_n 0, 1) := by decide +kernel
theorem dX2_sumWithLot_13 : decode cX2_sumWithLot 13 = .ok (.getfield 26, 3) := by decide +kernel
theorem dX2_sumWithLot_16 : decode cX2_sumWithLot 16 = .ok (.iload 5, 2) := by decide +kernel
theorem dX2_sumWithLot_18 : decode cX2_sumWithLot 18 = .ok (.iaload, 1) := by decide +kernel
theorem dX2_sumWithLot_19 : decode cX2_sumWithLot 19 = .ok (.iload_n 2, 1) := by decide +kernel
theorem dX2_sumWithLot_20 : decode cX2_sumWithLot 20 = .ok (.if_icmp .lt 33, 3) := by decide +kernel
theorem dX2_sumWithLot_23 : decode cX2_sumWithLot 23 = .ok (.iload 4, 2) := by decide +kernel
theorem dX2_sumWithLot_25 : decode cX2_sumWithLot 25 = .ok (.sipush 5000, 3) := by decide +kernel
theorem dX2_sumWithLot_28 : decode cX2_sumWithLot 28 = .ok (.aload_n 0, 1) := by decide +kernel
theorem dX2_sumWithLot_29 : decode cX2_sumWithLot 29 = .ok (.iload 5, 2) := by decide +kernel
theorem dX2_sumWithLot_31 : decode cX2_sumWithLot 31 = .ok (.iload_n 1, 1) := by decide +kernel
theorem dX2_sumWithLot_32 : decode cX2_sumWithLot 32 = .ok (.iload_n 3, 1) := by decide +kernel
theorem dX2_sumWithLot_33 : decode cX2_sumWithLot 33 = .ok (.invokevirtual 71, 3) := by decide +kernel
theorem dX2_sumWithLot_36 : decode cX2_sumWithLot 36 = .ok (.invokestatic 75, 3) := by decide +kernel
theorem dX2_sumWithLot_39 : decode cX2_sumWithLot 39 = .ok (.iadd, 1) := by decide +kernel
theorem dX2_sumWithLot_40 : decode cX2_sumWithLot 40 = .ok (.istore 4, 2) := by decide +kernel
theorem dX2_sumWithLot_42 : decode cX2_sumWithLot 42 = .ok (.aload_n 0, 1) := by decide +kernel
theorem dX2_sumWithLot_43 : decode cX2_sumWithLot 43 = .ok (.getfield 26, 3) := by decide +kernel
theorem dX2_sumWithLot_46 : decode cX2_sumWithLot 46 = .ok (.iload 5, 2) := by decide +kernel
theorem dX2_sumWithLot_48 : decode cX2_sumWithLot 48 = .ok (.dup2, 1) := by decide +kernel
theorem dX2_sumWithLot_49 : decode cX2_sumWithLot 49 = .ok (.iaload, 1) := by decide +kernel
theorem dX2_sumWithLot_50 : decode cX2_sumWithLot 50 = .ok (.iload_n 2, 1) := by decide +kernel
theorem dX2_sumWithLot_51 : decode cX2_sumWithLot 51 = .ok (.isub, 1) := by decide +kernel
theorem dX2_sumWithLot_52 : decode cX2_sumWithLot 52 = .ok (.iastore, 1) := by decide +kernel
theorem dX2_sumWithLot_53 : decode cX2_sumWithLot 53 = .ok (.iinc 5 1, 3) := by decide +kernel
theorem dX2_sumWithLot_56 : decode cX2_sumWithLot 56 = .ok (.goto (-50), 3) := by decide +kernel
theorem dX2_sumWithLot_59 : decode cX2_sumWithLot 59 = .ok (.iload 4, 2) := by decide +kernel
theorem dX2_sumWithLot_61 : decode cX2_sumWithLot 61 = .ok (.aload_n 0, 1) := by decide +kernel
theorem dX2_sumWithLot_62 : decode cX2_sumWithLot 62 = .ok (.iload_n 2, 1) := by decide +kernel
theorem dX2_sumWithLot_63 : decode cX2_sumWithLot 63 = .ok (.invokevirtual 78, 3) := by decide +kernel
theorem dX2_sumWithLot_66 : decode cX2_sumWithLot 66 = .ok (.iadd, 1) := by decide +kernel
theorem dX2_sumWithLot_67 : decode cX2_sumWithLot 67 = .ok (.ireturn, 1) := by decide +kernel
theorem dX2_drawLot_0 : decode cX2_drawLot 0 = .ok (.aload_n 0, 1) := by decide +kernel
theorem dX2_drawLot_1 : decode cX2_drawLot 1 = .ok (.aload_n 0, 1) := by decide +kernel
theorem dX2_drawLot_2 : decode cX2_drawLot 2 = .ok (.getfield 34, 3) := by decide +kernel
theorem dX2_drawLot_5 : decode cX2_drawLot 5 = .ok (.i2l, 1) := by decide +kernel
theorem dX2_drawLot_6 : decode cX2_drawLot 6 = .ok (.ldc2_w 81, 3) := by decide +kernel
theorem dX2_drawLot_9 : decode cX2_drawLot 9 = .ok (.lmul, 1) := by decide +kernel
theorem dX2_drawLot_10 : decode cX2_drawLot 10 = .ok (.ldc2_w 83, 3) := by decide +kernel
theorem dX2_drawLot_13 : decode cX2_drawLot 13 = .ok (.lrem, 1) := by decide +kernel
theorem dX2_drawLot_14 : decode cX2_drawLot 14 = .ok (.l2i, 1) := by decide +kernel
theorem dX2_drawLot_15 : decode cX2_drawLot 15 = .ok (.putfield 34, 3) := by decide +kernel
theorem dX2_drawLot_18 : decode cX2_drawLot 18 = .ok (.aload_n 0, 1) := by decide +kernel
theorem dX2_drawLot_19 : decode cX2_drawLot 19 = .ok (.getfield 34, 3) := by decide +kernel
theorem dX2_drawLot_22 : decode cX2_drawLot 22 = .ok (.sipush 2001, 3) := by decide +kernel
theorem dX2_drawLot_25 : decode cX2_drawLot 25 = .ok (.irem, 1) := by decide +kernel
theorem dX2_drawLot_26 : decode cX2_drawLot 26 = .ok (.sipush 1000, 3) := by decide +kernel
theorem dX2_drawLot_29 : decode cX2_drawLot 29 = .ok (.isub, 1) := by decide +kernel
theorem dX2_drawLot_30 : decode cX2_drawLot 30 = .ok (.bipush 100, 2) := by decide +kernel
theorem dX2_drawLot_32 : decode cX2_drawLot 32 = .ok (.imul, 1) := by decide +kernel
theorem dX2_drawLot_33 : decode cX2_drawLot 33 = .ok (.iload_n 1, 1) := by decide +kernel
theorem dX2_drawLot_34 : decode cX2_drawLot 34 = .ok (.iconst 1, 1) := by decide +kernel
theorem dX2_drawLot_35 : decode cX2_drawLot 35 = .ok (.invokestatic 55, 3) := by decide +kernel
theorem dX2_drawLot_38 : decode cX2_drawLot 38 = .ok (.idiv, 1) := by decide +kernel
theorem dX2_drawLot_39 : decode cX2_drawLot 39 = .ok (.ireturn, 1) := by decide +kernel
theorem dX3_init_0 : decode cX3_init 0 = .ok (.aload_n 0, 1) := by decide +kernel
theorem dX3_init_1 : decode cX3_init 1 = .ok (.invokespecial 3, 3) := by decide +kernel
theorem dX3_init_4 : decode cX3_init 4 = .ok (.aload_n 0, 1) := by decide +kernel
theorem dX3_init_5 : decode cX3_init 5 = .ok (.bipush 7, 2) := by decide +kernel
theorem dX3_init_7 : decode cX3_init 7 = .ok (.newarray .int, 2) := by decide +kernel
theorem dX3_init_9 : decode cX3_init 9 = .ok (.putfield 9, 3) := by decide +kernel
theorem dX3_init_12 : decode cX3_init 12 = .ok (.aload_n 0, 1) := by decide +kernel
theorem dX3_init_13 : decode cX3_init 13 = .ok (.bipush 7, 2) := by decide +kernel
theorem dX3_init_15 : decode cX3_init 15 = .ok (.newarray .int, 2) := by decide +kernel
theorem dX3_init_17 : decode cX3_init 17 = .ok (.putfield 15, 3) := by decide +kernel
theorem dX3_init_20 : decode cX3_init 20 = .ok (.aload_n 0, 1) := by decide +kernel
theorem dX3_init_21 : decode cX3_init 21 = .ok (.bipush 7, 2) := by decide +kernel
theorem dX3_init_23 : decode cX3_init 23 = .ok (.newarray .int, 2) := by decide +kernel
theorem dX3_init_25 : decode cX3_init 25 = .ok (.putfield 18, 3) := by decide +kernel
theorem dX3_init_28 : decode cX3_init 28 = .ok (.aload_n 0, 1) := by decide +kernel
theorem dX3_init_29 : decode cX3_init 29 = .ok (.bipush 7, 2) := by decide +kernel
theorem dX3_init_31 : decode cX3_init 31 = .ok (.bipush 7, 2) := by decide +kernel
theorem dX3_init_33 : decode cX3_init 33 = .ok (.multianewarray 21 2, 4) := by decide +kernel
theorem dX3_init_37 : decode cX3_init 37 = .ok (.putfield 23, 3) := by decide +kernel
theorem dX3_init_40 : decode cX3_init 40 = .ok (.aload_n 0, 1) := by decide +kernel
theorem dX3_init_41 : decode cX3_init 41 = .ok (.iconst 5, 1) := by decide +kernel
theorem dX3_init_42 : decode cX3_init 42 = .ok (.putfield 26, 3) := by decide +kernel
theorem dX3_init_45 : decode cX3_init 45 = .ok (.aload_n 0, 1) := by decide +kernel
theorem dX3_init_46 : decode cX3_init 46 = .ok (.bipush 7, 2) := by decide +kernel
theorem dX3_init_48 : decode cX3_init 48 = .ok (.newarray .int, 2) := by decide +kernel
theorem dX3_init_50 : decode cX3_init 50 = .ok (.putfield 30, 3) := by decide +kernel
theorem dX3_init_53 : decode cX3_init 53 = .ok (.aload_n 0, 1) := by decide +kernel
theorem dX3_init_54 : decode cX3_init 54 = .ok (.iconst 4, 1) := by decide +kernel
theorem dX3_init_55 : decode cX3_init 55 = .ok (.invokevirtual 33, 3) := by decide +kernel
theorem dX3_init_58 : decode cX3_init 58 = .ok (.pop, 1) := by decide +kernel
theorem dX3_init_59 : decode cX3_init 59 = .ok (.return_, 1) := by decide +kernel
theorem dX3_size_0 : decode cX3_size 0 = .ok (.aload_n 0, 1) := by decide +kernel
theorem dX3_size_1 : decode cX3_size 1 = .ok (.getfield 37, 3) := by decide +kernel
theorem dX3_size_4 : decode cX3_size 4 = .ok (.ireturn, 1) := by decide +kernel
theorem dX3_startAnew_0 : decode cX3_startAnew 0 = .ok (.aload_n 0, 1) := by decide +kernel
theorem dX3_startAnew_1 : decode cX3_startAnew 1 = .ok (.getfield 37, 3) := by decide +kernel
theorem dX3_startAnew_4 : decode cX3_startAnew 4 = .ok (.istore_n 2, 1) := by decide +kernel
theorem dX3_startAnew_5 : decode cX3_startAnew 5 = .ok (.aload_n 0, 1) := by decide +kernel
theorem dX3_startAnew_6 : decode cX3_startAnew 6 = .ok (.iload_n 1, 1) := by decide +kernel
theorem dX3_startAnew_7 : decode cX3_startAnew 7 = .ok (.putfield 37, 3) := by decide +kernel
theorem dX3_startAnew_10 : decode cX3_startAnew 10 = .ok (.iconst 0, 1) := by decide +kernel
theorem dX3_startAnew_11 : decode cX3_startAnew 11 = .ok (.istore_n 3, 1) := by decide +kernel
theorem dX3_startAnew_12 : decode cX3_startAnew 12 = .ok (.iload_n 3, 1) := by decide +kernel
theorem dX3_startAnew_13 : decode cX3_startAnew 13 = .ok (.bipush 7, 2) := by decide +kernel
theorem dX3_startAnew_15 : decode cX3_startAnew 15 = .ok (.if_icmp .ge 56, 3) := by decide +kernel
theorem dX3_startAnew_18 : decode cX3_startAnew 18 = .ok (.aload_n 0, 1) := by decide +kernel
theorem dX3_startAnew_19 : decode cX3_startAnew 19 = .ok (.getfield 9, 3) := by decide +kernel
theorem dX3_startAnew_22 : decode cX3_startAnew 22 = .ok (.iload_n 3, 1) := by decide +kernel
theorem dX3_startAnew_23 : decode cX3_startAnew 23 = .ok (.iconst 1, 1) := by decide +kernel
theorem dX3_startAnew_24 : decode cX3_startAnew 24 = .ok (.iastore, 1) := by decide +kernel
theorem dX3_startAnew_25 : decode cX3_startAnew 25 = .ok (.aload_n 0, 1) := by decide +kernel
theorem dX3_startAnew_26 : decode cX3_startAnew 26 = .ok (.getfield 15, 3) := by decide +kernel
theorem dX3_startAnew_29 : decode cX3_startAnew 29 = .ok (.iload_n 3, 1) := by decide +kernel
theorem dX3_startAnew_30 : decode cX3_startAnew 30 = .ok (.iconst 0, 1) := by decide +kernel
theorem dX3_startAnew_31 : decode cX3_startAnew 31 = .ok (.iastore, 1) := by decide +kernel
theorem dX3_startAnew_32 : decode cX3_startAnew 32 = .ok (.aload_n 0, 1) := by decide +kernel
theorem dX3_startAnew_33 : decode cX3_startAnew 33 = .ok (.getfield 18, 3) := by decide +kernel
theorem dX3_startAnew_36 : decode cX3_startAnew 36 = .ok (.iload_n 3, 1) := by decide +kernel
theorem dX3_startAnew_37 : decode cX3_startAnew 37 = .ok (.iconst 0, 1) := by decide +kernel
theorem dX3_startAnew_38 : decode cX3_startAnew 38 = .ok (.iastore, 1) := by decide +kernel
theorem dX3_startAnew_39 : decode cX3_startAnew 39 = .ok (.iconst 0, 1) := by decide +kernel
theorem dX3_startAnew_40 : decode cX3_startAnew 40 = .ok (.istore 4, 2) := by decide +kernel
theorem dX3_startAnew_42 : decode cX3_startAnew 42 = .ok (.iload 4, 2) := by decide +kernel
theorem dX3_startAnew_44 : decode cX3_startAnew 44 = .ok (.bipush 7, 2) := by decide +kernel
theorem dX3_startAnew_46 : decode cX3_startAnew 46 = .ok (.if_icmp .ge 19, 3) := by decide +kernel
theorem dX3_startAnew_49 : decode cX3_startAnew 49 = .ok (.aload_n 0, 1) := by decide +kernel
theorem dX3_startAnew_50 : decode cX3_startAnew 50 = .ok (.getfield 23, 3) := by decide +kernel
theorem dX3_startAnew_53 : decode cX3_startAnew 53 = .ok (.iload_n 3, 1) := by decide +kernel
theorem dX3_startAnew_54 : decode cX3_startAnew 54 = .ok (.aaload, 1) := by decide +kernel
theorem dX3_startAnew_55 : decode cX3_startAnew 55 = .ok (.iload 4, 2) := by decide +kernel
theorem dX3_startAnew_57 : decode cX3_startAnew 57 = .ok (.iconst 0, 1) := by decide +kernel
theorem dX3_startAnew_58 : decode cX3_startAnew 58 = .ok (.iastore, 1) := by decide +kernel
theorem dX3_startAnew_59 : decode cX3_startAnew 59 = .ok (.iinc 4 1, 3) := by decide +kernel
theorem dX3_startAnew_62 : decode cX3_startAnew 62 = .ok (.goto (-20), 3) := by decide +kernel
theorem dX3_startAnew_65 : decode cX3_startAnew 65 = .ok (.iinc 3 1, 3) := by decide +kernel
theorem dX3_startAnew_68 : decode cX3_startAnew 68 = .ok (.goto (-56), 3) := by decide +kernel
theorem dX3_startAnew_71 : decode cX3_startAnew 71 = .ok (.iload_n 2, 1) := by decide +kernel
theorem dX3_startAnew_72 : decode cX3_startAnew 72 = .ok (.ireturn, 1) := by decide +kernel
theorem dX4_init_0 : decode cX4_init 0 = .ok (.aload_n 0, 1) := by decide +kernel
theorem dX4_init_1 : decode cX4_init 1 = .ok (.invokespecial 3, 3) := by decide +kernel
theorem dX4_init_4 : decode cX4_init 4 = .ok (.aload_n 0, 1) := by decide +kernel
theorem dX4_init_5 : decode cX4_init 5 = .ok (.new 9, 3) := by decide +kernel
theorem dX4_init_8 : decode cX4_init 8 = .ok (.dup, 1) := by decide +kernel
theorem dX4_init_9 : decode cX4_init 9 = .ok (.bipush 40, 2) := by decide +kernel
theorem dX4_init_11 : decode cX4_init 11 = .ok (.invokespecial 11, 3) := by decide +kernel
theorem dX4_init_14 : decode cX4_init 14 = .ok (.putfield 14, 3) := by decide +kernel
theorem dX4_init_17 : decode cX4_init 17 = .ok (.aload_n 0, 1) := by decide +kernel
theorem dX4_init_18 : decode cX4_init 18 = .ok (.new 9, 3) := by decide +kernel
theorem dX4_init_21 : decode cX4_init 21 = .ok (.dup, 1) := by decide +kernel
theorem dX4_init_22 : decode cX4_init 22 = .ok (.bipush 40, 2) := by decide +kernel
theorem dX4_init_24 : decode cX4_init 24 = .ok (.invokespecial 11, 3) := by decide +kernel
theorem dX4_init_27 : decode cX4_init 27 = .ok (.putfield 20, 3) := by decide +kernel
theorem dX4_init_30 : decode cX4_init 30 = .ok (.aload_n 0, 1) := by decide +kernel
theorem dX4_init_31 : decode cX4_init 31 = .ok (.new 9, 3) := by decide +kernel
theorem dX4_init_34 : decode cX4_init 34 = .ok (.dup, 1) := by decide +kernel
theorem dX4_init_35 : decode cX4_init 35 = .ok (.bipush 40, 2) := by decide +kernel
theorem dX4_init_37 : decode cX4_init 37 = .ok (.invokespecial 11, 3) := by decide +kernel
theorem dX4_init_40 : decode cX4_init 40 = .ok (.putfield 23, 3) := by decide +kernel
theorem dX4_init_43 : decode cX4_init 43 = .ok (.aload_n 0, 1) := by decide +kernel
theorem dX4_init_44 : decode cX4_init 44 = .ok (.new 9, 3) := by decide +kernel
theorem dX4_init_47 : decode cX4_init 47 = .ok (.dup, 1) := by decide +kernel
theorem dX4_init_48 : decode cX4_init 48 = .ok (.bipush 120, 2) := by decide +kernel
theorem dX4_init_50 : decode cX4_init 50 = .ok (.invokespecial 11, 3) := by decide +kernel
theorem dX4_init_53 : decode cX4_init 53 = .ok (.putfield 26, 3) := by decide +kernel
theorem dX4_init_56 : decode cX4_init 56 = .ok (.return_, 1) := by decide +kernel
theorem dX4_strokes_0 : decode cX4_strokes 0 = .ok (.aload_n 0, 1) := by decide +kernel
theorem dX4_strokes_1 : decode cX4_strokes 1 = .ok (.getfield 14, 3) := by decide +kernel
theorem dX4_strokes_4 : decode cX4_strokes 4 = .ok (.areturn, 1) := by decide +kernel
theorem dX4_tongue_0 : decode cX4_tongue 0 = .ok (.aload_n 0, 1) := by decide +kernel
theorem dX4_tongue_1 : decode cX4_tongue 1 = .ok (.getfield 29, 3) := by decide +kernel
theorem dX4_tongue_4 : decode cX4_tongue 4 = .ok (.ireturn, 1) := by decide +kernel
theorem dX5_init_0 : decode cX5_init 0 = .ok (.aload_n 0, 1) := by decide +kernel
theorem dX5_init_1 : decode cX5_init 1 = .ok (.invokespecial 3, 3) := by decide +kernel
theorem dX5_init_4 : decode cX5_init 4 = .ok (.aload_n 0, 1) := by decide +kernel
theorem dX5_init_5 : decode cX5_init 5 = .ok (.sipush 340, 3) := by decide +kernel
theorem dX5_init_8 : decode cX5_init 8 = .ok (.newarray .int, 2) := by decide +kernel
theorem dX5_init_10 : decode cX5_init 10 = .ok (.putfield 11, 3) := by decide +kernel
theorem dX5_init_13 : decode cX5_init 13 = .ok (.aload_n 0, 1) := by decide +kernel
theorem dX5_init_14 : decode cX5_init 14 = .ok (.sipush 340, 3) := by decide +kernel
theorem dX5_init_17 : decode cX5_init 17 = .ok (.newarray .int, 2) := by decide +kernel
theorem dX5_init_19 : decode cX5_init 19 = .ok (.putfield 15, 3) := by decide +kernel
theorem dX5_init_22 : decode cX5_init 22 = .ok (.aload_n 0, 1) := by decide +kernel
theorem dX5_init_23 : decode cX5_init 23 = .ok (.sipush 340, 3) := by decide +kernel
theorem dX5_init_26 : decode cX5_init 26 = .ok (.newarray .int, 2) := by decide +kernel
theorem dX5_init_28 : decode cX5_init 28 = .ok (.putfield 18, 3) := by decide +kernel
theorem dX5_init_31 : decode cX5_init 31 = .ok (.aload_n 0, 1) := by decide +kernel
theorem dX5_init_32 : decode cX5_init 32 = .ok (.sipush 340, 3) := by decide +kernel
theorem dX5_init_35 : decode cX5_init 35 = .ok (.newarray .int, 2) := by decide +kernel
theorem dX5_init_37 : decode cX5_init 37 = .ok (.putfield 21, 3) := by decide +kernel
theorem dX5_init_40 : decode cX5_init 40 = .ok (.aload_n 0, 1) := by decide +kernel
theorem dX5_init_41 : decode cX5_init 41 = .ok (.new 24, 3) := by decide +kernel
theorem dX5_init_44 : decode cX5_init 44 = .ok (.dup, 1) := by decide +kernel
theorem dX5_init_45 : decode cX5_init 45 = .ok (.iconst 4, 1) := by decide +kernel
theorem dX5_init_46 : decode cX5_init 46 = .ok (.invokespecial 26, 3) := by decide +kernel
theorem dX5_init_49 : decode cX5_init 49 = .ok (.putfield 29, 3) := by decide +kernel
theorem dX5_init_52 : decode cX5_init 52 = .ok (.aload_n 0, 1) := by decide +kernel
theorem dX5_init_53 : decode cX5_init 53 = .ok (.new 24, 3) := by decide +kernel
theorem dX5_init_56 : decode cX5_init 56 = .ok (.dup, 1) := by decide +kernel
theorem dX5_init_57 : decode cX5_init 57 = .ok (.iconst 4, 1) := by decide +kernel
theorem dX5_init_58 : decode cX5_init 58 = .ok (.invokespecial 26, 3) := by decide +kernel
theorem dX5_init_61 : decode cX5_init 61 = .ok (.putfield 33, 3) := by decide +kernel
theorem dX5_init_64 : decode cX5_init 64 = .ok (.aload_n 0, 1) := by decide +kernel
theorem dX5_init_65 : decode cX5_init 65 = .ok (.aload_n 1, 1) := by decide +kernel
theorem dX5_init_66 : decode cX5_init 66 = .ok (.putfield 36, 3) := by decide +kernel
theorem dX5_init_69 : decode cX5_init 69 = .ok (.aload_n 0, 1) := by decide +kernel
theorem dX5_init_70 : decode cX5_init 70 = .ok (.aload_n 2, 1) := by decide +kernel
theorem dX5_init_71 : decode cX5_init 71 = .ok (.putfield 40, 3) := by decide +kernel
theorem dX5_init_74 : decode cX5_init 74 = .ok (.return_, 1) := by decide +kernel
theorem dX6_init_0 : decode cX6_init 0 = .ok (.aload_n 0, 1) := by decide +kernel
theorem dX6_init_1 : decode cX6_init 1 = .ok (.invokespecial 3, 3) := by decide +kernel
theorem dX6_init_4 : decode cX6_init 4 = .ok (.aload_n 0, 1) := by decide +kernel
theorem dX6_init_5 : decode cX6_init 5 = .ok (.iload_n 1, 1) := by decide +kernel
theorem dX6_init_6 : decode cX6_init 6 = .ok (.iconst 0, 1) := by decide +kernel
theorem dX6_init_7 : decode cX6_init 7 = .ok (.invokestatic 9, 3) := by decide +kernel
theorem dX6_init_10 : decode cX6_init 10 = .ok (.newarray .int, 2) := by decide +kernel
theorem dX6_init_12 : decode cX6_init 12 = .ok (.putfield 15, 3) := by decide +kernel
theorem dX6_init_15 : decode cX6_init 15 = .ok (.return_, 1) := by decide +kernel
theorem dX6_size_0 : decode cX6_size 0 = .ok (.aload_n 0, 1) := by decide +kernel
theorem dX6_size_1 : decode cX6_size 1 = .ok (.getfield 21, 3) := by decide +kernel
theorem dX6_size_4 : decode cX6_size 4 = .ok (.ireturn, 1) := by decide +kernel
theorem dX6_isEmpty_0 : decode cX6_isEmpty 0 = .ok (.aload_n 0, 1) := by decide +kernel
theorem dX6_isEmpty_1 : decode cX6_isEmpty 1 = .ok (.getfield 21, 3) := by decide +kernel
theorem dX6_isEmpty_4 : decode cX6_isEmpty 4 = .ok (.ifCond .ne 7, 3) := by decide +kernel
theorem dX6_isEmpty_7 : decode cX6_isEmpty 7 = .ok (.iconst 1, 1) := by decide +kernel
theorem dX6_isEmpty_8 : decode cX6_isEmpty 8 = .ok (.goto 4, 3) := by decide +kernel
theorem dX6_isEmpty_11 : decode cX6_isEmpty 11 = .ok (.iconst 0, 1) := by decide +kernel
theorem dX6_isEmpty_12 : decode cX6_isEmpty 12 = .ok (.ireturn, 1) := by decide +kernel
theorem dX6_isFull_0 : decode cX6_isFull 0 = .ok (.aload_n 0, 1) := by decide +kernel
theorem dX6_isFull_1 : decode cX6_isFull 1 = .ok (.getfield 21, 3) := by decide +kernel
theorem dX6_isFull_4 : decode cX6_isFull 4 = .ok (.aload_n 0, 1) := by decide +kernel
theorem dX6_isFull_5 : decode cX6_isFull 5 = .ok (.getfield 15, 3) := by decide +kernel
theorem dX6_isFull_8 : decode cX6_isFull 8 = .ok (.arraylength, 1) := by decide +kernel
theorem dX6_isFull_9 : decode cX6_isFull 9 = .ok (.if_icmp .lt 7, 3) := by decide +kernel
theorem dX6_isFull_12 : decode cX6_isFull 12 = .ok (.iconst 1, 1) := by decide +kernel
theorem dX6_isFull_13 : decode cX6_isFull 13 = .ok (.goto 4, 3) := by decide +kernel
theorem dX6_isFull_16 : decode cX6_isFull 16 = .ok (.iconst 0, 1) := by decide +kernel
theorem dX6_isFull_17 : decode cX6_isFull 17 = .ok (.ireturn, 1) := by decide +kernel
theorem dX6_has_0 : decode cX6_has 0 = .ok (.iload_n 1, 1) := by decide +kernel
theorem dX6_has_1 : decode cX6_has 1 = .ok (.ifCond .lt 15, 3) := by decide +kernel
theorem dX6_has_4 : decode cX6_has 4 = .ok (.iload_n 1, 1) := by decide +kernel
theorem dX6_has_5 : decode cX6_has 5 = .ok (.aload_n 0, 1) := by decide +kernel
theorem dX6_has_6 : decode cX6_has 6 = .ok (.getfield 21, 3) := by decide +kernel
theorem dX6_has_9 : decode cX6_has 9 = .ok (.if_icmp .ge 7, 3) := by decide +kernel
theorem dX6_has_12 : decode cX6_has 12 = .ok (.iconst 1, 1) := by decide +kernel
theorem dX6_has_13 : decode cX6_has 13 = .ok (.goto 4, 3) := by decide +kernel
theorem dX6_has_16 : decode cX6_has 16 = .ok (.iconst 0, 1) := by decide +kernel
theorem dX6_has_17 : decode cX6_has 17 = .ok (.ireturn, 1) := by decide +kernel
theorem dX6_at_0 : decode cX6_at 0 = .ok (.iload_n 1, 1) := by decide +kernel
theorem dX6_at_1 : decode cX6_at 1 = .ok (.ifCond .lt 20, 3) := by decide +kernel
theorem dX6_at_4 : decode cX6_at 4 = .ok (.iload_n 1, 1) := by decide +kernel
theorem dX6_at_5 : decode cX6_at 5 = .ok (.aload_n 0, 1) := by decide +kernel
theorem dX6_at_6 : decode cX6_at 6 = .ok (.getfield 21, 3) := by decide +kernel
theorem dX6_at_9 : decode cX6_at 9 = .ok (.if_icmp .ge 12, 3) := by decide +kernel
theorem dX6_at_12 : decode cX6_at 12 = .ok (.aload_n 0, 1) := by decide +kernel
theorem dX6_at_13 : decode cX6_at 13 = .ok (.getfield 15, 3) := by decide +kernel
theorem dX6_at_16 : decode cX6_at 16 = .ok (.iload_n 1, 1) := by decide +kernel
theorem dX6_at_17 : decode cX6_at 17 = .ok (.iaload, 1) := by decide +kernel
theorem dX6_at_18 : decode cX6_at 18 = .ok (.goto 4, 3) := by decide +kernel
theorem dX6_at_21 : decode cX6_at 21 = .ok (.iconst (-1), 1) := by decide +kernel
theorem dX6_at_22 : decode cX6_at 22 = .ok (.ireturn, 1) := by decide +kernel
theorem dX6_add_0 : decode cX6_add 0 = .ok (.aload_n 0, 1) := by decide +kernel
theorem dX6_add_1 : decode cX6_add 1 = .ok (.aload_n 0, 1) := by decide +kernel
theorem dX6_add_2 : decode cX6_add 2 = .ok (.getfield 21, 3) := by decide +kernel
theorem dX6_add_5 : decode cX6_add 5 = .ok (.iload_n 1, 1) := by decide +kernel
theorem dX6_add_6 : decode cX6_add 6 = .ok (.invokevirtual 25, 3) := by decide +kernel
theorem dX6_add_9 : decode cX6_add 9 = .ok (.return_, 1) := by decide +kernel
theorem dX6_insert_0 : decode cX6_insert 0 = .ok (.aload_n 0, 1) := by decide +kernel
theorem dX6_insert_1 : decode cX6_insert 1 = .ok (.invokevirtual 29, 3) := by decide +kernel
theorem dX6_insert_4 : decode cX6_insert 4 = .ok (.ifCond .ne 15, 3) := by decide +kernel
theorem dX6_insert_7 : decode cX6_insert 7 = .ok (.iload_n 1, 1) := by decide +kernel
theorem dX6_insert_8 : decode cX6_insert 8 = .ok (.ifCond .lt 11, 3) := by decide +kernel
theorem dX6_insert_11 : decode cX6_insert 11 = .ok (.iload_n 1, 1) := by decide +kernel
theorem dX6_insert_12 : decode cX6_insert 12 = .ok (.aload_n 0, 1) := by decide +kernel
theorem dX6_insert_13 : decode cX6_insert 13 = .ok (.getfield 21, 3) := by decide +kernel
theorem dX6_insert_16 : decode cX6_insert 16 = .ok (.if_icmp .le 4, 3) := by decide +kernel
theorem dX6_insert_19 : decode cX6_insert 19 = .ok (.return_, 1) := by decide +kernel
theorem dX6_insert_20 : decode cX6_insert 20 = .ok (.aload_n 0, 1) := by decide +kernel
theorem dX6_insert_21 : decode cX6_insert 21 = .ok (.getfield 21, 3) := by decide +kernel
theorem dX6_insert_24 : decode cX6_insert 24 = .ok (.istore_n 3, 1) := by decide +kernel
theorem dX6_insert_25 : decode cX6_insert 25 = .ok (.iload_n 3, 1) := by decide +kernel
theorem dX6_insert_26 : decode cX6_insert 26 = .ok (.iload_n 1, 1) := by decide +kernel
theorem dX6_insert_27 : decode cX6_insert 27 = .ok (.if_icmp .le 23, 3) := by decide +kernel
theorem dX6_insert_30 : decode cX6_insert 30 = .ok (.aload_n 0, 1) := by decide +kernel
theorem dX6_insert_31 : decode cX6_insert 31 = .ok (.getfield 15, 3) := by decide +kernel
theorem dX6_insert_34 : decode cX6_insert 34 = .ok (.iload_n 3, 1) := by decide +kernel
theorem dX6_insert_35 : decode cX6_insert 35 = .ok (.aload_n 0, 1) := by decide +kernel
theorem dX6_insert_36 : decode cX6_insert 36 = .ok (.getfield 15, 3) := by decide +kernel
theorem dX6_insert_39 : decode cX6_insert 39 = .ok (.iload_n 3, 1) := by decide +kernel
theorem dX6_insert_40 : decode cX6_insert 40 = .ok (.iconst 1, 1) := by decide +kernel
theorem dX6_insert_41 : decode cX6_insert 41 = .ok (.isub, 1) := by decide +kernel
theorem dX6_insert_42 : decode cX6_insert 42 = .ok (.iaload, 1) := by decide +kernel
theorem dX6_insert_43 : decode cX6_insert 43 = .ok (.iastore, 1) := by decide +kernel
theorem dX6_insert_44 : decode cX6_insert 44 = .ok (.iinc 3 (-1), 3) := by decide +kernel
theorem dX6_insert_47 : decode cX6_insert 47 = .ok (.goto (-22), 3) := by decide +kernel
theorem dX6_insert_50 : decode cX6_insert 50 = .ok (.aload_n 0, 1) := by decide +kernel
theorem dX6_insert_51 : decode cX6_insert 51 = .ok (.getfield 15, 3) := by decide +kernel
theorem dX6_insert_54 : decode cX6_insert 54 = .ok (.iload_n 1, 1) := by decide +kernel
theorem dX6_insert_55 : decode cX6_insert 55 = .ok (.iload_n 2, 1) := by decide +kernel
theorem dX6_insert_56 : decode cX6_insert 56 = .ok (.iastore, 1) := by decide +kernel
theorem dX6_insert_57 : decode cX6_insert 57 = .ok (.aload_n 0, 1) := by decide +kernel
theorem dX6_insert_58 : decode cX6_insert 58 = .ok (.dup, 1) := by decide +kernel
theorem dX6_insert_59 : decode cX6_insert 59 = .ok (.getfield 21, 3) := by decide +kernel
theorem dX6_insert_62 : decode cX6_insert 62 = .ok (.iconst 1, 1) := by decide +kernel
theorem dX6_insert_63 : decode cX6_insert 63 = .ok (.iadd, 1) := by decide +kernel
theorem dX6_insert_64 : decode cX6_insert 64 = .ok (.putfield 21, 3) := by decide +kernel
theorem dX6_insert_67 : decode cX6_insert 67 = .ok (.return_, 1) := by decide +kernel
theorem dX6_remove_0 : decode cX6_remove 0 = .ok (.aload_n 0, 1) := by decide +kernel
theorem dX6_remove_1 : decode cX6_remove 1 = .ok (.iload_n 1, 1) := by decide +kernel
theorem dX6_remove_2 : decode cX6_remove 2 = .ok (.invokevirtual 33, 3) := by decide +kernel
theorem dX6_remove_5 : decode cX6_remove 5 = .ok (.istore_n 2, 1) := by decide +kernel
theorem dX6_remove_6 : decode cX6_remove 6 = .ok (.aload_n 0, 1) := by decide +kernel
theorem dX6_remove_7 : decode cX6_remove 7 = .ok (.iload_n 1, 1) := by decide +kernel
theorem dX6_remove_8 : decode cX6_remove 8 = .ok (.invokevirtual 37, 3) := by decide +kernel
theorem dX6_remove_11 : decode cX6_remove 11 = .ok (.ifCond .eq 43, 3) := by decide +kernel
theorem dX6_remove_14 : decode cX6_remove 14 = .ok (.aload_n 0, 1) := by decide +kernel
theorem dX6_remove_15 : decode cX6_remove 15 = .ok (.dup, 1) := by decide +kernel
theorem dX6_remove_16 : decode cX6_remove 16 = .ok (.getfield 21, 3) := by decide +kernel
theorem dX6_remove_19 : decode cX6_remove 19 = .ok (.iconst 1, 1) := by decide +kernel
theorem dX6_remove_20 : decode cX6_remove 20 = .ok (.isub, 1) := by decide +kernel
theorem dX6_remove_21 : decode cX6_remove 21 = .ok (.putfield 21, 3) := by decide +kernel
theorem dX6_remove_24 : decode cX6_remove 24 = .ok (.iload_n 1, 1) := by decide +kernel
theorem dX6_remove_25 : decode cX6_remove 25 = .ok (.istore_n 3, 1) := by decide +kernel
theorem dX6_remove_26 : decode cX6_remove 26 = .ok (.iload_n 3, 1) := by decide +kernel
theorem dX6_remove_27 : decode cX6_remove 27 = .ok (.aload_n 0, 1) := by decide +kernel
theorem dX6_remove_28 : decode cX6_remove 28 = .ok (.getfield 21, 3) := by decide +kernel
theorem dX6_remove_31 : decode cX6_remove 31 = .ok (.if_icmp .ge 23, 3) := by decide +kernel
theorem dX6_remove_34 : decode cX6_remove 34 = .ok (.aload_n 0, 1) := by decide +kernel
theorem dX6_remove_35 : decode cX6_remove 35 = .ok (.getfield 15, 3) := by decide +kernel
theorem dX6_remove_38 : decode cX6_remove 38 = .ok (.iload_n 3, 1) := by decide +kernel
theorem dX6_remove_39 : decode cX6_remove 39 = .ok (.aload_n 0, 1) := by decide +kernel
theorem dX6_remove_40 : decode cX6_remove 40 = .ok (.getfield 15, 3) := by decide +kernel
theorem dX6_remove_43 : decode cX6_remove 43 = .ok (.iload_n 3, 1) := by decide +kernel
theorem dX6_remove_44 : decode cX6_remove 44 = .ok (.iconst 1, 1) := by decide +kernel
theorem dX6_remove_45 : decode cX6_remove 45 = .ok (.iadd, 1) := by decide +kernel
theorem dX6_remove_46 : decode cX6_remove 46 = .ok (.iaload, 1) := by decide +kernel
theorem dX6_remove_47 : decode cX6_remove 47 = .ok (.iastore, 1) := by decide +kernel
theorem dX6_remove_48 : decode cX6_remove 48 = .ok (.iinc 3 1, 3) := by decide +kernel
theorem dX6_remove_51 : decode cX6_remove 51 = .ok (.goto (-25), 3) := by decide +kernel
theorem dX6_remove_54 : decode cX6_remove 54 = .ok (.iload_n 2, 1) := by decide +kernel
theorem dX6_remove_55 : decode cX6_remove 55 = .ok (.ireturn, 1) := by decide +kernel
theorem dX6_clear_0 : decode cX6_clear 0 = .ok (.aload_n 0, 1) := by decide +kernel
theorem dX6_clear_1 : decode cX6_clear 1 = .ok (.getfield 21, 3) := by decide +kernel
theorem dX6_clear_4 : decode cX6_clear 4 = .ok (.istore_n 1, 1) := by decide +kernel
theorem dX6_clear_5 : decode cX6_clear 5 = .ok (.aload_n 0, 1) := by decide +kernel
theorem dX6_clear_6 : decode cX6_clear 6 = .ok (.iconst 0, 1) := by decide +kernel
theorem dX6_clear_7 : decode cX6_clear 7 = .ok (.putfield 21, 3) := by decide +kernel
theorem dX6_clear_10 : decode cX6_clear 10 = .ok (.iload_n 1, 1) := by decide +kernel
theorem dX6_clear_11 : decode cX6_clear 11 = .ok (.ireturn, 1) := by decide +kernel
theorem dX6_copy_0 : decode cX6_copy 0 = .ok (.aload_n 0, 1) := by decide +kernel
theorem dX6_copy_1 : decode cX6_copy 1 = .ok (.invokevirtual 41, 3) := by decide +kernel
theorem dX6_copy_4 : decode cX6_copy 4 = .ok (.pop, 1) := by decide +kernel
theorem dX6_copy_5 : decode cX6_copy 5 = .ok (.iconst 0, 1) := by decide +kernel
theorem dX6_copy_6 : decode cX6_copy 6 = .ok (.istore_n 2, 1) := by decide +kernel
theorem dX6_copy_7 : decode cX6_copy 7 = .ok (.iload_n 2, 1) := by decide +kernel
theorem dX6_copy_8 : decode cX6_copy 8 = .ok (.aload_n 1, 1) := by decide +kernel
theorem dX6_copy_9 : decode cX6_copy 9 = .ok (.getfield 21, 3) := by decide +kernel
theorem dX6_copy_12 : decode cX6_copy 12 = .ok (.if_icmp .ge 19, 3) := by decide +kernel
theorem dX6_copy_15 : decode cX6_copy 15 = .ok (.aload_n 0, 1) := by decide +kernel
theorem dX6_copy_16 : decode cX6_copy 16 = .ok (.aload_n 1, 1) := by decide +kernel
theorem dX6_copy_17 : decode cX6_copy 17 = .ok (.getfield 15, 3) := by decide +kernel
theorem dX6_copy_20 : decode cX6_copy 20 = .ok (.iload_n 2, 1) := by decide +kernel
theorem dX6_copy_21 : decode cX6_copy 21 = .ok (.iaload, 1) := by decide +kernel
theorem dX6_copy_22 : decode cX6_copy 22 = .ok (.invokevirtual 45, 3) := by decide +kernel
theorem dX6_copy_25 : decode cX6_copy 25 = .ok (.iinc 2 1, 3) := by decide +kernel
theorem dX6_copy_28 : decode cX6_copy 28 = .ok (.goto (-21), 3) := by decide +kernel
theorem dX6_copy_31 : decode cX6_copy 31 = .ok (.return_, 1) := by decide +kernel
theorem dX7_init_0 : decode cX7_init 0 = .ok (.aload_n 0, 1) := by decide +kernel
theorem dX7_init_1 : decode cX7_init 1 = .ok (.invokespecial 3, 3) := by decide +kernel
theorem dX7_init_4 : decode cX7_init 4 = .ok (.aload_n 0, 1) := by decide +kernel
theorem dX7_init_5 : decode cX7_init 5 = .ok (.bipush 6, 2) := by decide +kernel
theorem dX7_init_7 : decode cX7_init 7 = .ok (.newarray .int, 2) := by decide +kernel
theorem dX7_init_9 : decode cX7_init 9 = .ok (.dup, 1) := by decide +kernel
theorem dX7_init_10 : decode cX7_init 10 = .ok (.iconst 0, 1) := by decide +kernel
theorem dX7_init_11 : decode cX7_init 11 = .ok (.iconst 3, 1) := by decide +kernel
theorem dX7_init_12 : decode cX7_init 12 = .ok (.iastore, 1) := by decide +kernel
theorem dX7_init_13 : decode cX7_init 13 = .ok (.dup, 1) := by decide +kernel
theorem dX7_init_14 : decode cX7_init 14 = .ok (.iconst 1, 1) := by decide +kernel
theorem dX7_init_15 : decode cX7_init 15 = .ok (.iconst 3, 1) := by decide +kernel
theorem dX7_init_16 : decode cX7_init 16 = .ok (.iastore, 1) := by decide +kernel
theorem dX7_init_17 : decode cX7_init 17 = .ok (.dup, 1) := by decide +kernel
theorem dX7_init_18 : decode cX7_init 18 = .ok (.iconst 2, 1) := by decide +kernel
theorem dX7_init_19 : decode cX7_init 19 = .ok (.iconst 4, 1) := by decide +kernel
theorem dX7_init_20 : decode cX7_init 20 = .ok (.iastore, 1) := by decide +kernel
theorem dX7_init_21 : decode cX7_init 21 = .ok (.dup, 1) := by decide +kernel
theorem dX7_init_22 : decode cX7_init 22 = .ok (.iconst 3, 1) := by decide +kernel
theorem dX7_init_23 : decode cX7_init 23 = .ok (.iconst 3, 1) := by decide +kernel
theorem dX7_init_24 : decode cX7_init 24 = .ok (.iastore, 1) := by decide +kernel
theorem dX7_init_25 : decode cX7_init 25 = .ok (.dup, 1) := by decide +kernel
theorem dX7_init_26 : decode cX7_init 26 = .ok (.iconst 4, 1) := by decide +kernel
theorem dX7_init_27 : decode cX7_init 27 = .ok (.bipush 6, 2) := by decide +kernel
theorem dX7_init_29 : decode cX7_init 29 = .ok (.iastore, 1) := by decide +kernel
theorem dX7_init_30 : decode cX7_init 30 = .ok (.dup, 1) := by decide +kernel
theorem dX7_init_31 : decode cX7_init 31 = .ok (.iconst 5, 1) := by decide +kernel
theorem dX7_init_32 : decode cX7_init 32 = .ok (.iconst 5, 1) := by decide +kernel
theorem dX7_init_33 : decode cX7_init 33 = .ok (.iastore, 1) := by decide +kernel
theorem dX7_init_34 : decode cX7_init 34 = .ok (.putfield 9, 3) := by decide +kernel
theorem dX7_init_37 : decode cX7_init 37 = .ok (.aload_n 0, 1) := by decide +kernel
theorem dX7_init_38 : decode cX7_init 38 = .ok (.bipush 17, 2) := by decide +kernel
theorem dX7_init_40 : decode cX7_init 40 = .ok (.bipush 9, 2) := by decide +kernel
theorem dX7_init_42 : decode cX7_init 42 = .ok (.multianewarray 15 2, 4) := by decide +kernel
theorem dX7_init_46 : decode cX7_init 46 = .ok (.putfield 17, 3) := by decide +kernel
theorem dX7_init_49 : decode cX7_init 49 = .ok (.return_, 1) := by decide +kernel
theorem dX7_priceOf_0 : decode cX7_priceOf 0 = .ok (.aload_n 0, 1) := by decide +kernel
theorem dX7_priceOf_1 : decode cX7_priceOf 1 = .ok (.aload_n 1, 1) := by decide +kernel
theorem dX7_priceOf_2 : decode cX7_priceOf 2 = .ok (.iconst 0, 1) := by decide +kernel
theorem dX7_priceOf_3 : decode cX7_priceOf 3 = .ok (.aload_n 1, 1) := by decide +kernel
theorem dX7_priceOf_4 : decode cX7_priceOf 4 = .ok (.invokevirtual 20, 3) := by decide +kernel
theorem dX7_priceOf_7 : decode cX7_priceOf 7 = .ok (.aload_n 2, 1) := by decide +kernel
theorem dX7_priceOf_8 : decode cX7_priceOf 8 = .ok (.invokevirtual 26, 3) := by decide +kernel
theorem dX7_priceOf_11 : decode cX7_priceOf 11 = .ok (.aload_n 0, 1) := by decide +kernel
theorem dX7_priceOf_12 : decode cX7_priceOf 12 = .ok (.aload_n 1, 1) := by decide +kernel
theorem dX7_priceOf_13 : decode cX7_priceOf 13 = .ok (.invokevirtual 20, 3) := by decide +kernel
theorem dX7_priceOf_16 : decode cX7_priceOf 16 = .ok (.aload_n 2, 1) := by decide +kernel
theorem dX7_priceOf_17 : decode cX7_priceOf 17 = .ok (.invokevirtual 30, 3) := by decide +kernel
theorem dX7_priceOf_20 : decode cX7_priceOf 20 = .ok (.ireturn, 1) := by decide +kernel
theorem dX7_leastFor_0 : decode cX7_leastFor 0 = .ok (.aload_n 0, 1) := by decide +kernel
theorem dX7_leastFor_1 : decode cX7_leastFor 1 = .ok (.getfield 17, 3) := by decide +kernel
theorem dX7_leastFor_4 : decode cX7_leastFor 4 = .ok (.iload_n 1, 1) := by decide +kernel
theorem dX7_leastFor_5 : decode cX7_leastFor 5 = .ok (.aaload, 1) := by decide +kernel
theorem dX7_leastFor_6 : decode cX7_leastFor 6 = .ok (.aload_n 2, 1) := by decide +kernel
theorem dX7_leastFor_7 : decode cX7_leastFor 7 = .ok (.invokevirtual 20, 3) := by decide +kernel
theorem dX7_leastFor_10 : decode cX7_leastFor 10 = .ok (.iaload, 1) := by decide +kernel
theorem dX7_leastFor_11 : decode cX7_leastFor 11 = .ok (.ireturn, 1) := by decide +kernel
theorem dX7_workOut_0 : decode cX7_workOut 0 = .ok (.iconst 0, 1) := by decide +kernel
theorem dX7_workOut_1 : decode cX7_workOut 1 = .ok (.istore 5, 2) := by decide +kernel
theorem dX7_workOut_3 : decode cX7_workOut 3 = .ok (.iload 5, 2) := by decide +kernel
theorem dX7_workOut_5 : decode cX7_workOut 5 = .ok (.iload_n 3, 1) := by decide +kernel
theorem dX7_workOut_6 : decode cX7_workOut 6 = .ok (.if_icmp .gt 50, 3) := by decide +kernel
theorem dX7_workOut_9 : decode cX7_workOut 9 = .ok (.iconst 0, 1) := by decide +kernel
theorem dX7_workOut_10 : decode cX7_workOut 10 = .ok (.istore 6, 2) := by decide +kernel
theorem dX7_workOut_12 : decode cX7_workOut 12 = .ok (.iload 6, 2) := by decide +kernel
theorem dX7_workOut_14 : decode cX7_workOut 14 = .ok (.aload 4, 2) := by decide +kernel
theorem dX7_workOut_16 : decode cX7_workOut 16 = .ok (.invokevirtual 20, 3) := by decide +kernel
theorem dX7_workOut_19 : decode cX7_workOut 19 = .ok (.if_icmp .gt 31, 3) := by decide +kernel
theorem dX7_workOut_22 : decode cX7_workOut 22 = .ok (.aload_n 0, 1) := by decide +kernel
theorem dX7_workOut_23 : decode cX7_workOut 23 = .ok (.getfield 17, 3) := by decide +kernel
theorem dX7_workOut_26 : decode cX7_workOut 26 = .ok (.iload 5, 2) := by decide +kernel
theorem dX7_workOut_28 : decode cX7_workOut 28 = .ok (.aaload, 1) := by decide +kernel
theorem dX7_workOut_29 : decode cX7_workOut 29 = .ok (.iload 6, 2) := by decide +kernel
theorem dX7_workOut_31 : decode cX7_workOut 31 = .ok (.aload_n 0, 1) := by decide +kernel
theorem dX7_workOut_32 : decode cX7_workOut 32 = .ok (.aload_n 1, 1) := by decide +kernel
theorem dX7_workOut_33 : decode cX7_workOut 33 = .ok (.iload_n 2, 1) := by decide +kernel
theorem dX7_workOut_34 : decode cX7_workOut 34 = .ok (.iload 5, 2) := by decide +kernel
theorem dX7_workOut_36 : decode cX7_workOut 36 = .ok (.aload 4, 2) := by decide +kernel
theorem dX7_workOut_38 : decode cX7_workOut 38 = .ok (.iload 6, 2) := by decide +kernel
theorem dX7_workOut_40 : decode cX7_workOut 40 = .ok (.invokevirtual 34, 3) := by decide +kernel
theorem dX7_workOut_43 : decode cX7_workOut 43 = .ok (.iastore, 1) := by decide +kernel
theorem dX7_workOut_44 : decode cX7_workOut 44 = .ok (.iinc 6 1, 3) := by decide +kernel
theorem dX7_workOut_47 : decode cX7_workOut 47 = .ok (.goto (-35), 3) := by decide +kernel
theorem dX7_workOut_50 : decode cX7_workOut 50 = .ok (.iinc 5 1, 3) := by decide +kernel
theorem dX7_workOut_53 : decode cX7_workOut 53 = .ok (.goto (-50), 3) := by decide +kernel
theorem dX7_workOut_56 : decode cX7_workOut 56 = .ok (.return_, 1) := by decide +kernel
theorem dX7_leastSum_0 : decode cX7_leastSum 0 = .ok (.iload_n 3, 1) := by decide +kernel
theorem dX7_leastSum_1 : decode cX7_leastSum 1 = .ok (.ifCond .ne 13, 3) := by decide +kernel
theorem dX7_leastSum_4 : decode cX7_leastSum 4 = .ok (.iload 5, 2) := by decide +kernel
theorem dX7_leastSum_6 : decode cX7_leastSum 6 = .ok (.aload_n 0, 1) := by decide +kernel
theorem dX7_leastSum_7 : decode cX7_leastSum 7 = .ok (.getfield 9, 3) := by decide +kernel
theorem dX7_leastSum_10 : decode cX7_leastSum 10 = .ok (.iconst 2, 1) := by decide +kernel
theorem dX7_leastSum_11 : decode cX7_leastSum 11 = .ok (.iaload, 1) := by decide +kernel
theorem dX7_leastSum_12 : decode cX7_leastSum 12 = .ok (.imul, 1) := by decide +kernel
theorem dX7_leastSum_13 : decode cX7_leastSum 13 = .ok (.ireturn, 1) := by decide +kernel
theorem dX7_leastSum_14 : decode cX7_leastSum 14 = .ok (.aload_n 1, 1) := by decide +kernel
theorem dX7_leastSum_15 : decode cX7_leastSum 15 = .ok (.iload_n 2, 1) := by decide +kernel
theorem dX7_leastSum_16 : decode cX7_leastSum 16 = .ok (.iload_n 3, 1) := by decide +kernel
theorem dX7_leastSum_17 : decode cX7_leastSum 17 = .ok (.iadd, 1) := by decide +kernel
theorem dX7_leastSum_18 : decode cX7_leastSum 18 = .ok (.iconst 1, 1) := by decide +kernel
theorem dX7_leastSum_19 : decode cX7_leastSum 19 = .ok (.isub, 1) := by decide +kernel
theorem dX7_leastSum_20 : decode cX7_leastSum 20 = .ok (.invokevirtual 38, 3) := by decide +kernel
theorem dX7_leastSum_23 : decode cX7_leastSum 23 = .ok (.istore 6, 2) := by decide +kernel
theorem dX7_leastSum_25 : decode cX7_leastSum 25 = .ok (.iload_n 3, 1) := by decide +kernel
theorem dX7_leastSum_26 : decode cX7_leastSum 26 = .ok (.iconst 1, 1) := by decide +kernel
theorem dX7_leastSum_27 : decode cX7_leastSum 27 = .ok (.if_icmp .le 15, 3) := by decide +kernel
theorem dX7_leastSum_30 : decode cX7_leastSum 30 = .ok (.aload_n 1, 1) := by decide +kernel
theorem dX7_leastSum_31 : decode cX7_leastSum 31 = .ok (.iload_n 2, 1) := by decide +kernel
theorem dX7_leastSum_32 : decode cX7_leastSum 32 = .ok (.iload_n 3, 1) := by decide +kernel
theorem dX7_leastSum_33 : decode cX7_leastSum 33 = .ok (.iadd, 1) := by decide +kernel
theorem dX7_leastSum_34 : decode cX7_leastSum 34 = .ok (.iconst 2, 1) := by decide +kernel
theorem dX7_leastSum_35 : decode cX7_leastSum 35 = .ok (.isub, 1) := by decide +kernel
theorem dX7_leastSum_36 : decode cX7_leastSum 36 = .ok (.invokevirtual 38, 3) := by decide +kernel
theorem dX7_leastSum_39 : decode cX7_leastSum 39 = .ok (.goto 4, 3) := by decide +kernel
theorem dX7_leastSum_42 : decode cX7_leastSum 42 = .ok (.iconst (-1), 1) := by decide +kernel
theorem dX7_leastSum_43 : decode cX7_leastSum 43 = .ok (.istore 7, 2) := by decide +kernel
theorem dX7_leastSum_45 : decode cX7_leastSum 45 = .ok (.aload_n 0, 1) := by decide +kernel
theorem dX7_leastSum_46 : decode cX7_leastSum 46 = .ok (.getfield 17, 3) := by decide +kernel
theorem dX7_leastSum_49 : decode cX7_leastSum 49 = .ok (.iload_n 3, 1) := by decide +kernel
theorem dX7_leastSum_50 : decode cX7_leastSum 50 = .ok (.iconst 1, 1) := by decide +kernel
theorem dX7_leastSum_51 : decode cX7_leastSum 51 = .ok (.isub, 1) := by decide +kernel
theorem dX7_leastSum_52 : decode cX7_leastSum 52 = .ok (.aaload, 1) := by decide +kernel
theorem dX7_leastSum_53 : decode cX7_leastSum 53 = .ok (.iload 5, 2) := by decide +kernel
theorem dX7_leastSum_55 : decode cX7_leastSum 55 = .ok (.iaload, 1) := by decide +kernel
theorem dX7_leastSum_56 : decode cX7_leastSum 56 = .ok (.aload_n 0, 1) := by decide +kernel
theorem dX7_leastSum_57 : decode cX7_leastSum 57 = .ok (.getfield 9, 3) := by decide +kernel
theorem dX7_leastSum_60 : decode cX7_leastSum 60 = .ok (.iload 6, 2) := by decide +kernel
theorem dX7_leastSum_62 : decode cX7_leastSum 62 = .ok (.iload 7, 2) := by decide +kernel
theorem dX7_leastSum_64 : decode cX7_leastSum 64 = .ok (.if_icmp .ne 7, 3) := by decide +kernel
theorem dX7_leastSum_67 : decode cX7_leastSum 67 = .ok (.iconst 1, 1) := by decide +kernel
theorem dX7_leastSum_68 : decode cX7_leastSum 68 = .ok (.goto 4, 3) := by decide +kernel
theorem dX7_leastSum_71 : decode cX7_leastSum 71 = .ok (.iconst 4, 1) := by decide +kernel
theorem dX7_leastSum_72 : decode cX7_leastSum 72 = .ok (.iaload, 1) := by decide +kernel
theorem dX7_leastSum_73 : decode cX7_leastSum 73 = .ok (.iadd, 1) := by decide +kernel
theorem dX7_leastSum_74 : decode cX7_leastSum 74 = .ok (.istore 8, 2) := by decide +kernel
theorem dX7_leastSum_76 : decode cX7_leastSum 76 = .ok (.iload 5, 2) := by decide +kernel
theorem dX7_leastSum_78 : decode cX7_leastSum 78 = .ok (.ifCond .le 64, 3) := by decide +kernel
theorem dX7_leastSum_81 : decode cX7_leastSum 81 = .ok (.iload 8, 2) := by decide +kernel
theorem dX7_leastSum_83 : decode cX7_leastSum 83 = .ok (.aload_n 0, 1) := by decide +kernel
theorem dX7_leastSum_84 : decode cX7_leastSum 84 = .ok (.getfield 17, 3) := by decide +kernel
theorem dX7_leastSum_87 : decode cX7_leastSum 87 = .ok (.iload_n 3, 1) := by decide +kernel
theorem dX7_leastSum_88 : decode cX7_leastSum 88 = .ok (.aaload, 1) := by decide +kernel
theorem dX7_leastSum_89 : decode cX7_leastSum 89 = .ok (.iload 5, 2) := by decide +kernel
theorem dX7_leastSum_91 : decode cX7_leastSum 91 = .ok (.iconst 1, 1) := by decide +kernel
theorem dX7_leastSum_92 : decode cX7_leastSum 92 = .ok (.isub, 1) := by decide +kernel
theorem dX7_leastSum_93 : decode cX7_leastSum 93 = .ok (.iaload, 1) := by decide +kernel
theorem dX7_leastSum_94 : decode cX7_leastSum 94 = .ok (.aload_n 0, 1) := by decide +kernel
theorem dX7_leastSum_95 : decode cX7_leastSum 95 = .ok (.getfield 9, 3) := by decide +kernel
theorem dX7_leastSum_98 : decode cX7_leastSum 98 = .ok (.iconst 2, 1) := by decide +kernel
theorem dX7_leastSum_99 : decode cX7_leastSum 99 = .ok (.iaload, 1) := by decide +kernel
theorem dX7_leastSum_100 : decode cX7_leastSum 100 = .ok (.iadd, 1) := by decide +kernel
theorem dX7_leastSum_101 : decode cX7_leastSum 101 = .ok (.invokestatic 42, 3) := by decide +kernel
theorem dX7_leastSum_104 : decode cX7_leastSum 104 = .ok (.istore 8, 2) := by decide +kernel
theorem dX7_leastSum_106 : decode cX7_leastSum 106 = .ok (.iload 8, 2) := by decide +kernel
theorem dX7_leastSum_108 : decode cX7_leastSum 108 = .ok (.aload_n 0, 1) := by decide +kernel
theorem dX7_leastSum_109 : decode cX7_leastSum 109 = .ok (.getfield 17, 3) := by decide +kernel
theorem dX7_leastSum_112 : decode cX7_leastSum 112 = .ok (.iload_n 3, 1) := by decide +kernel
theorem dX7_leastSum_113 : decode cX7_leastSum 113 = .ok (.iconst 1, 1) := by decide +kernel
theorem dX7_leastSum_114 : decode cX7_leastSum 114 = .ok (.isub, 1) := by decide +kernel
theorem dX7_leastSum_115 : decode cX7_leastSum 115 = .ok (.aaload, 1) := by decide +kernel
theorem dX7_leastSum_116 : decode cX7_leastSum 116 = .ok (.iload 5, 2) := by decide +kernel
theorem dX7_leastSum_118 : decode cX7_leastSum 118 = .ok (.iconst 1, 1) := by decide +kernel
theorem dX7_leastSum_119 : decode cX7_leastSum 119 = .ok (.isub, 1) := by decide +kernel
theorem dX7_leastSum_120 : decode cX7_leastSum 120 = .ok (.iaload, 1) := by decide +kernel
theorem dX7_leastSum_121 : decode cX7_leastSum 121 = .ok (.aload_n 0, 1) := by decide +kernel
theorem dX7_leastSum_122 : decode cX7_leastSum 122 = .ok (.iload 6, 2) := by decide +kernel
theorem dX7_leastSum_124 : decode cX7_leastSum 124 = .ok (.aload 4, 2) := by decide +kernel
theorem dX7_leastSum_126 : decode cX7_leastSum 126 = .ok (.iload 5, 2) := by decide +kernel
theorem dX7_leastSum_128 : decode cX7_leastSum 128 = .ok (.iconst 1, 1) := by decide +kernel
theorem dX7_leastSum_129 : decode cX7_leastSum 129 = .ok (.isub, 1) := by decide +kernel
theorem dX7_leastSum_130 : decode cX7_leastSum 130 = .ok (.invokevirtual 38, 3) := by decide +kernel
theorem dX7_leastSum_133 : decode cX7_leastSum 133 = .ok (.invokevirtual 48, 3) := by decide +kernel
theorem dX7_leastSum_136 : decode cX7_leastSum 136 = .ok (.iadd, 1) := by decide +kernel
theorem dX7_leastSum_137 : decode cX7_leastSum 137 = .ok (.invokestatic 42, 3) := by decide +kernel
theorem dX7_leastSum_140 : decode cX7_leastSum 140 = .ok (.istore 8, 2) := by decide +kernel
theorem dX7_leastSum_142 : decode cX7_leastSum 142 = .ok (.iload_n 3, 1) := by decide +kernel
theorem dX7_leastSum_143 : decode cX7_leastSum 143 = .ok (.iconst 1, 1) := by decide +kernel
theorem dX7_leastSum_144 : decode cX7_leastSum 144 = .ok (.if_icmp .le 71, 3) := by decide +kernel
theorem dX7_leastSum_147 : decode cX7_leastSum 147 = .ok (.iload 5, 2) := by decide +kernel
theorem dX7_leastSum_149 : decode cX7_leastSum 149 = .ok (.iconst 1, 1) := by decide +kernel
theorem dX7_leastSum_150 : decode cX7_leastSum 150 = .ok (.if_icmp .le 65, 3) := by decide +kernel
theorem dX7_leastSum_153 : decode cX7_leastSum 153 = .ok (.iload 6, 2) := by decide +kernel
theorem dX7_leastSum_155 : decode cX7_leastSum 155 = .ok (.iload 7, 2) := by decide +kernel
theorem dX7_leastSum_157 : decode cX7_leastSum 157 = .ok (.if_icmp .eq 58, 3) := by decide +kernel
theorem dX7_leastSum_160 : decode cX7_leastSum 160 = .ok (.iload 6, 2) := by decide +kernel
theorem dX7_leastSum_162 : decode cX7_leastSum 162 = .ok (.aload 4, 2) := by decide +kernel
theorem dX7_leastSum_164 : decode cX7_leastSum 164 = .ok (.iload 5, 2) := by decide +kernel
theorem dX7_leastSum_166 : decode cX7_leastSum 166 = .ok (.iconst 2, 1) := by decide +kernel
theorem dX7_leastSum_167 : decode cX7_leastSum 167 = .ok (.isub, 1) := by decide +kernel
theorem dX7_leastSum_168 : decode cX7_leastSum 168 = .ok (.invokevirtual 38, 3) := by decide +kernel
theorem dX7_leastSum_171 : decode cX7_leastSum 171 = .ok (.if_icmp .ne 44, 3) := by decide +kernel
theorem dX7_leastSum_174 : decode cX7_leastSum 174 = .ok (.iload 7, 2) := by decide +kernel
theorem dX7_leastSum_176 : decode cX7_leastSum 176 = .ok (.aload 4, 2) := by decide +kernel
theorem dX7_leastSum_178 : decode cX7_leastSum 178 = .ok (.iload 5, 2) := by decide +kernel
theorem dX7_leastSum_180 : decode cX7_leastSum 180 = .ok (.iconst 1, 1) := by decide +kernel
theorem dX7_leastSum_181 : decode cX7_leastSum 181 = .ok (.isub, 1) := by decide +kernel
theorem dX7_leastSum_182 : decode cX7_leastSum 182 = .ok (.invokevirtual 38, 3) := by decide +kernel
theorem dX7_leastSum_185 : decode cX7_leastSum 185 = .ok (.if_icmp .ne 30, 3) := by decide +kernel
theorem dX7_leastSum_188 : decode cX7_leastSum 188 = .ok (.iload 8, 2) := by decide +kernel
theorem dX7_leastSum_190 : decode cX7_leastSum 190 = .ok (.aload_n 0, 1) := by decide +kernel
theorem dX7_leastSum_191 : decode cX7_leastSum 191 = .ok (.getfield 17, 3) := by decide +kernel
theorem dX7_leastSum_194 : decode cX7_leastSum 194 = .ok (.iload_n 3, 1) := by decide +kernel
theorem dX7_leastSum_195 : decode cX7_leastSum 195 = .ok (.iconst 2, 1) := by decide +kernel
theorem dX7_leastSum_196 : decode cX7_leastSum 196 = .ok (.isub, 1) := by decide +kernel
theorem dX7_leastSum_197 : decode cX7_leastSum 197 = .ok (.aaload, 1) := by decide +kernel
theorem dX7_leastSum_198 : decode cX7_leastSum 198 = .ok (.iload 5, 2) := by decide +kernel
theorem dX7_leastSum_200 : decode cX7_leastSum 200 = .ok (.iconst 2, 1) := by decide +kernel
theorem dX7_leastSum_201 : decode cX7_leastSum 201 = .ok (.isub, 1) := by decide +kernel
theorem dX7_leastSum_202 : decode cX7_leastSum 202 = .ok (.iaload, 1) := by decide +kernel
theorem dX7_leastSum_203 : decode cX7_leastSum 203 = .ok (.aload_n 0, 1) := by decide +kernel
theorem dX7_leastSum_204 : decode cX7_leastSum 204 = .ok (.getfield 9, 3) := by decide +kernel
theorem dX7_leastSum_207 : decode cX7_leastSum 207 = .ok (.iconst 3, 1) := by decide +kernel
theorem dX7_leastSum_208 : decode cX7_leastSum 208 = .ok (.iaload, 1) := by decide +kernel
theorem dX7_leastSum_209 : decode cX7_leastSum 209 = .ok (.iadd, 1) := by decide +kernel
theorem dX7_leastSum_210 : decode cX7_leastSum 210 = .ok (.invokestatic 42, 3) := by decide +kernel
theorem dX7_leastSum_213 : decode cX7_leastSum 213 = .ok (.istore 8, 2) := by decide +kernel
theorem dX7_leastSum_215 : decode cX7_leastSum 215 = .ok (.iload 8, 2) := by decide +kernel
theorem dX7_leastSum_217 : decode cX7_leastSum 217 = .ok (.ireturn, 1) := by decide +kernel
theorem dX7_priceOfOne_0 : decode cX7_priceOfOne 0 = .ok (.iload_n 1, 1) := by decide +kernel
theorem dX7_priceOfOne_1 : decode cX7_priceOfOne 1 = .ok (.iload_n 2, 1) := by decide +kernel
theorem dX7_priceOfOne_2 : decode cX7_priceOfOne 2 = .ok (.if_icmp .ne 5, 3) := by decide +kernel
theorem dX7_priceOfOne_5 : decode cX7_priceOfOne 5 = .ok (.iconst 0, 1) := by decide +kernel
theorem dX7_priceOfOne_6 : decode cX7_priceOfOne 6 = .ok (.ireturn, 1) := by decide +kernel
theorem dX7_priceOfOne_7 : decode cX7_priceOfOne 7 = .ok (.iload_n 1, 1) := by decide +kernel
theorem dX7_priceOfOne_8 : decode cX7_priceOfOne 8 = .ok (.iconst 4, 1) := by decide +kernel
theorem dX7_priceOfOne_9 : decode cX7_priceOfOne 9 = .ok (.idiv, 1) := by decide +kernel
theorem dX7_priceOfOne_10 : decode cX7_priceOfOne 10 = .ok (.iload_n 2, 1) := by decide +kernel
theorem dX7_priceOfOne_11 : decode cX7_priceOfOne 11 = .ok (.iconst 4, 1) := by decide +kernel
theorem dX7_priceOfOne_12 : decode cX7_priceOfOne 12 = .ok (.idiv, 1) := by decide +kernel
theorem dX7_priceOfOne_13 : decode cX7_priceOfOne 13 = .ok (.isub, 1) := by decide +kernel
theorem dX7_priceOfOne_14 : decode cX7_priceOfOne 14 = .ok (.invokestatic 51, 3) := by decide +kernel
theorem dX7_priceOfOne_17 : decode cX7_priceOfOne 17 = .ok (.istore_n 3, 1) := by decide +kernel
theorem dX7_priceOfOne_18 : decode cX7_priceOfOne 18 = .ok (.iload_n 1, 1) := by decide +kernel
theorem dX7_priceOfOne_19 : decode cX7_priceOfOne 19 = .ok (.iconst 4, 1) := by decide +kernel
theorem dX7_priceOfOne_20 : decode cX7_priceOfOne 20 = .ok (.irem, 1) := by decide +kernel
theorem dX7_priceOfOne_21 : decode cX7_priceOfOne 21 = .ok (.iload_n 2, 1) := by decide +kernel
theorem dX7_priceOfOne_22 : decode cX7_priceOfOne 22 = .ok (.iconst 4, 1) := by decide +kernel
theorem dX7_priceOfOne_23 : decode cX7_priceOfOne 23 = .ok (.irem, 1) := by decide +kernel
theorem dX7_priceOfOne_24 : decode cX7_priceOfOne 24 = .ok (.isub, 1) := by decide +kernel
theorem dX7_priceOfOne_25 : decode cX7_priceOfOne 25 = .ok (.invokestatic 51, 3) := by decide +kernel
theorem dX7_priceOfOne_28 : decode cX7_priceOfOne 28 = .ok (.istore 4, 2) := by decide +kernel
theorem dX7_priceOfOne_30 : decode cX7_priceOfOne 30 = .ok (.aload_n 0, 1) := by decide +kernel
theorem dX7_priceOfOne_31 : decode cX7_priceOfOne 31 = .ok (.getfield 9, 3) := by decide +kernel
theorem dX7_priceOfOne_34 : decode cX7_priceOfOne 34 = .ok (.iload_n 3, 1) := by decide +kernel
theorem dX7_priceOfOne_35 : decode cX7_priceOfOne 35 = .ok (.iconst 1, 1) := by decide +kernel
theorem dX7_priceOfOne_36 : decode cX7_priceOfOne 36 = .ok (.if_icmp .gt 13, 3) := by decide +kernel
theorem dX7_priceOfOne_39 : decode cX7_priceOfOne 39 = .ok (.iload 4, 2) := by decide +kernel
theorem dX7_priceOfOne_41 : decode cX7_priceOfOne 41 = .ok (.iconst 1, 1) := by decide +kernel
theorem dX7_priceOfOne_42 : decode cX7_priceOfOne 42 = .ok (.if_icmp .gt 7, 3) := by decide +kernel
theorem dX7_priceOfOne_45 : decode cX7_priceOfOne 45 = .ok (.iconst 0, 1) := by decide +kernel
theorem dX7_priceOfOne_46 : decode cX7_priceOfOne 46 = .ok (.goto 4, 3) := by decide +kernel
theorem dX7_priceOfOne_49 : decode cX7_priceOfOne 49 = .ok (.iconst 4, 1) := by decide +kernel
theorem dX7_priceOfOne_50 : decode cX7_priceOfOne 50 = .ok (.iaload, 1) := by decide +kernel
theorem dX7_priceOfOne_51 : decode cX7_priceOfOne 51 = .ok (.ireturn, 1) := by decide +kernel
theorem dX8_init_0 : decode cX8_init 0 = .ok (.aload_n 0, 1) := by decide +kernel
theorem dX8_init_1 : decode cX8_init 1 = .ok (.invokespecial 3, 3) := by decide +kernel
theorem dX8_init_4 : decode cX8_init 4 = .ok (.aload_n 0, 1) := by decide +kernel
theorem dX8_init_5 : decode cX8_init 5 = .ok (.bipush 24, 2) := by decide +kernel
theorem dX8_init_7 : decode cX8_init 7 = .ok (.anewarray 9, 3) := by decide +kernel
theorem dX8_init_10 : decode cX8_init 10 = .ok (.putfield 11, 3) := by decide +kernel
theorem dX8_init_13 : decode cX8_init 13 = .ok (.aload_n 0, 1) := by decide +kernel
theorem dX8_init_14 : decode cX8_init 14 = .ok (.bipush 24, 2) := by decide +kernel
theorem dX8_init_16 : decode cX8_init 16 = .ok (.anewarray 9, 3) := by decide +kernel
theorem dX8_init_19 : decode cX8_init 19 = .ok (.putfield 17, 3) := by decide +kernel
theorem dX8_init_22 : decode cX8_init 22 = .ok (.aload_n 0, 1) := by decide +kernel
theorem dX8_init_23 : decode cX8_init 23 = .ok (.new 9, 3) := by decide +kernel
theorem dX8_init_26 : decode cX8_init 26 = .ok (.dup, 1) := by decide +kernel
theorem dX8_init_27 : decode cX8_init 27 = .ok (.bipush 12, 2) := by decide +kernel
theorem dX8_init_29 : decode cX8_init 29 = .ok (.invokespecial 20, 3) := by decide +kernel
theorem dX8_init_32 : decode cX8_init 32 = .ok (.putfield 23, 3) := by decide +kernel
theorem dX8_init_35 : decode cX8_init 35 = .ok (.aload_n 0, 1) := by decide +kernel
theorem dX8_init_36 : decode cX8_init 36 = .ok (.new 9, 3) := by decide +kernel
theorem dX8_init_39 : decode cX8_init 39 = .ok (.dup, 1) := by decide +kernel
theorem dX8_init_40 : decode cX8_init 40 = .ok (.bipush 12, 2) := by decide +kernel
theorem dX8_init_42 : decode cX8_init 42 = .ok (.invokespecial 20, 3) := by decide +kernel
theorem dX8_init_45 : decode cX8_init 45 = .ok (.putfield 27, 3) := by decide +kernel
theorem dX8_init_48 : decode cX8_init 48 = .ok (.aload_n 0, 1) := by decide +kernel
theorem dX8_init_49 : decode cX8_init 49 = .ok (.new 9, 3) := by decide +kernel
theorem dX8_init_52 : decode cX8_init 52 = .ok (.dup, 1) := by decide +kernel
theorem dX8_init_53 : decode cX8_init 53 = .ok (.bipush 12, 2) := by decide +kernel
theorem dX8_init_55 : decode cX8_init 55 = .ok (.invokespecial 20, 3) := by decide +kernel
theorem dX8_init_58 : decode cX8_init 58 = .ok (.putfield 30, 3) := by decide +kernel
theorem dX8_init_61 : decode cX8_init 61 = .ok (.aload_n 0, 1) := by decide +kernel
theorem dX8_init_62 : decode cX8_init 62 = .ok (.bipush 61, 2) := by decide +kernel
theorem dX8_init_64 : decode cX8_init 64 = .ok (.newarray .boolean, 2) := by decide +kernel
theorem dX8_init_66 : decode cX8_init 66 = .ok (.putfield 33, 3) := by decide +kernel
theorem dX8_init_69 : decode cX8_init 69 = .ok (.aload_n 0, 1) := by decide +kernel
theorem dX8_init_70 : decode cX8_init 70 = .ok (.bipush 61, 2) := by decide +kernel
theorem dX8_init_72 : decode cX8_init 72 = .ok (.newarray .boolean, 2) := by decide +kernel
theorem dX8_init_74 : decode cX8_init 74 = .ok (.putfield 37, 3) := by decide +kernel
theorem dX8_init_77 : decode cX8_init 77 = .ok (.iconst 0, 1) := by decide +kernel
theorem dX8_init_78 : decode cX8_init 78 = .ok (.istore_n 1, 1) := by decide +kernel
theorem dX8_init_79 : decode cX8_init 79 = .ok (.iload_n 1, 1) := by decide +kernel
theorem dX8_init_80 : decode cX8_init 80 = .ok (.bipush 24, 2) := by decide +kernel
theorem dX8_init_82 : decode cX8_init 82 = .ok (.if_icmp .ge 37, 3) := by decide +kernel
theorem dX8_init_85 : decode cX8_init 85 = .ok (.aload_n 0, 1) := by decide +kernel
theorem dX8_init_86 : decode cX8_init 86 = .ok (.getfield 11, 3) := by decide +kernel
theorem dX8_init_89 : decode cX8_init 89 = .ok (.iload_n 1, 1) := by decide +kernel
theorem dX8_init_90 : decode cX8_init 90 = .ok (.new 9, 3) := by decide +kernel
theorem dX8_init_93 : decode cX8_init 93 = .ok (.dup, 1) := by decide +kernel
theorem dX8_init_94 : decode cX8_init 94 = .ok (.iconst 4, 1) := by decide +kernel
theorem dX8_init_95 : decode cX8_init 95 = .ok (.invokespecial 20, 3) := by decide +kernel
theorem dX8_init_98 : decode cX8_init 98 = .ok (.aastore, 1) := by decide +kernel
theorem dX8_init_99 : decode cX8_init 99 = .ok (.aload_n 0, 1) := by decide +kernel
theorem dX8_init_100 : decode cX8_init 100 = .ok (.getfield 17, 3) := by decide +kernel
theorem dX8_init_103 : decode cX8_init 103 = .ok (.iload_n 1, 1) := by decide +kernel
theorem dX8_init_104 : decode cX8_init 104 = .ok (.new 9, 3) := by decide +kernel
theorem dX8_init_107 : decode cX8_init 107 = .ok (.dup, 1) := by decide +kernel
theorem dX8_init_108 : decode cX8_init 108 = .ok (.iconst 3, 1) := by decide +kernel
theorem dX8_init_109 : decode cX8_init 109 = .ok (.invokespecial 20, 3) := by decide +kernel
theorem dX8_init_112 : decode cX8_init 112 = .ok (.aastore, 1) := by decide +kernel
theorem dX8_init_113 : decode cX8_init 113 = .ok (.iinc 1 1, 3) := by decide +kernel
theorem dX8_init_116 : decode cX8_init 116 = .ok (.goto (-37), 3) := by decide +kernel
theorem dX8_init_119 : decode cX8_init 119 = .ok (.return_, 1) := by decide +kernel
theorem dX8_rules_0 : decode cX8_rules 0 = .ok (.aload_n 0, 1) := by decide +kernel
theorem dX8_rules_1 : decode cX8_rules 1 = .ok (.getfield 40, 3) := by decide +kernel
theorem dX8_rules_4 : decode cX8_rules 4 = .ok (.ireturn, 1) := by decide +kernel
theorem dX8_joins_0 : decode cX8_joins 0 = .ok (.aload_n 0, 1) := by decide +kernel
theorem dX8_joins_1 : decode cX8_joins 1 = .ok (.getfield 30, 3) := by decide +kernel
theorem dX8_joins_4 : decode cX8_joins 4 = .ok (.invokevirtual 44, 3) := by decide +kernel
theorem dX8_joins_7 : decode cX8_joins 7 = .ok (.ireturn, 1) := by decide +kernel
theorem dX9_init_0 : decode cX9_init 0 = .ok (.aload_n 0, 1) := by decide +kernel
theorem dX9_init_1 : decode cX9_init 1 = .ok (.invokespecial 3, 3) := by decide +kernel
theorem dX9_init_4 : decode cX9_init 4 = .ok (.aload_n 0, 1) := by decide +kernel
theorem dX9_init_5 : decode cX9_init 5 = .ok (.bipush 120, 2) := by decide +kernel
theorem dX9_init_7 : decode cX9_init 7 = .ok (.newarray .int, 2) := by decide +kernel
theorem dX9_init_9 : decode cX9_init 9 = .ok (.putfield 9, 3) := by decide +kernel
theorem dX9_init_12 : decode cX9_init 12 = .ok (.aload_n 0, 1) := by decide +kernel
theorem dX9_init_13 : decode cX9_init 13 = .ok (.bipush 120, 2) := by decide +kernel
theorem dX9_init_15 : decode cX9_init 15 = .ok (.newarray .int, 2) := by decide +kernel
theorem dX9_init_17 : decode cX9_init 17 = .ok (.putfield 15, 3) := by decide +kernel
theorem dX9_init_20 : decode cX9_init 20 = .ok (.aload_n 0, 1) := by decide +kernel
theorem dX9_init_21 : decode cX9_init 21 = .ok (.sipush 1200, 3) := by decide +kernel
theorem dX9_init_24 : decode cX9_init 24 = .ok (.newarray .int, 2) := by decide +kernel
theorem dX9_init_26 : decode cX9_init 26 = .ok (.putfield 18, 3) := by decide +kernel
theorem dX9_init_29 : decode cX9_init 29 = .ok (.aload_n 0, 1) := by decide +kernel
theorem dX9_init_30 : decode cX9_init 30 = .ok (.bipush 120, 2) := by decide +kernel
theorem dX9_init_32 : decode cX9_init 32 = .ok (.newarray .int, 2) := by decide +kernel
theorem dX9_init_34 : decode cX9_init 34 = .ok (.putfield 21, 3) := by decide +kernel
theorem dX9_init_37 : decode cX9_init 37 = .ok (.aload_n 0, 1) := by decide +kernel
theorem dX9_init_38 : decode cX9_init 38 = .ok (.bipush 120, 2) := by decide +kernel
theorem dX9_init_40 : decode cX9_init 40 = .ok (.newarray .boolean, 2) := by decide +kernel
theorem dX9_init_42 : decode cX9_init 42 = .ok (.putfield 24, 3) := by decide +kernel
theorem dX9_init_45 : decode cX9_init 45 = .ok (.aload_n 0, 1) := by decide +kernel
theorem dX9_init_46 : decode cX9_init 46 = .ok (.bipush 120, 2) := by decide +kernel
theorem dX9_init_48 : decode cX9_init 48 = .ok (.newarray .int, 2) := by decide +kernel
theorem dX9_init_50 : decode cX9_init 50 = .ok (.putfield 28, 3) := by decide +kernel
theorem dX9_init_53 : decode cX9_init 53 = .ok (.aload_n 0, 1) := by decide +kernel
theorem dX9_init_54 : decode cX9_init 54 = .ok (.new 31, 3) := by decide +kernel
theorem dX9_init_57 : decode cX9_init 57 = .ok (.dup, 1) := by decide +kernel
theorem dX9_init_58 : decode cX9_init 58 = .ok (.bipush 120, 2) := by decide +kernel
theorem dX9_init_60 : decode cX9_init 60 = .ok (.invokespecial 33, 3) := by decide +kernel
theorem dX9_init_63 : decode cX9_init 63 = .ok (.putfield 36, 3) := by decide +kernel
theorem dX9_init_66 : decode cX9_init 66 = .ok (.aload_n 0, 1) := by decide +kernel
theorem dX9_init_67 : decode cX9_init 67 = .ok (.new 31, 3) := by decide +kernel
theorem dX9_init_70 : decode cX9_init 70 = .ok (.dup, 1) := by decide +kernel
theorem dX9_init_71 : decode cX9_init 71 = .ok (.bipush 120, 2) := by decide +kernel
theorem dX9_init_73 : decode cX9_init 73 = .ok (.invokespecial 33, 3) := by decide +kernel
theorem dX9_init_76 : decode cX9_init 76 = .ok (.putfield 40, 3) := by decide +kernel
theorem dX9_init_79 : decode cX9_init 79 = .ok (.aload_n 0, 1) := by decide +kernel
theorem dX9_init_80 : decode cX9_init 80 = .ok (.aload_n 1, 1) := by decide +kernel
theorem dX9_init_81 : decode cX9_init 81 = .ok (.putfield 43, 3) := by decide +kernel
theorem dX9_init_84 : decode cX9_init 84 = .ok (.return_, 1) := by decide +kernel
theorem dX10_init_0 : decode cX10_init 0 = .ok (.aload_n 0, 1) := by decide +kernel
theorem dX10_init_1 : decode cX10_init 1 = .ok (.invokespecial 3, 3) := by decide +kernel
theorem dX10_init_4 : decode cX10_init 4 = .ok (.aload_n 0, 1) := by decide +kernel
theorem dX10_init_5 : decode cX10_init 5 = .ok (.new 9, 3) := by decide +kernel
theorem dX10_init_8 : decode cX10_init 8 = .ok (.dup, 1) := by decide +kernel
theorem dX10_init_9 : decode cX10_init 9 = .ok (.bipush 60, 2) := by decide +kernel
theorem dX10_init_11 : decode cX10_init 11 = .ok (.invokespecial 11, 3) := by decide +kernel
theorem dX10_init_14 : decode cX10_init 14 = .ok (.putfield 14, 3) := by decide +kernel
theorem dX10_init_17 : decode cX10_init 17 = .ok (.aload_n 0, 1) := by decide +kernel
theorem dX10_init_18 : decode cX10_init 18 = .ok (.new 9, 3) := by decide +kernel
theorem dX10_init_21 : decode cX10_init 21 = .ok (.dup, 1) := by decide +kernel
theorem dX10_init_22 : decode cX10_init 22 = .ok (.bipush 60, 2) := by decide +kernel
theorem dX10_init_24 : decode cX10_init 24 = .ok (.invokespecial 11, 3) := by decide +kernel
theorem dX10_init_27 : decode cX10_init 27 = .ok (.putfield 20, 3) := by decide +kernel
theorem dX10_init_30 : decode cX10_init 30 = .ok (.aload_n 0, 1) := by decide +kernel
theorem dX10_init_31 : decode cX10_init 31 = .ok (.new 9, 3) := by decide +kernel
theorem dX10_init_34 : decode cX10_init 34 = .ok (.dup, 1) := by decide +kernel
theorem dX10_init_35 : decode cX10_init 35 = .ok (.bipush 60, 2) := by decide +kernel
theorem dX10_init_37 : decode cX10_init 37 = .ok (.invokespecial 11, 3) := by decide +kernel
theorem dX10_init_40 : decode cX10_init 40 = .ok (.putfield 23, 3) := by decide +kernel
theorem dX10_init_43 : decode cX10_init 43 = .ok (.aload_n 0, 1) := by decide +kernel
theorem dX10_init_44 : decode cX10_init 44 = .ok (.bipush 60, 2) := by decide +kernel
theorem dX10_init_46 : decode cX10_init 46 = .ok (.anewarray 9, 3) := by decide +kernel
theorem dX10_init_49 : decode cX10_init 49 = .ok (.putfield 26, 3) := by decide +kernel
theorem dX10_init_52 : decode cX10_init 52 = .ok (.iconst 0, 1) := by decide +kernel
theorem dX10_init_53 : decode cX10_init 53 = .ok (.istore_n 1, 1) := by decide +kernel
theorem dX10_init_54 : decode cX10_init 54 = .ok (.iload_n 1, 1) := by decide +kernel
theorem dX10_init_55 : decode cX10_init 55 = .ok (.bipush 60, 2) := by decide +kernel
theorem dX10_init_57 : decode cX10_init 57 = .ok (.if_icmp .ge 24, 3) := by decide +kernel
theorem dX10_init_60 : decode cX10_init 60 = .ok (.aload_n 0, 1) := by decide +kernel
theorem dX10_init_61 : decode cX10_init 61 = .ok (.getfield 26, 3) := by decide +kernel
theorem dX10_init_64 : decode cX10_init 64 = .ok (.iload_n 1, 1) := by decide +kernel
theorem dX10_init_65 : decode cX10_init 65 = .ok (.new 9, 3) := by decide +kernel
theorem dX10_init_68 : decode cX10_init 68 = .ok (.dup, 1) := by decide +kernel
theorem dX10_init_69 : decode cX10_init 69 = .ok (.bipush 8, 2) := by decide +kernel
theorem dX10_init_71 : decode cX10_init 71 = .ok (.invokespecial 11, 3) := by decide +kernel
theorem dX10_init_74 : decode cX10_init 74 = .ok (.aastore, 1) := by decide +kernel
theorem dX10_init_75 : decode cX10_init 75 = .ok (.iinc 1 1, 3) := by decide +kernel
theorem dX10_init_78 : decode cX10_init 78 = .ok (.goto (-24), 3) := by decide +kernel
theorem dX10_init_81 : decode cX10_init 81 = .ok (.return_, 1) := by decide +kernel
theorem dX10_size_0 : decode cX10_size 0 = .ok (.aload_n 0, 1) := by decide +kernel
theorem dX10_size_1 : decode cX10_size 1 = .ok (.getfield 14, 3) := by decide +kernel
theorem dX10_size_4 : decode cX10_size 4 = .ok (.invokevirtual 30, 3) := by decide +kernel
theorem dX10_size_7 : decode cX10_size 7 = .ok (.ireturn, 1) := by decide +kernel
theorem dX10_isFull_0 : decode cX10_isFull 0 = .ok (.aload_n 0, 1) := by decide +kernel
theorem dX10_isFull_1 : decode cX10_isFull 1 = .ok (.getfield 14, 3) := by decide +kernel
theorem dX10_isFull_4 : decode cX10_isFull 4 = .ok (.invokevirtual 34, 3) := by decide +kernel
theorem dX10_isFull_7 : decode cX10_isFull 7 = .ok (.ireturn, 1) := by decide +kernel
theorem dX10_has_0 : decode cX10_has 0 = .ok (.aload_n 0, 1) := by decide +kernel
theorem dX10_has_1 : decode cX10_has 1 = .ok (.getfield 14, 3) := by decide +kernel
theorem dX10_has_4 : decode cX10_has 4 = .ok (.iload_n 1, 1) := by decide +kernel
theorem dX10_has_5 : decode cX10_has 5 = .ok (.invokevirtual 38, 3) := by decide +kernel
theorem dX10_has_8 : decode cX10_has 8 = .ok (.ireturn, 1) := by decide +kernel
theorem dX10_tongueOf_0 : decode cX10_tongueOf 0 = .ok (.aload_n 0, 1) := by decide +kernel
theorem dX10_tongueOf_1 : decode cX10_tongueOf 1 = .ok (.getfield 14, 3) := by decide +kernel
theorem dX10_tongueOf_4 : decode cX10_tongueOf 4 = .ok (.iload_n 1, 1) := by decide +kernel
theorem dX10_tongueOf_5 : decode cX10_tongueOf 5 = .ok (.invokevirtual 42, 3) := by decide +kernel
theorem dX10_tongueOf_8 : decode cX10_tongueOf 8 = .ok (.ireturn, 1) := by decide +kernel
theorem dX10_signOf_0 : decode cX10_signOf 0 = .ok (.aload_n 0, 1) := by decide +kernel
theorem dX10_signOf_1 : decode cX10_signOf 1 = .ok (.getfield 20, 3) := by decide +kernel
theorem dX10_signOf_4 : decode cX10_signOf 4 = .ok (.iload_n 1, 1) := by decide +kernel
theorem dX10_signOf_5 : decode cX10_signOf 5 = .ok (.invokevirtual 42, 3) := by decide +kernel
theorem dX10_signOf_8 : decode cX10_signOf 8 = .ok (.ireturn, 1) := by decide +kernel
theorem dX10_countOf_0 : decode cX10_countOf 0 = .ok (.aload_n 0, 1) := by decide +kernel
theorem dX10_countOf_1 : decode cX10_countOf 1 = .ok (.getfield 23, 3) := by decide +kernel
theorem dX10_countOf_4 : decode cX10_countOf 4 = .ok (.iload_n 1, 1) := by decide +kernel
theorem dX10_countOf_5 : decode cX10_countOf 5 = .ok (.invokevirtual 42, 3) := by decide +kernel
theorem dX10_countOf_8 : decode cX10_countOf 8 = .ok (.ireturn, 1) := by decide +kernel
theorem dX10_keysOf_0 : decode cX10_keysOf 0 = .ok (.aload_n 0, 1) := by decide +kernel
theorem dX10_keysOf_1 : decode cX10_keysOf 1 = .ok (.getfield 26, 3) := by decide +kernel
theorem dX10_keysOf_4 : decode cX10_keysOf 4 = .ok (.iload_n 1, 1) := by decide +kernel
theorem dX10_keysOf_5 : decode cX10_keysOf 5 = .ok (.aaload, 1) := by decide +kernel
theorem dX10_keysOf_6 : decode cX10_keysOf 6 = .ok (.areturn, 1) := by decide +kernel
theorem dX10_addWord_0 : decode cX10_addWord 0 = .ok (.aload_n 0, 1) := by decide +kernel
theorem dX10_addWord_1 : decode cX10_addWord 1 = .ok (.invokevirtual 50, 3) := by decide +kernel
theorem dX10_addWord_4 : decode cX10_addWord 4 = .ok (.ifCond .eq 6, 3) := by decide +kernel
theorem dX10_addWord_7 : decode cX10_addWord 7 = .ok (.bipush (-4), 2) := by decide +kernel
theorem dX10_addWord_9 : decode cX10_addWord 9 = .ok (.ireturn, 1) := by decide +kernel
theorem dX10_addWord_10 : decode cX10_addWord 10 = .ok (.aload_n 0, 1) := by decide +kernel
theorem dX10_addWord_11 : decode cX10_addWord 11 = .ok (.getfield 26, 3) := by decide +kernel
theorem dX10_addWord_14 : decode cX10_addWord 14 = .ok (.aload_n 0, 1) := by decide +kernel
theorem dX10_addWord_15 : decode cX10_addWord 15 = .ok (.invokevirtual 51, 3) := by decide +kernel
theorem dX10_addWord_18 : decode cX10_addWord 18 = .ok (.aaload, 1) := by decide +kernel
theorem dX10_addWord_19 : decode cX10_addWord 19 = .ok (.aload 4, 2) := by decide +kernel
theorem dX10_addWord_21 : decode cX10_addWord 21 = .ok (.invokevirtual 52, 3) := by decide +kernel
theorem dX10_addWord_24 : decode cX10_addWord 24 = .ok (.aload_n 0, 1) := by decide +kernel
theorem dX10_addWord_25 : decode cX10_addWord 25 = .ok (.getfield 14, 3) := by decide +kernel
theorem dX10_addWord_28 : decode cX10_addWord 28 = .ok (.iload_n 1, 1) := by decide +kernel
theorem dX10_addWord_29 : decode cX10_addWord 29 = .ok (.invokevirtual 56, 3) := by decide +kernel
theorem dX10_addWord_32 : decode cX10_addWord 32 = .ok (.aload_n 0, 1) := by decide +kernel
theorem dX10_addWord_33 : decode cX10_addWord 33 = .ok (.getfield 20, 3) := by decide +kernel
theorem dX10_addWord_36 : decode cX10_addWord 36 = .ok (.iload_n 2, 1) := by decide +kernel
theorem dX10_addWord_37 : decode cX10_addWord 37 = .ok (.invokevirtual 56, 3) := by decide +kernel
theorem dX10_addWord_40 : decode cX10_addWord 40 = .ok (.aload_n 0, 1) := by decide +kernel
theorem dX10_addWord_41 : decode cX10_addWord 41 = .ok (.getfield 23, 3) := by decide +kernel
theorem dX10_addWord_44 : decode cX10_addWord 44 = .ok (.iload_n 3, 1) := by decide +kernel
theorem dX10_addWord_45 : decode cX10_addWord 45 = .ok (.invokevirtual 56, 3) := by decide +kernel
theorem dX10_addWord_48 : decode cX10_addWord 48 = .ok (.aload_n 0, 1) := by decide +kernel
theorem dX10_addWord_49 : decode cX10_addWord 49 = .ok (.invokevirtual 51, 3) := by decide +kernel
theorem dX10_addWord_52 : decode cX10_addWord 52 = .ok (.iconst 1, 1) := by decide +kernel
theorem dX10_addWord_53 : decode cX10_addWord 53 = .ok (.isub, 1) := by decide +kernel
theorem dX10_addWord_54 : decode cX10_addWord 54 = .ok (.ireturn, 1) := by decide +kernel
theorem dX11_init_0 : decode cX11_init 0 = .ok (.aload_n 0, 1) := by decide +kernel
theorem dX11_init_1 : decode cX11_init 1 = .ok (.invokespecial 1, 3) := by decide +kernel
theorem dX11_init_4 : decode cX11_init 4 = .ok (.aload_n 0, 1) := by decide +kernel
theorem dX11_init_5 : decode cX11_init 5 = .ok (.new 7, 3) := by decide +kernel
theorem dX11_init_8 : decode cX11_init 8 = .ok (.dup, 1) := by decide +kernel
theorem dX11_init_9 : decode cX11_init 9 = .ok (.bipush 16, 2) := by decide +kernel
theorem dX11_init_11 : decode cX11_init 11 = .ok (.invokespecial 11, 3) := by decide +kernel
theorem dX11_init_14 : decode cX11_init 14 = .ok (.putfield 14, 3) := by decide +kernel
theorem dX11_init_17 : decode cX11_init 17 = .ok (.aload_n 0, 1) := by decide +kernel
theorem dX11_init_18 : decode cX11_init 18 = .ok (.new 7, 3) := by decide +kernel
theorem dX11_init_21 : decode cX11_init 21 = .ok (.dup, 1) := by decide +kernel
theorem dX11_init_22 : decode cX11_init 22 = .ok (.iconst 3, 1) := by decide +kernel
theorem dX11_init_23 : decode cX11_init 23 = .ok (.invokespecial 11, 3) := by decide +kernel
theorem dX11_init_26 : decode cX11_init 26 = .ok (.putfield 18, 3) := by decide +kernel
theorem dX11_init_29 : decode cX11_init 29 = .ok (.aload_n 0, 1) := by decide +kernel
theorem dX11_init_30 : decode cX11_init 30 = .ok (.iconst 3, 1) := by decide +kernel
theorem dX11_init_31 : decode cX11_init 31 = .ok (.anewarray 21, 3) := by decide +kernel
theorem dX11_init_34 : decode cX11_init 34 = .ok (.putfield 23, 3) := by decide +kernel
theorem dX11_init_37 : decode cX11_init 37 = .ok (.iconst 0, 1) := by decide +kernel
theorem dX11_init_38 : decode cX11_init 38 = .ok (.istore_n 1, 1) := by decide +kernel
theorem dX11_init_39 : decode cX11_init 39 = .ok (.iload_n 1, 1) := by decide +kernel
theorem dX11_init_40 : decode cX11_init 40 = .ok (.iconst 3, 1) := by decide +kernel
theorem dX11_init_41 : decode cX11_init 41 = .ok (.if_icmp .ge 22, 3) := by decide +kernel
theorem dX11_init_44 : decode cX11_init 44 = .ok (.aload_n 0, 1) := by decide +kernel
theorem dX11_init_45 : decode cX11_init 45 = .ok (.getfield 23, 3) := by decide +kernel
theorem dX11_init_48 : decode cX11_init 48 = .ok (.iload_n 1, 1) := by decide +kernel
theorem dX11_init_49 : decode cX11_init 49 = .ok (.new 21, 3) := by decide +kernel
theorem dX11_init_52 : decode cX11_init 52 = .ok (.dup, 1) := by decide +kernel
theorem dX11_init_53 : decode cX11_init 53 = .ok (.invokespecial 27, 3) := by decide +kernel
theorem dX11_init_56 : decode cX11_init 56 = .ok (.aastore, 1) := by decide +kernel
theorem dX11_init_57 : decode cX11_init 57 = .ok (.iinc 1 1, 3) := by decide +kernel
theorem dX11_init_60 : decode cX11_init 60 = .ok (.goto (-21), 3) := by decide +kernel
theorem dX11_init_63 : decode cX11_init 63 = .ok (.aload_n 0, 1) := by decide +kernel
theorem dX11_init_64 : decode cX11_init 64 = .ok (.new 28, 3) := by decide +kernel
theorem dX11_init_67 : decode cX11_init 67 = .ok (.dup, 1) := by decide +kernel
theorem dX11_init_68 : decode cX11_init 68 = .ok (.invokespecial 30, 3) := by decide +kernel
theorem dX11_init_71 : decode cX11_init 71 = .ok (.putfield 31, 3) := by decide +kernel
theorem dX11_init_74 : decode cX11_init 74 = .ok (.aload_n 0, 1) := by decide +kernel
theorem dX11_init_75 : decode cX11_init 75 = .ok (.new 35, 3) := by decide +kernel
theorem dX11_init_78 : decode cX11_init 78 = .ok (.dup, 1) := by decide +kernel
theorem dX11_init_79 : decode cX11_init 79 = .ok (.invokespecial 37, 3) := by decide +kernel
theorem dX11_init_82 : decode cX11_init 82 = .ok (.putfield 38, 3) := by decide +kernel
theorem dX11_init_85 : decode cX11_init 85 = .ok (.aload_n 0, 1) := by decide +kernel
theorem dX11_init_86 : decode cX11_init 86 = .ok (.new 42, 3) := by decide +kernel
theorem dX11_init_89 : decode cX11_init 89 = .ok (.dup, 1) := by decide +kernel
theorem dX11_init_90 : decode cX11_init 90 = .ok (.invokespecial 44, 3) := by decide +kernel
theorem dX11_init_93 : decode cX11_init 93 = .ok (.putfield 45, 3) := by decide +kernel
theorem dX11_init_96 : decode cX11_init 96 = .ok (.aload_n 0, 1) := by decide +kernel
theorem dX11_init_97 : decode cX11_init 97 = .ok (.new 49, 3) := by decide +kernel
theorem dX11_init_100 : decode cX11_init 100 = .ok (.dup, 1) := by decide +kernel
theorem dX11_init_101 : decode cX11_init 101 = .ok (.invokespecial 51, 3) := by decide +kernel
theorem dX11_init_104 : decode cX11_init 104 = .ok (.putfield 52, 3) := by decide +kernel
theorem dX11_init_107 : decode cX11_init 107 = .ok (.aload_n 0, 1) := by decide +kernel
theorem dX11_init_108 : decode cX11_init 108 = .ok (.new 56, 3) := by decide +kernel
theorem dX11_init_111 : decode cX11_init 111 = .ok (.dup, 1) := by decide +kernel
theorem dX11_init_112 : decode cX11_init 112 = .ok (.aload_n 0, 1) := by decide +kernel
theorem dX11_init_113 : decode cX11_init 113 = .ok (.getfield 38, 3) := by decide +kernel
theorem dX11_init_116 : decode cX11_init 116 = .ok (.aload_n 0, 1) := by decide +kernel
theorem dX11_init_117 : decode cX11_init 117 = .ok (.getfield 45, 3) := by decide +kernel
theorem dX11_init_120 : decode cX11_init 120 = .ok (.invokespecial 58, 3) := by decide +kernel
theorem dX11_init_123 : decode cX11_init 123 = .ok (.putfield 61, 3) := by decide +kernel
theorem dX11_init_126 : decode cX11_init 126 = .ok (.aload_n 0, 1) := by decide +kernel
theorem dX11_init_127 : decode cX11_init 127 = .ok (.new 65, 3) := by decide +kernel
theorem dX11_init_130 : decode cX11_init 130 = .ok (.dup, 1) := by decide +kernel
theorem dX11_init_131 : decode cX11_init 131 = .ok (.aload_n 0, 1) := by decide +kernel
theorem dX11_init_132 : decode cX11_init 132 = .ok (.getfield 38, 3) := by decide +kernel
theorem dX11_init_135 : decode cX11_init 135 = .ok (.invokespecial 67, 3) := by decide +kernel
theorem dX11_init_138 : decode cX11_init 138 = .ok (.putfield 70, 3) := by decide +kernel
theorem dX11_init_141 : decode cX11_init 141 = .ok (.aload_n 0, 1) := by decide +kernel
theorem dX11_init_142 : decode cX11_init 142 = .ok (.new 74, 3) := by decide +kernel
theorem dX11_init_145 : decode cX11_init 145 = .ok (.dup, 1) := by decide +kernel
theorem dX11_init_146 : decode cX11_init 146 = .ok (.invokespecial 76, 3) := by decide +kernel
theorem dX11_init_149 : decode cX11_init 149 = .ok (.putfield 77, 3) := by decide +kernel
theorem dX11_init_152 : decode cX11_init 152 = .ok (.aload_n 0, 1) := by decide +kernel
theorem dX11_init_153 : decode cX11_init 153 = .ok (.new 81, 3) := by decide +kernel
theorem dX11_init_156 : decode cX11_init 156 = .ok (.dup, 1) := by decide +kernel
theorem dX11_init_157 : decode cX11_init 157 = .ok (.invokespecial 83, 3) := by decide +kernel
theorem dX11_init_160 : decode cX11_init 160 = .ok (.putfield 84, 3) := by decide +kernel
theorem dX11_init_163 : decode cX11_init 163 = .ok (.aload_n 0, 1) := by decide +kernel
theorem dX11_init_164 : decode cX11_init 164 = .ok (.new 88, 3) := by decide +kernel
theorem dX11_init_167 : decode cX11_init 167 = .ok (.dup, 1) := by decide +kernel
theorem dX11_init_168 : decode cX11_init 168 = .ok (.aload_n 0, 1) := by decide +kernel
theorem dX11_init_169 : decode cX11_init 169 = .ok (.getfield 84, 3) := by decide +kernel
theorem dX11_init_172 : decode cX11_init 172 = .ok (.invokespecial 90, 3) := by decide +kernel
theorem dX11_init_175 : decode cX11_init 175 = .ok (.putfield 93, 3) := by decide +kernel
theorem dX11_init_178 : decode cX11_init 178 = .ok (.return_, 1) := by decide +kernel
theorem dX11_key_0 : decode cX11_key 0 = .ok (.iload_n 1, 1) := by decide +kernel
theorem dX11_key_1 : decode cX11_key 1 = .ok (.invokestatic 97, 3) := by decide +kernel
theorem dX11_key_4 : decode cX11_key 4 = .ok (.ifCond .ne 6, 3) := by decide +kernel
theorem dX11_key_7 : decode cX11_key 7 = .ok (.bipush (-2), 2) := by decide +kernel
theorem dX11_key_9 : decode cX11_key 9 = .ok (.ireturn, 1) := by decide +kernel
theorem dX11_key_10 : decode cX11_key 10 = .ok (.aload_n 0, 1) := by decide +kernel
theorem dX11_key_11 : decode cX11_key 11 = .ok (.getfield 14, 3) := by decide +kernel
theorem dX11_key_14 : decode cX11_key 14 = .ok (.invokevirtual 101, 3) := by decide +kernel
theorem dX11_key_17 : decode cX11_key 17 = .ok (.ifCond .eq 6, 3) := by decide +kernel
theorem dX11_key_20 : decode cX11_key 20 = .ok (.bipush (-4), 2) := by decide +kernel
theorem dX11_key_22 : decode cX11_key 22 = .ok (.ireturn, 1) := by decide +kernel
theorem dX11_key_23 : decode cX11_key 23 = .ok (.aload_n 0, 1) := by decide +kernel
theorem dX11_key_24 : decode cX11_key 24 = .ok (.getfield 14, 3) := by decide +kernel
theorem dX11_key_27 : decode cX11_key 27 = .ok (.iload_n 1, 1) := by decide +kernel
theorem dX11_key_28 : decode cX11_key 28 = .ok (.invokevirtual 105, 3) := by decide +kernel
theorem dX11_key_31 : decode cX11_key 31 = .ok (.aload_n 0, 1) := by decide +kernel
theorem dX11_key_32 : decode cX11_key 32 = .ok (.getfield 14, 3) := by decide +kernel
theorem dX11_key_35 : decode cX11_key 35 = .ok (.invokevirtual 108, 3) := by decide +kernel
theorem dX11_key_38 : decode cX11_key 38 = .ok (.ireturn, 1) := by decide +kernel
theorem dX11_word_0 : decode cX11_word 0 = .ok (.iload_n 1, 1) := by decide +kernel
theorem dX11_word_1 : decode cX11_word 1 = .ok (.invokestatic 121, 3) := by decide +kernel
theorem dX11_word_4 : decode cX11_word 4 = .ok (.ifCond .ne 5, 3) := by decide +kernel
theorem dX11_word_7 : decode cX11_word 7 = .ok (.iconst (-1), 1) := by decide +kernel
theorem dX11_word_8 : decode cX11_word 8 = .ok (.ireturn, 1) := by decide +kernel
theorem dX11_word_9 : decode cX11_word 9 = .ok (.iload_n 2, 1) := by decide +kernel
theorem dX11_word_10 : decode cX11_word 10 = .ok (.iconst 1, 1) := by decide +kernel
theorem dX11_word_11 : decode cX11_word 11 = .ok (.sipush 999, 3) := by decide +kernel
theorem dX11_word_14 : decode cX11_word 14 = .ok (.invokestatic 165, 3) := by decide +kernel
theorem dX11_word_17 : decode cX11_word 17 = .ok (.ifCond .eq 13, 3) := by decide +kernel
theorem dX11_word_20 : decode cX11_word 20 = .ok (.iload_n 3, 1) := by decide +kernel
theorem dX11_word_21 : decode cX11_word 21 = .ok (.iconst 1, 1) := by decide +kernel
theorem dX11_word_22 : decode cX11_word 22 = .ok (.bipush 100, 2) := by decide +kernel
theorem dX11_word_24 : decode cX11_word 24 = .ok (.invokestatic 165, 3) := by decide +kernel
theorem dX11_word_27 : decode cX11_word 27 = .ok (.ifCond .ne 6, 3) := by decide +kernel
theorem dX11_word_30 : decode cX11_word 30 = .ok (.bipush (-2), 2) := by decide +kernel
theorem dX11_word_32 : decode cX11_word 32 = .ok (.ireturn, 1) := by decide +kernel
theorem dX11_word_33 : decode cX11_word 33 = .ok (.aload_n 0, 1) := by decide +kernel
theorem dX11_word_34 : decode cX11_word 34 = .ok (.getfield 38, 3) := by decide +kernel
theorem dX11_word_37 : decode cX11_word 37 = .ok (.invokevirtual 207, 3) := by decide +kernel
theorem dX11_word_40 : decode cX11_word 40 = .ok (.ifCond .eq 6, 3) := by decide +kernel
theorem dX11_word_43 : decode cX11_word 43 = .ok (.bipush (-4), 2) := by decide +kernel
theorem dX11_word_45 : decode cX11_word 45 = .ok (.ireturn, 1) := by decide +kernel
theorem dX11_word_46 : decode cX11_word 46 = .ok (.aload_n 0, 1) := by decide +kernel
theorem dX11_word_47 : decode cX11_word 47 = .ok (.getfield 14, 3) := by decide +kernel
theorem dX11_word_50 : decode cX11_word 50 = .ok (.invokevirtual 127, 3) := by decide +kernel
theorem dX11_word_53 : decode cX11_word 53 = .ok (.ifCond .ne 15, 3) := by decide +kernel
theorem dX11_word_56 : decode cX11_word 56 = .ok (.aload_n 0, 1) := by decide +kernel
theorem dX11_word_57 : decode cX11_word 57 = .ok (.getfield 14, 3) := by decide +kernel
theorem dX11_word_60 : decode cX11_word 60 = .ok (.invokevirtual 108, 3) := by decide +kernel
theorem dX11_word_63 : decode cX11_word 63 = .ok (.bipush 8, 2) := by decide +kernel
theorem dX11_word_65 : decode cX11_word 65 = .ok (.if_icmp .le 6, 3) := by decide +kernel
theorem dX11_word_68 : decode cX11_word 68 = .ok (.bipush (-5), 2) := by decide +kernel
theorem dX11_word_70 : decode cX11_word 70 = .ok (.ireturn, 1) := by decide +kernel
theorem dX11_word_71 : decode cX11_word 71 = .ok (.aload_n 0, 1) := by decide +kernel
theorem dX11_word_72 : decode cX11_word 72 = .ok (.getfield 38, 3) := by decide +kernel
theorem dX11_word_75 : decode cX11_word 75 = .ok (.iload_n 1, 1) := by decide +kernel
theorem dX11_word_76 : decode cX11_word 76 = .ok (.iload_n 2, 1) := by decide +kernel
theorem dX11_word_77 : decode cX11_word 77 = .ok (.iload_n 3, 1) := by decide +kernel
theorem dX11_word_78 : decode cX11_word 78 = .ok (.aload_n 0, 1) := by decide +kernel
theorem dX11_word_79 : decode cX11_word 79 = .ok (.getfield 14, 3) := by decide +kernel
theorem dX11_word_82 : decode cX11_word 82 = .ok (.invokevirtual 208, 3) := by decide +kernel
theorem dX11_word_85 : decode cX11_word 85 = .ok (.istore 4, 2) := by decide +kernel
theorem dX11_word_87 : decode cX11_word 87 = .ok (.aload_n 0, 1) := by decide +kernel
theorem dX11_word_88 : decode cX11_word 88 = .ok (.getfield 14, 3) := by decide +kernel
theorem dX11_word_91 : decode cX11_word 91 = .ok (.invokevirtual 115, 3) := by decide +kernel
theorem dX11_word_94 : decode cX11_word 94 = .ok (.pop, 1) := by decide +kernel
theorem dX11_word_95 : decode cX11_word 95 = .ok (.iload 4, 2) := by decide +kernel
theorem dX11_word_97 : decode cX11_word 97 = .ok (.ireturn, 1) := by decide +kernel
theorem dX11_ofWord_0 : decode cX11_ofWord 0 = .ok (.aload_n 0, 1) := by decide +kernel
theorem dX11_ofWord_1 : decode cX11_ofWord 1 = .ok (.getfield 38, 3) := by decide +kernel
theorem dX11_ofWord_4 : decode cX11_ofWord 4 = .ok (.iload_n 1, 1) := by decide +kernel
theorem dX11_ofWord_5 : decode cX11_ofWord 5 = .ok (.invokevirtual 212, 3) := by decide +kernel
theorem dX11_ofWord_8 : decode cX11_ofWord 8 = .ok (.ifCond .ne 5, 3) := by decide +kernel
theorem dX11_ofWord_11 : decode cX11_ofWord 11 = .ok (.iconst (-1), 1) := by decide +kernel
theorem dX11_ofWord_12 : decode cX11_ofWord 12 = .ok (.ireturn, 1) := by decide +kernel
theorem dX11_ofWord_13 : decode cX11_ofWord 13 = .ok (.iload_n 2, 1) := by decide +kernel
theorem dX11_ofWord_14 : decode cX11_ofWord 14 = .ok (.tableswitch 69 0 3 #[30, 39, 48, 57], 30) := by decide +kernel
theorem dX11_ofWord_44 : decode cX11_ofWord 44 = .ok (.aload_n 0, 1) := by decide +kernel
theorem dX11_ofWord_45 : decode cX11_ofWord 45 = .ok (.getfield 38, 3) := by decide +kernel
theorem dX11_ofWord_48 : decode cX11_ofWord 48 = .ok (.iload_n 1, 1) := by decide +kernel
theorem dX11_ofWord_49 : decode cX11_ofWord 49 = .ok (.invokevirtual 213, 3) := by decide +kernel
theorem dX11_ofWord_52 : decode cX11_ofWord 52 = .ok (.ireturn, 1) := by decide +kernel
theorem dX11_ofWord_53 : decode cX11_ofWord 53 = .ok (.aload_n 0, 1) := by decide +kernel
theorem dX11_ofWord_54 : decode cX11_ofWord 54 = .ok (.getfield 38, 3) := by decide +kernel
theorem dX11_ofWord_57 : decode cX11_ofWord 57 = .ok (.iload_n 1, 1) := by decide +kernel
theorem dX11_ofWord_58 : decode cX11_ofWord 58 = .ok (.invokevirtual 216, 3) := by decide +kernel
theorem dX11_ofWord_61 : decode cX11_ofWord 61 = .ok (.ireturn, 1) := by decide +kernel
theorem dX11_ofWord_62 : decode cX11_ofWord 62 = .ok (.aload_n 0, 1) := by decide +kernel
theorem dX11_ofWord_63 : decode cX11_ofWord 63 = .ok (.getfield 38, 3) := by decide +kernel
theorem dX11_ofWord_66 : decode cX11_ofWord 66 = .ok (.iload_n 1, 1) := by decide +kernel
theorem dX11_ofWord_67 : decode cX11_ofWord 67 = .ok (.invokevirtual 219, 3) := by decide +kernel
theorem dX11_ofWord_70 : decode cX11_ofWord 70 = .ok (.ireturn, 1) := by decide +kernel
theorem dX11_ofWord_71 : decode cX11_ofWord 71 = .ok (.aload_n 0, 1) := by decide +kernel
theorem dX11_ofWord_72 : decode cX11_ofWord 72 = .ok (.getfield 38, 3) := by decide +kernel
theorem dX11_ofWord_75 : decode cX11_ofWord 75 = .ok (.iload_n 1, 1) := by decide +kernel
theorem dX11_ofWord_76 : decode cX11_ofWord 76 = .ok (.invokevirtual 222, 3) := by decide +kernel
theorem dX11_ofWord_79 : decode cX11_ofWord 79 = .ok (.invokevirtual 108, 3) := by decide +kernel
theorem dX11_ofWord_82 : decode cX11_ofWord 82 = .ok (.ireturn, 1) := by decide +kernel
theorem dX11_ofWord_83 : decode cX11_ofWord 83 = .ok (.iload_n 2, 1) := by decide +kernel
theorem dX11_ofWord_84 : decode cX11_ofWord 84 = .ok (.bipush 10, 2) := by decide +kernel
theorem dX11_ofWord_86 : decode cX11_ofWord 86 = .ok (.if_icmp .ge 6, 3) := by decide +kernel
theorem dX11_ofWord_89 : decode cX11_ofWord 89 = .ok (.bipush (-2), 2) := by decide +kernel
theorem dX11_ofWord_91 : decode cX11_ofWord 91 = .ok (.ireturn, 1) := by decide +kernel
theorem dX11_ofWord_92 : decode cX11_ofWord 92 = .ok (.aload_n 0, 1) := by decide +kernel
theorem dX11_ofWord_93 : decode cX11_ofWord 93 = .ok (.getfield 38, 3) := by decide +kernel
theorem dX11_ofWord_96 : decode cX11_ofWord 96 = .ok (.iload_n 1, 1) := by decide +kernel
theorem dX11_ofWord_97 : decode cX11_ofWord 97 = .ok (.invokevirtual 222, 3) := by decide +kernel
theorem dX11_ofWord_100 : decode cX11_ofWord 100 = .ok (.iload_n 2, 1) := by decide +kernel
theorem dX11_ofWord_101 : decode cX11_ofWord 101 = .ok (.bipush 10, 2) := by decide +kernel
theorem dX11_ofWord_103 : decode cX11_ofWord 103 = .ok (.isub, 1) := by decide +kernel
theorem dX11_ofWord_104 : decode cX11_ofWord 104 = .ok (.invokevirtual 173, 3) := by decide +kernel
theorem dX11_ofWord_107 : decode cX11_ofWord 107 = .ok (.ifCond .eq 21, 3) := by decide +kernel
theorem dX11_ofWord_110 : decode cX11_ofWord 110 = .ok (.aload_n 0, 1) := by decide +kernel
theorem dX11_ofWord_111 : decode cX11_ofWord 111 = .ok (.getfield 38, 3) := by decide +kernel
theorem dX11_ofWord_114 : decode cX11_ofWord 114 = .ok (.iload_n 1, 1) := by decide +kernel
theorem dX11_ofWord_115 : decode cX11_ofWord 115 = .ok (.invokevirtual 222, 3) := by decide +kernel
theorem dX11_ofWord_118 : decode cX11_ofWord 118 = .ok (.iload_n 2, 1) := by decide +kernel
theorem dX11_ofWord_119 : decode cX11_ofWord 119 = .ok (.bipush 10, 2) := by decide +kernel
theorem dX11_ofWord_121 : decode cX11_ofWord 121 = .ok (.isub, 1) := by decide +kernel
theorem dX11_ofWord_122 : decode cX11_ofWord 122 = .ok (.invokevirtual 194, 3) := by decide +kernel
theorem dX11_ofWord_125 : decode cX11_ofWord 125 = .ok (.goto 5, 3) := by decide +kernel
theorem dX11_ofWord_128 : decode cX11_ofWord 128 = .ok (.bipush (-6), 2) := by decide +kernel
theorem dX11_ofWord_130 : decode cX11_ofWord 130 = .ok (.ireturn, 1) := by decide +kernel
theorem dX11_slip_0 : decode cX11_slip 0 = .ok (.aload_n 0, 1) := by decide +kernel
theorem dX11_slip_1 : decode cX11_slip 1 = .ok (.getfield 38, 3) := by decide +kernel
theorem dX11_slip_4 : decode cX11_slip 4 = .ok (.iload_n 1, 1) := by decide +kernel
theorem dX11_slip_5 : decode cX11_slip 5 = .ok (.invokevirtual 212, 3) := by decide +kernel
theorem dX11_slip_8 : decode cX11_slip 8 = .ok (.ifCond .ne 5, 3) := by decide +kernel
theorem dX11_slip_11 : decode cX11_slip 11 = .ok (.iconst (-1), 1) := by decide +kernel
theorem dX11_slip_12 : decode cX11_slip 12 = .ok (.ireturn, 1) := by decide +kernel
theorem dX11_slip_13 : decode cX11_slip 13 = .ok (.aload_n 0, 1) := by decide +kernel
theorem dX11_slip_14 : decode cX11_slip 14 = .ok (.getfield 14, 3) := by decide +kernel
theorem dX11_slip_17 : decode cX11_slip 17 = .ok (.invokevirtual 127, 3) := by decide +kernel
theorem dX11_slip_20 : decode cX11_slip 20 = .ok (.ifCond .eq 8, 3) := by decide +kernel
theorem dX11_slip_23 : decode cX11_slip 23 = .ok (.bipush (-3), 2) := by decide +kernel
theorem dX11_slip_25 : decode cX11_slip 25 = .ok (.goto 22, 3) := by decide +kernel
theorem dX11_slip_28 : decode cX11_slip 28 = .ok (.aload_n 0, 1) := by decide +kernel
theorem dX11_slip_29 : decode cX11_slip 29 = .ok (.getfield 45, 3) := by decide +kernel
theorem dX11_slip_32 : decode cX11_slip 32 = .ok (.aload_n 0, 1) := by decide +kernel
theorem dX11_slip_33 : decode cX11_slip 33 = .ok (.getfield 14, 3) := by decide +kernel
theorem dX11_slip_36 : decode cX11_slip 36 = .ok (.aload_n 0, 1) := by decide +kernel
theorem dX11_slip_37 : decode cX11_slip 37 = .ok (.getfield 38, 3) := by decide +kernel
theorem dX11_slip_40 : decode cX11_slip 40 = .ok (.iload_n 1, 1) := by decide +kernel
theorem dX11_slip_41 : decode cX11_slip 41 = .ok (.invokevirtual 222, 3) := by decide +kernel
theorem dX11_slip_44 : decode cX11_slip 44 = .ok (.invokevirtual 232, 3) := by decide +kernel
theorem dX11_slip_47 : decode cX11_slip 47 = .ok (.ireturn, 1) := by decide +kernel
theorem dX11_guess_0 : decode cX11_guess 0 = .ok (.iload_n 1, 1) := by decide +kernel
theorem dX11_guess_1 : decode cX11_guess 1 = .ok (.iconst 1, 1) := by decide +kernel
theorem dX11_guess_2 : decode cX11_guess 2 = .ok (.bipush 7, 2) := by decide +kernel
theorem dX11_guess_4 : decode cX11_guess 4 = .ok (.invokestatic 165, 3) := by decide +kernel
theorem dX11_guess_7 : decode cX11_guess 7 = .ok (.ifCond .eq 13, 3) := by decide +kernel
theorem dX11_guess_10 : decode cX11_guess 10 = .ok (.iload_n 2, 1) := by decide +kernel
theorem dX11_guess_11 : decode cX11_guess 11 = .ok (.iconst 0, 1) := by decide +kernel
theorem dX11_guess_12 : decode cX11_guess 12 = .ok (.bipush 60, 2) := by decide +kernel
theorem dX11_guess_14 : decode cX11_guess 14 = .ok (.invokestatic 165, 3) := by decide +kernel
theorem dX11_guess_17 : decode cX11_guess 17 = .ok (.ifCond .ne 6, 3) := by decide +kernel
theorem dX11_guess_20 : decode cX11_guess 20 = .ok (.bipush (-2), 2) := by decide +kernel
theorem dX11_guess_22 : decode cX11_guess 22 = .ok (.ireturn, 1) := by decide +kernel
theorem dX11_guess_23 : decode cX11_guess 23 = .ok (.aload_n 0, 1) := by decide +kernel
theorem dX11_guess_24 : decode cX11_guess 24 = .ok (.getfield 14, 3) := by decide +kernel
theorem dX11_guess_27 : decode cX11_guess 27 = .ok (.invokevirtual 127, 3) := by decide +kernel
theorem dX11_guess_30 : decode cX11_guess 30 = .ok (.ifCond .eq 6, 3) := by decide +kernel
theorem dX11_guess_33 : decode cX11_guess 33 = .ok (.bipush (-3), 2) := by decide +kernel
theorem dX11_guess_35 : decode cX11_guess 35 = .ok (.ireturn, 1) := by decide +kernel
theorem dX11_guess_36 : decode cX11_guess 36 = .ok (.aload_n 0, 1) := by decide +kernel
theorem dX11_guess_37 : decode cX11_guess 37 = .ok (.iload_n 1, 1) := by decide +kernel
theorem dX11_guess_38 : decode cX11_guess 38 = .ok (.iload_n 2, 1) := by decide +kernel
theorem dX11_guess_39 : decode cX11_guess 39 = .ok (.iconst (-1), 1) := by decide +kernel
theorem dX11_guess_40 : decode cX11_guess 40 = .ok (.iconst 0, 1) := by decide +kernel
theorem dX11_guess_41 : decode cX11_guess 41 = .ok (.invokevirtual 235, 3) := by decide +kernel
theorem dX11_guess_44 : decode cX11_guess 44 = .ok (.aload_n 0, 1) := by decide +kernel
theorem dX11_guess_45 : decode cX11_guess 45 = .ok (.getfield 52, 3) := by decide +kernel
theorem dX11_guess_48 : decode cX11_guess 48 = .ok (.iload_n 3, 1) := by decide +kernel
theorem dX11_guess_49 : decode cX11_guess 49 = .ok (.invokevirtual 239, 3) := by decide +kernel
theorem dX11_guess_52 : decode cX11_guess 52 = .ok (.ireturn, 1) := by decide +kernel
theorem dX11_learn_0 : decode cX11_learn 0 = .ok (.iload_n 1, 1) := by decide +kernel
theorem dX11_learn_1 : decode cX11_learn 1 = .ok (.invokestatic 276, 3) := by decide +kernel
theorem dX11_learn_4 : decode cX11_learn 4 = .ok (.ifCond .eq 14, 3) := by decide +kernel
theorem dX11_learn_7 : decode cX11_learn 7 = .ok (.aload_n 0, 1) := by decide +kernel
theorem dX11_learn_8 : decode cX11_learn 8 = .ok (.getfield 38, 3) := by decide +kernel
theorem dX11_learn_11 : decode cX11_learn 11 = .ok (.iload_n 2, 1) := by decide +kernel
theorem dX11_learn_12 : decode cX11_learn 12 = .ok (.invokevirtual 212, 3) := by decide +kernel
theorem dX11_learn_15 : decode cX11_learn 15 = .ok (.ifCond .ne 5, 3) := by decide +kernel
theorem dX11_learn_18 : decode cX11_learn 18 = .ok (.iconst (-1), 1) := by decide +kernel
theorem dX11_learn_19 : decode cX11_learn 19 = .ok (.ireturn, 1) := by decide +kernel
theorem dX11_learn_20 : decode cX11_learn 20 = .ok (.iload_n 3, 1) := by decide +kernel
theorem dX11_learn_21 : decode cX11_learn 21 = .ok (.invokestatic 279, 3) := by decide +kernel
theorem dX11_learn_24 : decode cX11_learn 24 = .ok (.ifCond .ne 6, 3) := by decide +kernel
theorem dX11_learn_27 : decode cX11_learn 27 = .ok (.bipush (-2), 2) := by decide +kernel
theorem dX11_learn_29 : decode cX11_learn 29 = .ok (.ireturn, 1) := by decide +kernel
theorem dX11_learn_30 : decode cX11_learn 30 = .ok (.aload_n 0, 1) := by decide +kernel
theorem dX11_learn_31 : decode cX11_learn 31 = .ok (.getfield 77, 3) := by decide +kernel
theorem dX11_learn_34 : decode cX11_learn 34 = .ok (.invokevirtual 282, 3) := by decide +kernel
theorem dX11_learn_37 : decode cX11_learn 37 = .ok (.ifCond .eq 6, 3) := by decide +kernel
theorem dX11_learn_40 : decode cX11_learn 40 = .ok (.bipush (-4), 2) := by decide +kernel
theorem dX11_learn_42 : decode cX11_learn 42 = .ok (.ireturn, 1) := by decide +kernel
theorem dX11_learn_43 : decode cX11_learn 43 = .ok (.iload_n 3, 1) := by decide +kernel
theorem dX11_learn_44 : decode cX11_learn 44 = .ok (.aload_n 0, 1) := by decide +kernel
theorem dX11_learn_45 : decode cX11_learn 45 = .ok (.getfield 77, 3) := by decide +kernel
theorem dX11_learn_48 : decode cX11_learn 48 = .ok (.iload_n 1, 1) := by decide +kernel
theorem dX11_learn_49 : decode cX11_learn 49 = .ok (.invokevirtual 283, 3) := by decide +kernel
theorem dX11_learn_52 : decode cX11_learn 52 = .ok (.if_icmp .ge 8, 3) := by decide +kernel
theorem dX11_learn_55 : decode cX11_learn 55 = .ok (.bipush (-5), 2) := by decide +kernel
theorem dX11_learn_57 : decode cX11_learn 57 = .ok (.goto 13, 3) := by decide +kernel
theorem dX11_learn_60 : decode cX11_learn 60 = .ok (.aload_n 0, 1) := by decide +kernel
theorem dX11_learn_61 : decode cX11_learn 61 = .ok (.getfield 77, 3) := by decide +kernel
theorem dX11_learn_64 : decode cX11_learn 64 = .ok (.iload_n 1, 1) := by decide +kernel
theorem dX11_learn_65 : decode cX11_learn 65 = .ok (.iload_n 2, 1) := by decide +kernel
theorem dX11_learn_66 : decode cX11_learn 66 = .ok (.iload_n 3, 1) := by decide +kernel
theorem dX11_learn_67 : decode cX11_learn 67 = .ok (.invokevirtual 286, 3) := by decide +kernel
theorem dX11_learn_70 : decode cX11_learn 70 = .ok (.ireturn, 1) := by decide +kernel
theorem dX11_worth_0 : decode cX11_worth 0 = .ok (.iload_n 1, 1) := by decide +kernel
theorem dX11_worth_1 : decode cX11_worth 1 = .ok (.invokestatic 276, 3) := by decide +kernel
theorem dX11_worth_4 : decode cX11_worth 4 = .ok (.ifCond .eq 14, 3) := by decide +kernel
theorem dX11_worth_7 : decode cX11_worth 7 = .ok (.aload_n 0, 1) := by decide +kernel
theorem dX11_worth_8 : decode cX11_worth 8 = .ok (.getfield 38, 3) := by decide +kernel
theorem dX11_worth_11 : decode cX11_worth 11 = .ok (.iload_n 2, 1) := by decide +kernel
theorem dX11_worth_12 : decode cX11_worth 12 = .ok (.invokevirtual 212, 3) := by decide +kernel
theorem dX11_worth_15 : decode cX11_worth 15 = .ok (.ifCond .ne 5, 3) := by decide +kernel
theorem dX11_worth_18 : decode cX11_worth 18 = .ok (.iconst (-1), 1) := by decide +kernel
theorem dX11_worth_19 : decode cX11_worth 19 = .ok (.ireturn, 1) := by decide +kernel
theorem dX11_worth_20 : decode cX11_worth 20 = .ok (.iload_n 3, 1) := by decide +kernel
theorem dX11_worth_21 : decode cX11_worth 21 = .ok (.invokestatic 279, 3) := by decide +kernel
theorem dX11_worth_24 : decode cX11_worth 24 = .ok (.ifCond .eq 16, 3) := by decide +kernel
theorem dX11_worth_27 : decode cX11_worth 27 = .ok (.aload_n 0, 1) := by decide +kernel
theorem dX11_worth_28 : decode cX11_worth 28 = .ok (.getfield 77, 3) := by decide +kernel
theorem dX11_worth_31 : decode cX11_worth 31 = .ok (.iload_n 1, 1) := by decide +kernel
theorem dX11_worth_32 : decode cX11_worth 32 = .ok (.iload_n 2, 1) := by decide +kernel
theorem dX11_worth_33 : decode cX11_worth 33 = .ok (.iload_n 3, 1) := by decide +kernel
theorem dX11_worth_34 : decode cX11_worth 34 = .ok (.invokevirtual 289, 3) := by decide +kernel
theorem dX11_worth_37 : decode cX11_worth 37 = .ok (.goto 5, 3) := by decide +kernel
theorem dX11_worth_40 : decode cX11_worth 40 = .ok (.bipush (-2), 2) := by decide +kernel
theorem dX11_worth_42 : decode cX11_worth 42 = .ok (.ireturn, 1) := by decide +kernel
theorem dX11_forget_0 : decode cX11_forget 0 = .ok (.iload_n 1, 1) := by decide +kernel
theorem dX11_forget_1 : decode cX11_forget 1 = .ok (.invokestatic 276, 3) := by decide +kernel
theorem dX11_forget_4 : decode cX11_forget 4 = .ok (.ifCond .eq 19, 3) := by decide +kernel
theorem dX11_forget_7 : decode cX11_forget 7 = .ok (.iload_n 2, 1) := by decide +kernel
theorem dX11_forget_8 : decode cX11_forget 8 = .ok (.iconst (-1), 1) := by decide +kernel
theorem dX11_forget_9 : decode cX11_forget 9 = .ok (.if_icmp .eq 16, 3) := by decide +kernel
theorem dX11_forget_12 : decode cX11_forget 12 = .ok (.aload_n 0, 1) := by decide +kernel
theorem dX11_forget_13 : decode cX11_forget 13 = .ok (.getfield 38, 3) := by decide +kernel
theorem dX11_forget_16 : decode cX11_forget 16 = .ok (.iload_n 2, 1) := by decide +kernel
theorem dX11_forget_17 : decode cX11_forget 17 = .ok (.invokevirtual 212, 3) := by decide +kernel
theorem dX11_forget_20 : decode cX11_forget 20 = .ok (.ifCond .ne 5, 3) := by decide +kernel
theorem dX11_forget_23 : decode cX11_forget 23 = .ok (.iconst (-1), 1) := by decide +kernel
theorem dX11_forget_24 : decode cX11_forget 24 = .ok (.ireturn, 1) := by decide +kernel
theorem dX11_forget_25 : decode cX11_forget 25 = .ok (.aload_n 0, 1) := by decide +kernel
theorem dX11_forget_26 : decode cX11_forget 26 = .ok (.getfield 77, 3) := by decide +kernel
theorem dX11_forget_29 : decode cX11_forget 29 = .ok (.iload_n 1, 1) := by decide +kernel
theorem dX11_forget_30 : decode cX11_forget 30 = .ok (.iload_n 2, 1) := by decide +kernel
theorem dX11_forget_31 : decode cX11_forget 31 = .ok (.invokevirtual 292, 3) := by decide +kernel
theorem dX11_forget_34 : decode cX11_forget 34 = .ok (.ireturn, 1) := by decide +kernel
theorem dX11_fade_0 : decode cX11_fade 0 = .ok (.iload_n 1, 1) := by decide +kernel
theorem dX11_fade_1 : decode cX11_fade 1 = .ok (.iconst 0, 1) := by decide +kernel
theorem dX11_fade_2 : decode cX11_fade 2 = .ok (.sipush 1000, 3) := by decide +kernel
theorem dX11_fade_5 : decode cX11_fade 5 = .ok (.invokestatic 165, 3) := by decide +kernel
theorem dX11_fade_8 : decode cX11_fade 8 = .ok (.ifCond .eq 14, 3) := by decide +kernel
theorem dX11_fade_11 : decode cX11_fade 11 = .ok (.aload_n 0, 1) := by decide +kernel
theorem dX11_fade_12 : decode cX11_fade 12 = .ok (.getfield 77, 3) := by decide +kernel
theorem dX11_fade_15 : decode cX11_fade 15 = .ok (.iload_n 1, 1) := by decide +kernel
theorem dX11_fade_16 : decode cX11_fade 16 = .ok (.invokevirtual 295, 3) := by decide +kernel
theorem dX11_fade_19 : decode cX11_fade 19 = .ok (.goto 5, 3) := by decide +kernel
theorem dX11_fade_22 : decode cX11_fade 22 = .ok (.bipush (-2), 2) := by decide +kernel
theorem dX11_fade_24 : decode cX11_fade 24 = .ok (.ireturn, 1) := by decide +kernel
theorem dX11_mine_0 : decode cX11_mine 0 = .ok (.iload_n 1, 1) := by decide +kernel
theorem dX11_mine_1 : decode cX11_mine 1 = .ok (.invokestatic 276, 3) := by decide +kernel
theorem dX11_mine_4 : decode cX11_mine 4 = .ok (.ifCond .ne 5, 3) := by decide +kernel
theorem dX11_mine_7 : decode cX11_mine 7 = .ok (.iconst (-1), 1) := by decide +kernel
theorem dX11_mine_8 : decode cX11_mine 8 = .ok (.ireturn, 1) := by decide +kernel
theorem dX11_mine_9 : decode cX11_mine 9 = .ok (.iload_n 2, 1) := by decide +kernel
theorem dX11_mine_10 : decode cX11_mine 10 = .ok (.invokestatic 279, 3) := by decide +kernel
theorem dX11_mine_13 : decode cX11_mine 13 = .ok (.ifCond .eq 24, 3) := by decide +kernel
theorem dX11_mine_16 : decode cX11_mine 16 = .ok (.iload_n 3, 1) := by decide +kernel
theorem dX11_mine_17 : decode cX11_mine 17 = .ok (.iconst 1, 1) := by decide +kernel
theorem dX11_mine_18 : decode cX11_mine 18 = .ok (.bipush 7, 2) := by decide +kernel
theorem dX11_mine_20 : decode cX11_mine 20 = .ok (.invokestatic 165, 3) := by decide +kernel
theorem dX11_mine_23 : decode cX11_mine 23 = .ok (.ifCond .eq 14, 3) := by decide +kernel
theorem dX11_mine_26 : decode cX11_mine 26 = .ok (.iload 4, 2) := by decide +kernel
theorem dX11_mine_28 : decode cX11_mine 28 = .ok (.iconst 0, 1) := by decide +kernel
theorem dX11_mine_29 : decode cX11_mine 29 = .ok (.bipush 60, 2) := by decide +kernel
theorem dX11_mine_31 : decode cX11_mine 31 = .ok (.invokestatic 165, 3) := by decide +kernel
theorem dX11_mine_34 : decode cX11_mine 34 = .ok (.ifCond .ne 6, 3) := by decide +kernel
theorem dX11_mine_37 : decode cX11_mine 37 = .ok (.bipush (-2), 2) := by decide +kernel
theorem dX11_mine_39 : decode cX11_mine 39 = .ok (.ireturn, 1) := by decide +kernel
theorem dX11_mine_40 : decode cX11_mine 40 = .ok (.aload_n 0, 1) := by decide +kernel
theorem dX11_mine_41 : decode cX11_mine 41 = .ok (.getfield 14, 3) := by decide +kernel
theorem dX11_mine_44 : decode cX11_mine 44 = .ok (.invokevirtual 127, 3) := by decide +kernel
theorem dX11_mine_47 : decode cX11_mine 47 = .ok (.ifCond .eq 6, 3) := by decide +kernel
theorem dX11_mine_50 : decode cX11_mine 50 = .ok (.bipush (-3), 2) := by decide +kernel
theorem dX11_mine_52 : decode cX11_mine 52 = .ok (.ireturn, 1) := by decide +kernel
theorem dX11_mine_53 : decode cX11_mine 53 = .ok (.aload_n 0, 1) := by decide +kernel
theorem dX11_mine_54 : decode cX11_mine 54 = .ok (.iload_n 3, 1) := by decide +kernel
theorem dX11_mine_55 : decode cX11_mine 55 = .ok (.iload 4, 2) := by decide +kernel
theorem dX11_mine_57 : decode cX11_mine 57 = .ok (.iload_n 1, 1) := by decide +kernel
theorem dX11_mine_58 : decode cX11_mine 58 = .ok (.iload_n 2, 1) := by decide +kernel
theorem dX11_mine_59 : decode cX11_mine 59 = .ok (.invokevirtual 235, 3) := by decide +kernel
theorem dX11_mine_62 : decode cX11_mine 62 = .ok (.aload_n 0, 1) := by decide +kernel
theorem dX11_mine_63 : decode cX11_mine 63 = .ok (.getfield 52, 3) := by decide +kernel
theorem dX11_mine_66 : decode cX11_mine 66 = .ok (.iload 5, 2) := by decide +kernel
theorem dX11_mine_68 : decode cX11_mine 68 = .ok (.invokevirtual 239, 3) := by decide +kernel
theorem dX11_mine_71 : decode cX11_mine 71 = .ok (.ireturn, 1) := by decide +kernel
theorem dX11_budget_0 : decode cX11_budget 0 = .ok (.iload_n 1, 1) := by decide +kernel
theorem dX11_budget_1 : decode cX11_budget 1 = .ok (.invokestatic 276, 3) := by decide +kernel
theorem dX11_budget_4 : decode cX11_budget 4 = .ok (.ifCond .ne 5, 3) := by decide +kernel
theorem dX11_budget_7 : decode cX11_budget 7 = .ok (.iconst (-1), 1) := by decide +kernel
theorem dX11_budget_8 : decode cX11_budget 8 = .ok (.ireturn, 1) := by decide +kernel
theorem dX11_budget_9 : decode cX11_budget 9 = .ok (.iload_n 2, 1) := by decide +kernel
theorem dX11_budget_10 : decode cX11_budget 10 = .ok (.iconst 0, 1) := by decide +kernel
theorem dX11_budget_11 : decode cX11_budget 11 = .ok (.sipush 1000, 3) := by decide +kernel
theorem dX11_budget_14 : decode cX11_budget 14 = .ok (.invokestatic 165, 3) := by decide +kernel
theorem dX11_budget_17 : decode cX11_budget 17 = .ok (.ifCond .eq 15, 3) := by decide +kernel
theorem dX11_budget_20 : decode cX11_budget 20 = .ok (.aload_n 0, 1) := by decide +kernel
theorem dX11_budget_21 : decode cX11_budget 21 = .ok (.getfield 77, 3) := by decide +kernel
theorem dX11_budget_24 : decode cX11_budget 24 = .ok (.iload_n 1, 1) := by decide +kernel
theorem dX11_budget_25 : decode cX11_budget 25 = .ok (.iload_n 2, 1) := by decide +kernel
theorem dX11_budget_26 : decode cX11_budget 26 = .ok (.invokevirtual 298, 3) := by decide +kernel
theorem dX11_budget_29 : decode cX11_budget 29 = .ok (.goto 5, 3) := by decide +kernel
theorem dX11_budget_32 : decode cX11_budget 32 = .ok (.bipush (-2), 2) := by decide +kernel
theorem dX11_budget_34 : decode cX11_budget 34 = .ok (.ireturn, 1) := by decide +kernel
theorem dX11_seed_0 : decode cX11_seed 0 = .ok (.iload_n 1, 1) := by decide +kernel
theorem dX11_seed_1 : decode cX11_seed 1 = .ok (.iconst 1, 1) := by decide +kernel
theorem dX11_seed_2 : decode cX11_seed 2 = .ok (.ldc_w 301, 3) := by decide +kernel
theorem dX11_seed_5 : decode cX11_seed 5 = .ok (.invokestatic 165, 3) := by decide +kernel
theorem dX11_seed_8 : decode cX11_seed 8 = .ok (.ifCond .eq 14, 3) := by decide +kernel
theorem dX11_seed_11 : decode cX11_seed 11 = .ok (.aload_n 0, 1) := by decide +kernel
theorem dX11_seed_12 : decode cX11_seed 12 = .ok (.getfield 77, 3) := by decide +kernel
theorem dX11_seed_15 : decode cX11_seed 15 = .ok (.iload_n 1, 1) := by decide +kernel
theorem dX11_seed_16 : decode cX11_seed 16 = .ok (.invokevirtual 302, 3) := by decide +kernel
theorem dX11_seed_19 : decode cX11_seed 19 = .ok (.goto 5, 3) := by decide +kernel
theorem dX11_seed_22 : decode cX11_seed 22 = .ok (.bipush (-2), 2) := by decide +kernel
theorem dX11_seed_24 : decode cX11_seed 24 = .ok (.ireturn, 1) := by decide +kernel
theorem dX11_share_0 : decode cX11_share 0 = .ok (.aload_n 0, 1) := by decide +kernel
theorem dX11_share_1 : decode cX11_share 1 = .ok (.getfield 38, 3) := by decide +kernel
theorem dX11_share_4 : decode cX11_share 4 = .ok (.iload_n 1, 1) := by decide +kernel
theorem dX11_share_5 : decode cX11_share 5 = .ok (.invokevirtual 212, 3) := by decide +kernel
theorem dX11_share_8 : decode cX11_share 8 = .ok (.ifCond .ne 7, 3) := by decide +kernel
theorem dX11_share_11 : decode cX11_share 11 = .ok (.ldc_w 305, 3) := by decide +kernel
theorem dX11_share_14 : decode cX11_share 14 = .ok (.ireturn, 1) := by decide +kernel
theorem dX11_share_15 : decode cX11_share 15 = .ok (.iload_n 2, 1) := by decide +kernel
theorem dX11_share_16 : decode cX11_share 16 = .ok (.iconst 1, 1) := by decide +kernel
theorem dX11_share_17 : decode cX11_share 17 = .ok (.bipush 100, 2) := by decide +kernel
theorem dX11_share_19 : decode cX11_share 19 = .ok (.invokestatic 165, 3) := by decide +kernel
theorem dX11_share_22 : decode cX11_share 22 = .ok (.ifCond .eq 10, 3) := by decide +kernel
theorem dX11_share_25 : decode cX11_share 25 = .ok (.iload_n 3, 1) := by decide +kernel
theorem dX11_share_26 : decode cX11_share 26 = .ok (.invokestatic 279, 3) := by decide +kernel
theorem dX11_share_29 : decode cX11_share 29 = .ok (.ifCond .ne 7, 3) := by decide +kernel
theorem dX11_share_32 : decode cX11_share 32 = .ok (.ldc_w 306, 3) := by decide +kernel
theorem dX11_share_35 : decode cX11_share 35 = .ok (.ireturn, 1) := by decide +kernel
theorem dX11_share_36 : decode cX11_share 36 = .ok (.aload_n 0, 1) := by decide +kernel
theorem dX11_share_37 : decode cX11_share 37 = .ok (.getfield 77, 3) := by decide +kernel
theorem dX11_share_40 : decode cX11_share 40 = .ok (.iload_n 2, 1) := by decide +kernel
theorem dX11_share_41 : decode cX11_share 41 = .ok (.invokevirtual 307, 3) := by decide +kernel
theorem dX11_share_44 : decode cX11_share 44 = .ok (.iconst 2, 1) := by decide +kernel
theorem dX11_share_45 : decode cX11_share 45 = .ok (.if_icmp .ge 9, 3) := by decide +kernel
theorem dX11_share_48 : decode cX11_share 48 = .ok (.ldc_w 310, 3) := by decide +kernel
theorem dX11_share_51 : decode cX11_share 51 = .ok (.goto 13, 3) := by decide +kernel
theorem dX11_share_54 : decode cX11_share 54 = .ok (.aload_n 0, 1) := by decide +kernel
theorem dX11_share_55 : decode cX11_share 55 = .ok (.getfield 77, 3) := by decide +kernel
theorem dX11_share_58 : decode cX11_share 58 = .ok (.iload_n 1, 1) := by decide +kernel
theorem dX11_share_59 : decode cX11_share 59 = .ok (.iload_n 2, 1) := by decide +kernel
theorem dX11_share_60 : decode cX11_share 60 = .ok (.iload_n 3, 1) := by decide +kernel
theorem dX11_share_61 : decode cX11_share 61 = .ok (.invokevirtual 311, 3) := by decide +kernel
theorem dX11_share_64 : decode cX11_share 64 = .ok (.ireturn, 1) := by decide +kernel
theorem dX11_told_0 : decode cX11_told 0 = .ok (.iload_n 1, 1) := by decide +kernel
theorem dX11_told_1 : decode cX11_told 1 = .ok (.tableswitch 126 0 8 #[51, 59, 67, 75, 83, 94, 102, 110, 118], 51) := by decide +kernel
theorem dX11_told_52 : decode cX11_told 52 = .ok (.aload_n 0, 1) := by decide +kernel
theorem dX11_told_53 : decode cX11_told 53 = .ok (.getfield 14, 3) := by decide +kernel
theorem dX11_told_56 : decode cX11_told 56 = .ok (.invokevirtual 108, 3) := by decide +kernel
theorem dX11_told_59 : decode cX11_told 59 = .ok (.ireturn, 1) := by decide +kernel
theorem dX11_told_60 : decode cX11_told 60 = .ok (.aload_n 0, 1) := by decide +kernel
theorem dX11_told_61 : decode cX11_told 61 = .ok (.getfield 18, 3) := by decide +kernel
theorem dX11_told_64 : decode cX11_told 64 = .ok (.invokevirtual 108, 3) := by decide +kernel
theorem dX11_told_67 : decode cX11_told 67 = .ok (.ireturn, 1) := by decide +kernel
theorem dX11_told_68 : decode cX11_told 68 = .ok (.aload_n 0, 1) := by decide +kernel
theorem dX11_told_69 : decode cX11_told 69 = .ok (.getfield 70, 3) := by decide +kernel
theorem dX11_told_72 : decode cX11_told 72 = .ok (.invokevirtual 361, 3) := by decide +kernel
theorem dX11_told_75 : decode cX11_told 75 = .ok (.ireturn, 1) := by decide +kernel
theorem dX11_told_76 : decode cX11_told 76 = .ok (.aload_n 0, 1) := by decide +kernel
theorem dX11_told_77 : decode cX11_told 77 = .ok (.getfield 31, 3) := by decide +kernel
theorem dX11_told_80 : decode cX11_told 80 = .ok (.invokevirtual 364, 3) := by decide +kernel
theorem dX11_told_83 : decode cX11_told 83 = .ok (.ireturn, 1) := by decide +kernel
theorem dX11_told_84 : decode cX11_told 84 = .ok (.aload_n 0, 1) := by decide +kernel
theorem dX11_told_85 : decode cX11_told 85 = .ok (.getfield 31, 3) := by decide +kernel
theorem dX11_told_88 : decode cX11_told 88 = .ok (.invokevirtual 161, 3) := by decide +kernel
theorem dX11_told_91 : decode cX11_told 91 = .ok (.invokevirtual 108, 3) := by decide +kernel
theorem dX11_told_94 : decode cX11_told 94 = .ok (.ireturn, 1) := by decide +kernel
theorem dX11_told_95 : decode cX11_told 95 = .ok (.aload_n 0, 1) := by decide +kernel
theorem dX11_told_96 : decode cX11_told 96 = .ok (.getfield 38, 3) := by decide +kernel
theorem dX11_told_99 : decode cX11_told 99 = .ok (.invokevirtual 367, 3) := by decide +kernel
theorem dX11_told_102 : decode cX11_told 102 = .ok (.ireturn, 1) := by decide +kernel
theorem dX11_told_103 : decode cX11_told 103 = .ok (.aload_n 0, 1) := by decide +kernel
theorem dX11_told_104 : decode cX11_told 104 = .ok (.getfield 70, 3) := by decide +kernel
theorem dX11_told_107 : decode cX11_told 107 = .ok (.invokevirtual 256, 3) := by decide +kernel
theorem dX11_told_110 : decode cX11_told 110 = .ok (.ireturn, 1) := by decide +kernel
theorem dX11_told_111 : decode cX11_told 111 = .ok (.aload_n 0, 1) := by decide +kernel
theorem dX11_told_112 : decode cX11_told 112 = .ok (.getfield 77, 3) := by decide +kernel
theorem dX11_told_115 : decode cX11_told 115 = .ok (.invokevirtual 368, 3) := by decide +kernel
theorem dX11_told_118 : decode cX11_told 118 = .ok (.ireturn, 1) := by decide +kernel
theorem dX11_told_119 : decode cX11_told 119 = .ok (.aload_n 0, 1) := by decide +kernel
theorem dX11_told_120 : decode cX11_told 120 = .ok (.getfield 84, 3) := by decide +kernel
theorem dX11_told_123 : decode cX11_told 123 = .ok (.invokevirtual 351, 3) := by decide +kernel
theorem dX11_told_126 : decode cX11_told 126 = .ok (.ireturn, 1) := by decide +kernel
theorem dX11_told_127 : decode cX11_told 127 = .ok (.aload_n 0, 1) := by decide +kernel
theorem dX11_told_128 : decode cX11_told 128 = .ok (.iload_n 1, 1) := by decide +kernel
theorem dX11_told_129 : decode cX11_told 129 = .ok (.invokevirtual 371, 3) := by decide +kernel
theorem dX11_told_132 : decode cX11_told 132 = .ok (.ireturn, 1) := by decide +kernel
theorem dX11_toldOfOne_0 : decode cX11_toldOfOne 0 = .ok (.iload_n 1, 1) := by decide +kernel
theorem dX11_toldOfOne_1 : decode cX11_toldOfOne 1 = .ok (.bipush 10, 2) := by decide +kernel
theorem dX11_toldOfOne_3 : decode cX11_toldOfOne 3 = .ok (.isub, 1) := by decide +kernel
theorem dX11_toldOfOne_4 : decode cX11_toldOfOne 4 = .ok (.invokestatic 121, 3) := by decide +kernel
theorem dX11_toldOfOne_7 : decode cX11_toldOfOne 7 = .ok (.ifCond .eq 16, 3) := by decide +kernel
theorem dX11_toldOfOne_10 : decode cX11_toldOfOne 10 = .ok (.aload_n 0, 1) := by decide +kernel
theorem dX11_toldOfOne_11 : decode cX11_toldOfOne 11 = .ok (.getfield 23, 3) := by decide +kernel
theorem dX11_toldOfOne_14 : decode cX11_toldOfOne 14 = .ok (.iload_n 1, 1) := by decide +kernel
theorem dX11_toldOfOne_15 : decode cX11_toldOfOne 15 = .ok (.bipush 10, 2) := by decide +kernel
theorem dX11_toldOfOne_17 : decode cX11_toldOfOne 17 = .ok (.isub, 1) := by decide +kernel
theorem dX11_toldOfOne_18 : decode cX11_toldOfOne 18 = .ok (.aaload, 1) := by decide +kernel
theorem dX11_toldOfOne_19 : decode cX11_toldOfOne 19 = .ok (.invokevirtual 374, 3) := by decide +kernel
theorem dX11_toldOfOne_22 : decode cX11_toldOfOne 22 = .ok (.ireturn, 1) := by decide +kernel
theorem dX11_toldOfOne_23 : decode cX11_toldOfOne 23 = .ok (.iload_n 1, 1) := by decide +kernel
theorem dX11_toldOfOne_24 : decode cX11_toldOfOne 24 = .ok (.bipush 20, 2) := by decide +kernel
theorem dX11_toldOfOne_26 : decode cX11_toldOfOne 26 = .ok (.isub, 1) := by decide +kernel
theorem dX11_toldOfOne_27 : decode cX11_toldOfOne 27 = .ok (.invokestatic 121, 3) := by decide +kernel
theorem dX11_toldOfOne_30 : decode cX11_toldOfOne 30 = .ok (.ifCond .eq 16, 3) := by decide +kernel
theorem dX11_toldOfOne_33 : decode cX11_toldOfOne 33 = .ok (.aload_n 0, 1) := by decide +kernel
theorem dX11_toldOfOne_34 : decode cX11_toldOfOne 34 = .ok (.getfield 23, 3) := by decide +kernel
theorem dX11_toldOfOne_37 : decode cX11_toldOfOne 37 = .ok (.iload_n 1, 1) := by decide +kernel
theorem dX11_toldOfOne_38 : decode cX11_toldOfOne 38 = .ok (.bipush 20, 2) := by decide +kernel
theorem dX11_toldOfOne_40 : decode cX11_toldOfOne 40 = .ok (.isub, 1) := by decide +kernel
theorem dX11_toldOfOne_41 : decode cX11_toldOfOne 41 = .ok (.aaload, 1) := by decide +kernel
theorem dX11_toldOfOne_42 : decode cX11_toldOfOne 42 = .ok (.invokevirtual 377, 3) := by decide +kernel
theorem dX11_toldOfOne_45 : decode cX11_toldOfOne 45 = .ok (.ireturn, 1) := by decide +kernel
theorem dX11_toldOfOne_46 : decode cX11_toldOfOne 46 = .ok (.iload_n 1, 1) := by decide +kernel
theorem dX11_toldOfOne_47 : decode cX11_toldOfOne 47 = .ok (.bipush 30, 2) := by decide +kernel
theorem dX11_toldOfOne_49 : decode cX11_toldOfOne 49 = .ok (.isub, 1) := by decide +kernel
theorem dX11_toldOfOne_50 : decode cX11_toldOfOne 50 = .ok (.invokestatic 276, 3) := by decide +kernel
theorem dX11_toldOfOne_53 : decode cX11_toldOfOne 53 = .ok (.ifCond .eq 17, 3) := by decide +kernel
theorem dX11_toldOfOne_56 : decode cX11_toldOfOne 56 = .ok (.aload_n 0, 1) := by decide +kernel
theorem dX11_toldOfOne_57 : decode cX11_toldOfOne 57 = .ok (.getfield 77, 3) := by decide +kernel
theorem dX11_toldOfOne_60 : decode cX11_toldOfOne 60 = .ok (.iload_n 1, 1) := by decide +kernel
theorem dX11_toldOfOne_61 : decode cX11_toldOfOne 61 = .ok (.bipush 30, 2) := by decide +kernel
theorem dX11_toldOfOne_63 : decode cX11_toldOfOne 63 = .ok (.isub, 1) := by decide +kernel
theorem dX11_toldOfOne_64 : decode cX11_toldOfOne 64 = .ok (.invokevirtual 380, 3) := by decide +kernel
theorem dX11_toldOfOne_67 : decode cX11_toldOfOne 67 = .ok (.goto 5, 3) := by decide +kernel
theorem dX11_toldOfOne_70 : decode cX11_toldOfOne 70 = .ok (.bipush (-2), 2) := by decide +kernel
theorem dX11_toldOfOne_72 : decode cX11_toldOfOne 72 = .ok (.ireturn, 1) := by decide +kernel
theorem dX11_within_0 : decode cX11_within 0 = .ok (.iload_n 0, 1) := by decide +kernel
theorem dX11_within_1 : decode cX11_within 1 = .ok (.iload_n 1, 1) := by decide +kernel
theorem dX11_within_2 : decode cX11_within 2 = .ok (.if_icmp .lt 12, 3) := by decide +kernel
theorem dX11_within_5 : decode cX11_within 5 = .ok (.iload_n 0, 1) := by decide +kernel
theorem dX11_within_6 : decode cX11_within 6 = .ok (.iload_n 2, 1) := by decide +kernel
theorem dX11_within_7 : decode cX11_within 7 = .ok (.if_icmp .gt 7, 3) := by decide +kernel
theorem dX11_within_10 : decode cX11_within 10 = .ok (.iconst 1, 1) := by decide +kernel
theorem dX11_within_11 : decode cX11_within 11 = .ok (.goto 4, 3) := by decide +kernel
theorem dX11_within_14 : decode cX11_within 14 = .ok (.iconst 0, 1) := by decide +kernel
theorem dX11_within_15 : decode cX11_within 15 = .ok (.ireturn, 1) := by decide +kernel
theorem dX11_isKey_0 : decode cX11_isKey 0 = .ok (.iload_n 0, 1) := by decide +kernel
theorem dX11_isKey_1 : decode cX11_isKey 1 = .ok (.iconst 0, 1) := by decide +kernel
theorem dX11_isKey_2 : decode cX11_isKey 2 = .ok (.bipush 11, 2) := by decide +kernel
theorem dX11_isKey_4 : decode cX11_isKey 4 = .ok (.invokestatic 165, 3) := by decide +kernel
theorem dX11_isKey_7 : decode cX11_isKey 7 = .ok (.ireturn, 1) := by decide +kernel
theorem dX11_isTongue_0 : decode cX11_isTongue 0 = .ok (.iload_n 0, 1) := by decide +kernel
theorem dX11_isTongue_1 : decode cX11_isTongue 1 = .ok (.iconst 0, 1) := by decide +kernel
theorem dX11_isTongue_2 : decode cX11_isTongue 2 = .ok (.iconst 2, 1) := by decide +kernel
theorem dX11_isTongue_3 : decode cX11_isTongue 3 = .ok (.invokestatic 165, 3) := by decide +kernel
theorem dX11_isTongue_6 : decode cX11_isTongue 6 = .ok (.ireturn, 1) := by decide +kernel
theorem dX11_isHand_0 : decode cX11_isHand 0 = .ok (.iload_n 0, 1) := by decide +kernel
theorem dX11_isHand_1 : decode cX11_isHand 1 = .ok (.iconst 0, 1) := by decide +kernel
theorem dX11_isHand_2 : decode cX11_isHand 2 = .ok (.iconst 3, 1) := by decide +kernel
theorem dX11_isHand_3 : decode cX11_isHand 3 = .ok (.invokestatic 165, 3) := by decide +kernel
theorem dX11_isHand_6 : decode cX11_isHand 6 = .ok (.ireturn, 1) := by decide +kernel
theorem dX11_isDay_0 : decode cX11_isDay 0 = .ok (.iload_n 0, 1) := by decide +kernel
theorem dX11_isDay_1 : decode cX11_isDay 1 = .ok (.iconst 0, 1) := by decide +kernel
theorem dX11_isDay_2 : decode cX11_isDay 2 = .ok (.sipush 3000, 3) := by decide +kernel
theorem dX11_isDay_5 : decode cX11_isDay 5 = .ok (.invokestatic 165, 3) := by decide +kernel
theorem dX11_isDay_8 : decode cX11_isDay 8 = .ok (.ireturn, 1) := by decide +kernel
theorem dX11_hasBit_0 : decode cX11_hasBit 0 = .ok (.iload_n 0, 1) := by decide +kernel
theorem dX11_hasBit_1 : decode cX11_hasBit 1 = .ok (.iload_n 1, 1) := by decide +kernel
theorem dX11_hasBit_2 : decode cX11_hasBit 2 = .ok (.ishr, 1) := by decide +kernel
theorem dX11_hasBit_3 : decode cX11_hasBit 3 = .ok (.iconst 1, 1) := by decide +kernel
theorem dX11_hasBit_4 : decode cX11_hasBit 4 = .ok (.iand, 1) := by decide +kernel
theorem dX11_hasBit_5 : decode cX11_hasBit 5 = .ok (.iconst 1, 1) := by decide +kernel
theorem dX11_hasBit_6 : decode cX11_hasBit 6 = .ok (.if_icmp .ne 7, 3) := by decide +kernel
theorem dX11_hasBit_9 : decode cX11_hasBit 9 = .ok (.iconst 1, 1) := by decide +kernel
theorem dX11_hasBit_10 : decode cX11_hasBit 10 = .ok (.goto 4, 3) := by decide +kernel
theorem dX11_hasBit_13 : decode cX11_hasBit 13 = .ok (.iconst 0, 1) := by decide +kernel
theorem dX11_hasBit_14 : decode cX11_hasBit 14 = .ok (.ireturn, 1) := by decide +kernel
theorem dX11_gather_0 : decode cX11_gather 0 = .ok (.aload_n 0, 1) := by decide +kernel
theorem dX11_gather_1 : decode cX11_gather 1 = .ok (.getfield 52, 3) := by decide +kernel
theorem dX11_gather_4 : decode cX11_gather 4 = .ok (.invokevirtual 383, 3) := by decide +kernel
theorem dX11_gather_7 : decode cX11_gather 7 = .ok (.iconst 0, 1) := by decide +kernel
theorem dX11_gather_8 : decode cX11_gather 8 = .ok (.istore 5, 2) := by decide +kernel
theorem dX11_gather_10 : decode cX11_gather 10 = .ok (.iload 5, 2) := by decide +kernel
theorem dX11_gather_12 : decode cX11_gather 12 = .ok (.aload_n 0, 1) := by decide +kernel
theorem dX11_gather_13 : decode cX11_gather 13 = .ok (.getfield 38, 3) := by decide +kernel
theorem dX11_gather_16 : decode cX11_gather 16 = .ok (.invokevirtual 367, 3) := by decide +kernel
theorem dX11_gather_19 : decode cX11_gather 19 = .ok (.if_icmp .ge 90, 3) := by decide +kernel
theorem dX11_gather_22 : decode cX11_gather 22 = .ok (.iload_n 1, 1) := by decide +kernel
theorem dX11_gather_23 : decode cX11_gather 23 = .ok (.aload_n 0, 1) := by decide +kernel
theorem dX11_gather_24 : decode cX11_gather 24 = .ok (.getfield 38, 3) := by decide +kernel
theorem dX11_gather_27 : decode cX11_gather 27 = .ok (.iload 5, 2) := by decide +kernel
theorem dX11_gather_29 : decode cX11_gather 29 = .ok (.invokevirtual 213, 3) := by decide +kernel
theorem dX11_gather_32 : decode cX11_gather 32 = .ok (.invokestatic 385, 3) := by decide +kernel
theorem dX11_gather_35 : decode cX11_gather 35 = .ok (.ifCond .eq 68, 3) := by decide +kernel
theorem dX11_gather_38 : decode cX11_gather 38 = .ok (.aload_n 0, 1) := by decide +kernel
theorem dX11_gather_39 : decode cX11_gather 39 = .ok (.getfield 45, 3) := by decide +kernel
theorem dX11_gather_42 : decode cX11_gather 42 = .ok (.aload_n 0, 1) := by decide +kernel
theorem dX11_gather_43 : decode cX11_gather 43 = .ok (.getfield 14, 3) := by decide +kernel
theorem dX11_gather_46 : decode cX11_gather 46 = .ok (.aload_n 0, 1) := by decide +kernel
theorem dX11_gather_47 : decode cX11_gather 47 = .ok (.getfield 38, 3) := by decide +kernel
theorem dX11_gather_50 : decode cX11_gather 50 = .ok (.iload 5, 2) := by decide +kernel
theorem dX11_gather_52 : decode cX11_gather 52 = .ok (.invokevirtual 222, 3) := by decide +kernel
theorem dX11_gather_55 : decode cX11_gather 55 = .ok (.invokevirtual 232, 3) := by decide +kernel
theorem dX11_gather_58 : decode cX11_gather 58 = .ok (.istore 6, 2) := by decide +kernel
theorem dX11_gather_60 : decode cX11_gather 60 = .ok (.iload 6, 2) := by decide +kernel
theorem dX11_gather_62 : decode cX11_gather 62 = .ok (.iload_n 2, 1) := by decide +kernel
theorem dX11_gather_63 : decode cX11_gather 63 = .ok (.if_icmp .gt 40, 3) := by decide +kernel
theorem dX11_gather_66 : decode cX11_gather 66 = .ok (.aload_n 0, 1) := by decide +kernel
theorem dX11_gather_67 : decode cX11_gather 67 = .ok (.getfield 52, 3) := by decide +kernel
theorem dX11_gather_70 : decode cX11_gather 70 = .ok (.iload 5, 2) := by decide +kernel
theorem dX11_gather_72 : decode cX11_gather 72 = .ok (.iload 6, 2) := by decide +kernel
theorem dX11_gather_74 : decode cX11_gather 74 = .ok (.sipush 1000, 3) := by decide +kernel
theorem dX11_gather_77 : decode cX11_gather 77 = .ok (.aload_n 0, 1) := by decide +kernel
theorem dX11_gather_78 : decode cX11_gather 78 = .ok (.getfield 38, 3) := by decide +kernel
theorem dX11_gather_81 : decode cX11_gather 81 = .ok (.iload 5, 2) := by decide +kernel
theorem dX11_gather_83 : decode cX11_gather 83 = .ok (.invokevirtual 219, 3) := by decide +kernel
theorem dX11_gather_86 : decode cX11_gather 86 = .ok (.imul, 1) := by decide +kernel
theorem dX11_gather_87 : decode cX11_gather 87 = .ok (.aload_n 0, 1) := by decide +kernel
theorem dX11_gather_88 : decode cX11_gather 88 = .ok (.getfield 77, 3) := by decide +kernel
theorem dX11_gather_91 : decode cX11_gather 91 = .ok (.iload_n 3, 1) := by decide +kernel
theorem dX11_gather_92 : decode cX11_gather 92 = .ok (.iload 5, 2) := by decide +kernel
theorem dX11_gather_94 : decode cX11_gather 94 = .ok (.iload 4, 2) := by decide +kernel
theorem dX11_gather_96 : decode cX11_gather 96 = .ok (.invokevirtual 289, 3) := by decide +kernel
theorem dX11_gather_99 : decode cX11_gather 99 = .ok (.iadd, 1) := by decide +kernel
theorem dX11_gather_100 : decode cX11_gather 100 = .ok (.invokevirtual 389, 3) := by decide +kernel
theorem dX11_gather_103 : decode cX11_gather 103 = .ok (.iinc 5 1, 3) := by decide +kernel
theorem dX11_gather_106 : decode cX11_gather 106 = .ok (.goto (-96), 3) := by decide +kernel
theorem dX11_gather_109 : decode cX11_gather 109 = .ok (.return_, 1) := by decide +kernel
