theorem dX0_init_0 : decode cX0_init 0 = .ok (.aload_n 0, 1) := by decide +kernel
theorem dX0_init_1 : decode cX0_init 1 = .ok (.invokespecial 3, 3) := by decide +kernel
theorem dX0_init_4 : decode cX0_init 4 = .ok (.aload_n 0, 1) := by decide +kernel
theorem dX0_init_5 : decode cX0_init 5 = .ok (.bipush 60, 2) := by decide +kernel
theorem dX0_init_7 : decode cX0_init 7 = .ok (.bipush 60, 2) := by decide +kernel
theorem dX0_init_9 : decode cX0_init 9 = .ok (.multianewarray 9 2, 4) := by decide +kernel
theorem dX0_init_13 : decode cX0_init 13 = .ok (.putfield 11, 3) := by decide +kernel
theorem dX0_init_16 : decode cX0_init 16 = .ok (.aload_n 0, 1) := by decide +kernel
theorem dX0_init_17 : decode cX0_init 17 = .ok (.new 16, 3) := by decide +kernel
theorem dX0_init_20 : decode cX0_init 20 = .ok (.dup, 1) := by decide +kernel
theorem dX0_init_21 : decode cX0_init 21 = .ok (.iconst 5, 1) := by decide +kernel
theorem dX0_init_22 : decode cX0_init 22 = .ok (.invokespecial 18, 3) := by decide +kernel
theorem dX0_init_25 : decode cX0_init 25 = .ok (.putfield 21, 3) := by decide +kernel
theorem dX0_init_28 : decode cX0_init 28 = .ok (.aload_n 0, 1) := by decide +kernel
theorem dX0_init_29 : decode cX0_init 29 = .ok (.new 16, 3) := by decide +kernel
theorem dX0_init_32 : decode cX0_init 32 = .ok (.dup, 1) := by decide +kernel
theorem dX0_init_33 : decode cX0_init 33 = .ok (.iconst 5, 1) := by decide +kernel
theorem dX0_init_34 : decode cX0_init 34 = .ok (.invokespecial 18, 3) := by decide +kernel
theorem dX0_init_37 : decode cX0_init 37 = .ok (.putfield 25, 3) := by decide +kernel
theorem dX0_init_40 : decode cX0_init 40 = .ok (.aload_n 0, 1) := by decide +kernel
theorem dX0_init_41 : decode cX0_init 41 = .ok (.new 16, 3) := by decide +kernel
theorem dX0_init_44 : decode cX0_init 44 = .ok (.dup, 1) := by decide +kernel
theorem dX0_init_45 : decode cX0_init 45 = .ok (.iconst 5, 1) := by decide +kernel
theorem dX0_init_46 : decode cX0_init 46 = .ok (.invokespecial 18, 3) := by decide +kernel
theorem dX0_init_49 : decode cX0_init 49 = .ok (.putfield 28, 3) := by decide +kernel
theorem dX0_init_52 : decode cX0_init 52 = .ok (.aload_n 0, 1) := by decide +kernel
theorem dX0_init_53 : decode cX0_init 53 = .ok (.iconst 5, 1) := by decide +kernel
theorem dX0_init_54 : decode cX0_init 54 = .ok (.bipush 60, 2) := by decide +kernel
theorem dX0_init_56 : decode cX0_init 56 = .ok (.multianewarray 31 2, 4) := by decide +kernel
theorem dX0_init_60 : decode cX0_init 60 = .ok (.putfield 33, 3) := by decide +kernel
theorem dX0_init_63 : decode cX0_init 63 = .ok (.aload_n 0, 1) := by decide +kernel
theorem dX0_init_64 : decode cX0_init 64 = .ok (.iconst 5, 1) := by decide +kernel
theorem dX0_init_65 : decode cX0_init 65 = .ok (.bipush 60, 2) := by decide +kernel
theorem dX0_init_67 : decode cX0_init 67 = .ok (.multianewarray 9 2, 4) := by decide +kernel
theorem dX0_init_71 : decode cX0_init 71 = .ok (.putfield 36, 3) := by decide +kernel
theorem dX0_init_74 : decode cX0_init 74 = .ok (.aload_n 0, 1) := by decide +kernel
theorem dX0_init_75 : decode cX0_init 75 = .ok (.aload_n 1, 1) := by decide +kernel
theorem dX0_init_76 : decode cX0_init 76 = .ok (.putfield 39, 3) := by decide +kernel
theorem dX0_init_79 : decode cX0_init 79 = .ok (.return_, 1) := by decide +kernel
theorem dX0_pairs_0 : decode cX0_pairs 0 = .ok (.aload_n 0, 1) := by decide +kernel
theorem dX0_pairs_1 : decode cX0_pairs 1 = .ok (.getfield 43, 3) := by decide +kernel
theorem dX0_pairs_4 : decode cX0_pairs 4 = .ok (.ireturn, 1) := by decide +kernel
theorem dX0_together_0 : decode cX0_together 0 = .ok (.aload_n 0, 1) := by decide +kernel
theorem dX0_together_1 : decode cX0_together 1 = .ok (.getfield 11, 3) := by decide +kernel
theorem dX0_together_4 : decode cX0_together 4 = .ok (.iload_n 1, 1) := by decide +kernel
theorem dX0_together_5 : decode cX0_together 5 = .ok (.aaload, 1) := by decide +kernel
theorem dX0_together_6 : decode cX0_together 6 = .ok (.iload_n 2, 1) := by decide +kernel
theorem dX0_together_7 : decode cX0_together 7 = .ok (.iaload, 1) := by decide +kernel
theorem dX0_together_8 : decode cX0_together 8 = .ok (.ireturn, 1) := by decide +kernel
theorem dX0_setTogether_0 : decode cX0_setTogether 0 = .ok (.aload_n 0, 1) := by decide +kernel
theorem dX0_setTogether_1 : decode cX0_setTogether 1 = .ok (.getfield 11, 3) := by decide +kernel
theorem dX0_setTogether_4 : decode cX0_setTogether 4 = .ok (.iload_n 1, 1) := by decide +kernel
theorem dX0_setTogether_5 : decode cX0_setTogether 5 = .ok (.aaload, 1) := by decide +kernel
theorem dX0_setTogether_6 : decode cX0_setTogether 6 = .ok (.iload_n 2, 1) := by decide +kernel
theorem dX0_setTogether_7 : decode cX0_setTogether 7 = .ok (.iaload, 1) := by decide +kernel
theorem dX0_setTogether_8 : decode cX0_setTogether 8 = .ok (.istore 4, 2) := by decide +kernel
theorem dX0_setTogether_10 : decode cX0_setTogether 10 = .ok (.aload_n 0, 1) := by decide +kernel
theorem dX0_setTogether_11 : decode cX0_setTogether 11 = .ok (.getfield 11, 3) := by decide +kernel
theorem dX0_setTogether_14 : decode cX0_setTogether 14 = .ok (.iload_n 1, 1) := by decide +kernel
theorem dX0_setTogether_15 : decode cX0_setTogether 15 = .ok (.aaload, 1) := by decide +kernel
theorem dX0_setTogether_16 : decode cX0_setTogether 16 = .ok (.iload_n 2, 1) := by decide +kernel
theorem dX0_setTogether_17 : decode cX0_setTogether 17 = .ok (.iload_n 3, 1) := by decide +kernel
theorem dX0_setTogether_18 : decode cX0_setTogether 18 = .ok (.iastore, 1) := by decide +kernel
theorem dX0_setTogether_19 : decode cX0_setTogether 19 = .ok (.aload_n 0, 1) := by decide +kernel
theorem dX0_setTogether_20 : decode cX0_setTogether 20 = .ok (.dup, 1) := by decide +kernel
theorem dX0_setTogether_21 : decode cX0_setTogether 21 = .ok (.getfield 43, 3) := by decide +kernel
theorem dX0_setTogether_24 : decode cX0_setTogether 24 = .ok (.iload_n 3, 1) := by decide +kernel
theorem dX0_setTogether_25 : decode cX0_setTogether 25 = .ok (.ifCond .le 7, 3) := by decide +kernel
theorem dX0_setTogether_28 : decode cX0_setTogether 28 = .ok (.iconst 1, 1) := by decide +kernel
theorem dX0_setTogether_29 : decode cX0_setTogether 29 = .ok (.goto 4, 3) := by decide +kernel
theorem dX0_setTogether_32 : decode cX0_setTogether 32 = .ok (.iconst 0, 1) := by decide +kernel
theorem dX0_setTogether_33 : decode cX0_setTogether 33 = .ok (.iload 4, 2) := by decide +kernel
theorem dX0_setTogether_35 : decode cX0_setTogether 35 = .ok (.ifCond .le 7, 3) := by decide +kernel
theorem dX0_setTogether_38 : decode cX0_setTogether 38 = .ok (.iconst 1, 1) := by decide +kernel
theorem dX0_setTogether_39 : decode cX0_setTogether 39 = .ok (.goto 4, 3) := by decide +kernel
theorem dX0_setTogether_42 : decode cX0_setTogether 42 = .ok (.iconst 0, 1) := by decide +kernel
theorem dX0_setTogether_43 : decode cX0_setTogether 43 = .ok (.isub, 1) := by decide +kernel
theorem dX0_setTogether_44 : decode cX0_setTogether 44 = .ok (.iadd, 1) := by decide +kernel
theorem dX0_setTogether_45 : decode cX0_setTogether 45 = .ok (.putfield 43, 3) := by decide +kernel
theorem dX0_setTogether_48 : decode cX0_setTogether 48 = .ok (.iload 4, 2) := by decide +kernel
theorem dX0_setTogether_50 : decode cX0_setTogether 50 = .ok (.ireturn, 1) := by decide +kernel
theorem dX0_padSize_0 : decode cX0_padSize 0 = .ok (.aload_n 0, 1) := by decide +kernel
theorem dX0_padSize_1 : decode cX0_padSize 1 = .ok (.getfield 21, 3) := by decide +kernel
theorem dX0_padSize_4 : decode cX0_padSize 4 = .ok (.invokevirtual 47, 3) := by decide +kernel
theorem dX0_padSize_7 : decode cX0_padSize 7 = .ok (.ireturn, 1) := by decide +kernel
theorem dX0_isPadFull_0 : decode cX0_isPadFull 0 = .ok (.aload_n 0, 1) := by decide +kernel
theorem dX0_isPadFull_1 : decode cX0_isPadFull 1 = .ok (.getfield 21, 3) := by decide +kernel
theorem dX0_isPadFull_4 : decode cX0_isPadFull 4 = .ok (.invokevirtual 51, 3) := by decide +kernel
theorem dX0_isPadFull_7 : decode cX0_isPadFull 7 = .ok (.ireturn, 1) := by decide +kernel
theorem dX0_addToPad_0 : decode cX0_addToPad 0 = .ok (.aload_n 0, 1) := by decide +kernel
theorem dX0_addToPad_1 : decode cX0_addToPad 1 = .ok (.getfield 21, 3) := by decide +kernel
theorem dX0_addToPad_4 : decode cX0_addToPad 4 = .ok (.iload_n 1, 1) := by decide +kernel
theorem dX0_addToPad_5 : decode cX0_addToPad 5 = .ok (.invokevirtual 55, 3) := by decide +kernel
theorem dX0_addToPad_8 : decode cX0_addToPad 8 = .ok (.aload_n 0, 1) := by decide +kernel
theorem dX0_addToPad_9 : decode cX0_addToPad 9 = .ok (.getfield 25, 3) := by decide +kernel
theorem dX0_addToPad_12 : decode cX0_addToPad 12 = .ok (.iload_n 2, 1) := by decide +kernel
theorem dX0_addToPad_13 : decode cX0_addToPad 13 = .ok (.ifCond .eq 7, 3) := by decide +kernel
theorem dX0_addToPad_16 : decode cX0_addToPad 16 = .ok (.iconst 1, 1) := by decide +kernel
theorem dX0_addToPad_17 : decode cX0_addToPad 17 = .ok (.goto 4, 3) := by decide +kernel
theorem dX0_addToPad_20 : decode cX0_addToPad 20 = .ok (.iconst 0, 1) := by decide +kernel
theorem dX0_addToPad_21 : decode cX0_addToPad 21 = .ok (.invokevirtual 55, 3) := by decide +kernel
theorem dX0_addToPad_24 : decode cX0_addToPad 24 = .ok (.aload_n 0, 1) := by decide +kernel
theorem dX0_addToPad_25 : decode cX0_addToPad 25 = .ok (.getfield 21, 3) := by decide +kernel
theorem dX0_addToPad_28 : decode cX0_addToPad 28 = .ok (.invokevirtual 47, 3) := by decide +kernel
theorem dX0_addToPad_31 : decode cX0_addToPad 31 = .ok (.ireturn, 1) := by decide +kernel
theorem dX0_clearPad_0 : decode cX0_clearPad 0 = .ok (.aload_n 0, 1) := by decide +kernel
theorem dX0_clearPad_1 : decode cX0_clearPad 1 = .ok (.getfield 25, 3) := by decide +kernel
theorem dX0_clearPad_4 : decode cX0_clearPad 4 = .ok (.invokevirtual 58, 3) := by decide +kernel
theorem dX0_clearPad_7 : decode cX0_clearPad 7 = .ok (.pop, 1) := by decide +kernel
theorem dX0_clearPad_8 : decode cX0_clearPad 8 = .ok (.aload_n 0, 1) := by decide +kernel
theorem dX0_clearPad_9 : decode cX0_clearPad 9 = .ok (.getfield 21, 3) := by decide +kernel
theorem dX0_clearPad_12 : decode cX0_clearPad 12 = .ok (.invokevirtual 58, 3) := by decide +kernel
theorem dX0_clearPad_15 : decode cX0_clearPad 15 = .ok (.ireturn, 1) := by decide +kernel
theorem dX0_chosenWords_0 : decode cX0_chosenWords 0 = .ok (.aload_n 0, 1) := by decide +kernel
theorem dX0_chosenWords_1 : decode cX0_chosenWords 1 = .ok (.getfield 28, 3) := by decide +kernel
theorem dX0_chosenWords_4 : decode cX0_chosenWords 4 = .ok (.areturn, 1) := by decide +kernel
theorem dX0_choose_0 : decode cX0_choose 0 = .ok (.aload_n 0, 1) := by decide +kernel
theorem dX0_choose_1 : decode cX0_choose 1 = .ok (.getfield 21, 3) := by decide +kernel
theorem dX0_choose_4 : decode cX0_choose 4 = .ok (.invokevirtual 47, 3) := by decide +kernel
theorem dX0_choose_7 : decode cX0_choose 7 = .ok (.iconst 1, 1) := by decide +kernel
theorem dX0_choose_8 : decode cX0_choose 8 = .ok (.isub, 1) := by decide +kernel
theorem dX0_choose_9 : decode cX0_choose 9 = .ok (.istore_n 1, 1) := by decide +kernel
theorem dX0_choose_10 : decode cX0_choose 10 = .ok (.iload_n 1, 1) := by decide +kernel
theorem dX0_choose_11 : decode cX0_choose 11 = .ok (.ifCond .lt 14, 3) := by decide +kernel
theorem dX0_choose_14 : decode cX0_choose 14 = .ok (.aload_n 0, 1) := by decide +kernel
theorem dX0_choose_15 : decode cX0_choose 15 = .ok (.iload_n 1, 1) := by decide +kernel
theorem dX0_choose_16 : decode cX0_choose 16 = .ok (.invokevirtual 61, 3) := by decide +kernel
theorem dX0_choose_19 : decode cX0_choose 19 = .ok (.iinc 1 (-1), 3) := by decide +kernel
theorem dX0_choose_22 : decode cX0_choose 22 = .ok (.goto (-12), 3) := by decide +kernel
theorem dX0_choose_25 : decode cX0_choose 25 = .ok (.aload_n 0, 1) := by decide +kernel
theorem dX0_choose_26 : decode cX0_choose 26 = .ok (.getfield 28, 3) := by decide +kernel
theorem dX0_choose_29 : decode cX0_choose 29 = .ok (.invokevirtual 58, 3) := by decide +kernel
theorem dX0_choose_32 : decode cX0_choose 32 = .ok (.pop, 1) := by decide +kernel
theorem dX0_choose_33 : decode cX0_choose 33 = .ok (.aload_n 0, 1) := by decide +kernel
theorem dX0_choose_34 : decode cX0_choose 34 = .ok (.getfield 21, 3) := by decide +kernel
theorem dX0_choose_37 : decode cX0_choose 37 = .ok (.invokevirtual 64, 3) := by decide +kernel
theorem dX0_choose_40 : decode cX0_choose 40 = .ok (.ifCond .eq 5, 3) := by decide +kernel
theorem dX0_choose_43 : decode cX0_choose 43 = .ok (.lconst 0, 1) := by decide +kernel
theorem dX0_choose_44 : decode cX0_choose 44 = .ok (.lreturn, 1) := by decide +kernel
theorem dX0_choose_45 : decode cX0_choose 45 = .ok (.iconst 0, 1) := by decide +kernel
theorem dX0_choose_46 : decode cX0_choose 46 = .ok (.istore_n 1, 1) := by decide +kernel
theorem dX0_choose_47 : decode cX0_choose 47 = .ok (.iconst 1, 1) := by decide +kernel
theorem dX0_choose_48 : decode cX0_choose 48 = .ok (.istore_n 2, 1) := by decide +kernel
theorem dX0_choose_49 : decode cX0_choose 49 = .ok (.iload_n 2, 1) := by decide +kernel
theorem dX0_choose_50 : decode cX0_choose 50 = .ok (.aload_n 0, 1) := by decide +kernel
theorem dX0_choose_51 : decode cX0_choose 51 = .ok (.getfield 39, 3) := by decide +kernel
theorem dX0_choose_54 : decode cX0_choose 54 = .ok (.invokevirtual 67, 3) := by decide +kernel
theorem dX0_choose_57 : decode cX0_choose 57 = .ok (.if_icmp .ge 31, 3) := by decide +kernel
theorem dX0_choose_60 : decode cX0_choose 60 = .ok (.aload_n 0, 1) := by decide +kernel
theorem dX0_choose_61 : decode cX0_choose 61 = .ok (.getfield 33, 3) := by decide +kernel
theorem dX0_choose_64 : decode cX0_choose 64 = .ok (.iconst 0, 1) := by decide +kernel
theorem dX0_choose_65 : decode cX0_choose 65 = .ok (.aaload, 1) := by decide +kernel
theorem dX0_choose_66 : decode cX0_choose 66 = .ok (.iload_n 2, 1) := by decide +kernel
theorem dX0_choose_67 : decode cX0_choose 67 = .ok (.laload, 1) := by decide +kernel
theorem dX0_choose_68 : decode cX0_choose 68 = .ok (.aload_n 0, 1) := by decide +kernel
theorem dX0_choose_69 : decode cX0_choose 69 = .ok (.getfield 33, 3) := by decide +kernel
theorem dX0_choose_72 : decode cX0_choose 72 = .ok (.iconst 0, 1) := by decide +kernel
theorem dX0_choose_73 : decode cX0_choose 73 = .ok (.aaload, 1) := by decide +kernel
theorem dX0_choose_74 : decode cX0_choose 74 = .ok (.iload_n 1, 1) := by decide +kernel
theorem dX0_choose_75 : decode cX0_choose 75 = .ok (.laload, 1) := by decide +kernel
theorem dX0_choose_76 : decode cX0_choose 76 = .ok (.lcmp, 1) := by decide +kernel
theorem dX0_choose_77 : decode cX0_choose 77 = .ok (.ifCond .le 5, 3) := by decide +kernel
theorem dX0_choose_80 : decode cX0_choose 80 = .ok (.iload_n 2, 1) := by decide +kernel
theorem dX0_choose_81 : decode cX0_choose 81 = .ok (.istore_n 1, 1) := by decide +kernel
theorem dX0_choose_82 : decode cX0_choose 82 = .ok (.iinc 2 1, 3) := by decide +kernel
theorem dX0_choose_85 : decode cX0_choose 85 = .ok (.goto (-36), 3) := by decide +kernel
theorem dX0_choose_88 : decode cX0_choose 88 = .ok (.iload_n 1, 1) := by decide +kernel
theorem dX0_choose_89 : decode cX0_choose 89 = .ok (.istore_n 2, 1) := by decide +kernel
theorem dX0_choose_90 : decode cX0_choose 90 = .ok (.iconst 0, 1) := by decide +kernel
theorem dX0_choose_91 : decode cX0_choose 91 = .ok (.istore_n 3, 1) := by decide +kernel
theorem dX0_choose_92 : decode cX0_choose 92 = .ok (.iload_n 3, 1) := by decide +kernel
theorem dX0_choose_93 : decode cX0_choose 93 = .ok (.aload_n 0, 1) := by decide +kernel
theorem dX0_choose_94 : decode cX0_choose 94 = .ok (.getfield 21, 3) := by decide +kernel
theorem dX0_choose_97 : decode cX0_choose 97 = .ok (.invokevirtual 47, 3) := by decide +kernel
theorem dX0_choose_100 : decode cX0_choose 100 = .ok (.if_icmp .ge 26, 3) := by decide +kernel
theorem dX0_choose_103 : decode cX0_choose 103 = .ok (.aload_n 0, 1) := by decide +kernel
theorem dX0_choose_104 : decode cX0_choose 104 = .ok (.getfield 28, 3) := by decide +kernel
theorem dX0_choose_107 : decode cX0_choose 107 = .ok (.iload_n 2, 1) := by decide +kernel
theorem dX0_choose_108 : decode cX0_choose 108 = .ok (.invokevirtual 55, 3) := by decide +kernel
theorem dX0_choose_111 : decode cX0_choose 111 = .ok (.aload_n 0, 1) := by decide +kernel
theorem dX0_choose_112 : decode cX0_choose 112 = .ok (.getfield 36, 3) := by decide +kernel
theorem dX0_choose_115 : decode cX0_choose 115 = .ok (.iload_n 3, 1) := by decide +kernel
theorem dX0_choose_116 : decode cX0_choose 116 = .ok (.aaload, 1) := by decide +kernel
theorem dX0_choose_117 : decode cX0_choose 117 = .ok (.iload_n 2, 1) := by decide +kernel
theorem dX0_choose_118 : decode cX0_choose 118 = .ok (.iaload, 1) := by decide +kernel
theorem dX0_choose_119 : decode cX0_choose 119 = .ok (.istore_n 2, 1) := by decide +kernel
theorem dX0_choose_120 : decode cX0_choose 120 = .ok (.iinc 3 1, 3) := by decide +kernel
theorem dX0_choose_123 : decode cX0_choose 123 = .ok (.goto (-31), 3) := by decide +kernel
theorem dX0_choose_126 : decode cX0_choose 126 = .ok (.aload_n 0, 1) := by decide +kernel
theorem dX0_choose_127 : decode cX0_choose 127 = .ok (.getfield 33, 3) := by decide +kernel
theorem dX0_choose_130 : decode cX0_choose 130 = .ok (.iconst 0, 1) := by decide +kernel
theorem dX0_choose_131 : decode cX0_choose 131 = .ok (.aaload, 1) := by decide +kernel
theorem dX0_choose_132 : decode cX0_choose 132 = .ok (.iload_n 1, 1) := by decide +kernel
theorem dX0_choose_133 : decode cX0_choose 133 = .ok (.laload, 1) := by decide +kernel
theorem dX0_choose_134 : decode cX0_choose 134 = .ok (.lreturn, 1) := by decide +kernel
theorem dX0_weighPlace_0 : decode cX0_weighPlace 0 = .ok (.iconst 0, 1) := by decide +kernel
theorem dX0_weighPlace_1 : decode cX0_weighPlace 1 = .ok (.istore_n 2, 1) := by decide +kernel
theorem dX0_weighPlace_2 : decode cX0_weighPlace 2 = .ok (.iload_n 2, 1) := by decide +kernel
theorem dX0_weighPlace_3 : decode cX0_weighPlace 3 = .ok (.aload_n 0, 1) := by decide +kernel
theorem dX0_weighPlace_4 : decode cX0_weighPlace 4 = .ok (.getfield 39, 3) := by decide +kernel
theorem dX0_weighPlace_7 : decode cX0_weighPlace 7 = .ok (.invokevirtual 67, 3) := by decide +kernel
theorem dX0_weighPlace_10 : decode cX0_weighPlace 10 = .ok (.if_icmp .ge 46, 3) := by decide +kernel
theorem dX0_weighPlace_13 : decode cX0_weighPlace 13 = .ok (.aload_n 0, 1) := by decide +kernel
theorem dX0_weighPlace_14 : decode cX0_weighPlace 14 = .ok (.getfield 33, 3) := by decide +kernel
theorem dX0_weighPlace_17 : decode cX0_weighPlace 17 = .ok (.iload_n 1, 1) := by decide +kernel
theorem dX0_weighPlace_18 : decode cX0_weighPlace 18 = .ok (.aaload, 1) := by decide +kernel
theorem dX0_weighPlace_19 : decode cX0_weighPlace 19 = .ok (.iload_n 2, 1) := by decide +kernel
theorem dX0_weighPlace_20 : decode cX0_weighPlace 20 = .ok (.aload_n 0, 1) := by decide +kernel
theorem dX0_weighPlace_21 : decode cX0_weighPlace 21 = .ok (.iload_n 1, 1) := by decide +kernel
theorem dX0_weighPlace_22 : decode cX0_weighPlace 22 = .ok (.iload_n 2, 1) := by decide +kernel
theorem dX0_weighPlace_23 : decode cX0_weighPlace 23 = .ok (.invokevirtual 70, 3) := by decide +kernel
theorem dX0_weighPlace_26 : decode cX0_weighPlace 26 = .ok (.ifCond .eq 22, 3) := by decide +kernel
theorem dX0_weighPlace_29 : decode cX0_weighPlace 29 = .ok (.aload_n 0, 1) := by decide +kernel
theorem dX0_weighPlace_30 : decode cX0_weighPlace 30 = .ok (.getfield 39, 3) := by decide +kernel
theorem dX0_weighPlace_33 : decode cX0_weighPlace 33 = .ok (.iload_n 2, 1) := by decide +kernel
theorem dX0_weighPlace_34 : decode cX0_weighPlace 34 = .ok (.invokevirtual 74, 3) := by decide +kernel
theorem dX0_weighPlace_37 : decode cX0_weighPlace 37 = .ok (.i2l, 1) := by decide +kernel
theorem dX0_weighPlace_38 : decode cX0_weighPlace 38 = .ok (.aload_n 0, 1) := by decide +kernel
theorem dX0_weighPlace_39 : decode cX0_weighPlace 39 = .ok (.iload_n 1, 1) := by decide +kernel
theorem dX0_weighPlace_40 : decode cX0_weighPlace 40 = .ok (.iload_n 2, 1) := by decide +kernel
theorem dX0_weighPlace_41 : decode cX0_weighPlace 41 = .ok (.invokevirtual 78, 3) := by decide +kernel
theorem dX0_weighPlace_44 : decode cX0_weighPlace 44 = .ok (.lmul, 1) := by decide +kernel
theorem dX0_weighPlace_45 : decode cX0_weighPlace 45 = .ok (.goto 4, 3) := by decide +kernel
theorem dX0_weighPlace_48 : decode cX0_weighPlace 48 = .ok (.lconst 0, 1) := by decide +kernel
theorem dX0_weighPlace_49 : decode cX0_weighPlace 49 = .ok (.lastore, 1) := by decide +kernel
theorem dX0_weighPlace_50 : decode cX0_weighPlace 50 = .ok (.iinc 2 1, 3) := by decide +kernel
theorem dX0_weighPlace_53 : decode cX0_weighPlace 53 = .ok (.goto (-51), 3) := by decide +kernel
theorem dX0_weighPlace_56 : decode cX0_weighPlace 56 = .ok (.return_, 1) := by decide +kernel
theorem dX0_canStand_0 : decode cX0_canStand 0 = .ok (.aload_n 0, 1) := by decide +kernel
theorem dX0_canStand_1 : decode cX0_canStand 1 = .ok (.getfield 21, 3) := by decide +kernel
theorem dX0_canStand_4 : decode cX0_canStand 4 = .ok (.iload_n 1, 1) := by decide +kernel
theorem dX0_canStand_5 : decode cX0_canStand 5 = .ok (.invokevirtual 82, 3) := by decide +kernel
theorem dX0_canStand_8 : decode cX0_canStand 8 = .ok (.istore_n 3, 1) := by decide +kernel
theorem dX0_canStand_9 : decode cX0_canStand 9 = .ok (.iload_n 2, 1) := by decide +kernel
theorem dX0_canStand_10 : decode cX0_canStand 10 = .ok (.iload_n 3, 1) := by decide +kernel
theorem dX0_canStand_11 : decode cX0_canStand 11 = .ok (.if_icmp .eq 26, 3) := by decide +kernel
theorem dX0_canStand_14 : decode cX0_canStand 14 = .ok (.aload_n 0, 1) := by decide +kernel
theorem dX0_canStand_15 : decode cX0_canStand 15 = .ok (.getfield 25, 3) := by decide +kernel
theorem dX0_canStand_18 : decode cX0_canStand 18 = .ok (.iload_n 1, 1) := by decide +kernel
theorem dX0_canStand_19 : decode cX0_canStand 19 = .ok (.invokevirtual 82, 3) := by decide +kernel
theorem dX0_canStand_22 : decode cX0_canStand 22 = .ok (.ifCond .ne 19, 3) := by decide +kernel
theorem dX0_canStand_25 : decode cX0_canStand 25 = .ok (.aload_n 0, 1) := by decide +kernel
theorem dX0_canStand_26 : decode cX0_canStand 26 = .ok (.getfield 39, 3) := by decide +kernel
theorem dX0_canStand_29 : decode cX0_canStand 29 = .ok (.iload_n 3, 1) := by decide +kernel
theorem dX0_canStand_30 : decode cX0_canStand 30 = .ok (.iload_n 2, 1) := by decide +kernel
theorem dX0_canStand_31 : decode cX0_canStand 31 = .ok (.invokevirtual 85, 3) := by decide +kernel
theorem dX0_canStand_34 : decode cX0_canStand 34 = .ok (.ifCond .eq 7, 3) := by decide +kernel
theorem dX0_canStand_37 : decode cX0_canStand 37 = .ok (.iconst 1, 1) := by decide +kernel
theorem dX0_canStand_38 : decode cX0_canStand 38 = .ok (.goto 4, 3) := by decide +kernel
theorem dX0_canStand_41 : decode cX0_canStand 41 = .ok (.iconst 0, 1) := by decide +kernel
theorem dX0_canStand_42 : decode cX0_canStand 42 = .ok (.ireturn, 1) := by decide +kernel
theorem dX0_greatestBehind_0 : decode cX0_greatestBehind 0 = .ok (.aload_n 0, 1) := by decide +kernel
theorem dX0_greatestBehind_1 : decode cX0_greatestBehind 1 = .ok (.getfield 36, 3) := by decide +kernel
theorem dX0_greatestBehind_4 : decode cX0_greatestBehind 4 = .ok (.iload_n 1, 1) := by decide +kernel
theorem dX0_greatestBehind_5 : decode cX0_greatestBehind 5 = .ok (.aaload, 1) := by decide +kernel
theorem dX0_greatestBehind_6 : decode cX0_greatestBehind 6 = .ok (.iload_n 2, 1) := by decide +kernel
theorem dX0_greatestBehind_7 : decode cX0_greatestBehind 7 = .ok (.iconst 0, 1) := by decide +kernel
theorem dX0_greatestBehind_8 : decode cX0_greatestBehind 8 = .ok (.iastore, 1) := by decide +kernel
theorem dX0_greatestBehind_9 : decode cX0_greatestBehind 9 = .ok (.iload_n 1, 1) := by decide +kernel
theorem dX0_greatestBehind_10 : decode cX0_greatestBehind 10 = .ok (.aload_n 0, 1) := by decide +kernel
theorem dX0_greatestBehind_11 : decode cX0_greatestBehind 11 = .ok (.getfield 21, 3) := by decide +kernel
theorem dX0_greatestBehind_14 : decode cX0_greatestBehind 14 = .ok (.invokevirtual 47, 3) := by decide +kernel
theorem dX0_greatestBehind_17 : decode cX0_greatestBehind 17 = .ok (.iconst 1, 1) := by decide +kernel
theorem dX0_greatestBehind_18 : decode cX0_greatestBehind 18 = .ok (.isub, 1) := by decide +kernel
theorem dX0_greatestBehind_19 : decode cX0_greatestBehind 19 = .ok (.if_icmp .ne 5, 3) := by decide +kernel
theorem dX0_greatestBehind_22 : decode cX0_greatestBehind 22 = .ok (.lconst 1, 1) := by decide +kernel
theorem dX0_greatestBehind_23 : decode cX0_greatestBehind 23 = .ok (.lreturn, 1) := by decide +kernel
theorem dX0_greatestBehind_24 : decode cX0_greatestBehind 24 = .ok (.lconst 0, 1) := by decide +kernel
theorem dX0_greatestBehind_25 : decode cX0_greatestBehind 25 = .ok (.lstore_n 3, 1) := by decide +kernel
theorem dX0_greatestBehind_26 : decode cX0_greatestBehind 26 = .ok (.iconst 0, 1) := by decide +kernel
theorem dX0_greatestBehind_27 : decode cX0_greatestBehind 27 = .ok (.istore 5, 2) := by decide +kernel
theorem dX0_greatestBehind_29 : decode cX0_greatestBehind 29 = .ok (.iload 5, 2) := by decide +kernel
theorem dX0_greatestBehind_31 : decode cX0_greatestBehind 31 = .ok (.aload_n 0, 1) := by decide +kernel
theorem dX0_greatestBehind_32 : decode cX0_greatestBehind 32 = .ok (.getfield 39, 3) := by decide +kernel
theorem dX0_greatestBehind_35 : decode cX0_greatestBehind 35 = .ok (.invokevirtual 67, 3) := by decide +kernel
theorem dX0_greatestBehind_38 : decode cX0_greatestBehind 38 = .ok (.if_icmp .ge 55, 3) := by decide +kernel
theorem dX0_greatestBehind_41 : decode cX0_greatestBehind 41 = .ok (.aload_n 0, 1) := by decide +kernel
theorem dX0_greatestBehind_42 : decode cX0_greatestBehind 42 = .ok (.getfield 11, 3) := by decide +kernel
theorem dX0_greatestBehind_45 : decode cX0_greatestBehind 45 = .ok (.iload_n 2, 1) := by decide +kernel
theorem dX0_greatestBehind_46 : decode cX0_greatestBehind 46 = .ok (.aaload, 1) := by decide +kernel
theorem dX0_greatestBehind_47 : decode cX0_greatestBehind 47 = .ok (.iload 5, 2) := by decide +kernel
theorem dX0_greatestBehind_49 : decode cX0_greatestBehind 49 = .ok (.iaload, 1) := by decide +kernel
theorem dX0_greatestBehind_50 : decode cX0_greatestBehind 50 = .ok (.iconst 1, 1) := by decide +kernel
theorem dX0_greatestBehind_51 : decode cX0_greatestBehind 51 = .ok (.iadd, 1) := by decide +kernel
theorem dX0_greatestBehind_52 : decode cX0_greatestBehind 52 = .ok (.i2l, 1) := by decide +kernel
theorem dX0_greatestBehind_53 : decode cX0_greatestBehind 53 = .ok (.aload_n 0, 1) := by decide +kernel
theorem dX0_greatestBehind_54 : decode cX0_greatestBehind 54 = .ok (.getfield 33, 3) := by decide +kernel
theorem dX0_greatestBehind_57 : decode cX0_greatestBehind 57 = .ok (.iload_n 1, 1) := by decide +kernel
theorem dX0_greatestBehind_58 : decode cX0_greatestBehind 58 = .ok (.iconst 1, 1) := by decide +kernel
theorem dX0_greatestBehind_59 : decode cX0_greatestBehind 59 = .ok (.iadd, 1) := by decide +kernel
theorem dX0_greatestBehind_60 : decode cX0_greatestBehind 60 = .ok (.aaload, 1) := by decide +kernel
theorem dX0_greatestBehind_61 : decode cX0_greatestBehind 61 = .ok (.iload 5, 2) := by decide +kernel
theorem dX0_greatestBehind_63 : decode cX0_greatestBehind 63 = .ok (.laload, 1) := by decide +kernel
theorem dX0_greatestBehind_64 : decode cX0_greatestBehind 64 = .ok (.lmul, 1) := by decide +kernel
theorem dX0_greatestBehind_65 : decode cX0_greatestBehind 65 = .ok (.lstore 6, 2) := by decide +kernel
theorem dX0_greatestBehind_67 : decode cX0_greatestBehind 67 = .ok (.lload 6, 2) := by decide +kernel
theorem dX0_greatestBehind_69 : decode cX0_greatestBehind 69 = .ok (.lload_n 3, 1) := by decide +kernel
theorem dX0_greatestBehind_70 : decode cX0_greatestBehind 70 = .ok (.lcmp, 1) := by decide +kernel
theorem dX0_greatestBehind_71 : decode cX0_greatestBehind 71 = .ok (.ifCond .le 16, 3) := by decide +kernel
theorem dX0_greatestBehind_74 : decode cX0_greatestBehind 74 = .ok (.lload 6, 2) := by decide +kernel
theorem dX0_greatestBehind_76 : decode cX0_greatestBehind 76 = .ok (.lstore_n 3, 1) := by decide +kernel
theorem dX0_greatestBehind_77 : decode cX0_greatestBehind 77 = .ok (.aload_n 0, 1) := by decide +kernel
theorem dX0_greatestBehind_78 : decode cX0_greatestBehind 78 = .ok (.getfield 36, 3) := by decide +kernel
theorem dX0_greatestBehind_81 : decode cX0_greatestBehind 81 = .ok (.iload_n 1, 1) := by decide +kernel
theorem dX0_greatestBehind_82 : decode cX0_greatestBehind 82 = .ok (.aaload, 1) := by decide +kernel
theorem dX0_greatestBehind_83 : decode cX0_greatestBehind 83 = .ok (.iload_n 2, 1) := by decide +kernel
theorem dX0_greatestBehind_84 : decode cX0_greatestBehind 84 = .ok (.iload 5, 2) := by decide +kernel
theorem dX0_greatestBehind_86 : decode cX0_greatestBehind 86 = .ok (.iastore, 1) := by decide +kernel
theorem dX0_greatestBehind_87 : decode cX0_greatestBehind 87 = .ok (.iinc 5 1, 3) := by decide +kernel
theorem dX0_greatestBehind_90 : decode cX0_greatestBehind 90 = .ok (.goto (-61), 3) := by decide +kernel
theorem dX0_greatestBehind_93 : decode cX0_greatestBehind 93 = .ok (.lload_n 3, 1) := by decide +kernel
theorem dX0_greatestBehind_94 : decode cX0_greatestBehind 94 = .ok (.lreturn, 1) := by decide +kernel
theorem dX1_init_0 : decode cX1_init 0 = .ok (.aload_n 0, 1) := by decide +kernel
theorem dX1_init_1 : decode cX1_init 1 = .ok (.invokespecial 3, 3) := by decide +kernel
theorem dX1_init_4 : decode cX1_init 4 = .ok (.aload_n 0, 1) := by decide +kernel
theorem dX1_init_5 : decode cX1_init 5 = .ok (.new 9, 3) := by decide +kernel
theorem dX1_init_8 : decode cX1_init 8 = .ok (.dup, 1) := by decide +kernel
theorem dX1_init_9 : decode cX1_init 9 = .ok (.bipush 60, 2) := by decide +kernel
theorem dX1_init_11 : decode cX1_init 11 = .ok (.invokespecial 11, 3) := by decide +kernel
theorem dX1_init_14 : decode cX1_init 14 = .ok (.putfield 14, 3) := by decide +kernel
theorem dX1_init_17 : decode cX1_init 17 = .ok (.aload_n 0, 1) := by decide +kernel
theorem dX1_init_18 : decode cX1_init 18 = .ok (.new 9, 3) := by decide +kernel
theorem dX1_init_21 : decode cX1_init 21 = .ok (.dup, 1) := by decide +kernel
theorem dX1_init_22 : decode cX1_init 22 = .ok (.bipush 60, 2) := by decide +kernel
theorem dX1_init_24 : decode cX1_init 24 = .ok (.invokespecial 11, 3) := by decide +kernel
theorem dX1_init_27 : decode cX1_init 27 = .ok (.putfield 20, 3) := by decide +kernel
theorem dX1_init_30 : decode cX1_init 30 = .ok (.aload_n 0, 1) := by decide +kernel
theorem dX1_init_31 : decode cX1_init 31 = .ok (.new 9, 3) := by decide +kernel
theorem dX1_init_34 : decode cX1_init 34 = .ok (.dup, 1) := by decide +kernel
theorem dX1_init_35 : decode cX1_init 35 = .ok (.bipush 60, 2) := by decide +kernel
theorem dX1_init_37 : decode cX1_init 37 = .ok (.invokespecial 11, 3) := by decide +kernel
theorem dX1_init_40 : decode cX1_init 40 = .ok (.putfield 23, 3) := by decide +kernel
theorem dX1_init_43 : decode cX1_init 43 = .ok (.return_, 1) := by decide +kernel
theorem dX1_clear_0 : decode cX1_clear 0 = .ok (.aload_n 0, 1) := by decide +kernel
theorem dX1_clear_1 : decode cX1_clear 1 = .ok (.getfield 14, 3) := by decide +kernel
theorem dX1_clear_4 : decode cX1_clear 4 = .ok (.invokevirtual 26, 3) := by decide +kernel
theorem dX1_clear_7 : decode cX1_clear 7 = .ok (.pop, 1) := by decide +kernel
theorem dX1_clear_8 : decode cX1_clear 8 = .ok (.aload_n 0, 1) := by decide +kernel
theorem dX1_clear_9 : decode cX1_clear 9 = .ok (.getfield 20, 3) := by decide +kernel
theorem dX1_clear_12 : decode cX1_clear 12 = .ok (.invokevirtual 26, 3) := by decide +kernel
theorem dX1_clear_15 : decode cX1_clear 15 = .ok (.pop, 1) := by decide +kernel
theorem dX1_clear_16 : decode cX1_clear 16 = .ok (.aload_n 0, 1) := by decide +kernel
theorem dX1_clear_17 : decode cX1_clear 17 = .ok (.getfield 23, 3) := by decide +kernel
theorem dX1_clear_20 : decode cX1_clear 20 = .ok (.invokevirtual 26, 3) := by decide +kernel
theorem dX1_clear_23 : decode cX1_clear 23 = .ok (.pop, 1) := by decide +kernel
theorem dX1_clear_24 : decode cX1_clear 24 = .ok (.return_, 1) := by decide +kernel
theorem dX1_insert_0 : decode cX1_insert 0 = .ok (.aload_n 0, 1) := by decide +kernel
theorem dX1_insert_1 : decode cX1_insert 1 = .ok (.getfield 14, 3) := by decide +kernel
theorem dX1_insert_4 : decode cX1_insert 4 = .ok (.invokevirtual 30, 3) := by decide +kernel
theorem dX1_insert_7 : decode cX1_insert 7 = .ok (.istore 4, 2) := by decide +kernel
theorem dX1_insert_9 : decode cX1_insert 9 = .ok (.iload 4, 2) := by decide +kernel
theorem dX1_insert_11 : decode cX1_insert 11 = .ok (.ifCond .le 22, 3) := by decide +kernel
theorem dX1_insert_14 : decode cX1_insert 14 = .ok (.aload_n 0, 1) := by decide +kernel
theorem dX1_insert_15 : decode cX1_insert 15 = .ok (.iload_n 2, 1) := by decide +kernel
theorem dX1_insert_16 : decode cX1_insert 16 = .ok (.iload_n 3, 1) := by decide +kernel
theorem dX1_insert_17 : decode cX1_insert 17 = .ok (.iload 4, 2) := by decide +kernel
theorem dX1_insert_19 : decode cX1_insert 19 = .ok (.iconst 1, 1) := by decide +kernel
theorem dX1_insert_20 : decode cX1_insert 20 = .ok (.isub, 1) := by decide +kernel
theorem dX1_insert_21 : decode cX1_insert 21 = .ok (.invokevirtual 33, 3) := by decide +kernel
theorem dX1_insert_24 : decode cX1_insert 24 = .ok (.ifCond .eq 9, 3) := by decide +kernel
theorem dX1_insert_27 : decode cX1_insert 27 = .ok (.iinc 4 (-1), 3) := by decide +kernel
theorem dX1_insert_30 : decode cX1_insert 30 = .ok (.goto (-21), 3) := by decide +kernel
theorem dX1_insert_33 : decode cX1_insert 33 = .ok (.aload_n 0, 1) := by decide +kernel
theorem dX1_insert_34 : decode cX1_insert 34 = .ok (.getfield 14, 3) := by decide +kernel
theorem dX1_insert_37 : decode cX1_insert 37 = .ok (.iload 4, 2) := by decide +kernel
theorem dX1_insert_39 : decode cX1_insert 39 = .ok (.iload_n 1, 1) := by decide +kernel
theorem dX1_insert_40 : decode cX1_insert 40 = .ok (.invokevirtual 37, 3) := by decide +kernel
theorem dX1_insert_43 : decode cX1_insert 43 = .ok (.aload_n 0, 1) := by decide +kernel
theorem dX1_insert_44 : decode cX1_insert 44 = .ok (.getfield 20, 3) := by decide +kernel
theorem dX1_insert_47 : decode cX1_insert 47 = .ok (.iload 4, 2) := by decide +kernel
theorem dX1_insert_49 : decode cX1_insert 49 = .ok (.iload_n 2, 1) := by decide +kernel
theorem dX1_insert_50 : decode cX1_insert 50 = .ok (.invokevirtual 37, 3) := by decide +kernel
theorem dX1_insert_53 : decode cX1_insert 53 = .ok (.aload_n 0, 1) := by decide +kernel
theorem dX1_insert_54 : decode cX1_insert 54 = .ok (.getfield 23, 3) := by decide +kernel
theorem dX1_insert_57 : decode cX1_insert 57 = .ok (.iload 4, 2) := by decide +kernel
theorem dX1_insert_59 : decode cX1_insert 59 = .ok (.iload_n 3, 1) := by decide +kernel
theorem dX1_insert_60 : decode cX1_insert 60 = .ok (.invokevirtual 37, 3) := by decide +kernel
theorem dX1_insert_63 : decode cX1_insert 63 = .ok (.return_, 1) := by decide +kernel
theorem dX1_goesAhead_0 : decode cX1_goesAhead 0 = .ok (.iload_n 1, 1) := by decide +kernel
theorem dX1_goesAhead_1 : decode cX1_goesAhead 1 = .ok (.aload_n 0, 1) := by decide +kernel
theorem dX1_goesAhead_2 : decode cX1_goesAhead 2 = .ok (.getfield 20, 3) := by decide +kernel
theorem dX1_goesAhead_5 : decode cX1_goesAhead 5 = .ok (.iload_n 3, 1) := by decide +kernel
theorem dX1_goesAhead_6 : decode cX1_goesAhead 6 = .ok (.invokevirtual 41, 3) := by decide +kernel
theorem dX1_goesAhead_9 : decode cX1_goesAhead 9 = .ok (.if_icmp .lt 27, 3) := by decide +kernel
theorem dX1_goesAhead_12 : decode cX1_goesAhead 12 = .ok (.iload_n 1, 1) := by decide +kernel
theorem dX1_goesAhead_13 : decode cX1_goesAhead 13 = .ok (.aload_n 0, 1) := by decide +kernel
theorem dX1_goesAhead_14 : decode cX1_goesAhead 14 = .ok (.getfield 20, 3) := by decide +kernel
theorem dX1_goesAhead_17 : decode cX1_goesAhead 17 = .ok (.iload_n 3, 1) := by decide +kernel
theorem dX1_goesAhead_18 : decode cX1_goesAhead 18 = .ok (.invokevirtual 41, 3) := by decide +kernel
theorem dX1_goesAhead_21 : decode cX1_goesAhead 21 = .ok (.if_icmp .ne 19, 3) := by decide +kernel
theorem dX1_goesAhead_24 : decode cX1_goesAhead 24 = .ok (.iload_n 2, 1) := by decide +kernel
theorem dX1_goesAhead_25 : decode cX1_goesAhead 25 = .ok (.aload_n 0, 1) := by decide +kernel
theorem dX1_goesAhead_26 : decode cX1_goesAhead 26 = .ok (.getfield 23, 3) := by decide +kernel
theorem dX1_goesAhead_29 : decode cX1_goesAhead 29 = .ok (.iload_n 3, 1) := by decide +kernel
theorem dX1_goesAhead_30 : decode cX1_goesAhead 30 = .ok (.invokevirtual 41, 3) := by decide +kernel
theorem dX1_goesAhead_33 : decode cX1_goesAhead 33 = .ok (.if_icmp .le 7, 3) := by decide +kernel
theorem dX1_goesAhead_36 : decode cX1_goesAhead 36 = .ok (.iconst 1, 1) := by decide +kernel
theorem dX1_goesAhead_37 : decode cX1_goesAhead 37 = .ok (.goto 4, 3) := by decide +kernel
theorem dX1_goesAhead_40 : decode cX1_goesAhead 40 = .ok (.iconst 0, 1) := by decide +kernel
theorem dX1_goesAhead_41 : decode cX1_goesAhead 41 = .ok (.ireturn, 1) := by decide +kernel
theorem dX1_guessAt_0 : decode cX1_guessAt 0 = .ok (.iload_n 1, 1) := by decide +kernel
theorem dX1_guessAt_1 : decode cX1_guessAt 1 = .ok (.iconst (-1), 1) := by decide +kernel
theorem dX1_guessAt_2 : decode cX1_guessAt 2 = .ok (.if_icmp .ne 11, 3) := by decide +kernel
theorem dX1_guessAt_5 : decode cX1_guessAt 5 = .ok (.aload_n 0, 1) := by decide +kernel
theorem dX1_guessAt_6 : decode cX1_guessAt 6 = .ok (.getfield 14, 3) := by decide +kernel
theorem dX1_guessAt_9 : decode cX1_guessAt 9 = .ok (.invokevirtual 30, 3) := by decide +kernel
theorem dX1_guessAt_12 : decode cX1_guessAt 12 = .ok (.ireturn, 1) := by decide +kernel
theorem dX1_guessAt_13 : decode cX1_guessAt 13 = .ok (.aload_n 0, 1) := by decide +kernel
theorem dX1_guessAt_14 : decode cX1_guessAt 14 = .ok (.getfield 14, 3) := by decide +kernel
theorem dX1_guessAt_17 : decode cX1_guessAt 17 = .ok (.iload_n 1, 1) := by decide +kernel
theorem dX1_guessAt_18 : decode cX1_guessAt 18 = .ok (.invokevirtual 45, 3) := by decide +kernel
theorem dX1_guessAt_21 : decode cX1_guessAt 21 = .ok (.ifCond .eq 14, 3) := by decide +kernel
theorem dX1_guessAt_24 : decode cX1_guessAt 24 = .ok (.aload_n 0, 1) := by decide +kernel
theorem dX1_guessAt_25 : decode cX1_guessAt 25 = .ok (.getfield 14, 3) := by decide +kernel
theorem dX1_guessAt_28 : decode cX1_guessAt 28 = .ok (.iload_n 1, 1) := by decide +kernel
theorem dX1_guessAt_29 : decode cX1_guessAt 29 = .ok (.invokevirtual 41, 3) := by decide +kernel
theorem dX1_guessAt_32 : decode cX1_guessAt 32 = .ok (.goto 5, 3) := by decide +kernel
theorem dX1_guessAt_35 : decode cX1_guessAt 35 = .ok (.bipush (-6), 2) := by decide +kernel
theorem dX1_guessAt_37 : decode cX1_guessAt 37 = .ok (.ireturn, 1) := by decide +kernel
theorem dX2_init_0 : decode cX2_init 0 = .ok (.aload_n 0, 1) := by decide +kernel
theorem dX2_init_1 : decode cX2_init 1 = .ok (.invokespecial 3, 3) := by decide +kernel
theorem dX2_init_4 : decode cX2_init 4 = .ok (.aload_n 0, 1) := by decide +kernel
theorem dX2_init_5 : decode cX2_init 5 = .ok (.new 9, 3) := by decide +kernel
theorem dX2_init_8 : decode cX2_init 8 = .ok (.dup, 1) := by decide +kernel
theorem dX2_init_9 : decode cX2_init 9 = .ok (.bipush 60, 2) := by decide +kernel
theorem dX2_init_11 : decode cX2_init 11 = .ok (.invokespecial 11, 3) := by decide +kernel
theorem dX2_init_14 : decode cX2_init 14 = .ok (.putfield 14, 3) := by decide +kernel
theorem dX2_init_17 : decode cX2_init 17 = .ok (.aload_n 0, 1) := by decide +kernel
theorem dX2_init_18 : decode cX2_init 18 = .ok (.new 9, 3) := by decide +kernel
theorem dX2_init_21 : decode cX2_init 21 = .ok (.dup, 1) := by decide +kernel
theorem dX2_init_22 : decode cX2_init 22 = .ok (.bipush 60, 2) := by decide +kernel
theorem dX2_init_24 : decode cX2_init 24 = .ok (.invokespecial 11, 3) := by decide +kernel
theorem dX2_init_27 : decode cX2_init 27 = .ok (.putfield 20, 3) := by decide +kernel
theorem dX2_init_30 : decode cX2_init 30 = .ok (.aload_n 0, 1) := by decide +kernel
theorem dX2_init_31 : decode cX2_init 31 = .ok (.new 9, 3) := by decide +kernel
theorem dX2_init_34 : decode cX2_init 34 = .ok (.dup, 1) := by decide +kernel
theorem dX2_init_35 : decode cX2_init 35 = .ok (.bipush 60, 2) := by decide +kernel
theorem dX2_init_37 : decode cX2_init 37 = .ok (.invokespecial 11, 3) := by decide +kernel
theorem dX2_init_40 : decode cX2_init 40 = .ok (.putfield 23, 3) := by decide +kernel
theorem dX2_init_43 : decode cX2_init 43 = .ok (.aload_n 0, 1) := by decide +kernel
theorem dX2_init_44 : decode cX2_init 44 = .ok (.iconst 4, 1) := by decide +kernel
theorem dX2_init_45 : decode cX2_init 45 = .ok (.newarray .int, 2) := by decide +kernel
theorem dX2_init_47 : decode cX2_init 47 = .ok (.dup, 1) := by decide +kernel
theorem dX2_init_48 : decode cX2_init 48 = .ok (.iconst 0, 1) := by decide +kernel
theorem dX2_init_49 : decode cX2_init 49 = .ok (.bipush 100, 2) := by decide +kernel
theorem dX2_init_51 : decode cX2_init 51 = .ok (.iastore, 1) := by decide +kernel
theorem dX2_init_52 : decode cX2_init 52 = .ok (.dup, 1) := by decide +kernel
theorem dX2_init_53 : decode cX2_init 53 = .ok (.iconst 1, 1) := by decide +kernel
theorem dX2_init_54 : decode cX2_init 54 = .ok (.bipush 100, 2) := by decide +kernel
theorem dX2_init_56 : decode cX2_init 56 = .ok (.iastore, 1) := by decide +kernel
theorem dX2_init_57 : decode cX2_init 57 = .ok (.dup, 1) := by decide +kernel
theorem dX2_init_58 : decode cX2_init 58 = .ok (.iconst 2, 1) := by decide +kernel
theorem dX2_init_59 : decode cX2_init 59 = .ok (.bipush 100, 2) := by decide +kernel
theorem dX2_init_61 : decode cX2_init 61 = .ok (.iastore, 1) := by decide +kernel
theorem dX2_init_62 : decode cX2_init 62 = .ok (.dup, 1) := by decide +kernel
theorem dX2_init_63 : decode cX2_init 63 = .ok (.iconst 3, 1) := by decide +kernel
theorem dX2_init_64 : decode cX2_init 64 = .ok (.bipush 100, 2) := by decide +kernel
theorem dX2_init_66 : decode cX2_init 66 = .ok (.iastore, 1) := by decide +kernel
theorem dX2_init_67 : decode cX2_init 67 = .ok (.putfield 26, 3) := by decide +kernel
theorem dX2_init_70 : decode cX2_init 70 = .ok (.aload_n 0, 1) := by decide +kernel
theorem dX2_init_71 : decode cX2_init 71 = .ok (.sipush 900, 3) := by decide +kernel
theorem dX2_init_74 : decode cX2_init 74 = .ok (.putfield 30, 3) := by decide +kernel
theorem dX2_init_77 : decode cX2_init 77 = .ok (.aload_n 0, 1) := by decide +kernel
theorem dX2_init_78 : decode cX2_init 78 = .ok (.iconst 1, 1) := by decide +kernel
theorem dX2_init_79 : decode cX2_init 79 = .ok (.putfield 34, 3) := by decide +kernel
theorem dX2_init_82 : decode cX2_init 82 = .ok (.return_, 1) := by decide +kernel
theorem dX2_learnings_0 : decode cX2_learnings 0 = .ok (.aload_n 0, 1) := by decide +kernel
theorem dX2_learnings_1 : decode cX2_learnings 1 = .ok (.getfield 14, 3) := by decide +kernel
theorem dX2_learnings_4 : decode cX2_learnings 4 = .ok (.invokevirtual 37, 3) := by decide +kernel
theorem dX2_learnings_7 : decode cX2_learnings 7 = .ok (.ireturn, 1) := by decide +kernel
theorem dX2_isFull_0 : decode cX2_isFull 0 = .ok (.aload_n 0, 1) := by decide +kernel
theorem dX2_isFull_1 : decode cX2_isFull 1 = .ok (.getfield 14, 3) := by decide +kernel
theorem dX2_isFull_4 : decode cX2_isFull 4 = .ok (.invokevirtual 41, 3) := by decide +kernel
theorem dX2_isFull_7 : decode cX2_isFull 7 = .ok (.ireturn, 1) := by decide +kernel
theorem dX2_addLearning_0 : decode cX2_addLearning 0 = .ok (.aload_n 0, 1) := by decide +kernel
theorem dX2_addLearning_1 : decode cX2_addLearning 1 = .ok (.getfield 14, 3) := by decide +kernel
theorem dX2_addLearning_4 : decode cX2_addLearning 4 = .ok (.iload_n 1, 1) := by decide +kernel
theorem dX2_addLearning_5 : decode cX2_addLearning 5 = .ok (.invokevirtual 45, 3) := by decide +kernel
theorem dX2_addLearning_8 : decode cX2_addLearning 8 = .ok (.aload_n 0, 1) := by decide +kernel
theorem dX2_addLearning_9 : decode cX2_addLearning 9 = .ok (.getfield 20, 3) := by decide +kernel
theorem dX2_addLearning_12 : decode cX2_addLearning 12 = .ok (.iload_n 2, 1) := by decide +kernel
theorem dX2_addLearning_13 : decode cX2_addLearning 13 = .ok (.invokevirtual 45, 3) := by decide +kernel
theorem dX2_addLearning_16 : decode cX2_addLearning 16 = .ok (.aload_n 0, 1) := by decide +kernel
theorem dX2_addLearning_17 : decode cX2_addLearning 17 = .ok (.getfield 23, 3) := by decide +kernel
theorem dX2_addLearning_20 : decode cX2_addLearning 20 = .ok (.iload_n 3, 1) := by decide +kernel
theorem dX2_addLearning_21 : decode cX2_addLearning 21 = .ok (.invokevirtual 45, 3) := by decide +kernel
theorem dX2_addLearning_24 : decode cX2_addLearning 24 = .ok (.aload_n 0, 1) := by decide +kernel
theorem dX2_addLearning_25 : decode cX2_addLearning 25 = .ok (.invokevirtual 48, 3) := by decide +kernel
theorem dX2_addLearning_28 : decode cX2_addLearning 28 = .ok (.ireturn, 1) := by decide +kernel
theorem dX2_latestDay_0 : decode cX2_latestDay 0 = .ok (.iconst 0, 1) := by decide +kernel
theorem dX2_latestDay_1 : decode cX2_latestDay 1 = .ok (.istore_n 2, 1) := by decide +kernel
theorem dX2_latestDay_2 : decode cX2_latestDay 2 = .ok (.iconst 0, 1) := by decide +kernel
theorem dX2_latestDay_3 : decode cX2_latestDay 3 = .ok (.istore_n 3, 1) := by decide +kernel
theorem dX2_latestDay_4 : decode cX2_latestDay 4 = .ok (.iload_n 3, 1) := by decide +kernel
theorem dX2_latestDay_5 : decode cX2_latestDay 5 = .ok (.aload_n 0, 1) := by decide +kernel
theorem dX2_latestDay_6 : decode cX2_latestDay 6 = .ok (.invokevirtual 48, 3) := by decide +kernel
theorem dX2_latestDay_9 : decode cX2_latestDay 9 = .ok (.if_icmp .ge 34, 3) := by decide +kernel
theorem dX2_latestDay_12 : decode cX2_latestDay 12 = .ok (.aload_n 0, 1) := by decide +kernel
theorem dX2_latestDay_13 : decode cX2_latestDay 13 = .ok (.getfield 14, 3) := by decide +kernel
theorem dX2_latestDay_16 : decode cX2_latestDay 16 = .ok (.iload_n 3, 1) := by decide +kernel
theorem dX2_latestDay_17 : decode cX2_latestDay 17 = .ok (.invokevirtual 51, 3) := by decide +kernel
theorem dX2_latestDay_20 : decode cX2_latestDay 20 = .ok (.iload_n 1, 1) := by decide +kernel
theorem dX2_latestDay_21 : decode cX2_latestDay 21 = .ok (.if_icmp .ne 16, 3) := by decide +kernel
theorem dX2_latestDay_24 : decode cX2_latestDay 24 = .ok (.iload_n 2, 1) := by decide +kernel
theorem dX2_latestDay_25 : decode cX2_latestDay 25 = .ok (.aload_n 0, 1) := by decide +kernel
theorem dX2_latestDay_26 : decode cX2_latestDay 26 = .ok (.getfield 23, 3) := by decide +kernel
theorem dX2_latestDay_29 : decode cX2_latestDay 29 = .ok (.iload_n 3, 1) := by decide +kernel
theorem dX2_latestDay_30 : decode cX2_latestDay 30 = .ok (.invokevirtual 51, 3) := by decide +kernel
theorem dX2_latestDay_33 : decode cX2_latestDay 33 = .ok (.invokestatic 55, 3) := by decide +kernel
theorem dX2_latestDay_36 : decode cX2_latestDay 36 = .ok (.istore_n 2, 1) := by decide +kernel
theorem dX2_latestDay_37 : decode cX2_latestDay 37 = .ok (.iinc 3 1, 3) := by decide +kernel
theorem dX2_latestDay_40 : decode cX2_latestDay 40 = .ok (.goto (-36), 3) := by decide +kernel
theorem dX2_latestDay_43 : decode cX2_latestDay 43 = .ok (.iload_n 2, 1) := by decide +kernel
theorem dX2_latestDay_44 : decode cX2_latestDay 44 = .ok (.ireturn, 1) := by decide +kernel
theorem dX2_worthOf_0 : decode cX2_worthOf 0 = .ok (.iconst 0, 1) := by decide +kernel
theorem dX2_worthOf_1 : decode cX2_worthOf 1 = .ok (.istore 4, 2) := by decide +kernel
theorem dX2_worthOf_3 : decode cX2_worthOf 3 = .ok (.iconst 0, 1) := by decide +kernel
theorem dX2_worthOf_4 : decode cX2_worthOf 4 = .ok (.istore 5, 2) := by decide +kernel
theorem dX2_worthOf_6 : decode cX2_worthOf 6 = .ok (.iload 5, 2) := by decide +kernel
theorem dX2_worthOf_8 : decode cX2_worthOf 8 = .ok (.aload_n 0, 1) := by decide +kernel
theorem dX2_worthOf_9 : decode cX2_worthOf 9 = .ok (.invokevirtual 48, 3) := by decide +kernel
theorem dX2_worthOf_12 : decode cX2_worthOf 12 = .ok (.if_icmp .ge 53, 3) := by decide +kernel
theorem dX2_worthOf_15 : decode cX2_worthOf 15 = .ok (.aload_n 0, 1) := by decide +kernel
theorem dX2_worthOf_16 : decode cX2_worthOf 16 = .ok (.iload 5, 2) := by decide +kernel
theorem dX2_worthOf_18 : decode cX2_worthOf 18 = .ok (.iload_n 1, 1) := by decide +kernel
theorem dX2_worthOf_19 : decode cX2_worthOf 19 = .ok (.iload_n 2, 1) := by decide +kernel
theorem dX2_worthOf_20 : decode cX2_worthOf 20 = .ok (.invokevirtual 61, 3) := by decide +kernel
theorem dX2_worthOf_23 : decode cX2_worthOf 23 = .ok (.ifCond .eq 36, 3) := by decide +kernel
theorem dX2_worthOf_26 : decode cX2_worthOf 26 = .ok (.aload_n 0, 1) := by decide +kernel
theorem dX2_worthOf_27 : decode cX2_worthOf 27 = .ok (.getfield 23, 3) := by decide +kernel
theorem dX2_worthOf_30 : decode cX2_worthOf 30 = .ok (.iload 5, 2) := by decide +kernel
theorem dX2_worthOf_32 : decode cX2_worthOf 32 = .ok (.invokevirtual 51, 3) := by decide +kernel
theorem dX2_worthOf_35 : decode cX2_worthOf 35 = .ok (.iload_n 3, 1) := by decide +kernel
theorem dX2_worthOf_36 : decode cX2_worthOf 36 = .ok (.if_icmp .gt 23, 3) := by decide +kernel
theorem dX2_worthOf_39 : decode cX2_worthOf 39 = .ok (.iload 4, 2) := by decide +kernel
theorem dX2_worthOf_41 : decode cX2_worthOf 41 = .ok (.aload_n 0, 1) := by decide +kernel
theorem dX2_worthOf_42 : decode cX2_worthOf 42 = .ok (.iload_n 3, 1) := by decide +kernel
theorem dX2_worthOf_43 : decode cX2_worthOf 43 = .ok (.aload_n 0, 1) := by decide +kernel
theorem dX2_worthOf_44 : decode cX2_worthOf 44 = .ok (.getfield 23, 3) := by decide +kernel
theorem dX2_worthOf_47 : decode cX2_worthOf 47 = .ok (.iload 5, 2) := by decide +kernel
theorem dX2_worthOf_49 : decode cX2_worthOf 49 = .ok (.invokevirtual 51, 3) := by decide +kernel
theorem dX2_worthOf_52 : decode cX2_worthOf 52 = .ok (.isub, 1) := by decide +kernel
theorem dX2_worthOf_53 : decode cX2_worthOf 53 = .ok (.invokevirtual 65, 3) := by decide +kernel
theorem dX2_worthOf_56 : decode cX2_worthOf 56 = .ok (.iadd, 1) := by decide +kernel
theorem dX2_worthOf_57 : decode cX2_worthOf 57 = .ok (.istore 4, 2) := by decide +kernel
theorem dX2_worthOf_59 : decode cX2_worthOf 59 = .ok (.iinc 5 1, 3) := by decide +kernel
theorem dX2_worthOf_62 : decode cX2_worthOf 62 = .ok (.goto (-56), 3) := by decide +kernel
theorem dX2_worthOf_65 : decode cX2_worthOf 65 = .ok (.iload 4, 2) := by decide +kernel
theorem dX2_worthOf_67 : decode cX2_worthOf 67 = .ok (.ireturn, 1) := by decide +kernel
theorem dX2_isOf_0 : decode cX2_isOf 0 = .ok (.aload_n 0, 1) := by decide +kernel
theorem dX2_isOf_1 : decode cX2_isOf 1 = .ok (.getfield 14, 3) := by decide +kernel
theorem dX2_isOf_4 : decode cX2_isOf 4 = .ok (.iload_n 1, 1) := by decide +kernel
theorem dX2_isOf_5 : decode cX2_isOf 5 = .ok (.invokevirtual 51, 3) := by decide +kernel
theorem dX2_isOf_8 : decode cX2_isOf 8 = .ok (.iload_n 2, 1) := by decide +kernel
theorem dX2_isOf_9 : decode cX2_isOf 9 = .ok (.if_icmp .ne 19, 3) := by decide +kernel
theorem dX2_isOf_12 : decode cX2_isOf 12 = .ok (.aload_n 0, 1) := by decide +kernel
theorem dX2_isOf_13 : decode cX2_isOf 13 = .ok (.getfield 20, 3) := by decide +kernel
theorem dX2_isOf_16 : decode cX2_isOf 16 = .ok (.iload_n 1, 1) := by decide +kernel
theorem dX2_isOf_17 : decode cX2_isOf 17 = .ok (.invokevirtual 51, 3) := by decide +kernel
theorem dX2_isOf_20 : decode cX2_isOf 20 = .ok (.iload_n 3, 1) := by decide +kernel
theorem dX2_isOf_21 : decode cX2_isOf 21 = .ok (.if_icmp .ne 7, 3) := by decide +kernel
theorem dX2_isOf_24 : decode cX2_isOf 24 = .ok (.iconst 1, 1) := by decide +kernel
theorem dX2_isOf_25 : decode cX2_isOf 25 = .ok (.goto 4, 3) := by decide +kernel
theorem dX2_isOf_28 : decode cX2_isOf 28 = .ok (.iconst 0, 1) := by decide +kernel
theorem dX2_isOf_29 : decode cX2_isOf 29 = .ok (.ireturn, 1) := by decide +kernel
theorem dX2_faded_0 : decode cX2_faded 0 = .ok (.sipush 1000, 3) := by decide +kernel
theorem dX2_faded_3 : decode cX2_faded 3 = .ok (.istore_n 2, 1) := by decide +kernel
theorem dX2_faded_4 : decode cX2_faded 4 = .ok (.iconst 0, 1) := by decide +kernel
theorem dX2_faded_5 : decode cX2_faded 5 = .ok (.istore_n 3, 1) := by decide +kernel
theorem dX2_faded_6 : decode cX2_faded 6 = .ok (.iload_n 3, 1) := by decide +kernel
theorem dX2_faded_7 : decode cX2_faded 7 = .ok (.iload_n 1, 1) := by decide +kernel
theorem dX2_faded_8 : decode cX2_faded 8 = .ok (.if_icmp .ge 32, 3) := by decide +kernel
theorem dX2_faded_11 : decode cX2_faded 11 = .ok (.iload_n 2, 1) := by decide +kernel
theorem dX2_faded_12 : decode cX2_faded 12 = .ok (.aload_n 0, 1) := by decide +kernel
theorem dX2_faded_13 : decode cX2_faded 13 = .ok (.getfield 30, 3) := by decide +kernel
theorem dX2_faded_16 : decode cX2_faded 16 = .ok (.imul, 1) := by decide +kernel
theorem dX2_faded_17 : decode cX2_faded 17 = .ok (.sipush 1000, 3) := by decide +kernel
theorem dX2_faded_20 : decode cX2_faded 20 = .ok (.idiv, 1) := by decide +kernel
theorem dX2_faded_21 : decode cX2_faded 21 = .ok (.istore 4, 2) := by decide +kernel
theorem dX2_faded_23 : decode cX2_faded 23 = .ok (.iload 4, 2) := by decide +kernel
theorem dX2_faded_25 : decode cX2_faded 25 = .ok (.iload_n 2, 1) := by decide +kernel
theorem dX2_faded_26 : decode cX2_faded 26 = .ok (.if_icmp .ne 5, 3) := by decide +kernel
theorem dX2_faded_29 : decode cX2_faded 29 = .ok (.iload_n 2, 1) := by decide +kernel
theorem dX2_faded_30 : decode cX2_faded 30 = .ok (.ireturn, 1) := by decide +kernel
theorem dX2_faded_31 : decode cX2_faded 31 = .ok (.iload 4, 2) := by decide +kernel
theorem dX2_faded_33 : decode cX2_faded 33 = .ok (.istore_n 2, 1) := by decide +kernel
theorem dX2_faded_34 : decode cX2_faded 34 = .ok (.iinc 3 1, 3) := by decide +kernel
theorem dX2_faded_37 : decode cX2_faded 37 = .ok (.goto (-31), 3) := by decide +kernel
theorem dX2_faded_40 : decode cX2_faded 40 = .ok (.iload_n 2, 1) := by decide +kernel
theorem dX2_faded_41 : decode cX2_faded 41 = .ok (.ireturn, 1) := by decide +kernel
theorem dX2_dropLearnings_0 : decode cX2_dropLearnings 0 = .ok (.aload_n 0, 1) := by decide +kernel
theorem dX2_dropLearnings_1 : decode cX2_dropLearnings 1 = .ok (.invokevirtual 48, 3) := by decide +kernel
theorem dX2_dropLearnings_4 : decode cX2_dropLearnings 4 = .ok (.istore_n 3, 1) := by decide +kernel
theorem dX2_dropLearnings_5 : decode cX2_dropLearnings 5 = .ok (.iload_n 3, 1) := by decide +kernel
theorem dX2_dropLearnings_6 : decode cX2_dropLearnings 6 = .ok (.iconst 1, 1) := by decide +kernel
theorem dX2_dropLearnings_7 : decode cX2_dropLearnings 7 = .ok (.isub, 1) := by decide +kernel
theorem dX2_dropLearnings_8 : decode cX2_dropLearnings 8 = .ok (.istore 4, 2) := by decide +kernel
theorem dX2_dropLearnings_10 : decode cX2_dropLearnings 10 = .ok (.iload 4, 2) := by decide +kernel
theorem dX2_dropLearnings_12 : decode cX2_dropLearnings 12 = .ok (.ifCond .lt 67, 3) := by decide +kernel
theorem dX2_dropLearnings_15 : decode cX2_dropLearnings 15 = .ok (.aload_n 0, 1) := by decide +kernel
theorem dX2_dropLearnings_16 : decode cX2_dropLearnings 16 = .ok (.iload 4, 2) := by decide +kernel
theorem dX2_dropLearnings_18 : decode cX2_dropLearnings 18 = .ok (.iload_n 1, 1) := by decide +kernel
theorem dX2_dropLearnings_19 : decode cX2_dropLearnings 19 = .ok (.iload_n 2, 1) := by decide +kernel
theorem dX2_dropLearnings_20 : decode cX2_dropLearnings 20 = .ok (.iconst (-1), 1) := by decide +kernel
theorem dX2_dropLearnings_21 : decode cX2_dropLearnings 21 = .ok (.if_icmp .ne 15, 3) := by decide +kernel
theorem dX2_dropLearnings_24 : decode cX2_dropLearnings 24 = .ok (.aload_n 0, 1) := by decide +kernel
theorem dX2_dropLearnings_25 : decode cX2_dropLearnings 25 = .ok (.getfield 20, 3) := by decide +kernel
theorem dX2_dropLearnings_28 : decode cX2_dropLearnings 28 = .ok (.iload 4, 2) := by decide +kernel
theorem dX2_dropLearnings_30 : decode cX2_dropLearnings 30 = .ok (.invokevirtual 51, 3) := by decide +kernel
theorem dX2_dropLearnings_33 : decode cX2_dropLearnings 33 = .ok (.goto 4, 3) := by decide +kernel
theorem dX2_dropLearnings_36 : decode cX2_dropLearnings 36 = .ok (.iload_n 2, 1) := by decide +kernel
theorem dX2_dropLearnings_37 : decode cX2_dropLearnings 37 = .ok (.invokevirtual 61, 3) := by decide +kernel
theorem dX2_dropLearnings_40 : decode cX2_dropLearnings 40 = .ok (.ifCond .eq 33, 3) := by decide +kernel
theorem dX2_dropLearnings_43 : decode cX2_dropLearnings 43 = .ok (.aload_n 0, 1) := by decide +kernel
theorem dX2_dropLearnings_44 : decode cX2_dropLearnings 44 = .ok (.getfield 14, 3) := by decide +kernel
theorem dX2_dropLearnings_47 : decode cX2_dropLearnings 47 = .ok (.iload 4, 2) := by decide +kernel
theorem dX2_dropLearnings_49 : decode cX2_dropLearnings 49 = .ok (.invokevirtual 68, 3) := by decide +kernel
theorem dX2_dropLearnings_52 : decode cX2_dropLearnings 52 = .ok (.pop, 1) := by decide +kernel
theorem dX2_dropLearnings_53 : decode cX2_dropLearnings 53 = .ok (.aload_n 0, 1) := by decide +kernel
theorem dX2_dropLearnings_54 : decode cX2_dropLearnings 54 = .ok (.getfield 20, 3) := by decide +kernel
theorem dX2_dropLearnings_57 : decode cX2_dropLearnings 57 = .ok (.iload 4, 2) := by decide +kernel
theorem dX2_dropLearnings_59 : decode cX2_dropLearnings 59 = .ok (.invokevirtual 68, 3) := by decide +kernel
theorem dX2_dropLearnings_62 : decode cX2_dropLearnings 62 = .ok (.pop, 1) := by decide +kernel
theorem dX2_dropLearnings_63 : decode cX2_dropLearnings 63 = .ok (.aload_n 0, 1) := by decide +kernel
theorem dX2_dropLearnings_64 : decode cX2_dropLearnings 64 = .ok (.getfield 23, 3) := by decide +kernel
theorem dX2_dropLearnings_67 : decode cX2_dropLearnings 67 = .ok (.iload 4, 2) := by decide +kernel
theorem dX2_dropLearnings_69 : decode cX2_dropLearnings 69 = .ok (.invokevirtual 68, 3) := by decide +kernel
theorem dX2_dropLearnings_72 : decode cX2_dropLearnings 72 = .ok (.pop, 1) := by decide +kernel
theorem dX2_dropLearnings_73 : decode cX2_dropLearnings 73 = .ok (.iinc 4 (-1), 3) := by decide +kernel
theorem dX2_dropLearnings_76 : decode cX2_dropLearnings 76 = .ok (.goto (-66), 3) := by decide +kernel
theorem dX2_dropLearnings_79 : decode cX2_dropLearnings 79 = .ok (.iload_n 3, 1) := by decide +kernel
theorem dX2_dropLearnings_80 : decode cX2_dropLearnings 80 = .ok (.aload_n 0, 1) := by decide +kernel
theorem dX2_dropLearnings_81 : decode cX2_dropLearnings 81 = .ok (.invokevirtual 48, 3) := by decide +kernel
theorem dX2_dropLearnings_84 : decode cX2_dropLearnings 84 = .ok (.isub, 1) := by decide +kernel
theorem dX2_dropLearnings_85 : decode cX2_dropLearnings 85 = .ok (.ireturn, 1) := by decide +kernel
theorem dX2_setFade_0 : decode cX2_setFade 0 = .ok (.aload_n 0, 1) := by decide +kernel
theorem dX2_setFade_1 : decode cX2_setFade 1 = .ok (.getfield 30, 3) := by decide +kernel
theorem dX2_setFade_4 : decode cX2_setFade 4 = .ok (.istore_n 2, 1) := by decide +kernel
theorem dX2_setFade_5 : decode cX2_setFade 5 = .ok (.aload_n 0, 1) := by decide +kernel
theorem dX2_setFade_6 : decode cX2_setFade 6 = .ok (.iload_n 1, 1) := by decide +kernel
theorem dX2_setFade_7 : decode cX2_setFade 7 = .ok (.putfield 30, 3) := by decide +kernel
theorem dX2_setFade_10 : decode cX2_setFade 10 = .ok (.iload_n 2, 1) := by decide +kernel
theorem dX2_setFade_11 : decode cX2_setFade 11 = .ok (.ireturn, 1) := by decide +kernel
theorem dX2_budgetOf_0 : decode cX2_budgetOf 0 = .ok (.aload_n 0, 1) := by decide +kernel
theorem dX2_budgetOf_1 : decode cX2_budgetOf 1 = .ok (.getfield 26, 3) := by decide +kernel
theorem dX2_budgetOf_4 : decode cX2_budgetOf 4 = .ok (.iload_n 1, 1) := by decide +kernel
theorem dX2_budgetOf_5 : decode cX2_budgetOf 5 = .ok (.iaload, 1) := by decide +kernel
theorem dX2_budgetOf_6 : decode cX2_budgetOf 6 = .ok (.ireturn, 1) := by decide +kernel
theorem dX2_setBudget_0 : decode cX2_setBudget 0 = .ok (.aload_n 0, 1) := by decide +kernel
theorem dX2_setBudget_1 : decode cX2_setBudget 1 = .ok (.getfield 26, 3) := by decide +kernel
theorem dX2_setBudget_4 : decode cX2_setBudget 4 = .ok (.iload_n 1, 1) := by decide +kernel
theorem dX2_setBudget_5 : decode cX2_setBudget 5 = .ok (.iaload, 1) := by decide +kernel
theorem dX2_setBudget_6 : decode cX2_setBudget 6 = .ok (.istore_n 3, 1) := by decide +kernel
theorem dX2_setBudget_7 : decode cX2_setBudget 7 = .ok (.aload_n 0, 1) := by decide +kernel
theorem dX2_setBudget_8 : decode cX2_setBudget 8 = .ok (.getfield 26, 3) := by decide +kernel
theorem dX2_setBudget_11 : decode cX2_setBudget 11 = .ok (.iload_n 1, 1) := by decide +kernel
theorem dX2_setBudget_12 : decode cX2_setBudget 12 = .ok (.iload_n 2, 1) := by decide +kernel
theorem dX2_setBudget_13 : decode cX2_setBudget 13 = .ok (.iastore, 1) := by decide +kernel
theorem dX2_setBudget_14 : decode cX2_setBudget 14 = .ok (.iload_n 3, 1) := by decide +kernel
theorem dX2_setBudget_15 : decode cX2_setBudget 15 = .ok (.ireturn, 1) := by decide +kernel
theorem dX2_setSeed_0 : decode cX2_setSeed 0 = .ok (.aload_n 0, 1) := by decide +kernel
theorem dX2_setSeed_1 : decode cX2_setSeed 1 = .ok (.getfield 34, 3) := by decide +kernel
theorem dX2_setSeed_4 : decode cX2_setSeed 4 = .ok (.istore_n 2, 1) := by decide +kernel
theorem dX2_setSeed_5 : decode cX2_setSeed 5 = .ok (.aload_n 0, 1) := by decide +kernel
theorem dX2_setSeed_6 : decode cX2_setSeed 6 = .ok (.iload_n 1, 1) := by decide +kernel
theorem dX2_setSeed_7 : decode cX2_setSeed 7 = .ok (.putfield 34, 3) := by decide +kernel
theorem dX2_setSeed_10 : decode cX2_setSeed 10 = .ok (.iload_n 2, 1) := by decide +kernel
theorem dX2_setSeed_11 : decode cX2_setSeed 11 = .ok (.ireturn, 1) := by decide +kernel
theorem dX2_givers_0 : decode cX2_givers 0 = .ok (.iconst 0, 1) := by decide +kernel
theorem dX2_givers_1 : decode cX2_givers 1 = .ok (.istore_n 2, 1) := by decide +kernel
theorem dX2_givers_2 : decode cX2_givers 2 = .ok (.iconst 0, 1) := by decide +kernel
theorem dX2_givers_3 : decode cX2_givers 3 = .ok (.istore_n 3, 1) := by decide +kernel
theorem dX2_givers_4 : decode cX2_givers 4 = .ok (.iload_n 3, 1) := by decide +kernel
theorem dX2_givers_5 : decode cX2_givers 5 = .ok (.iconst 4, 1) := by decide +kernel
theorem dX2_givers_6 : decode cX2_givers 6 = .ok (.if_icmp .ge 27, 3) := by decide +kernel
theorem dX2_givers_9 : decode cX2_givers 9 = .ok (.iload_n 2, 1) := by decide +kernel
theorem dX2_givers_10 : decode cX2_givers 10 = .ok (.aload_n 0, 1) := by decide +kernel
theorem dX2_givers_11 : decode cX2_givers 11 = .ok (.getfield 26, 3) := by decide +kernel
theorem dX2_givers_14 : decode cX2_givers 14 = .ok (.iload_n 3, 1) := by decide +kernel
theorem dX2_givers_15 : decode cX2_givers 15 = .ok (.iaload, 1) := by decide +kernel
theorem dX2_givers_16 : decode cX2_givers 16 = .ok (.iload_n 1, 1) := by decide +kernel
theorem dX2_givers_17 : decode cX2_givers 17 = .ok (.if_icmp .lt 7, 3) := by decide +kernel
theorem dX2_givers_20 : decode cX2_givers 20 = .ok (.iconst 1, 1) := by decide +kernel
theorem dX2_givers_21 : decode cX2_givers 21 = .ok (.goto 4, 3) := by decide +kernel
theorem dX2_givers_24 : decode cX2_givers 24 = .ok (.iconst 0, 1) := by decide +kernel
theorem dX2_givers_25 : decode cX2_givers 25 = .ok (.iadd, 1) := by decide +kernel
theorem dX2_givers_26 : decode cX2_givers 26 = .ok (.istore_n 2, 1) := by decide +kernel
theorem dX2_givers_27 : decode cX2_givers 27 = .ok (.iinc 3 1, 3) := by decide +kernel
theorem dX2_givers_30 : decode cX2_givers 30 = .ok (.goto (-26), 3) := by decide +kernel
theorem dX2_givers_33 : decode cX2_givers 33 = .ok (.iload_n 2, 1) := by decide +kernel
theorem dX2_givers_34 : decode cX2_givers 34 = .ok (.ireturn, 1) := by decide +kernel
theorem dX2_sumWithLot_0 : decode cX2_sumWithLot 0 = .ok (.iconst 0, 1) := by decide +kernel
theorem dX2_sumWithLot_1 : decode cX2_sumWithLot 1 = .ok (.istore 4, 2) := by decide +kernel
theorem dX2_sumWithLot_3 : decode cX2_sumWithLot 3 = .ok (.iconst 0, 1) := by decide +kernel
theorem dX2_sumWithLot_4 : decode cX2_sumWithLot 4 = .ok (.istore 5, 2) := by decide +kernel
theorem dX2_sumWithLot_6 : decode cX2_sumWithLot 6 = .ok (.iload 5, 2) := by decide +kernel
theorem dX2_sumWithLot_8 : decode cX2_sumWithLot 8 = .ok (.iconst 4, 1) := by decide +kernel
theorem dX2_sumWithLot_9 : decode cX2_sumWithLot 9 = .ok (.if_icmp .ge 50, 3) := by decide +kernel
theorem dX2_sumWithLot_12 : decode cX2_sumWithLot 12 = .ok (.aload_n 0, 1) := by decide +kernel
theorem dX2_sumWithLot_13 : decode cX2_sumWithLot 13 = .ok (.getfield 26, 3) := by decide +kernel
theorem dX2_sumWithLot_16 : decode cX2_sumWithLot 16 = .ok (.iload 5, 2) := by decide +kernel
theorem dX2_sumWithLot_18 : decode cX2_sumWithLot 18 = .ok (.iaload, 1) := by decide +kernel
theorem dX2_sumWithLot_19 : decode cX2_sumWithLot 19 = .ok (.iload_n 2, 1) := by decide +kernel
theorem dX2_sumWithLot_20 : decode cX2_sumWithLot 20 = .ok (.if_icmp .lt 33, 3) := by decide +kernel
theorem dX2_sumWithLot_23 : decode cX2_sumWithLot 23 = .ok (.iload 4, 2) := by decide +kernel
theorem dX2_sumWithLot_25 : decode cX2_sumWithLot 25 = .ok (.sipush 5000, 3) := by decide +kernel
theorem dX2_sumWithLot_28 : decode cX2_sumWithLot 28 = .ok (.aload_n 0, 1) := by decide +kernel
theorem dX2_sumWithLot_29 : decode cX2_sumWithLot 29 = .ok (.iload 5, 2) := by decide +kernel
theorem dX2_sumWithLot_31 : decode cX2_sumWithLot 31 = .ok (.iload_n 1, 1) := by decide +kernel
theorem dX2_sumWithLot_32 : decode cX2_sumWithLot 32 = .ok (.iload_n 3, 1) := by decide +kernel
theorem dX2_sumWithLot_33 : decode cX2_sumWithLot 33 = .ok (.invokevirtual 71, 3) := by decide +kernel
theorem dX2_sumWithLot_36 : decode cX2_sumWithLot 36 = .ok (.invokestatic 75, 3) := by decide +kernel
theorem dX2_sumWithLot_39 : decode cX2_sumWithLot 39 = .ok (.iadd, 1) := by decide +kernel
theorem dX2_sumWithLot_40 : decode cX2_sumWithLot 40 = .ok (.istore 4, 2) := by decide +kernel
theorem dX2_sumWithLot_42 : decode cX2_sumWithLot 42 = .ok (.aload_n 0, 1) := by decide +kernel
theorem dX2_sumWithLot_43 : decode cX2_sumWithLot 43 = .ok (.getfield 26, 3) := by decide +kernel
theorem dX2_sumWithLot_46 : decode cX2_sumWithLot 46 = .ok (.iload 5, 2) := by decide +kernel
theorem dX2_sumWithLot_48 : decode cX2_sumWithLot 48 = .ok (.dup2, 1) := by decide +kernel
theorem dX2_sumWithLot_49 : decode cX2_sumWithLot 49 = .ok (.iaload, 1) := by decide +kernel
theorem dX2_sumWithLot_50 : decode cX2_sumWithLot 50 = .ok (.iload_n 2, 1) := by decide +kernel
theorem dX2_sumWithLot_51 : decode cX2_sumWithLot 51 = .ok (.isub, 1) := by decide +kernel
theorem dX2_sumWithLot_52 : decode cX2_sumWithLot 52 = .ok (.iastore, 1) := by decide +kernel
theorem dX2_sumWithLot_53 : decode cX2_sumWithLot 53 = .ok (.iinc 5 1, 3) := by decide +kernel
theorem dX2_sumWithLot_56 : decode cX2_sumWithLot 56 = .ok (.goto (-50), 3) := by decide +kernel
theorem dX2_sumWithLot_59 : decode cX2_sumWithLot 59 = .ok (.iload 4, 2) := by decide +kernel
theorem dX2_sumWithLot_61 : decode cX2_sumWithLot 61 = .ok (.aload_n 0, 1) := by decide +kernel
theorem dX2_sumWithLot_62 : decode cX2_sumWithLot 62 = .ok (.iload_n 2, 1) := by decide +kernel
theorem dX2_sumWithLot_63 : decode cX2_sumWithLot 63 = .ok (.invokevirtual 78, 3) := by decide +kernel
theorem dX2_sumWithLot_66 : decode cX2_sumWithLot 66 = .ok (.iadd, 1) := by decide +kernel
theorem dX2_sumWithLot_67 : decode cX2_sumWithLot 67 = .ok (.ireturn, 1) := by decide +kernel
theorem dX2_drawLot_0 : decode cX2_drawLot 0 = .ok (.aload_n 0, 1) := by decide +kernel
theorem dX2_drawLot_1 : decode cX2_drawLot 1 = .ok (.aload_n 0, 1) := by decide +kernel
theorem dX2_drawLot_2 : decode cX2_drawLot 2 = .ok (.getfield 34, 3) := by decide +kernel
theorem dX2_drawLot_5 : decode cX2_drawLot 5 = .ok (.i2l, 1) := by decide +kernel
theorem dX2_drawLot_6 : decode cX2_drawLot 6 = .ok (.ldc2_w 81, 3) := by decide +kernel
theorem dX2_drawLot_9 : decode cX2_drawLot 9 = .ok (.lmul, 1) := by decide +kernel
theorem dX2_drawLot_10 : decode cX2_drawLot 10 = .ok (.ldc2_w 83, 3) := by decide +kernel
theorem dX2_drawLot_13 : decode cX2_drawLot 13 = .ok (.lrem, 1) := by decide +kernel
theorem dX2_drawLot_14 : decode cX2_drawLot 14 = .ok (.l2i, 1) := by decide +kernel
theorem dX2_drawLot_15 : decode cX2_drawLot 15 = .ok (.putfield 34, 3) := by decide +kernel
theorem dX2_drawLot_18 : decode cX2_drawLot 18 = .ok (.aload_n 0, 1) := by decide +kernel
theorem dX2_drawLot_19 : decode cX2_drawLot 19 = .ok (.getfield 34, 3) := by decide +kernel
theorem dX2_drawLot_22 : decode cX2_drawLot 22 = .ok (.sipush 2001, 3) := by decide +kernel
theorem dX2_drawLot_25 : decode cX2_drawLot 25 = .ok (.irem, 1) := by decide +kernel
theorem dX2_drawLot_26 : decode cX2_drawLot 26 = .ok (.sipush 1000, 3) := by decide +kernel
theorem dX2_drawLot_29 : decode cX2_drawLot 29 = .ok (.isub, 1) := by decide +kernel
theorem dX2_drawLot_30 : decode cX2_drawLot 30 = .ok (.bipush 100, 2) := by decide +kernel
theorem dX2_drawLot_32 : decode cX2_drawLot 32 = .ok (.imul, 1) := by decide +kernel
theorem dX2_drawLot_33 : decode cX2_drawLot 33 = .ok (.iload_n 1, 1) := by decide +kernel
theorem dX2_drawLot_34 : decode cX2_drawLot 34 = .ok (.iconst 1, 1) := by decide +kernel
theorem dX2_drawLot_35 : decode cX2_drawLot 35 = .ok (.invokestatic 55, 3) := by decide +kernel
theorem dX2_drawLot_38 : decode cX2_drawLot 38 = .ok (.idiv, 1) := by decide +kernel
theorem dX2_drawLot_39 : decode cX2_drawLot 39 = .ok (.ireturn, 1) := by decide +kernel
theorem dX3_init_0 : decode cX3_init 0 = .ok (.aload_n 0, 1) := by decide +kernel
theorem dX3_init_1 : decode cX3_init 1 = .ok (.invokespecial 3, 3) := by decide +kernel
theorem dX3_init_4 : decode cX3_init 4 = .ok (.aload_n 0, 1) := by decide +kernel
theorem dX3_init_5 : decode cX3_init 5 = .ok (.bipush 7, 2) := by decide +kernel
theorem dX3_init_7 : decode cX3_init 7 = .ok (.newarray .int, 2) := by decide +kernel
theorem dX3_init_9 : decode cX3_init 9 = .ok (.putfield 9, 3) := by decide +kernel
theorem dX3_init_12 : decode cX3_init 12 = .ok (.aload_n 0, 1) := by decide +kernel
theorem dX3_init_13 : decode cX3_init 13 = .ok (.bipush 7, 2) := by decide +kernel
theorem dX3_init_15 : decode cX3_init 15 = .ok (.newarray .int, 2) := by decide +kernel
theorem dX3_init_17 : decode cX3_init 17 = .ok (.putfield 15, 3) := by decide +kernel
theorem dX3_init_20 : decode cX3_init 20 = .ok (.aload_n 0, 1) := by decide +kernel
theorem dX3_init_21 : decode cX3_init 21 = .ok (.bipush 7, 2) := by decide +kernel
theorem dX3_init_23 : decode cX3_init 23 = .ok (.newarray .int, 2) := by decide +kernel
theorem dX3_init_25 : decode cX3_init 25 = .ok (.putfield 18, 3) := by decide +kernel
theorem dX3_init_28 : decode cX3_init 28 = .ok (.aload_n 0, 1) := by decide +kernel
theorem dX3_init_29 : decode cX3_init 29 = .ok (.bipush 7, 2) := by decide +kernel
theorem dX3_init_31 : decode cX3_init 31 = .ok (.bipush 7, 2) := by decide +kernel
theorem dX3_init_33 : decode cX3_init 33 = .ok (.multianewarray 21 2, 4) := by decide +kernel
theorem dX3_init_37 : decode cX3_init 37 = .ok (.putfield 23, 3) := by decide +kernel
theorem dX3_init_40 : decode cX3_init 40 = .ok (.aload_n 0, 1) := by decide +kernel
theorem dX3_init_41 : decode cX3_init 41 = .ok (.iconst 5, 1) := by decide +kernel
theorem dX3_init_42 : decode cX3_init 42 = .ok (.putfield 26, 3) := by decide +kernel
theorem dX3_init_45 : decode cX3_init 45 = .ok (.aload_n 0, 1) := by decide +kernel
theorem dX3_init_46 : decode cX3_init 46 = .ok (.bipush 7, 2) := by decide +kernel
theorem dX3_init_48 : decode cX3_init 48 = .ok (.newarray .int, 2) := by decide +kernel
theorem dX3_init_50 : decode cX3_init 50 = .ok (.putfield 30, 3) := by decide +kernel
theorem dX3_init_53 : decode cX3_init 53 = .ok (.aload_n 0, 1) := by decide +kernel
theorem dX3_init_54 : decode cX3_init 54 = .ok (.iconst 4, 1) := by decide +kernel
theorem dX3_init_55 : decode cX3_init 55 = .ok (.invokevirtual 33, 3) := by decide +kernel
theorem dX3_init_58 : decode cX3_init 58 = .ok (.pop, 1) := by decide +kernel
theorem dX3_init_59 : decode cX3_init 59 = .ok (.return_, 1) := by decide +kernel
theorem dX3_size_0 : decode cX3_size 0 = .ok (.aload_n 0, 1) := by decide +kernel
theorem dX3_size_1 : decode cX3_size 1 = .ok (.getfield 37, 3) := by decide +kernel
theorem dX3_size_4 : decode cX3_size 4 = .ok (.ireturn, 1) := by decide +kernel
theorem dX3_has_0 : decode cX3_has 0 = .ok (.iload_n 1, 1) := by decide +kernel
theorem dX3_has_1 : decode cX3_has 1 = .ok (.ifCond .lt 15, 3) := by decide +kernel
theorem dX3_has_4 : decode cX3_has 4 = .ok (.iload_n 1, 1) := by decide +kernel
theorem dX3_has_5 : decode cX3_has 5 = .ok (.aload_n 0, 1) := by decide +kernel
theorem dX3_has_6 : decode cX3_has 6 = .ok (.getfield 37, 3) := by decide +kernel
theorem dX3_has_9 : decode cX3_has 9 = .ok (.if_icmp .ge 7, 3) := by decide +kernel
theorem dX3_has_12 : decode cX3_has 12 = .ok (.iconst 1, 1) := by decide +kernel
theorem dX3_has_13 : decode cX3_has 13 = .ok (.goto 4, 3) := by decide +kernel
theorem dX3_has_16 : decode cX3_has 16 = .ok (.iconst 0, 1) := by decide +kernel
theorem dX3_has_17 : decode cX3_has 17 = .ok (.ireturn, 1) := by decide +kernel
theorem dX3_startAnew_0 : decode cX3_startAnew 0 = .ok (.aload_n 0, 1) := by decide +kernel
theorem dX3_startAnew_1 : decode cX3_startAnew 1 = .ok (.getfield 37, 3) := by decide +kernel
theorem dX3_startAnew_4 : decode cX3_startAnew 4 = .ok (.istore_n 2, 1) := by decide +kernel
theorem dX3_startAnew_5 : decode cX3_startAnew 5 = .ok (.aload_n 0, 1) := by decide +kernel
theorem dX3_startAnew_6 : decode cX3_startAnew 6 = .ok (.iload_n 1, 1) := by decide +kernel
theorem dX3_startAnew_7 : decode cX3_startAnew 7 = .ok (.putfield 37, 3) := by decide +kernel
theorem dX3_startAnew_10 : decode cX3_startAnew 10 = .ok (.iconst 0, 1) := by decide +kernel
theorem dX3_startAnew_11 : decode cX3_startAnew 11 = .ok (.istore_n 3, 1) := by decide +kernel
theorem dX3_startAnew_12 : decode cX3_startAnew 12 = .ok (.iload_n 3, 1) := by decide +kernel
theorem dX3_startAnew_13 : decode cX3_startAnew 13 = .ok (.bipush 7, 2) := by decide +kernel
theorem dX3_startAnew_15 : decode cX3_startAnew 15 = .ok (.if_icmp .ge 56, 3) := by decide +kernel
theorem dX3_startAnew_18 : decode cX3_startAnew 18 = .ok (.aload_n 0, 1) := by decide +kernel
theorem dX3_startAnew_19 : decode cX3_startAnew 19 = .ok (.getfield 9, 3) := by decide +kernel
theorem dX3_startAnew_22 : decode cX3_startAnew 22 = .ok (.iload_n 3, 1) := by decide +kernel
theorem dX3_startAnew_23 : decode cX3_startAnew 23 = .ok (.iconst 1, 1) := by decide +kernel
theorem dX3_startAnew_24 : decode cX3_startAnew 24 = .ok (.iastore, 1) := by decide +kernel
theorem dX3_startAnew_25 : decode cX3_startAnew 25 = .ok (.aload_n 0, 1) := by decide +kernel
theorem dX3_startAnew_26 : decode cX3_startAnew 26 = .ok (.getfield 15, 3) := by decide +kernel
theorem dX3_startAnew_29 : decode cX3_startAnew 29 = .ok (.iload_n 3, 1) := by decide +kernel
theorem dX3_startAnew_30 : decode cX3_startAnew 30 = .ok (.iconst 0, 1) := by decide +kernel
theorem dX3_startAnew_31 : decode cX3_startAnew 31 = .ok (.iastore, 1) := by decide +kernel
theorem dX3_startAnew_32 : decode cX3_startAnew 32 = .ok (.aload_n 0, 1) := by decide +kernel
theorem dX3_startAnew_33 : decode cX3_startAnew 33 = .ok (.getfield 18, 3) := by decide +kernel
theorem dX3_startAnew_36 : decode cX3_startAnew 36 = .ok (.iload_n 3, 1) := by decide +kernel
theorem dX3_startAnew_37 : decode cX3_startAnew 37 = .ok (.iconst 0, 1) := by decide +kernel
theorem dX3_startAnew_38 : decode cX3_startAnew 38 = .ok (.iastore, 1) := by decide +kernel
theorem dX3_startAnew_39 : decode cX3_startAnew 39 = .ok (.iconst 0, 1) := by decide +kernel
theorem dX3_startAnew_40 : decode cX3_startAnew 40 = .ok (.istore 4, 2) := by decide +kernel
theorem dX3_startAnew_42 : decode cX3_startAnew 42 = .ok (.iload 4, 2) := by decide +kernel
theorem dX3_startAnew_44 : decode cX3_startAnew 44 = .ok (.bipush 7, 2) := by decide +kernel
theorem dX3_startAnew_46 : decode cX3_startAnew 46 = .ok (.if_icmp .ge 19, 3) := by decide +kernel
theorem dX3_startAnew_49 : decode cX3_startAnew 49 = .ok (.aload_n 0, 1) := by decide +kernel
theorem dX3_startAnew_50 : decode cX3_startAnew 50 = .ok (.getfield 23, 3) := by decide +kernel
theorem dX3_startAnew_53 : decode cX3_startAnew 53 = .ok (.iload_n 3, 1) := by decide +kernel
theorem dX3_startAnew_54 : decode cX3_startAnew 54 = .ok (.aaload, 1) := by decide +kernel
theorem dX3_startAnew_55 : decode cX3_startAnew 55 = .ok (.iload 4, 2) := by decide +kernel
theorem dX3_startAnew_57 : decode cX3_startAnew 57 = .ok (.iconst 0, 1) := by decide +kernel
theorem dX3_startAnew_58 : decode cX3_startAnew 58 = .ok (.iastore, 1) := by decide +kernel
theorem dX3_startAnew_59 : decode cX3_startAnew 59 = .ok (.iinc 4 1, 3) := by decide +kernel
theorem dX3_startAnew_62 : decode cX3_startAnew 62 = .ok (.goto (-20), 3) := by decide +kernel
theorem dX3_startAnew_65 : decode cX3_startAnew 65 = .ok (.iinc 3 1, 3) := by decide +kernel
theorem dX3_startAnew_68 : decode cX3_startAnew 68 = .ok (.goto (-56), 3) := by decide +kernel
theorem dX3_startAnew_71 : decode cX3_startAnew 71 = .ok (.iload_n 2, 1) := by decide +kernel
theorem dX3_startAnew_72 : decode cX3_startAnew 72 = .ok (.ireturn, 1) := by decide +kernel
theorem dX3_setEffort_0 : decode cX3_setEffort 0 = .ok (.aload_n 0, 1) := by decide +kernel
theorem dX3_setEffort_1 : decode cX3_setEffort 1 = .ok (.getfield 9, 3) := by decide +kernel
theorem dX3_setEffort_4 : decode cX3_setEffort 4 = .ok (.iload_n 1, 1) := by decide +kernel
theorem dX3_setEffort_5 : decode cX3_setEffort 5 = .ok (.iaload, 1) := by decide +kernel
theorem dX3_setEffort_6 : decode cX3_setEffort 6 = .ok (.istore_n 3, 1) := by decide +kernel
theorem dX3_setEffort_7 : decode cX3_setEffort 7 = .ok (.aload_n 0, 1) := by decide +kernel
theorem dX3_setEffort_8 : decode cX3_setEffort 8 = .ok (.getfield 9, 3) := by decide +kernel
theorem dX3_setEffort_11 : decode cX3_setEffort 11 = .ok (.iload_n 1, 1) := by decide +kernel
theorem dX3_setEffort_12 : decode cX3_setEffort 12 = .ok (.iload_n 2, 1) := by decide +kernel
theorem dX3_setEffort_13 : decode cX3_setEffort 13 = .ok (.iastore, 1) := by decide +kernel
theorem dX3_setEffort_14 : decode cX3_setEffort 14 = .ok (.iload_n 3, 1) := by decide +kernel
theorem dX3_setEffort_15 : decode cX3_setEffort 15 = .ok (.ireturn, 1) := by decide +kernel
theorem dX3_setFinger_0 : decode cX3_setFinger 0 = .ok (.aload_n 0, 1) := by decide +kernel
theorem dX3_setFinger_1 : decode cX3_setFinger 1 = .ok (.getfield 15, 3) := by decide +kernel
theorem dX3_setFinger_4 : decode cX3_setFinger 4 = .ok (.iload_n 1, 1) := by decide +kernel
theorem dX3_setFinger_5 : decode cX3_setFinger 5 = .ok (.iaload, 1) := by decide +kernel
theorem dX3_setFinger_6 : decode cX3_setFinger 6 = .ok (.istore_n 3, 1) := by decide +kernel
theorem dX3_setFinger_7 : decode cX3_setFinger 7 = .ok (.aload_n 0, 1) := by decide +kernel
theorem dX3_setFinger_8 : decode cX3_setFinger 8 = .ok (.getfield 15, 3) := by decide +kernel
theorem dX3_setFinger_11 : decode cX3_setFinger 11 = .ok (.iload_n 1, 1) := by decide +kernel
theorem dX3_setFinger_12 : decode cX3_setFinger 12 = .ok (.iload_n 2, 1) := by decide +kernel
theorem dX3_setFinger_13 : decode cX3_setFinger 13 = .ok (.iastore, 1) := by decide +kernel
theorem dX3_setFinger_14 : decode cX3_setFinger 14 = .ok (.iload_n 3, 1) := by decide +kernel
theorem dX3_setFinger_15 : decode cX3_setFinger 15 = .ok (.ireturn, 1) := by decide +kernel
theorem dX3_setLoad_0 : decode cX3_setLoad 0 = .ok (.aload_n 0, 1) := by decide +kernel
theorem dX3_setLoad_1 : decode cX3_setLoad 1 = .ok (.getfield 18, 3) := by decide +kernel
theorem dX3_setLoad_4 : decode cX3_setLoad 4 = .ok (.iload_n 1, 1) := by decide +kernel
theorem dX3_setLoad_5 : decode cX3_setLoad 5 = .ok (.iaload, 1) := by decide +kernel
theorem dX3_setLoad_6 : decode cX3_setLoad 6 = .ok (.istore_n 3, 1) := by decide +kernel
theorem dX3_setLoad_7 : decode cX3_setLoad 7 = .ok (.aload_n 0, 1) := by decide +kernel
theorem dX3_setLoad_8 : decode cX3_setLoad 8 = .ok (.getfield 18, 3) := by decide +kernel
theorem dX3_setLoad_11 : decode cX3_setLoad 11 = .ok (.iload_n 1, 1) := by decide +kernel
theorem dX3_setLoad_12 : decode cX3_setLoad 12 = .ok (.iload_n 2, 1) := by decide +kernel
theorem dX3_setLoad_13 : decode cX3_setLoad 13 = .ok (.iastore, 1) := by decide +kernel
theorem dX3_setLoad_14 : decode cX3_setLoad 14 = .ok (.iload_n 3, 1) := by decide +kernel
theorem dX3_setLoad_15 : decode cX3_setLoad 15 = .ok (.ireturn, 1) := by decide +kernel
theorem dX3_setPair_0 : decode cX3_setPair 0 = .ok (.aload_n 0, 1) := by decide +kernel
theorem dX3_setPair_1 : decode cX3_setPair 1 = .ok (.getfield 23, 3) := by decide +kernel
theorem dX3_setPair_4 : decode cX3_setPair 4 = .ok (.iload_n 1, 1) := by decide +kernel
theorem dX3_setPair_5 : decode cX3_setPair 5 = .ok (.aaload, 1) := by decide +kernel
theorem dX3_setPair_6 : decode cX3_setPair 6 = .ok (.iload_n 2, 1) := by decide +kernel
theorem dX3_setPair_7 : decode cX3_setPair 7 = .ok (.iaload, 1) := by decide +kernel
theorem dX3_setPair_8 : decode cX3_setPair 8 = .ok (.istore 4, 2) := by decide +kernel
theorem dX3_setPair_10 : decode cX3_setPair 10 = .ok (.aload_n 0, 1) := by decide +kernel
theorem dX3_setPair_11 : decode cX3_setPair 11 = .ok (.getfield 23, 3) := by decide +kernel
theorem dX3_setPair_14 : decode cX3_setPair 14 = .ok (.iload_n 1, 1) := by decide +kernel
theorem dX3_setPair_15 : decode cX3_setPair 15 = .ok (.aaload, 1) := by decide +kernel
theorem dX3_setPair_16 : decode cX3_setPair 16 = .ok (.iload_n 2, 1) := by decide +kernel
theorem dX3_setPair_17 : decode cX3_setPair 17 = .ok (.iload_n 3, 1) := by decide +kernel
theorem dX3_setPair_18 : decode cX3_setPair 18 = .ok (.iastore, 1) := by decide +kernel
theorem dX3_setPair_19 : decode cX3_setPair 19 = .ok (.iload 4, 2) := by decide +kernel
theorem dX3_setPair_21 : decode cX3_setPair 21 = .ok (.ireturn, 1) := by decide +kernel
theorem dX3_setSame_0 : decode cX3_setSame 0 = .ok (.aload_n 0, 1) := by decide +kernel
theorem dX3_setSame_1 : decode cX3_setSame 1 = .ok (.getfield 26, 3) := by decide +kernel
theorem dX3_setSame_4 : decode cX3_setSame 4 = .ok (.istore_n 2, 1) := by decide +kernel
theorem dX3_setSame_5 : decode cX3_setSame 5 = .ok (.aload_n 0, 1) := by decide +kernel
theorem dX3_setSame_6 : decode cX3_setSame 6 = .ok (.iload_n 1, 1) := by decide +kernel
theorem dX3_setSame_7 : decode cX3_setSame 7 = .ok (.putfield 26, 3) := by decide +kernel
theorem dX3_setSame_10 : decode cX3_setSame 10 = .ok (.iload_n 2, 1) := by decide +kernel
theorem dX3_setSame_11 : decode cX3_setSame 11 = .ok (.ireturn, 1) := by decide +kernel
theorem dX3_read_0 : decode cX3_read 0 = .ok (.iload_n 1, 1) := by decide +kernel
theorem dX3_read_1 : decode cX3_read 1 = .ok (.iconst 0, 1) := by decide +kernel
theorem dX3_read_2 : decode cX3_read 2 = .ok (.invokestatic 40, 3) := by decide +kernel
theorem dX3_read_5 : decode cX3_read 5 = .ok (.istore_n 2, 1) := by decide +kernel
theorem dX3_read_6 : decode cX3_read 6 = .ok (.iconst 0, 1) := by decide +kernel
theorem dX3_read_7 : decode cX3_read 7 = .ok (.istore_n 3, 1) := by decide +kernel
theorem dX3_read_8 : decode cX3_read 8 = .ok (.aload_n 0, 1) := by decide +kernel
theorem dX3_read_9 : decode cX3_read 9 = .ok (.getfield 37, 3) := by decide +kernel
theorem dX3_read_12 : decode cX3_read 12 = .ok (.iconst 1, 1) := by decide +kernel
theorem dX3_read_13 : decode cX3_read 13 = .ok (.isub, 1) := by decide +kernel
theorem dX3_read_14 : decode cX3_read 14 = .ok (.istore 4, 2) := by decide +kernel
theorem dX3_read_16 : decode cX3_read 16 = .ok (.iload 4, 2) := by decide +kernel
theorem dX3_read_18 : decode cX3_read 18 = .ok (.ifCond .lt 37, 3) := by decide +kernel
theorem dX3_read_21 : decode cX3_read 21 = .ok (.aload_n 0, 1) := by decide +kernel
theorem dX3_read_22 : decode cX3_read 22 = .ok (.getfield 30, 3) := by decide +kernel
theorem dX3_read_25 : decode cX3_read 25 = .ok (.iload 4, 2) := by decide +kernel
theorem dX3_read_27 : decode cX3_read 27 = .ok (.iload_n 2, 1) := by decide +kernel
theorem dX3_read_28 : decode cX3_read 28 = .ok (.bipush 10, 2) := by decide +kernel
theorem dX3_read_30 : decode cX3_read 30 = .ok (.irem, 1) := by decide +kernel
theorem dX3_read_31 : decode cX3_read 31 = .ok (.iastore, 1) := by decide +kernel
theorem dX3_read_32 : decode cX3_read 32 = .ok (.iload_n 3, 1) := by decide +kernel
theorem dX3_read_33 : decode cX3_read 33 = .ok (.iconst 1, 1) := by decide +kernel
theorem dX3_read_34 : decode cX3_read 34 = .ok (.aload_n 0, 1) := by decide +kernel
theorem dX3_read_35 : decode cX3_read 35 = .ok (.getfield 30, 3) := by decide +kernel
theorem dX3_read_38 : decode cX3_read 38 = .ok (.iload 4, 2) := by decide +kernel
theorem dX3_read_40 : decode cX3_read 40 = .ok (.iaload, 1) := by decide +kernel
theorem dX3_read_41 : decode cX3_read 41 = .ok (.ishl, 1) := by decide +kernel
theorem dX3_read_42 : decode cX3_read 42 = .ok (.ior, 1) := by decide +kernel
theorem dX3_read_43 : decode cX3_read 43 = .ok (.istore_n 3, 1) := by decide +kernel
theorem dX3_read_44 : decode cX3_read 44 = .ok (.iload_n 2, 1) := by decide +kernel
theorem dX3_read_45 : decode cX3_read 45 = .ok (.bipush 10, 2) := by decide +kernel
theorem dX3_read_47 : decode cX3_read 47 = .ok (.idiv, 1) := by decide +kernel
theorem dX3_read_48 : decode cX3_read 48 = .ok (.istore_n 2, 1) := by decide +kernel
theorem dX3_read_49 : decode cX3_read 49 = .ok (.iinc 4 (-1), 3) := by decide +kernel
theorem dX3_read_52 : decode cX3_read 52 = .ok (.goto (-36), 3) := by decide +kernel
theorem dX3_read_55 : decode cX3_read 55 = .ok (.iload_n 1, 1) := by decide +kernel
theorem dX3_read_56 : decode cX3_read 56 = .ok (.ifCond .lt 23, 3) := by decide +kernel
theorem dX3_read_59 : decode cX3_read 59 = .ok (.iload_n 2, 1) := by decide +kernel
theorem dX3_read_60 : decode cX3_read 60 = .ok (.ifCond .ne 19, 3) := by decide +kernel
theorem dX3_read_63 : decode cX3_read 63 = .ok (.iload_n 3, 1) := by decide +kernel
theorem dX3_read_64 : decode cX3_read 64 = .ok (.iconst 1, 1) := by decide +kernel
theorem dX3_read_65 : decode cX3_read 65 = .ok (.aload_n 0, 1) := by decide +kernel
theorem dX3_read_66 : decode cX3_read 66 = .ok (.getfield 37, 3) := by decide +kernel
theorem dX3_read_69 : decode cX3_read 69 = .ok (.ishl, 1) := by decide +kernel
theorem dX3_read_70 : decode cX3_read 70 = .ok (.iconst 1, 1) := by decide +kernel
theorem dX3_read_71 : decode cX3_read 71 = .ok (.isub, 1) := by decide +kernel
theorem dX3_read_72 : decode cX3_read 72 = .ok (.if_icmp .ne 7, 3) := by decide +kernel
theorem dX3_read_75 : decode cX3_read 75 = .ok (.iconst 1, 1) := by decide +kernel
theorem dX3_read_76 : decode cX3_read 76 = .ok (.goto 4, 3) := by decide +kernel
theorem dX3_read_79 : decode cX3_read 79 = .ok (.iconst 0, 1) := by decide +kernel
theorem dX3_read_80 : decode cX3_read 80 = .ok (.ireturn, 1) := by decide +kernel
theorem dX3_digits_0 : decode cX3_digits 0 = .ok (.iconst 0, 1) := by decide +kernel
theorem dX3_digits_1 : decode cX3_digits 1 = .ok (.istore_n 1, 1) := by decide +kernel
theorem dX3_digits_2 : decode cX3_digits 2 = .ok (.iconst 0, 1) := by decide +kernel
theorem dX3_digits_3 : decode cX3_digits 3 = .ok (.istore_n 2, 1) := by decide +kernel
theorem dX3_digits_4 : decode cX3_digits 4 = .ok (.iload_n 2, 1) := by decide +kernel
theorem dX3_digits_5 : decode cX3_digits 5 = .ok (.aload_n 0, 1) := by decide +kernel
theorem dX3_digits_6 : decode cX3_digits 6 = .ok (.getfield 37, 3) := by decide +kernel
theorem dX3_digits_9 : decode cX3_digits 9 = .ok (.if_icmp .ge 21, 3) := by decide +kernel
theorem dX3_digits_12 : decode cX3_digits 12 = .ok (.bipush 10, 2) := by decide +kernel
theorem dX3_digits_14 : decode cX3_digits 14 = .ok (.iload_n 1, 1) := by decide +kernel
theorem dX3_digits_15 : decode cX3_digits 15 = .ok (.imul, 1) := by decide +kernel
theorem dX3_digits_16 : decode cX3_digits 16 = .ok (.aload_n 0, 1) := by decide +kernel
theorem dX3_digits_17 : decode cX3_digits 17 = .ok (.getfield 30, 3) := by decide +kernel
theorem dX3_digits_20 : decode cX3_digits 20 = .ok (.iload_n 2, 1) := by decide +kernel
theorem dX3_digits_21 : decode cX3_digits 21 = .ok (.iaload, 1) := by decide +kernel
theorem dX3_digits_22 : decode cX3_digits 22 = .ok (.iadd, 1) := by decide +kernel
theorem dX3_digits_23 : decode cX3_digits 23 = .ok (.istore_n 1, 1) := by decide +kernel
theorem dX3_digits_24 : decode cX3_digits 24 = .ok (.iinc 2 1, 3) := by decide +kernel
theorem dX3_digits_27 : decode cX3_digits 27 = .ok (.goto (-23), 3) := by decide +kernel
theorem dX3_digits_30 : decode cX3_digits 30 = .ok (.iload_n 1, 1) := by decide +kernel
theorem dX3_digits_31 : decode cX3_digits 31 = .ok (.ireturn, 1) := by decide +kernel
theorem dX3_totalCost_0 : decode cX3_totalCost 0 = .ok (.iconst 0, 1) := by decide +kernel
theorem dX3_totalCost_1 : decode cX3_totalCost 1 = .ok (.istore_n 1, 1) := by decide +kernel
theorem dX3_totalCost_2 : decode cX3_totalCost 2 = .ok (.iconst 0, 1) := by decide +kernel
theorem dX3_totalCost_3 : decode cX3_totalCost 3 = .ok (.istore_n 2, 1) := by decide +kernel
theorem dX3_totalCost_4 : decode cX3_totalCost 4 = .ok (.iload_n 2, 1) := by decide +kernel
theorem dX3_totalCost_5 : decode cX3_totalCost 5 = .ok (.aload_n 0, 1) := by decide +kernel
theorem dX3_totalCost_6 : decode cX3_totalCost 6 = .ok (.getfield 37, 3) := by decide +kernel
theorem dX3_totalCost_9 : decode cX3_totalCost 9 = .ok (.if_icmp .ge 17, 3) := by decide +kernel
theorem dX3_totalCost_12 : decode cX3_totalCost 12 = .ok (.iload_n 1, 1) := by decide +kernel
theorem dX3_totalCost_13 : decode cX3_totalCost 13 = .ok (.aload_n 0, 1) := by decide +kernel
theorem dX3_totalCost_14 : decode cX3_totalCost 14 = .ok (.iload_n 2, 1) := by decide +kernel
theorem dX3_totalCost_15 : decode cX3_totalCost 15 = .ok (.invokevirtual 46, 3) := by decide +kernel
theorem dX3_totalCost_18 : decode cX3_totalCost 18 = .ok (.iadd, 1) := by decide +kernel
theorem dX3_totalCost_19 : decode cX3_totalCost 19 = .ok (.istore_n 1, 1) := by decide +kernel
theorem dX3_totalCost_20 : decode cX3_totalCost 20 = .ok (.iinc 2 1, 3) := by decide +kernel
theorem dX3_totalCost_23 : decode cX3_totalCost 23 = .ok (.goto (-19), 3) := by decide +kernel
theorem dX3_totalCost_26 : decode cX3_totalCost 26 = .ok (.iload_n 1, 1) := by decide +kernel
theorem dX3_totalCost_27 : decode cX3_totalCost 27 = .ok (.ireturn, 1) := by decide +kernel
theorem dX3_addedCost_0 : decode cX3_addedCost 0 = .ok (.aload_n 0, 1) := by decide +kernel
theorem dX3_addedCost_1 : decode cX3_addedCost 1 = .ok (.getfield 18, 3) := by decide +kernel
theorem dX3_addedCost_4 : decode cX3_addedCost 4 = .ok (.iload_n 1, 1) := by decide +kernel
theorem dX3_addedCost_5 : decode cX3_addedCost 5 = .ok (.iaload, 1) := by decide +kernel
theorem dX3_addedCost_6 : decode cX3_addedCost 6 = .ok (.aload_n 0, 1) := by decide +kernel
theorem dX3_addedCost_7 : decode cX3_addedCost 7 = .ok (.getfield 9, 3) := by decide +kernel
theorem dX3_addedCost_10 : decode cX3_addedCost 10 = .ok (.aload_n 0, 1) := by decide +kernel
theorem dX3_addedCost_11 : decode cX3_addedCost 11 = .ok (.getfield 30, 3) := by decide +kernel
theorem dX3_addedCost_14 : decode cX3_addedCost 14 = .ok (.iload_n 1, 1) := by decide +kernel
theorem dX3_addedCost_15 : decode cX3_addedCost 15 = .ok (.iaload, 1) := by decide +kernel
theorem dX3_addedCost_16 : decode cX3_addedCost 16 = .ok (.iaload, 1) := by decide +kernel
theorem dX3_addedCost_17 : decode cX3_addedCost 17 = .ok (.imul, 1) := by decide +kernel
theorem dX3_addedCost_18 : decode cX3_addedCost 18 = .ok (.istore_n 2, 1) := by decide +kernel
theorem dX3_addedCost_19 : decode cX3_addedCost 19 = .ok (.iconst 0, 1) := by decide +kernel
theorem dX3_addedCost_20 : decode cX3_addedCost 20 = .ok (.istore_n 3, 1) := by decide +kernel
theorem dX3_addedCost_21 : decode cX3_addedCost 21 = .ok (.iload_n 3, 1) := by decide +kernel
theorem dX3_addedCost_22 : decode cX3_addedCost 22 = .ok (.iload_n 1, 1) := by decide +kernel
theorem dX3_addedCost_23 : decode cX3_addedCost 23 = .ok (.if_icmp .ge 55, 3) := by decide +kernel
theorem dX3_addedCost_26 : decode cX3_addedCost 26 = .ok (.aload_n 0, 1) := by decide +kernel
theorem dX3_addedCost_27 : decode cX3_addedCost 27 = .ok (.getfield 23, 3) := by decide +kernel
theorem dX3_addedCost_30 : decode cX3_addedCost 30 = .ok (.iload_n 1, 1) := by decide +kernel
theorem dX3_addedCost_31 : decode cX3_addedCost 31 = .ok (.aaload, 1) := by decide +kernel
theorem dX3_addedCost_32 : decode cX3_addedCost 32 = .ok (.iload_n 3, 1) := by decide +kernel
theorem dX3_addedCost_33 : decode cX3_addedCost 33 = .ok (.iaload, 1) := by decide +kernel
theorem dX3_addedCost_34 : decode cX3_addedCost 34 = .ok (.aload_n 0, 1) := by decide +kernel
theorem dX3_addedCost_35 : decode cX3_addedCost 35 = .ok (.getfield 23, 3) := by decide +kernel
theorem dX3_addedCost_38 : decode cX3_addedCost 38 = .ok (.iload_n 3, 1) := by decide +kernel
theorem dX3_addedCost_39 : decode cX3_addedCost 39 = .ok (.aaload, 1) := by decide +kernel
theorem dX3_addedCost_40 : decode cX3_addedCost 40 = .ok (.iload_n 1, 1) := by decide +kernel
theorem dX3_addedCost_41 : decode cX3_addedCost 41 = .ok (.iaload, 1) := by decide +kernel
theorem dX3_addedCost_42 : decode cX3_addedCost 42 = .ok (.iadd, 1) := by decide +kernel
theorem dX3_addedCost_43 : decode cX3_addedCost 43 = .ok (.istore 4, 2) := by decide +kernel
theorem dX3_addedCost_45 : decode cX3_addedCost 45 = .ok (.iload 4, 2) := by decide +kernel
theorem dX3_addedCost_47 : decode cX3_addedCost 47 = .ok (.ifCond .le 25, 3) := by decide +kernel
theorem dX3_addedCost_50 : decode cX3_addedCost 50 = .ok (.iload_n 2, 1) := by decide +kernel
theorem dX3_addedCost_51 : decode cX3_addedCost 51 = .ok (.iload 4, 2) := by decide +kernel
theorem dX3_addedCost_53 : decode cX3_addedCost 53 = .ok (.aload_n 0, 1) := by decide +kernel
theorem dX3_addedCost_54 : decode cX3_addedCost 54 = .ok (.aload_n 0, 1) := by decide +kernel
theorem dX3_addedCost_55 : decode cX3_addedCost 55 = .ok (.getfield 30, 3) := by decide +kernel
theorem dX3_addedCost_58 : decode cX3_addedCost 58 = .ok (.iload_n 1, 1) := by decide +kernel
theorem dX3_addedCost_59 : decode cX3_addedCost 59 = .ok (.iaload, 1) := by decide +kernel
theorem dX3_addedCost_60 : decode cX3_addedCost 60 = .ok (.aload_n 0, 1) := by decide +kernel
theorem dX3_addedCost_61 : decode cX3_addedCost 61 = .ok (.getfield 30, 3) := by decide +kernel
theorem dX3_addedCost_64 : decode cX3_addedCost 64 = .ok (.iload_n 3, 1) := by decide +kernel
theorem dX3_addedCost_65 : decode cX3_addedCost 65 = .ok (.iaload, 1) := by decide +kernel
theorem dX3_addedCost_66 : decode cX3_addedCost 66 = .ok (.invokevirtual 49, 3) := by decide +kernel
theorem dX3_addedCost_69 : decode cX3_addedCost 69 = .ok (.imul, 1) := by decide +kernel
theorem dX3_addedCost_70 : decode cX3_addedCost 70 = .ok (.iadd, 1) := by decide +kernel
theorem dX3_addedCost_71 : decode cX3_addedCost 71 = .ok (.istore_n 2, 1) := by decide +kernel
theorem dX3_addedCost_72 : decode cX3_addedCost 72 = .ok (.iinc 3 1, 3) := by decide +kernel
theorem dX3_addedCost_75 : decode cX3_addedCost 75 = .ok (.goto (-54), 3) := by decide +kernel
theorem dX3_addedCost_78 : decode cX3_addedCost 78 = .ok (.iload_n 2, 1) := by decide +kernel
theorem dX3_addedCost_79 : decode cX3_addedCost 79 = .ok (.ireturn, 1) := by decide +kernel
theorem dX3_farness_0 : decode cX3_farness 0 = .ok (.iload_n 1, 1) := by decide +kernel
theorem dX3_farness_1 : decode cX3_farness 1 = .ok (.iload_n 2, 1) := by decide +kernel
theorem dX3_farness_2 : decode cX3_farness 2 = .ok (.isub, 1) := by decide +kernel
theorem dX3_farness_3 : decode cX3_farness 3 = .ok (.invokestatic 52, 3) := by decide +kernel
theorem dX3_farness_6 : decode cX3_farness 6 = .ok (.aload_n 0, 1) := by decide +kernel
theorem dX3_farness_7 : decode cX3_farness 7 = .ok (.getfield 15, 3) := by decide +kernel
theorem dX3_farness_10 : decode cX3_farness 10 = .ok (.iload_n 1, 1) := by decide +kernel
theorem dX3_farness_11 : decode cX3_farness 11 = .ok (.iaload, 1) := by decide +kernel
theorem dX3_farness_12 : decode cX3_farness 12 = .ok (.aload_n 0, 1) := by decide +kernel
theorem dX3_farness_13 : decode cX3_farness 13 = .ok (.getfield 15, 3) := by decide +kernel
theorem dX3_farness_16 : decode cX3_farness 16 = .ok (.iload_n 2, 1) := by decide +kernel
theorem dX3_farness_17 : decode cX3_farness 17 = .ok (.iaload, 1) := by decide +kernel
theorem dX3_farness_18 : decode cX3_farness 18 = .ok (.if_icmp .ne 10, 3) := by decide +kernel
theorem dX3_farness_21 : decode cX3_farness 21 = .ok (.aload_n 0, 1) := by decide +kernel
theorem dX3_farness_22 : decode cX3_farness 22 = .ok (.getfield 26, 3) := by decide +kernel
theorem dX3_farness_25 : decode cX3_farness 25 = .ok (.goto 4, 3) := by decide +kernel
theorem dX3_farness_28 : decode cX3_farness 28 = .ok (.iconst 0, 1) := by decide +kernel
theorem dX3_farness_29 : decode cX3_farness 29 = .ok (.iadd, 1) := by decide +kernel
theorem dX3_farness_30 : decode cX3_farness 30 = .ok (.ireturn, 1) := by decide +kernel
theorem dX3_exchange_0 : decode cX3_exchange 0 = .ok (.aload_n 0, 1) := by decide +kernel
theorem dX3_exchange_1 : decode cX3_exchange 1 = .ok (.getfield 30, 3) := by decide +kernel
theorem dX3_exchange_4 : decode cX3_exchange 4 = .ok (.iload_n 1, 1) := by decide +kernel
theorem dX3_exchange_5 : decode cX3_exchange 5 = .ok (.iaload, 1) := by decide +kernel
theorem dX3_exchange_6 : decode cX3_exchange 6 = .ok (.istore_n 3, 1) := by decide +kernel
theorem dX3_exchange_7 : decode cX3_exchange 7 = .ok (.aload_n 0, 1) := by decide +kernel
theorem dX3_exchange_8 : decode cX3_exchange 8 = .ok (.getfield 30, 3) := by decide +kernel
theorem dX3_exchange_11 : decode cX3_exchange 11 = .ok (.iload_n 1, 1) := by decide +kernel
theorem dX3_exchange_12 : decode cX3_exchange 12 = .ok (.aload_n 0, 1) := by decide +kernel
theorem dX3_exchange_13 : decode cX3_exchange 13 = .ok (.getfield 30, 3) := by decide +kernel
theorem dX3_exchange_16 : decode cX3_exchange 16 = .ok (.iload_n 2, 1) := by decide +kernel
theorem dX3_exchange_17 : decode cX3_exchange 17 = .ok (.iaload, 1) := by decide +kernel
theorem dX3_exchange_18 : decode cX3_exchange 18 = .ok (.iastore, 1) := by decide +kernel
theorem dX3_exchange_19 : decode cX3_exchange 19 = .ok (.aload_n 0, 1) := by decide +kernel
theorem dX3_exchange_20 : decode cX3_exchange 20 = .ok (.getfield 30, 3) := by decide +kernel
theorem dX3_exchange_23 : decode cX3_exchange 23 = .ok (.iload_n 2, 1) := by decide +kernel
theorem dX3_exchange_24 : decode cX3_exchange 24 = .ok (.iload_n 3, 1) := by decide +kernel
theorem dX3_exchange_25 : decode cX3_exchange 25 = .ok (.iastore, 1) := by decide +kernel
theorem dX3_exchange_26 : decode cX3_exchange 26 = .ok (.return_, 1) := by decide +kernel
theorem dX3_leastCostly_0 : decode cX3_leastCostly 0 = .ok (.aload_n 0, 1) := by decide +kernel
theorem dX3_leastCostly_1 : decode cX3_leastCostly 1 = .ok (.ldc 55, 2) := by decide +kernel
theorem dX3_leastCostly_3 : decode cX3_leastCostly 3 = .ok (.putfield 56, 3) := by decide +kernel
theorem dX3_leastCostly_6 : decode cX3_leastCostly 6 = .ok (.aload_n 0, 1) := by decide +kernel
theorem dX3_leastCostly_7 : decode cX3_leastCostly 7 = .ok (.iconst 0, 1) := by decide +kernel
theorem dX3_leastCostly_8 : decode cX3_leastCostly 8 = .ok (.putfield 59, 3) := by decide +kernel
theorem dX3_leastCostly_11 : decode cX3_leastCostly 11 = .ok (.aload_n 0, 1) := by decide +kernel
theorem dX3_leastCostly_12 : decode cX3_leastCostly 12 = .ok (.iconst 0, 1) := by decide +kernel
theorem dX3_leastCostly_13 : decode cX3_leastCostly 13 = .ok (.iconst 0, 1) := by decide +kernel
theorem dX3_leastCostly_14 : decode cX3_leastCostly 14 = .ok (.iconst 0, 1) := by decide +kernel
theorem dX3_leastCostly_15 : decode cX3_leastCostly 15 = .ok (.invokestatic 62, 3) := by decide +kernel
theorem dX3_leastCostly_18 : decode cX3_leastCostly 18 = .ok (.aload_n 0, 1) := by decide +kernel
theorem dX3_leastCostly_19 : decode cX3_leastCostly 19 = .ok (.getfield 59, 3) := by decide +kernel
theorem dX3_leastCostly_22 : decode cX3_leastCostly 22 = .ok (.ireturn, 1) := by decide +kernel
theorem dX3_placeOnward_0 : decode cX3_placeOnward 0 = .ok (.iload_n 3, 1) := by decide +kernel
theorem dX3_placeOnward_1 : decode cX3_placeOnward 1 = .ok (.aload_n 0, 1) := by decide +kernel
theorem dX3_placeOnward_2 : decode cX3_placeOnward 2 = .ok (.getfield 56, 3) := by decide +kernel
theorem dX3_placeOnward_5 : decode cX3_placeOnward 5 = .ok (.if_icmp .lt 4, 3) := by decide +kernel
theorem dX3_placeOnward_8 : decode cX3_placeOnward 8 = .ok (.return_, 1) := by decide +kernel
theorem dX3_placeOnward_9 : decode cX3_placeOnward 9 = .ok (.iload_n 1, 1) := by decide +kernel
theorem dX3_placeOnward_10 : decode cX3_placeOnward 10 = .ok (.aload_n 0, 1) := by decide +kernel
theorem dX3_placeOnward_11 : decode cX3_placeOnward 11 = .ok (.getfield 37, 3) := by decide +kernel
theorem dX3_placeOnward_14 : decode cX3_placeOnward 14 = .ok (.if_icmp .lt 17, 3) := by decide +kernel
theorem dX3_placeOnward_17 : decode cX3_placeOnward 17 = .ok (.aload_n 0, 1) := by decide +kernel
theorem dX3_placeOnward_18 : decode cX3_placeOnward 18 = .ok (.iload_n 3, 1) := by decide +kernel
theorem dX3_placeOnward_19 : decode cX3_placeOnward 19 = .ok (.putfield 56, 3) := by decide +kernel
theorem dX3_placeOnward_22 : decode cX3_placeOnward 22 = .ok (.aload_n 0, 1) := by decide +kernel
theorem dX3_placeOnward_23 : decode cX3_placeOnward 23 = .ok (.aload_n 0, 1) := by decide +kernel
theorem dX3_placeOnward_24 : decode cX3_placeOnward 24 = .ok (.invokevirtual 66, 3) := by decide +kernel
theorem dX3_placeOnward_27 : decode cX3_placeOnward 27 = .ok (.putfield 59, 3) := by decide +kernel
theorem dX3_placeOnward_30 : decode cX3_placeOnward 30 = .ok (.return_, 1) := by decide +kernel
theorem dX3_placeOnward_31 : decode cX3_placeOnward 31 = .ok (.iconst 0, 1) := by decide +kernel
theorem dX3_placeOnward_32 : decode cX3_placeOnward 32 = .ok (.istore 4, 2) := by decide +kernel
theorem dX3_placeOnward_34 : decode cX3_placeOnward 34 = .ok (.iload 4, 2) := by decide +kernel
theorem dX3_placeOnward_36 : decode cX3_placeOnward 36 = .ok (.aload_n 0, 1) := by decide +kernel
theorem dX3_placeOnward_37 : decode cX3_placeOnward 37 = .ok (.getfield 37, 3) := by decide +kernel
theorem dX3_placeOnward_40 : decode cX3_placeOnward 40 = .ok (.if_icmp .ge 46, 3) := by decide +kernel
theorem dX3_placeOnward_43 : decode cX3_placeOnward 43 = .ok (.iload_n 2, 1) := by decide +kernel
theorem dX3_placeOnward_44 : decode cX3_placeOnward 44 = .ok (.iload 4, 2) := by decide +kernel
theorem dX3_placeOnward_46 : decode cX3_placeOnward 46 = .ok (.invokestatic 70, 3) := by decide +kernel
theorem dX3_placeOnward_49 : decode cX3_placeOnward 49 = .ok (.ifCond .ne 31, 3) := by decide +kernel
theorem dX3_placeOnward_52 : decode cX3_placeOnward 52 = .ok (.aload_n 0, 1) := by decide +kernel
theorem dX3_placeOnward_53 : decode cX3_placeOnward 53 = .ok (.getfield 30, 3) := by decide +kernel
theorem dX3_placeOnward_56 : decode cX3_placeOnward 56 = .ok (.iload_n 1, 1) := by decide +kernel
theorem dX3_placeOnward_57 : decode cX3_placeOnward 57 = .ok (.iload 4, 2) := by decide +kernel
theorem dX3_placeOnward_59 : decode cX3_placeOnward 59 = .ok (.iastore, 1) := by decide +kernel
theorem dX3_placeOnward_60 : decode cX3_placeOnward 60 = .ok (.aload_n 0, 1) := by decide +kernel
theorem dX3_placeOnward_61 : decode cX3_placeOnward 61 = .ok (.iload_n 1, 1) := by decide +kernel
theorem dX3_placeOnward_62 : decode cX3_placeOnward 62 = .ok (.iconst 1, 1) := by decide +kernel
theorem dX3_placeOnward_63 : decode cX3_placeOnward 63 = .ok (.iadd, 1) := by decide +kernel
theorem dX3_placeOnward_64 : decode cX3_placeOnward 64 = .ok (.iload_n 2, 1) := by decide +kernel
theorem dX3_placeOnward_65 : decode cX3_placeOnward 65 = .ok (.iconst 1, 1) := by decide +kernel
theorem dX3_placeOnward_66 : decode cX3_placeOnward 66 = .ok (.iload 4, 2) := by decide +kernel
theorem dX3_placeOnward_68 : decode cX3_placeOnward 68 = .ok (.ishl, 1) := by decide +kernel
theorem dX3_placeOnward_69 : decode cX3_placeOnward 69 = .ok (.ior, 1) := by decide +kernel
theorem dX3_placeOnward_70 : decode cX3_placeOnward 70 = .ok (.iload_n 3, 1) := by decide +kernel
theorem dX3_placeOnward_71 : decode cX3_placeOnward 71 = .ok (.aload_n 0, 1) := by decide +kernel
theorem dX3_placeOnward_72 : decode cX3_placeOnward 72 = .ok (.iload_n 1, 1) := by decide +kernel
theorem dX3_placeOnward_73 : decode cX3_placeOnward 73 = .ok (.invokevirtual 46, 3) := by decide +kernel
theorem dX3_placeOnward_76 : decode cX3_placeOnward 76 = .ok (.iadd, 1) := by decide +kernel
theorem dX3_placeOnward_77 : decode cX3_placeOnward 77 = .ok (.invokestatic 62, 3) := by decide +kernel
theorem dX3_placeOnward_80 : decode cX3_placeOnward 80 = .ok (.iinc 4 1, 3) := by decide +kernel
theorem dX3_placeOnward_83 : decode cX3_placeOnward 83 = .ok (.goto (-49), 3) := by decide +kernel
theorem dX3_placeOnward_86 : decode cX3_placeOnward 86 = .ok (.return_, 1) := by decide +kernel
theorem dX3_lowerBound_0 : decode cX3_lowerBound 0 = .ok (.iconst 0, 1) := by decide +kernel
theorem dX3_lowerBound_1 : decode cX3_lowerBound 1 = .ok (.istore_n 1, 1) := by decide +kernel
theorem dX3_lowerBound_2 : decode cX3_lowerBound 2 = .ok (.iconst 0, 1) := by decide +kernel
theorem dX3_lowerBound_3 : decode cX3_lowerBound 3 = .ok (.istore_n 2, 1) := by decide +kernel
theorem dX3_lowerBound_4 : decode cX3_lowerBound 4 = .ok (.iload_n 2, 1) := by decide +kernel
theorem dX3_lowerBound_5 : decode cX3_lowerBound 5 = .ok (.aload_n 0, 1) := by decide +kernel
theorem dX3_lowerBound_6 : decode cX3_lowerBound 6 = .ok (.getfield 37, 3) := by decide +kernel
theorem dX3_lowerBound_9 : decode cX3_lowerBound 9 = .ok (.if_icmp .ge 74, 3) := by decide +kernel
theorem dX3_lowerBound_12 : decode cX3_lowerBound 12 = .ok (.iload_n 1, 1) := by decide +kernel
theorem dX3_lowerBound_13 : decode cX3_lowerBound 13 = .ok (.aload_n 0, 1) := by decide +kernel
theorem dX3_lowerBound_14 : decode cX3_lowerBound 14 = .ok (.aload_n 0, 1) := by decide +kernel
theorem dX3_lowerBound_15 : decode cX3_lowerBound 15 = .ok (.getfield 18, 3) := by decide +kernel
theorem dX3_lowerBound_18 : decode cX3_lowerBound 18 = .ok (.aload_n 0, 1) := by decide +kernel
theorem dX3_lowerBound_19 : decode cX3_lowerBound 19 = .ok (.getfield 37, 3) := by decide +kernel
theorem dX3_lowerBound_22 : decode cX3_lowerBound 22 = .ok (.iconst 1, 1) := by decide +kernel
theorem dX3_lowerBound_23 : decode cX3_lowerBound 23 = .ok (.isub, 1) := by decide +kernel
theorem dX3_lowerBound_24 : decode cX3_lowerBound 24 = .ok (.iload_n 2, 1) := by decide +kernel
theorem dX3_lowerBound_25 : decode cX3_lowerBound 25 = .ok (.isub, 1) := by decide +kernel
theorem dX3_lowerBound_26 : decode cX3_lowerBound 26 = .ok (.invokevirtual 74, 3) := by decide +kernel
theorem dX3_lowerBound_29 : decode cX3_lowerBound 29 = .ok (.aload_n 0, 1) := by decide +kernel
theorem dX3_lowerBound_30 : decode cX3_lowerBound 30 = .ok (.aload_n 0, 1) := by decide +kernel
theorem dX3_lowerBound_31 : decode cX3_lowerBound 31 = .ok (.getfield 9, 3) := by decide +kernel
theorem dX3_lowerBound_34 : decode cX3_lowerBound 34 = .ok (.iload_n 2, 1) := by decide +kernel
theorem dX3_lowerBound_35 : decode cX3_lowerBound 35 = .ok (.invokevirtual 74, 3) := by decide +kernel
theorem dX3_lowerBound_38 : decode cX3_lowerBound 38 = .ok (.imul, 1) := by decide +kernel
theorem dX3_lowerBound_39 : decode cX3_lowerBound 39 = .ok (.iadd, 1) := by decide +kernel
theorem dX3_lowerBound_40 : decode cX3_lowerBound 40 = .ok (.istore_n 1, 1) := by decide +kernel
theorem dX3_lowerBound_41 : decode cX3_lowerBound 41 = .ok (.iconst 0, 1) := by decide +kernel
theorem dX3_lowerBound_42 : decode cX3_lowerBound 42 = .ok (.istore_n 3, 1) := by decide +kernel
theorem dX3_lowerBound_43 : decode cX3_lowerBound 43 = .ok (.iload_n 3, 1) := by decide +kernel
theorem dX3_lowerBound_44 : decode cX3_lowerBound 44 = .ok (.aload_n 0, 1) := by decide +kernel
theorem dX3_lowerBound_45 : decode cX3_lowerBound 45 = .ok (.getfield 37, 3) := by decide +kernel
theorem dX3_lowerBound_48 : decode cX3_lowerBound 48 = .ok (.if_icmp .ge 29, 3) := by decide +kernel
theorem dX3_lowerBound_51 : decode cX3_lowerBound 51 = .ok (.iload_n 1, 1) := by decide +kernel
theorem dX3_lowerBound_52 : decode cX3_lowerBound 52 = .ok (.iload_n 2, 1) := by decide +kernel
theorem dX3_lowerBound_53 : decode cX3_lowerBound 53 = .ok (.iload_n 3, 1) := by decide +kernel
theorem dX3_lowerBound_54 : decode cX3_lowerBound 54 = .ok (.if_icmp .ne 7, 3) := by decide +kernel
theorem dX3_lowerBound_57 : decode cX3_lowerBound 57 = .ok (.iconst 0, 1) := by decide +kernel
theorem dX3_lowerBound_58 : decode cX3_lowerBound 58 = .ok (.goto 11, 3) := by decide +kernel
theorem dX3_lowerBound_61 : decode cX3_lowerBound 61 = .ok (.aload_n 0, 1) := by decide +kernel
theorem dX3_lowerBound_62 : decode cX3_lowerBound 62 = .ok (.getfield 23, 3) := by decide +kernel
theorem dX3_lowerBound_65 : decode cX3_lowerBound 65 = .ok (.iload_n 2, 1) := by decide +kernel
theorem dX3_lowerBound_66 : decode cX3_lowerBound 66 = .ok (.aaload, 1) := by decide +kernel
theorem dX3_lowerBound_67 : decode cX3_lowerBound 67 = .ok (.iload_n 3, 1) := by decide +kernel
theorem dX3_lowerBound_68 : decode cX3_lowerBound 68 = .ok (.iaload, 1) := by decide +kernel
theorem dX3_lowerBound_69 : decode cX3_lowerBound 69 = .ok (.iadd, 1) := by decide +kernel
theorem dX3_lowerBound_70 : decode cX3_lowerBound 70 = .ok (.istore_n 1, 1) := by decide +kernel
theorem dX3_lowerBound_71 : decode cX3_lowerBound 71 = .ok (.iinc 3 1, 3) := by decide +kernel
theorem dX3_lowerBound_74 : decode cX3_lowerBound 74 = .ok (.goto (-31), 3) := by decide +kernel
theorem dX3_lowerBound_77 : decode cX3_lowerBound 77 = .ok (.iinc 2 1, 3) := by decide +kernel
theorem dX3_lowerBound_80 : decode cX3_lowerBound 80 = .ok (.goto (-76), 3) := by decide +kernel
theorem dX3_lowerBound_83 : decode cX3_lowerBound 83 = .ok (.iload_n 1, 1) := by decide +kernel
theorem dX3_lowerBound_84 : decode cX3_lowerBound 84 = .ok (.ireturn, 1) := by decide +kernel
theorem dX3_ranked_0 : decode cX3_ranked 0 = .ok (.iconst 0, 1) := by decide +kernel
theorem dX3_ranked_1 : decode cX3_ranked 1 = .ok (.istore_n 3, 1) := by decide +kernel
theorem dX3_ranked_2 : decode cX3_ranked 2 = .ok (.iload_n 3, 1) := by decide +kernel
theorem dX3_ranked_3 : decode cX3_ranked 3 = .ok (.aload_n 0, 1) := by decide +kernel
theorem dX3_ranked_4 : decode cX3_ranked 4 = .ok (.getfield 37, 3) := by decide +kernel
theorem dX3_ranked_7 : decode cX3_ranked 7 = .ok (.if_icmp .ge 76, 3) := by decide +kernel
theorem dX3_ranked_10 : decode cX3_ranked 10 = .ok (.iconst 0, 1) := by decide +kernel
theorem dX3_ranked_11 : decode cX3_ranked 11 = .ok (.istore 4, 2) := by decide +kernel
theorem dX3_ranked_13 : decode cX3_ranked 13 = .ok (.iconst 0, 1) := by decide +kernel
theorem dX3_ranked_14 : decode cX3_ranked 14 = .ok (.istore 5, 2) := by decide +kernel
theorem dX3_ranked_16 : decode cX3_ranked 16 = .ok (.iload 5, 2) := by decide +kernel
theorem dX3_ranked_18 : decode cX3_ranked 18 = .ok (.aload_n 0, 1) := by decide +kernel
theorem dX3_ranked_19 : decode cX3_ranked 19 = .ok (.getfield 37, 3) := by decide +kernel
theorem dX3_ranked_22 : decode cX3_ranked 22 = .ok (.if_icmp .ge 45, 3) := by decide +kernel
theorem dX3_ranked_25 : decode cX3_ranked 25 = .ok (.iload 4, 2) := by decide +kernel
theorem dX3_ranked_27 : decode cX3_ranked 27 = .ok (.aload_n 1, 1) := by decide +kernel
theorem dX3_ranked_28 : decode cX3_ranked 28 = .ok (.iload 5, 2) := by decide +kernel
theorem dX3_ranked_30 : decode cX3_ranked 30 = .ok (.iaload, 1) := by decide +kernel
theorem dX3_ranked_31 : decode cX3_ranked 31 = .ok (.aload_n 1, 1) := by decide +kernel
theorem dX3_ranked_32 : decode cX3_ranked 32 = .ok (.iload_n 3, 1) := by decide +kernel
theorem dX3_ranked_33 : decode cX3_ranked 33 = .ok (.iaload, 1) := by decide +kernel
theorem dX3_ranked_34 : decode cX3_ranked 34 = .ok (.if_icmp .lt 19, 3) := by decide +kernel
theorem dX3_ranked_37 : decode cX3_ranked 37 = .ok (.aload_n 1, 1) := by decide +kernel
theorem dX3_ranked_38 : decode cX3_ranked 38 = .ok (.iload 5, 2) := by decide +kernel
theorem dX3_ranked_40 : decode cX3_ranked 40 = .ok (.iaload, 1) := by decide +kernel
theorem dX3_ranked_41 : decode cX3_ranked 41 = .ok (.aload_n 1, 1) := by decide +kernel
theorem dX3_ranked_42 : decode cX3_ranked 42 = .ok (.iload_n 3, 1) := by decide +kernel
theorem dX3_ranked_43 : decode cX3_ranked 43 = .ok (.iaload, 1) := by decide +kernel
theorem dX3_ranked_44 : decode cX3_ranked 44 = .ok (.if_icmp .ne 13, 3) := by decide +kernel
theorem dX3_ranked_47 : decode cX3_ranked 47 = .ok (.iload 5, 2) := by decide +kernel
theorem dX3_ranked_49 : decode cX3_ranked 49 = .ok (.iload_n 3, 1) := by decide +kernel
theorem dX3_ranked_50 : decode cX3_ranked 50 = .ok (.if_icmp .ge 7, 3) := by decide +kernel
theorem dX3_ranked_53 : decode cX3_ranked 53 = .ok (.iconst 1, 1) := by decide +kernel
theorem dX3_ranked_54 : decode cX3_ranked 54 = .ok (.goto 4, 3) := by decide +kernel
theorem dX3_ranked_57 : decode cX3_ranked 57 = .ok (.iconst 0, 1) := by decide +kernel
theorem dX3_ranked_58 : decode cX3_ranked 58 = .ok (.iadd, 1) := by decide +kernel
theorem dX3_ranked_59 : decode cX3_ranked 59 = .ok (.istore 4, 2) := by decide +kernel
theorem dX3_ranked_61 : decode cX3_ranked 61 = .ok (.iinc 5 1, 3) := by decide +kernel
theorem dX3_ranked_64 : decode cX3_ranked 64 = .ok (.goto (-48), 3) := by decide +kernel
theorem dX3_ranked_67 : decode cX3_ranked 67 = .ok (.iload 4, 2) := by decide +kernel
theorem dX3_ranked_69 : decode cX3_ranked 69 = .ok (.iload_n 2, 1) := by decide +kernel
theorem dX3_ranked_70 : decode cX3_ranked 70 = .ok (.if_icmp .ne 7, 3) := by decide +kernel
theorem dX3_ranked_73 : decode cX3_ranked 73 = .ok (.aload_n 1, 1) := by decide +kernel
theorem dX3_ranked_74 : decode cX3_ranked 74 = .ok (.iload_n 3, 1) := by decide +kernel
theorem dX3_ranked_75 : decode cX3_ranked 75 = .ok (.iaload, 1) := by decide +kernel
theorem dX3_ranked_76 : decode cX3_ranked 76 = .ok (.ireturn, 1) := by decide +kernel
theorem dX3_ranked_77 : decode cX3_ranked 77 = .ok (.iinc 3 1, 3) := by decide +kernel
theorem dX3_ranked_80 : decode cX3_ranked 80 = .ok (.goto (-78), 3) := by decide +kernel
theorem dX3_ranked_83 : decode cX3_ranked 83 = .ok (.iconst 0, 1) := by decide +kernel
theorem dX3_ranked_84 : decode cX3_ranked 84 = .ok (.ireturn, 1) := by decide +kernel
theorem dX3_improve_0 : decode cX3_improve 0 = .ok (.iconst 0, 1) := by decide +kernel
theorem dX3_improve_1 : decode cX3_improve 1 = .ok (.istore_n 1, 1) := by decide +kernel
theorem dX3_improve_2 : decode cX3_improve 2 = .ok (.iload_n 1, 1) := by decide +kernel
theorem dX3_improve_3 : decode cX3_improve 3 = .ok (.sipush 5040, 3) := by decide +kernel
theorem dX3_improve_6 : decode cX3_improve 6 = .ok (.if_icmp .ge 16, 3) := by decide +kernel
theorem dX3_improve_9 : decode cX3_improve 9 = .ok (.aload_n 0, 1) := by decide +kernel
theorem dX3_improve_10 : decode cX3_improve 10 = .ok (.invokevirtual 78, 3) := by decide +kernel
theorem dX3_improve_13 : decode cX3_improve 13 = .ok (.ifCond .eq 9, 3) := by decide +kernel
theorem dX3_improve_16 : decode cX3_improve 16 = .ok (.iinc 1 1, 3) := by decide +kernel
theorem dX3_improve_19 : decode cX3_improve 19 = .ok (.goto (-17), 3) := by decide +kernel
theorem dX3_improve_22 : decode cX3_improve 22 = .ok (.iload_n 1, 1) := by decide +kernel
theorem dX3_improve_23 : decode cX3_improve 23 = .ok (.ireturn, 1) := by decide +kernel
theorem dX3_improveOnce_0 : decode cX3_improveOnce 0 = .ok (.aload_n 0, 1) := by decide +kernel
theorem dX3_improveOnce_1 : decode cX3_improveOnce 1 = .ok (.invokevirtual 82, 3) := by decide +kernel
theorem dX3_improveOnce_4 : decode cX3_improveOnce 4 = .ok (.istore_n 1, 1) := by decide +kernel
theorem dX3_improveOnce_5 : decode cX3_improveOnce 5 = .ok (.iconst (-1), 1) := by decide +kernel
theorem dX3_improveOnce_6 : decode cX3_improveOnce 6 = .ok (.istore_n 2, 1) := by decide +kernel
theorem dX3_improveOnce_7 : decode cX3_improveOnce 7 = .ok (.iconst (-1), 1) := by decide +kernel
theorem dX3_improveOnce_8 : decode cX3_improveOnce 8 = .ok (.istore_n 3, 1) := by decide +kernel
theorem dX3_improveOnce_9 : decode cX3_improveOnce 9 = .ok (.iconst 0, 1) := by decide +kernel
theorem dX3_improveOnce_10 : decode cX3_improveOnce 10 = .ok (.istore 4, 2) := by decide +kernel
theorem dX3_improveOnce_12 : decode cX3_improveOnce 12 = .ok (.iload 4, 2) := by decide +kernel
theorem dX3_improveOnce_14 : decode cX3_improveOnce 14 = .ok (.aload_n 0, 1) := by decide +kernel
theorem dX3_improveOnce_15 : decode cX3_improveOnce 15 = .ok (.getfield 37, 3) := by decide +kernel
theorem dX3_improveOnce_18 : decode cX3_improveOnce 18 = .ok (.if_icmp .ge 67, 3) := by decide +kernel
theorem dX3_improveOnce_21 : decode cX3_improveOnce 21 = .ok (.iload 4, 2) := by decide +kernel
theorem dX3_improveOnce_23 : decode cX3_improveOnce 23 = .ok (.iconst 1, 1) := by decide +kernel
theorem dX3_improveOnce_24 : decode cX3_improveOnce 24 = .ok (.iadd, 1) := by decide +kernel
theorem dX3_improveOnce_25 : decode cX3_improveOnce 25 = .ok (.istore 5, 2) := by decide +kernel
theorem dX3_improveOnce_27 : decode cX3_improveOnce 27 = .ok (.iload 5, 2) := by decide +kernel
theorem dX3_improveOnce_29 : decode cX3_improveOnce 29 = .ok (.aload_n 0, 1) := by decide +kernel
theorem dX3_improveOnce_30 : decode cX3_improveOnce 30 = .ok (.getfield 37, 3) := by decide +kernel
theorem dX3_improveOnce_33 : decode cX3_improveOnce 33 = .ok (.if_icmp .ge 46, 3) := by decide +kernel
theorem dX3_improveOnce_36 : decode cX3_improveOnce 36 = .ok (.aload_n 0, 1) := by decide +kernel
theorem dX3_improveOnce_37 : decode cX3_improveOnce 37 = .ok (.iload 4, 2) := by decide +kernel
theorem dX3_improveOnce_39 : decode cX3_improveOnce 39 = .ok (.iload 5, 2) := by decide +kernel
theorem dX3_improveOnce_41 : decode cX3_improveOnce 41 = .ok (.invokevirtual 85, 3) := by decide +kernel
theorem dX3_improveOnce_44 : decode cX3_improveOnce 44 = .ok (.aload_n 0, 1) := by decide +kernel
theorem dX3_improveOnce_45 : decode cX3_improveOnce 45 = .ok (.invokevirtual 82, 3) := by decide +kernel
theorem dX3_improveOnce_48 : decode cX3_improveOnce 48 = .ok (.istore 6, 2) := by decide +kernel
theorem dX3_improveOnce_50 : decode cX3_improveOnce 50 = .ok (.aload_n 0, 1) := by decide +kernel
theorem dX3_improveOnce_51 : decode cX3_improveOnce 51 = .ok (.iload 4, 2) := by decide +kernel
theorem dX3_improveOnce_53 : decode cX3_improveOnce 53 = .ok (.iload 5, 2) := by decide +kernel
theorem dX3_improveOnce_55 : decode cX3_improveOnce 55 = .ok (.invokevirtual 85, 3) := by decide +kernel
theorem dX3_improveOnce_58 : decode cX3_improveOnce 58 = .ok (.iload 6, 2) := by decide +kernel
theorem dX3_improveOnce_60 : decode cX3_improveOnce 60 = .ok (.iload_n 1, 1) := by decide +kernel
theorem dX3_improveOnce_61 : decode cX3_improveOnce 61 = .ok (.if_icmp .ge 12, 3) := by decide +kernel
theorem dX3_improveOnce_64 : decode cX3_improveOnce 64 = .ok (.iload 6, 2) := by decide +kernel
theorem dX3_improveOnce_66 : decode cX3_improveOnce 66 = .ok (.istore_n 1, 1) := by decide +kernel
theorem dX3_improveOnce_67 : decode cX3_improveOnce 67 = .ok (.iload 4, 2) := by decide +kernel
theorem dX3_improveOnce_69 : decode cX3_improveOnce 69 = .ok (.istore_n 2, 1) := by decide +kernel
theorem dX3_improveOnce_70 : decode cX3_improveOnce 70 = .ok (.iload 5, 2) := by decide +kernel
theorem dX3_improveOnce_72 : decode cX3_improveOnce 72 = .ok (.istore_n 3, 1) := by decide +kernel
theorem dX3_improveOnce_73 : decode cX3_improveOnce 73 = .ok (.iinc 5 1, 3) := by decide +kernel
theorem dX3_improveOnce_76 : decode cX3_improveOnce 76 = .ok (.goto (-49), 3) := by decide +kernel
theorem dX3_improveOnce_79 : decode cX3_improveOnce 79 = .ok (.iinc 4 1, 3) := by decide +kernel
theorem dX3_improveOnce_82 : decode cX3_improveOnce 82 = .ok (.goto (-70), 3) := by decide +kernel
theorem dX3_improveOnce_85 : decode cX3_improveOnce 85 = .ok (.iload_n 2, 1) := by decide +kernel
theorem dX3_improveOnce_86 : decode cX3_improveOnce 86 = .ok (.iconst (-1), 1) := by decide +kernel
theorem dX3_improveOnce_87 : decode cX3_improveOnce 87 = .ok (.if_icmp .ne 5, 3) := by decide +kernel
theorem dX3_improveOnce_90 : decode cX3_improveOnce 90 = .ok (.iconst 0, 1) := by decide +kernel
theorem dX3_improveOnce_91 : decode cX3_improveOnce 91 = .ok (.ireturn, 1) := by decide +kernel
theorem dX3_improveOnce_92 : decode cX3_improveOnce 92 = .ok (.aload_n 0, 1) := by decide +kernel
theorem dX3_improveOnce_93 : decode cX3_improveOnce 93 = .ok (.iload_n 2, 1) := by decide +kernel
theorem dX3_improveOnce_94 : decode cX3_improveOnce 94 = .ok (.iload_n 3, 1) := by decide +kernel
theorem dX3_improveOnce_95 : decode cX3_improveOnce 95 = .ok (.invokevirtual 85, 3) := by decide +kernel
theorem dX3_improveOnce_98 : decode cX3_improveOnce 98 = .ok (.iconst 1, 1) := by decide +kernel
theorem dX3_improveOnce_99 : decode cX3_improveOnce 99 = .ok (.ireturn, 1) := by decide +kernel
theorem dX3_startAtFirst_0 : decode cX3_startAtFirst 0 = .ok (.iconst 0, 1) := by decide +kernel
theorem dX3_startAtFirst_1 : decode cX3_startAtFirst 1 = .ok (.istore_n 1, 1) := by decide +kernel
theorem dX3_startAtFirst_2 : decode cX3_startAtFirst 2 = .ok (.iload_n 1, 1) := by decide +kernel
theorem dX3_startAtFirst_3 : decode cX3_startAtFirst 3 = .ok (.aload_n 0, 1) := by decide +kernel
theorem dX3_startAtFirst_4 : decode cX3_startAtFirst 4 = .ok (.getfield 37, 3) := by decide +kernel
theorem dX3_startAtFirst_7 : decode cX3_startAtFirst 7 = .ok (.if_icmp .ge 16, 3) := by decide +kernel
theorem dX3_startAtFirst_10 : decode cX3_startAtFirst 10 = .ok (.aload_n 0, 1) := by decide +kernel
theorem dX3_startAtFirst_11 : decode cX3_startAtFirst 11 = .ok (.getfield 30, 3) := by decide +kernel
theorem dX3_startAtFirst_14 : decode cX3_startAtFirst 14 = .ok (.iload_n 1, 1) := by decide +kernel
theorem dX3_startAtFirst_15 : decode cX3_startAtFirst 15 = .ok (.iload_n 1, 1) := by decide +kernel
theorem dX3_startAtFirst_16 : decode cX3_startAtFirst 16 = .ok (.iastore, 1) := by decide +kernel
theorem dX3_startAtFirst_17 : decode cX3_startAtFirst 17 = .ok (.iinc 1 1, 3) := by decide +kernel
theorem dX3_startAtFirst_20 : decode cX3_startAtFirst 20 = .ok (.goto (-18), 3) := by decide +kernel
theorem dX3_startAtFirst_23 : decode cX3_startAtFirst 23 = .ok (.return_, 1) := by decide +kernel
theorem dX3_stepOn_0 : decode cX3_stepOn 0 = .ok (.aload_n 0, 1) := by decide +kernel
theorem dX3_stepOn_1 : decode cX3_stepOn 1 = .ok (.getfield 37, 3) := by decide +kernel
theorem dX3_stepOn_4 : decode cX3_stepOn 4 = .ok (.iconst 2, 1) := by decide +kernel
theorem dX3_stepOn_5 : decode cX3_stepOn 5 = .ok (.isub, 1) := by decide +kernel
theorem dX3_stepOn_6 : decode cX3_stepOn 6 = .ok (.istore_n 1, 1) := by decide +kernel
theorem dX3_stepOn_7 : decode cX3_stepOn 7 = .ok (.iload_n 1, 1) := by decide +kernel
theorem dX3_stepOn_8 : decode cX3_stepOn 8 = .ok (.ifCond .lt 26, 3) := by decide +kernel
theorem dX3_stepOn_11 : decode cX3_stepOn 11 = .ok (.aload_n 0, 1) := by decide +kernel
theorem dX3_stepOn_12 : decode cX3_stepOn 12 = .ok (.getfield 30, 3) := by decide +kernel
theorem dX3_stepOn_15 : decode cX3_stepOn 15 = .ok (.iload_n 1, 1) := by decide +kernel
theorem dX3_stepOn_16 : decode cX3_stepOn 16 = .ok (.iaload, 1) := by decide +kernel
theorem dX3_stepOn_17 : decode cX3_stepOn 17 = .ok (.aload_n 0, 1) := by decide +kernel
theorem dX3_stepOn_18 : decode cX3_stepOn 18 = .ok (.getfield 30, 3) := by decide +kernel
theorem dX3_stepOn_21 : decode cX3_stepOn 21 = .ok (.iload_n 1, 1) := by decide +kernel
theorem dX3_stepOn_22 : decode cX3_stepOn 22 = .ok (.iconst 1, 1) := by decide +kernel
theorem dX3_stepOn_23 : decode cX3_stepOn 23 = .ok (.iadd, 1) := by decide +kernel
theorem dX3_stepOn_24 : decode cX3_stepOn 24 = .ok (.iaload, 1) := by decide +kernel
theorem dX3_stepOn_25 : decode cX3_stepOn 25 = .ok (.if_icmp .le 9, 3) := by decide +kernel
theorem dX3_stepOn_28 : decode cX3_stepOn 28 = .ok (.iinc 1 (-1), 3) := by decide +kernel
theorem dX3_stepOn_31 : decode cX3_stepOn 31 = .ok (.goto (-24), 3) := by decide +kernel
theorem dX3_stepOn_34 : decode cX3_stepOn 34 = .ok (.iload_n 1, 1) := by decide +kernel
theorem dX3_stepOn_35 : decode cX3_stepOn 35 = .ok (.ifCond .ge 5, 3) := by decide +kernel
theorem dX3_stepOn_38 : decode cX3_stepOn 38 = .ok (.iconst 0, 1) := by decide +kernel
theorem dX3_stepOn_39 : decode cX3_stepOn 39 = .ok (.ireturn, 1) := by decide +kernel
theorem dX3_stepOn_40 : decode cX3_stepOn 40 = .ok (.aload_n 0, 1) := by decide +kernel
theorem dX3_stepOn_41 : decode cX3_stepOn 41 = .ok (.getfield 37, 3) := by decide +kernel
theorem dX3_stepOn_44 : decode cX3_stepOn 44 = .ok (.iconst 1, 1) := by decide +kernel
theorem dX3_stepOn_45 : decode cX3_stepOn 45 = .ok (.isub, 1) := by decide +kernel
theorem dX3_stepOn_46 : decode cX3_stepOn 46 = .ok (.istore_n 2, 1) := by decide +kernel
theorem dX3_stepOn_47 : decode cX3_stepOn 47 = .ok (.iload_n 2, 1) := by decide +kernel
theorem dX3_stepOn_48 : decode cX3_stepOn 48 = .ok (.iload_n 1, 1) := by decide +kernel
theorem dX3_stepOn_49 : decode cX3_stepOn 49 = .ok (.if_icmp .le 24, 3) := by decide +kernel
theorem dX3_stepOn_52 : decode cX3_stepOn 52 = .ok (.aload_n 0, 1) := by decide +kernel
theorem dX3_stepOn_53 : decode cX3_stepOn 53 = .ok (.getfield 30, 3) := by decide +kernel
theorem dX3_stepOn_56 : decode cX3_stepOn 56 = .ok (.iload_n 2, 1) := by decide +kernel
theorem dX3_stepOn_57 : decode cX3_stepOn 57 = .ok (.iaload, 1) := by decide +kernel
theorem dX3_stepOn_58 : decode cX3_stepOn 58 = .ok (.aload_n 0, 1) := by decide +kernel
theorem dX3_stepOn_59 : decode cX3_stepOn 59 = .ok (.getfield 30, 3) := by decide +kernel
theorem dX3_stepOn_62 : decode cX3_stepOn 62 = .ok (.iload_n 1, 1) := by decide +kernel
theorem dX3_stepOn_63 : decode cX3_stepOn 63 = .ok (.iaload, 1) := by decide +kernel
theorem dX3_stepOn_64 : decode cX3_stepOn 64 = .ok (.if_icmp .ge 9, 3) := by decide +kernel
theorem dX3_stepOn_67 : decode cX3_stepOn 67 = .ok (.iinc 2 (-1), 3) := by decide +kernel
theorem dX3_stepOn_70 : decode cX3_stepOn 70 = .ok (.goto (-23), 3) := by decide +kernel
theorem dX3_stepOn_73 : decode cX3_stepOn 73 = .ok (.aload_n 0, 1) := by decide +kernel
theorem dX3_stepOn_74 : decode cX3_stepOn 74 = .ok (.iload_n 1, 1) := by decide +kernel
theorem dX3_stepOn_75 : decode cX3_stepOn 75 = .ok (.iload_n 2, 1) := by decide +kernel
theorem dX3_stepOn_76 : decode cX3_stepOn 76 = .ok (.invokevirtual 85, 3) := by decide +kernel
theorem dX3_stepOn_79 : decode cX3_stepOn 79 = .ok (.iload_n 1, 1) := by decide +kernel
theorem dX3_stepOn_80 : decode cX3_stepOn 80 = .ok (.iconst 1, 1) := by decide +kernel
theorem dX3_stepOn_81 : decode cX3_stepOn 81 = .ok (.iadd, 1) := by decide +kernel
theorem dX3_stepOn_82 : decode cX3_stepOn 82 = .ok (.istore_n 3, 1) := by decide +kernel
theorem dX3_stepOn_83 : decode cX3_stepOn 83 = .ok (.aload_n 0, 1) := by decide +kernel
theorem dX3_stepOn_84 : decode cX3_stepOn 84 = .ok (.getfield 37, 3) := by decide +kernel
theorem dX3_stepOn_87 : decode cX3_stepOn 87 = .ok (.iconst 1, 1) := by decide +kernel
theorem dX3_stepOn_88 : decode cX3_stepOn 88 = .ok (.isub, 1) := by decide +kernel
theorem dX3_stepOn_89 : decode cX3_stepOn 89 = .ok (.istore 4, 2) := by decide +kernel
theorem dX3_stepOn_91 : decode cX3_stepOn 91 = .ok (.iload_n 3, 1) := by decide +kernel
theorem dX3_stepOn_92 : decode cX3_stepOn 92 = .ok (.iload 4, 2) := by decide +kernel
theorem dX3_stepOn_94 : decode cX3_stepOn 94 = .ok (.if_icmp .ge 19, 3) := by decide +kernel
theorem dX3_stepOn_97 : decode cX3_stepOn 97 = .ok (.aload_n 0, 1) := by decide +kernel
theorem dX3_stepOn_98 : decode cX3_stepOn 98 = .ok (.iload_n 3, 1) := by decide +kernel
theorem dX3_stepOn_99 : decode cX3_stepOn 99 = .ok (.iload 4, 2) := by decide +kernel
theorem dX3_stepOn_101 : decode cX3_stepOn 101 = .ok (.invokevirtual 85, 3) := by decide +kernel
theorem dX3_stepOn_104 : decode cX3_stepOn 104 = .ok (.iinc 3 1, 3) := by decide +kernel
theorem dX3_stepOn_107 : decode cX3_stepOn 107 = .ok (.iinc 4 (-1), 3) := by decide +kernel
theorem dX3_stepOn_110 : decode cX3_stepOn 110 = .ok (.goto (-19), 3) := by decide +kernel
theorem dX3_stepOn_113 : decode cX3_stepOn 113 = .ok (.iconst 1, 1) := by decide +kernel
theorem dX3_stepOn_114 : decode cX3_stepOn 114 = .ok (.ireturn, 1) := by decide +kernel
theorem dX3_rank_0 : decode cX3_rank 0 = .ok (.iconst 0, 1) := by decide +kernel
theorem dX3_rank_1 : decode cX3_rank 1 = .ok (.istore_n 1, 1) := by decide +kernel
theorem dX3_rank_2 : decode cX3_rank 2 = .ok (.iconst 0, 1) := by decide +kernel
theorem dX3_rank_3 : decode cX3_rank 3 = .ok (.istore_n 2, 1) := by decide +kernel
theorem dX3_rank_4 : decode cX3_rank 4 = .ok (.iload_n 2, 1) := by decide +kernel
theorem dX3_rank_5 : decode cX3_rank 5 = .ok (.aload_n 0, 1) := by decide +kernel
theorem dX3_rank_6 : decode cX3_rank 6 = .ok (.getfield 37, 3) := by decide +kernel
theorem dX3_rank_9 : decode cX3_rank 9 = .ok (.if_icmp .ge 66, 3) := by decide +kernel
theorem dX3_rank_12 : decode cX3_rank 12 = .ok (.iconst 0, 1) := by decide +kernel
theorem dX3_rank_13 : decode cX3_rank 13 = .ok (.istore_n 3, 1) := by decide +kernel
theorem dX3_rank_14 : decode cX3_rank 14 = .ok (.iload_n 2, 1) := by decide +kernel
theorem dX3_rank_15 : decode cX3_rank 15 = .ok (.iconst 1, 1) := by decide +kernel
theorem dX3_rank_16 : decode cX3_rank 16 = .ok (.iadd, 1) := by decide +kernel
theorem dX3_rank_17 : decode cX3_rank 17 = .ok (.istore 4, 2) := by decide +kernel
theorem dX3_rank_19 : decode cX3_rank 19 = .ok (.iload 4, 2) := by decide +kernel
theorem dX3_rank_21 : decode cX3_rank 21 = .ok (.aload_n 0, 1) := by decide +kernel
theorem dX3_rank_22 : decode cX3_rank 22 = .ok (.getfield 37, 3) := by decide +kernel
theorem dX3_rank_25 : decode cX3_rank 25 = .ok (.if_icmp .ge 33, 3) := by decide +kernel
theorem dX3_rank_28 : decode cX3_rank 28 = .ok (.iload_n 3, 1) := by decide +kernel
theorem dX3_rank_29 : decode cX3_rank 29 = .ok (.aload_n 0, 1) := by decide +kernel
theorem dX3_rank_30 : decode cX3_rank 30 = .ok (.getfield 30, 3) := by decide +kernel
theorem dX3_rank_33 : decode cX3_rank 33 = .ok (.iload 4, 2) := by decide +kernel
theorem dX3_rank_35 : decode cX3_rank 35 = .ok (.iaload, 1) := by decide +kernel
theorem dX3_rank_36 : decode cX3_rank 36 = .ok (.aload_n 0, 1) := by decide +kernel
theorem dX3_rank_37 : decode cX3_rank 37 = .ok (.getfield 30, 3) := by decide +kernel
theorem dX3_rank_40 : decode cX3_rank 40 = .ok (.iload_n 2, 1) := by decide +kernel
theorem dX3_rank_41 : decode cX3_rank 41 = .ok (.iaload, 1) := by decide +kernel
theorem dX3_rank_42 : decode cX3_rank 42 = .ok (.if_icmp .ge 7, 3) := by decide +kernel
theorem dX3_rank_45 : decode cX3_rank 45 = .ok (.iconst 1, 1) := by decide +kernel
theorem dX3_rank_46 : decode cX3_rank 46 = .ok (.goto 4, 3) := by decide +kernel
theorem dX3_rank_49 : decode cX3_rank 49 = .ok (.iconst 0, 1) := by decide +kernel
theorem dX3_rank_50 : decode cX3_rank 50 = .ok (.iadd, 1) := by decide +kernel
theorem dX3_rank_51 : decode cX3_rank 51 = .ok (.istore_n 3, 1) := by decide +kernel
theorem dX3_rank_52 : decode cX3_rank 52 = .ok (.iinc 4 1, 3) := by decide +kernel
theorem dX3_rank_55 : decode cX3_rank 55 = .ok (.goto (-36), 3) := by decide +kernel
theorem dX3_rank_58 : decode cX3_rank 58 = .ok (.iload_n 1, 1) := by decide +kernel
theorem dX3_rank_59 : decode cX3_rank 59 = .ok (.aload_n 0, 1) := by decide +kernel
theorem dX3_rank_60 : decode cX3_rank 60 = .ok (.getfield 37, 3) := by decide +kernel
theorem dX3_rank_63 : decode cX3_rank 63 = .ok (.iload_n 2, 1) := by decide +kernel
theorem dX3_rank_64 : decode cX3_rank 64 = .ok (.isub, 1) := by decide +kernel
theorem dX3_rank_65 : decode cX3_rank 65 = .ok (.imul, 1) := by decide +kernel
theorem dX3_rank_66 : decode cX3_rank 66 = .ok (.iload_n 3, 1) := by decide +kernel
theorem dX3_rank_67 : decode cX3_rank 67 = .ok (.iadd, 1) := by decide +kernel
theorem dX3_rank_68 : decode cX3_rank 68 = .ok (.istore_n 1, 1) := by decide +kernel
theorem dX3_rank_69 : decode cX3_rank 69 = .ok (.iinc 2 1, 3) := by decide +kernel
theorem dX3_rank_72 : decode cX3_rank 72 = .ok (.goto (-68), 3) := by decide +kernel
theorem dX3_rank_75 : decode cX3_rank 75 = .ok (.iload_n 1, 1) := by decide +kernel
theorem dX3_rank_76 : decode cX3_rank 76 = .ok (.ireturn, 1) := by decide +kernel
theorem dX4_init_0 : decode cX4_init 0 = .ok (.aload_n 0, 1) := by decide +kernel
theorem dX4_init_1 : decode cX4_init 1 = .ok (.invokespecial 3, 3) := by decide +kernel
theorem dX4_init_4 : decode cX4_init 4 = .ok (.aload_n 0, 1) := by decide +kernel
theorem dX4_init_5 : decode cX4_init 5 = .ok (.new 9, 3) := by decide +kernel
theorem dX4_init_8 : decode cX4_init 8 = .ok (.dup, 1) := by decide +kernel
theorem dX4_init_9 : decode cX4_init 9 = .ok (.bipush 40, 2) := by decide +kernel
theorem dX4_init_11 : decode cX4_init 11 = .ok (.invokespecial 11, 3) := by decide +kernel
theorem dX4_init_14 : decode cX4_init 14 = .ok (.putfield 14, 3) := by decide +kernel
theorem dX4_init_17 : decode cX4_init 17 = .ok (.aload_n 0, 1) := by decide +kernel
theorem dX4_init_18 : decode cX4_init 18 = .ok (.new 9, 3) := by decide +kernel
theorem dX4_init_21 : decode cX4_init 21 = .ok (.dup, 1) := by decide +kernel
theorem dX4_init_22 : decode cX4_init 22 = .ok (.bipush 40, 2) := by decide +kernel
theorem dX4_init_24 : decode cX4_init 24 = .ok (.invokespecial 11, 3) := by decide +kernel
theorem dX4_init_27 : decode cX4_init 27 = .ok (.putfield 20, 3) := by decide +kernel
theorem dX4_init_30 : decode cX4_init 30 = .ok (.aload_n 0, 1) := by decide +kernel
theorem dX4_init_31 : decode cX4_init 31 = .ok (.new 9, 3) := by decide +kernel
theorem dX4_init_34 : decode cX4_init 34 = .ok (.dup, 1) := by decide +kernel
theorem dX4_init_35 : decode cX4_init 35 = .ok (.bipush 40, 2) := by decide +kernel
theorem dX4_init_37 : decode cX4_init 37 = .ok (.invokespecial 11, 3) := by decide +kernel
theorem dX4_init_40 : decode cX4_init 40 = .ok (.putfield 23, 3) := by decide +kernel
theorem dX4_init_43 : decode cX4_init 43 = .ok (.aload_n 0, 1) := by decide +kernel
theorem dX4_init_44 : decode cX4_init 44 = .ok (.new 9, 3) := by decide +kernel
theorem dX4_init_47 : decode cX4_init 47 = .ok (.dup, 1) := by decide +kernel
theorem dX4_init_48 : decode cX4_init 48 = .ok (.bipush 120, 2) := by decide +kernel
theorem dX4_init_50 : decode cX4_init 50 = .ok (.invokespecial 11, 3) := by decide +kernel
theorem dX4_init_53 : decode cX4_init 53 = .ok (.putfield 26, 3) := by decide +kernel
theorem dX4_init_56 : decode cX4_init 56 = .ok (.return_, 1) := by decide +kernel
theorem dX4_strokes_0 : decode cX4_strokes 0 = .ok (.aload_n 0, 1) := by decide +kernel
theorem dX4_strokes_1 : decode cX4_strokes 1 = .ok (.getfield 14, 3) := by decide +kernel
theorem dX4_strokes_4 : decode cX4_strokes 4 = .ok (.areturn, 1) := by decide +kernel
theorem dX4_signs_0 : decode cX4_signs 0 = .ok (.aload_n 0, 1) := by decide +kernel
theorem dX4_signs_1 : decode cX4_signs 1 = .ok (.getfield 26, 3) := by decide +kernel
theorem dX4_signs_4 : decode cX4_signs 4 = .ok (.areturn, 1) := by decide +kernel
theorem dX4_tongue_0 : decode cX4_tongue 0 = .ok (.aload_n 0, 1) := by decide +kernel
theorem dX4_tongue_1 : decode cX4_tongue 1 = .ok (.getfield 29, 3) := by decide +kernel
theorem dX4_tongue_4 : decode cX4_tongue 4 = .ok (.ireturn, 1) := by decide +kernel
theorem dX4_setTongue_0 : decode cX4_setTongue 0 = .ok (.aload_n 0, 1) := by decide +kernel
theorem dX4_setTongue_1 : decode cX4_setTongue 1 = .ok (.getfield 29, 3) := by decide +kernel
theorem dX4_setTongue_4 : decode cX4_setTongue 4 = .ok (.istore_n 2, 1) := by decide +kernel
theorem dX4_setTongue_5 : decode cX4_setTongue 5 = .ok (.aload_n 0, 1) := by decide +kernel
theorem dX4_setTongue_6 : decode cX4_setTongue 6 = .ok (.iload_n 1, 1) := by decide +kernel
theorem dX4_setTongue_7 : decode cX4_setTongue 7 = .ok (.putfield 29, 3) := by decide +kernel
theorem dX4_setTongue_10 : decode cX4_setTongue 10 = .ok (.iload_n 2, 1) := by decide +kernel
theorem dX4_setTongue_11 : decode cX4_setTongue 11 = .ok (.ireturn, 1) := by decide +kernel
theorem dX4_cut_0 : decode cX4_cut 0 = .ok (.aload_n 0, 1) := by decide +kernel
theorem dX4_cut_1 : decode cX4_cut 1 = .ok (.getfield 20, 3) := by decide +kernel
theorem dX4_cut_4 : decode cX4_cut 4 = .ok (.invokevirtual 33, 3) := by decide +kernel
theorem dX4_cut_7 : decode cX4_cut 7 = .ok (.pop, 1) := by decide +kernel
theorem dX4_cut_8 : decode cX4_cut 8 = .ok (.aload_n 0, 1) := by decide +kernel
theorem dX4_cut_9 : decode cX4_cut 9 = .ok (.getfield 23, 3) := by decide +kernel
theorem dX4_cut_12 : decode cX4_cut 12 = .ok (.invokevirtual 33, 3) := by decide +kernel
theorem dX4_cut_15 : decode cX4_cut 15 = .ok (.pop, 1) := by decide +kernel
theorem dX4_cut_16 : decode cX4_cut 16 = .ok (.iconst 0, 1) := by decide +kernel
theorem dX4_cut_17 : decode cX4_cut 17 = .ok (.istore_n 2, 1) := by decide +kernel
theorem dX4_cut_18 : decode cX4_cut 18 = .ok (.iload_n 2, 1) := by decide +kernel
theorem dX4_cut_19 : decode cX4_cut 19 = .ok (.aload_n 0, 1) := by decide +kernel
theorem dX4_cut_20 : decode cX4_cut 20 = .ok (.getfield 14, 3) := by decide +kernel
theorem dX4_cut_23 : decode cX4_cut 23 = .ok (.invokevirtual 37, 3) := by decide +kernel
theorem dX4_cut_26 : decode cX4_cut 26 = .ok (.if_icmp .ge 66, 3) := by decide +kernel
theorem dX4_cut_29 : decode cX4_cut 29 = .ok (.aload_n 1, 1) := by decide +kernel
theorem dX4_cut_30 : decode cX4_cut 30 = .ok (.aload_n 0, 1) := by decide +kernel
theorem dX4_cut_31 : decode cX4_cut 31 = .ok (.getfield 14, 3) := by decide +kernel
theorem dX4_cut_34 : decode cX4_cut 34 = .ok (.iload_n 2, 1) := by decide +kernel
theorem dX4_cut_35 : decode cX4_cut 35 = .ok (.invokevirtual 40, 3) := by decide +kernel
theorem dX4_cut_38 : decode cX4_cut 38 = .ok (.istore_n 3, 1) := by decide +kernel
theorem dX4_cut_39 : decode cX4_cut 39 = .ok (.aload_n 0, 1) := by decide +kernel
theorem dX4_cut_40 : decode cX4_cut 40 = .ok (.getfield 20, 3) := by decide +kernel
theorem dX4_cut_43 : decode cX4_cut 43 = .ok (.iload_n 3, 1) := by decide +kernel
theorem dX4_cut_44 : decode cX4_cut 44 = .ok (.iconst (-1), 1) := by decide +kernel
theorem dX4_cut_45 : decode cX4_cut 45 = .ok (.if_icmp .ne 8, 3) := by decide +kernel
theorem dX4_cut_48 : decode cX4_cut 48 = .ok (.bipush 99, 2) := by decide +kernel
theorem dX4_cut_50 : decode cX4_cut 50 = .ok (.goto 4, 3) := by decide +kernel
theorem dX4_cut_53 : decode cX4_cut 53 = .ok (.iload_n 3, 1) := by decide +kernel
theorem dX4_cut_54 : decode cX4_cut 54 = .ok (.invokevirtual 46, 3) := by decide +kernel
theorem dX4_cut_57 : decode cX4_cut 57 = .ok (.aload_n 0, 1) := by decide +kernel
theorem dX4_cut_58 : decode cX4_cut 58 = .ok (.getfield 23, 3) := by decide +kernel
theorem dX4_cut_61 : decode cX4_cut 61 = .ok (.iload_n 2, 1) := by decide +kernel
theorem dX4_cut_62 : decode cX4_cut 62 = .ok (.invokevirtual 46, 3) := by decide +kernel
theorem dX4_cut_65 : decode cX4_cut 65 = .ok (.iload_n 2, 1) := by decide +kernel
theorem dX4_cut_66 : decode cX4_cut 66 = .ok (.iload_n 3, 1) := by decide +kernel
theorem dX4_cut_67 : decode cX4_cut 67 = .ok (.iconst (-1), 1) := by decide +kernel
theorem dX4_cut_68 : decode cX4_cut 68 = .ok (.if_icmp .ne 7, 3) := by decide +kernel
theorem dX4_cut_71 : decode cX4_cut 71 = .ok (.iconst 1, 1) := by decide +kernel
theorem dX4_cut_72 : decode cX4_cut 72 = .ok (.goto 15, 3) := by decide +kernel
theorem dX4_cut_75 : decode cX4_cut 75 = .ok (.iconst 1, 1) := by decide +kernel
theorem dX4_cut_76 : decode cX4_cut 76 = .ok (.aload_n 1, 1) := by decide +kernel
theorem dX4_cut_77 : decode cX4_cut 77 = .ok (.iload_n 3, 1) := by decide +kernel
theorem dX4_cut_78 : decode cX4_cut 78 = .ok (.invokevirtual 49, 3) := by decide +kernel
theorem dX4_cut_81 : decode cX4_cut 81 = .ok (.invokevirtual 37, 3) := by decide +kernel
theorem dX4_cut_84 : decode cX4_cut 84 = .ok (.invokestatic 53, 3) := by decide +kernel
theorem dX4_cut_87 : decode cX4_cut 87 = .ok (.iadd, 1) := by decide +kernel
theorem dX4_cut_88 : decode cX4_cut 88 = .ok (.istore_n 2, 1) := by decide +kernel
theorem dX4_cut_89 : decode cX4_cut 89 = .ok (.goto (-71), 3) := by decide +kernel
theorem dX4_cut_92 : decode cX4_cut 92 = .ok (.return_, 1) := by decide +kernel
theorem dX4_pieceAt_0 : decode cX4_pieceAt 0 = .ok (.iload_n 1, 1) := by decide +kernel
theorem dX4_pieceAt_1 : decode cX4_pieceAt 1 = .ok (.iconst (-1), 1) := by decide +kernel
theorem dX4_pieceAt_2 : decode cX4_pieceAt 2 = .ok (.if_icmp .ne 11, 3) := by decide +kernel
theorem dX4_pieceAt_5 : decode cX4_pieceAt 5 = .ok (.aload_n 0, 1) := by decide +kernel
theorem dX4_pieceAt_6 : decode cX4_pieceAt 6 = .ok (.getfield 23, 3) := by decide +kernel
theorem dX4_pieceAt_9 : decode cX4_pieceAt 9 = .ok (.invokevirtual 37, 3) := by decide +kernel
theorem dX4_pieceAt_12 : decode cX4_pieceAt 12 = .ok (.ireturn, 1) := by decide +kernel
theorem dX4_pieceAt_13 : decode cX4_pieceAt 13 = .ok (.aload_n 0, 1) := by decide +kernel
theorem dX4_pieceAt_14 : decode cX4_pieceAt 14 = .ok (.getfield 23, 3) := by decide +kernel
theorem dX4_pieceAt_17 : decode cX4_pieceAt 17 = .ok (.iload_n 1, 1) := by decide +kernel
theorem dX4_pieceAt_18 : decode cX4_pieceAt 18 = .ok (.invokevirtual 59, 3) := by decide +kernel
theorem dX4_pieceAt_21 : decode cX4_pieceAt 21 = .ok (.ifCond .eq 26, 3) := by decide +kernel
theorem dX4_pieceAt_24 : decode cX4_pieceAt 24 = .ok (.bipush 100, 2) := by decide +kernel
theorem dX4_pieceAt_26 : decode cX4_pieceAt 26 = .ok (.aload_n 0, 1) := by decide +kernel
theorem dX4_pieceAt_27 : decode cX4_pieceAt 27 = .ok (.getfield 20, 3) := by decide +kernel
theorem dX4_pieceAt_30 : decode cX4_pieceAt 30 = .ok (.iload_n 1, 1) := by decide +kernel
theorem dX4_pieceAt_31 : decode cX4_pieceAt 31 = .ok (.invokevirtual 63, 3) := by decide +kernel
theorem dX4_pieceAt_34 : decode cX4_pieceAt 34 = .ok (.imul, 1) := by decide +kernel
theorem dX4_pieceAt_35 : decode cX4_pieceAt 35 = .ok (.aload_n 0, 1) := by decide +kernel
theorem dX4_pieceAt_36 : decode cX4_pieceAt 36 = .ok (.getfield 23, 3) := by decide +kernel
theorem dX4_pieceAt_39 : decode cX4_pieceAt 39 = .ok (.iload_n 1, 1) := by decide +kernel
theorem dX4_pieceAt_40 : decode cX4_pieceAt 40 = .ok (.invokevirtual 63, 3) := by decide +kernel
theorem dX4_pieceAt_43 : decode cX4_pieceAt 43 = .ok (.iadd, 1) := by decide +kernel
theorem dX4_pieceAt_44 : decode cX4_pieceAt 44 = .ok (.goto 5, 3) := by decide +kernel
theorem dX4_pieceAt_47 : decode cX4_pieceAt 47 = .ok (.bipush (-6), 2) := by decide +kernel
theorem dX4_pieceAt_49 : decode cX4_pieceAt 49 = .ok (.ireturn, 1) := by decide +kernel
theorem dX4_onward_0 : decode cX4_onward 0 = .ok (.aload_n 0, 1) := by decide +kernel
theorem dX4_onward_1 : decode cX4_onward 1 = .ok (.aload_n 1, 1) := by decide +kernel
theorem dX4_onward_2 : decode cX4_onward 2 = .ok (.invokevirtual 67, 3) := by decide +kernel
theorem dX4_onward_5 : decode cX4_onward 5 = .ok (.aload_n 0, 1) := by decide +kernel
theorem dX4_onward_6 : decode cX4_onward 6 = .ok (.getfield 23, 3) := by decide +kernel
theorem dX4_onward_9 : decode cX4_onward 9 = .ok (.invokevirtual 37, 3) := by decide +kernel
theorem dX4_onward_12 : decode cX4_onward 12 = .ok (.iconst 1, 1) := by decide +kernel
theorem dX4_onward_13 : decode cX4_onward 13 = .ok (.isub, 1) := by decide +kernel
theorem dX4_onward_14 : decode cX4_onward 14 = .ok (.istore_n 2, 1) := by decide +kernel
theorem dX4_onward_15 : decode cX4_onward 15 = .ok (.aload_n 1, 1) := by decide +kernel
theorem dX4_onward_16 : decode cX4_onward 16 = .ok (.aload_n 0, 1) := by decide +kernel
theorem dX4_onward_17 : decode cX4_onward 17 = .ok (.getfield 14, 3) := by decide +kernel
theorem dX4_onward_20 : decode cX4_onward 20 = .ok (.aload_n 0, 1) := by decide +kernel
theorem dX4_onward_21 : decode cX4_onward 21 = .ok (.getfield 23, 3) := by decide +kernel
theorem dX4_onward_24 : decode cX4_onward 24 = .ok (.iload_n 2, 1) := by decide +kernel
theorem dX4_onward_25 : decode cX4_onward 25 = .ok (.invokevirtual 59, 3) := by decide +kernel
theorem dX4_onward_28 : decode cX4_onward 28 = .ok (.ifCond .eq 14, 3) := by decide +kernel
theorem dX4_onward_31 : decode cX4_onward 31 = .ok (.aload_n 0, 1) := by decide +kernel
theorem dX4_onward_32 : decode cX4_onward 32 = .ok (.getfield 23, 3) := by decide +kernel
theorem dX4_onward_35 : decode cX4_onward 35 = .ok (.iload_n 2, 1) := by decide +kernel
theorem dX4_onward_36 : decode cX4_onward 36 = .ok (.invokevirtual 63, 3) := by decide +kernel
theorem dX4_onward_39 : decode cX4_onward 39 = .ok (.goto 4, 3) := by decide +kernel
theorem dX4_onward_42 : decode cX4_onward 42 = .ok (.iconst 0, 1) := by decide +kernel
theorem dX4_onward_43 : decode cX4_onward 43 = .ok (.invokevirtual 71, 3) := by decide +kernel
theorem dX4_onward_46 : decode cX4_onward 46 = .ok (.ireturn, 1) := by decide +kernel
theorem dX4_write_0 : decode cX4_write 0 = .ok (.aload_n 0, 1) := by decide +kernel
theorem dX4_write_1 : decode cX4_write 1 = .ok (.aload_n 1, 1) := by decide +kernel
theorem dX4_write_2 : decode cX4_write 2 = .ok (.invokevirtual 67, 3) := by decide +kernel
theorem dX4_write_5 : decode cX4_write 5 = .ok (.aload_n 0, 1) := by decide +kernel
theorem dX4_write_6 : decode cX4_write 6 = .ok (.getfield 26, 3) := by decide +kernel
theorem dX4_write_9 : decode cX4_write 9 = .ok (.invokevirtual 33, 3) := by decide +kernel
theorem dX4_write_12 : decode cX4_write 12 = .ok (.pop, 1) := by decide +kernel
theorem dX4_write_13 : decode cX4_write 13 = .ok (.iconst 0, 1) := by decide +kernel
theorem dX4_write_14 : decode cX4_write 14 = .ok (.istore_n 2, 1) := by decide +kernel
theorem dX4_write_15 : decode cX4_write 15 = .ok (.iload_n 2, 1) := by decide +kernel
theorem dX4_write_16 : decode cX4_write 16 = .ok (.aload_n 0, 1) := by decide +kernel
theorem dX4_write_17 : decode cX4_write 17 = .ok (.getfield 23, 3) := by decide +kernel
theorem dX4_write_20 : decode cX4_write 20 = .ok (.invokevirtual 37, 3) := by decide +kernel
theorem dX4_write_23 : decode cX4_write 23 = .ok (.if_icmp .ge 89, 3) := by decide +kernel
theorem dX4_write_26 : decode cX4_write 26 = .ok (.aload_n 0, 1) := by decide +kernel
theorem dX4_write_27 : decode cX4_write 27 = .ok (.getfield 20, 3) := by decide +kernel
theorem dX4_write_30 : decode cX4_write 30 = .ok (.iload_n 2, 1) := by decide +kernel
theorem dX4_write_31 : decode cX4_write 31 = .ok (.invokevirtual 63, 3) := by decide +kernel
theorem dX4_write_34 : decode cX4_write 34 = .ok (.istore_n 3, 1) := by decide +kernel
theorem dX4_write_35 : decode cX4_write 35 = .ok (.iload_n 3, 1) := by decide +kernel
theorem dX4_write_36 : decode cX4_write 36 = .ok (.bipush 99, 2) := by decide +kernel
theorem dX4_write_38 : decode cX4_write 38 = .ok (.if_icmp .ne 30, 3) := by decide +kernel
theorem dX4_write_41 : decode cX4_write 41 = .ok (.aload_n 0, 1) := by decide +kernel
theorem dX4_write_42 : decode cX4_write 42 = .ok (.getfield 26, 3) := by decide +kernel
theorem dX4_write_45 : decode cX4_write 45 = .ok (.iconst (-1), 1) := by decide +kernel
theorem dX4_write_46 : decode cX4_write 46 = .ok (.aload_n 0, 1) := by decide +kernel
theorem dX4_write_47 : decode cX4_write 47 = .ok (.getfield 14, 3) := by decide +kernel
theorem dX4_write_50 : decode cX4_write 50 = .ok (.aload_n 0, 1) := by decide +kernel
theorem dX4_write_51 : decode cX4_write 51 = .ok (.getfield 23, 3) := by decide +kernel
theorem dX4_write_54 : decode cX4_write 54 = .ok (.iload_n 2, 1) := by decide +kernel
theorem dX4_write_55 : decode cX4_write 55 = .ok (.invokevirtual 63, 3) := by decide +kernel
theorem dX4_write_58 : decode cX4_write 58 = .ok (.invokevirtual 63, 3) := by decide +kernel
theorem dX4_write_61 : decode cX4_write 61 = .ok (.isub, 1) := by decide +kernel
theorem dX4_write_62 : decode cX4_write 62 = .ok (.invokevirtual 46, 3) := by decide +kernel
theorem dX4_write_65 : decode cX4_write 65 = .ok (.goto 41, 3) := by decide +kernel
theorem dX4_write_68 : decode cX4_write 68 = .ok (.aload_n 1, 1) := by decide +kernel
theorem dX4_write_69 : decode cX4_write 69 = .ok (.iload_n 3, 1) := by decide +kernel
theorem dX4_write_70 : decode cX4_write 70 = .ok (.invokevirtual 74, 3) := by decide +kernel
theorem dX4_write_73 : decode cX4_write 73 = .ok (.astore 4, 2) := by decide +kernel
theorem dX4_write_75 : decode cX4_write 75 = .ok (.iconst 0, 1) := by decide +kernel
theorem dX4_write_76 : decode cX4_write 76 = .ok (.istore 5, 2) := by decide +kernel
theorem dX4_write_78 : decode cX4_write 78 = .ok (.iload 5, 2) := by decide +kernel
theorem dX4_write_80 : decode cX4_write 80 = .ok (.aload 4, 2) := by decide +kernel
theorem dX4_write_82 : decode cX4_write 82 = .ok (.invokevirtual 37, 3) := by decide +kernel
theorem dX4_write_85 : decode cX4_write 85 = .ok (.if_icmp .ge 21, 3) := by decide +kernel
theorem dX4_write_88 : decode cX4_write 88 = .ok (.aload_n 0, 1) := by decide +kernel
theorem dX4_write_89 : decode cX4_write 89 = .ok (.aload_n 1, 1) := by decide +kernel
theorem dX4_write_90 : decode cX4_write 90 = .ok (.aload 4, 2) := by decide +kernel
theorem dX4_write_92 : decode cX4_write 92 = .ok (.iload 5, 2) := by decide +kernel
theorem dX4_write_94 : decode cX4_write 94 = .ok (.invokevirtual 63, 3) := by decide +kernel
theorem dX4_write_97 : decode cX4_write 97 = .ok (.invokevirtual 77, 3) := by decide +kernel
theorem dX4_write_100 : decode cX4_write 100 = .ok (.iinc 5 1, 3) := by decide +kernel
theorem dX4_write_103 : decode cX4_write 103 = .ok (.goto (-25), 3) := by decide +kernel
theorem dX4_write_106 : decode cX4_write 106 = .ok (.iinc 2 1, 3) := by decide +kernel
theorem dX4_write_109 : decode cX4_write 109 = .ok (.goto (-94), 3) := by decide +kernel
theorem dX4_write_112 : decode cX4_write 112 = .ok (.return_, 1) := by decide +kernel
theorem dX4_arrive_0 : decode cX4_arrive 0 = .ok (.iload_n 2, 1) := by decide +kernel
theorem dX4_arrive_1 : decode cX4_arrive 1 = .ok (.istore_n 3, 1) := by decide +kernel
theorem dX4_arrive_2 : decode cX4_arrive 2 = .ok (.aload_n 0, 1) := by decide +kernel
theorem dX4_arrive_3 : decode cX4_arrive 3 = .ok (.aload_n 1, 1) := by decide +kernel
theorem dX4_arrive_4 : decode cX4_arrive 4 = .ok (.iload_n 3, 1) := by decide +kernel
theorem dX4_arrive_5 : decode cX4_arrive 5 = .ok (.invokevirtual 81, 3) := by decide +kernel
theorem dX4_arrive_8 : decode cX4_arrive 8 = .ok (.istore 4, 2) := by decide +kernel
theorem dX4_arrive_10 : decode cX4_arrive 10 = .ok (.iload 4, 2) := by decide +kernel
theorem dX4_arrive_12 : decode cX4_arrive 12 = .ok (.ifCond .eq 44, 3) := by decide +kernel
theorem dX4_arrive_15 : decode cX4_arrive 15 = .ok (.aload_n 0, 1) := by decide +kernel
theorem dX4_arrive_16 : decode cX4_arrive 16 = .ok (.getfield 26, 3) := by decide +kernel
theorem dX4_arrive_19 : decode cX4_arrive 19 = .ok (.invokevirtual 85, 3) := by decide +kernel
theorem dX4_arrive_22 : decode cX4_arrive 22 = .ok (.ifCond .ne 34, 3) := by decide +kernel
theorem dX4_arrive_25 : decode cX4_arrive 25 = .ok (.aload_n 0, 1) := by decide +kernel
theorem dX4_arrive_26 : decode cX4_arrive 26 = .ok (.getfield 26, 3) := by decide +kernel
theorem dX4_arrive_29 : decode cX4_arrive 29 = .ok (.aload_n 0, 1) := by decide +kernel
theorem dX4_arrive_30 : decode cX4_arrive 30 = .ok (.getfield 26, 3) := by decide +kernel
theorem dX4_arrive_33 : decode cX4_arrive 33 = .ok (.invokevirtual 37, 3) := by decide +kernel
theorem dX4_arrive_36 : decode cX4_arrive 36 = .ok (.iconst 1, 1) := by decide +kernel
theorem dX4_arrive_37 : decode cX4_arrive 37 = .ok (.isub, 1) := by decide +kernel
theorem dX4_arrive_38 : decode cX4_arrive 38 = .ok (.invokevirtual 89, 3) := by decide +kernel
theorem dX4_arrive_41 : decode cX4_arrive 41 = .ok (.pop, 1) := by decide +kernel
theorem dX4_arrive_42 : decode cX4_arrive 42 = .ok (.iload 4, 2) := by decide +kernel
theorem dX4_arrive_44 : decode cX4_arrive 44 = .ok (.istore_n 3, 1) := by decide +kernel
theorem dX4_arrive_45 : decode cX4_arrive 45 = .ok (.aload_n 0, 1) := by decide +kernel
theorem dX4_arrive_46 : decode cX4_arrive 46 = .ok (.aload_n 1, 1) := by decide +kernel
theorem dX4_arrive_47 : decode cX4_arrive 47 = .ok (.iload_n 3, 1) := by decide +kernel
theorem dX4_arrive_48 : decode cX4_arrive 48 = .ok (.invokevirtual 81, 3) := by decide +kernel
theorem dX4_arrive_51 : decode cX4_arrive 51 = .ok (.istore 4, 2) := by decide +kernel
theorem dX4_arrive_53 : decode cX4_arrive 53 = .ok (.goto (-43), 3) := by decide +kernel
theorem dX4_arrive_56 : decode cX4_arrive 56 = .ok (.aload_n 0, 1) := by decide +kernel
theorem dX4_arrive_57 : decode cX4_arrive 57 = .ok (.getfield 26, 3) := by decide +kernel
theorem dX4_arrive_60 : decode cX4_arrive 60 = .ok (.iload_n 3, 1) := by decide +kernel
theorem dX4_arrive_61 : decode cX4_arrive 61 = .ok (.invokevirtual 46, 3) := by decide +kernel
theorem dX4_arrive_64 : decode cX4_arrive 64 = .ok (.return_, 1) := by decide +kernel
theorem dX4_jointWithLast_0 : decode cX4_jointWithLast 0 = .ok (.aload_n 0, 1) := by decide +kernel
theorem dX4_jointWithLast_1 : decode cX4_jointWithLast 1 = .ok (.getfield 26, 3) := by decide +kernel
theorem dX4_jointWithLast_4 : decode cX4_jointWithLast 4 = .ok (.invokevirtual 85, 3) := by decide +kernel
theorem dX4_jointWithLast_7 : decode cX4_jointWithLast 7 = .ok (.ifCond .eq 7, 3) := by decide +kernel
theorem dX4_jointWithLast_10 : decode cX4_jointWithLast 10 = .ok (.iconst 0, 1) := by decide +kernel
theorem dX4_jointWithLast_11 : decode cX4_jointWithLast 11 = .ok (.goto 24, 3) := by decide +kernel
theorem dX4_jointWithLast_14 : decode cX4_jointWithLast 14 = .ok (.aload_n 1, 1) := by decide +kernel
theorem dX4_jointWithLast_15 : decode cX4_jointWithLast 15 = .ok (.aload_n 0, 1) := by decide +kernel
theorem dX4_jointWithLast_16 : decode cX4_jointWithLast 16 = .ok (.getfield 26, 3) := by decide +kernel
theorem dX4_jointWithLast_19 : decode cX4_jointWithLast 19 = .ok (.aload_n 0, 1) := by decide +kernel
theorem dX4_jointWithLast_20 : decode cX4_jointWithLast 20 = .ok (.getfield 26, 3) := by decide +kernel
theorem dX4_jointWithLast_23 : decode cX4_jointWithLast 23 = .ok (.invokevirtual 37, 3) := by decide +kernel
theorem dX4_jointWithLast_26 : decode cX4_jointWithLast 26 = .ok (.iconst 1, 1) := by decide +kernel
theorem dX4_jointWithLast_27 : decode cX4_jointWithLast 27 = .ok (.isub, 1) := by decide +kernel
theorem dX4_jointWithLast_28 : decode cX4_jointWithLast 28 = .ok (.invokevirtual 63, 3) := by decide +kernel
theorem dX4_jointWithLast_31 : decode cX4_jointWithLast 31 = .ok (.iload_n 2, 1) := by decide +kernel
theorem dX4_jointWithLast_32 : decode cX4_jointWithLast 32 = .ok (.invokevirtual 92, 3) := by decide +kernel
theorem dX4_jointWithLast_35 : decode cX4_jointWithLast 35 = .ok (.ireturn, 1) := by decide +kernel
theorem dX5_init_0 : decode cX5_init 0 = .ok (.aload_n 0, 1) := by decide +kernel
theorem dX5_init_1 : decode cX5_init 1 = .ok (.invokespecial 3, 3) := by decide +kernel
theorem dX5_init_4 : decode cX5_init 4 = .ok (.aload_n 0, 1) := by decide +kernel
theorem dX5_init_5 : decode cX5_init 5 = .ok (.sipush 340, 3) := by decide +kernel
theorem dX5_init_8 : decode cX5_init 8 = .ok (.newarray .int, 2) := by decide +kernel
theorem dX5_init_10 : decode cX5_init 10 = .ok (.putfield 11, 3) := by decide +kernel
theorem dX5_init_13 : decode cX5_init 13 = .ok (.aload_n 0, 1) := by decide +kernel
theorem dX5_init_14 : decode cX5_init 14 = .ok (.sipush 340, 3) := by decide +kernel
theorem dX5_init_17 : decode cX5_init 17 = .ok (.newarray .int, 2) := by decide +kernel
theorem dX5_init_19 : decode cX5_init 19 = .ok (.putfield 15, 3) := by decide +kernel
theorem dX5_init_22 : decode cX5_init 22 = .ok (.aload_n 0, 1) := by decide +kernel
theorem dX5_init_23 : decode cX5_init 23 = .ok (.sipush 340, 3) := by decide +kernel
theorem dX5_init_26 : decode cX5_init 26 = .ok (.newarray .int, 2) := by decide +kernel
theorem dX5_init_28 : decode cX5_init 28 = .ok (.putfield 18, 3) := by decide +kernel
theorem dX5_init_31 : decode cX5_init 31 = .ok (.aload_n 0, 1) := by decide +kernel
theorem dX5_init_32 : decode cX5_init 32 = .ok (.sipush 340, 3) := by decide +kernel
theorem dX5_init_35 : decode cX5_init 35 = .ok (.newarray .int, 2) := by decide +kernel
theorem dX5_init_37 : decode cX5_init 37 = .ok (.putfield 21, 3) := by decide +kernel
theorem dX5_init_40 : decode cX5_init 40 = .ok (.aload_n 0, 1) := by decide +kernel
theorem dX5_init_41 : decode cX5_init 41 = .ok (.new 24, 3) := by decide +kernel
theorem dX5_init_44 : decode cX5_init 44 = .ok (.dup, 1) := by decide +kernel
theorem dX5_init_45 : decode cX5_init 45 = .ok (.iconst 4, 1) := by decide +kernel
theorem dX5_init_46 : decode cX5_init 46 = .ok (.invokespecial 26, 3) := by decide +kernel
theorem dX5_init_49 : decode cX5_init 49 = .ok (.putfield 29, 3) := by decide +kernel
theorem dX5_init_52 : decode cX5_init 52 = .ok (.aload_n 0, 1) := by decide +kernel
theorem dX5_init_53 : decode cX5_init 53 = .ok (.new 24, 3) := by decide +kernel
theorem dX5_init_56 : decode cX5_init 56 = .ok (.dup, 1) := by decide +kernel
theorem dX5_init_57 : decode cX5_init 57 = .ok (.iconst 4, 1) := by decide +kernel
theorem dX5_init_58 : decode cX5_init 58 = .ok (.invokespecial 26, 3) := by decide +kernel
theorem dX5_init_61 : decode cX5_init 61 = .ok (.putfield 33, 3) := by decide +kernel
theorem dX5_init_64 : decode cX5_init 64 = .ok (.aload_n 0, 1) := by decide +kernel
theorem dX5_init_65 : decode cX5_init 65 = .ok (.aload_n 1, 1) := by decide +kernel
theorem dX5_init_66 : decode cX5_init 66 = .ok (.putfield 36, 3) := by decide +kernel
theorem dX5_init_69 : decode cX5_init 69 = .ok (.aload_n 0, 1) := by decide +kernel
theorem dX5_init_70 : decode cX5_init 70 = .ok (.aload_n 2, 1) := by decide +kernel
theorem dX5_init_71 : decode cX5_init 71 = .ok (.putfield 40, 3) := by decide +kernel
theorem dX5_init_74 : decode cX5_init 74 = .ok (.return_, 1) := by decide +kernel
theorem dX5_sum_0 : decode cX5_sum 0 = .ok (.aload_n 0, 1) := by decide +kernel
theorem dX5_sum_1 : decode cX5_sum 1 = .ok (.getfield 44, 3) := by decide +kernel
theorem dX5_sum_4 : decode cX5_sum 4 = .ok (.ireturn, 1) := by decide +kernel
theorem dX5_words_0 : decode cX5_words 0 = .ok (.aload_n 0, 1) := by decide +kernel
theorem dX5_words_1 : decode cX5_words 1 = .ok (.getfield 29, 3) := by decide +kernel
theorem dX5_words_4 : decode cX5_words 4 = .ok (.areturn, 1) := by decide +kernel
theorem dX5_lengths_0 : decode cX5_lengths 0 = .ok (.aload_n 0, 1) := by decide +kernel
theorem dX5_lengths_1 : decode cX5_lengths 1 = .ok (.getfield 33, 3) := by decide +kernel
theorem dX5_lengths_4 : decode cX5_lengths 4 = .ok (.areturn, 1) := by decide +kernel
theorem dX5_find_0 : decode cX5_find 0 = .ok (.aload_n 0, 1) := by decide +kernel
theorem dX5_find_1 : decode cX5_find 1 = .ok (.aload_n 1, 1) := by decide +kernel
theorem dX5_find_2 : decode cX5_find 2 = .ok (.invokevirtual 48, 3) := by decide +kernel
theorem dX5_find_5 : decode cX5_find 5 = .ok (.invokevirtual 52, 3) := by decide +kernel
theorem dX5_find_8 : decode cX5_find 8 = .ok (.aload_n 1, 1) := by decide +kernel
theorem dX5_find_9 : decode cX5_find 9 = .ok (.invokevirtual 48, 3) := by decide +kernel
theorem dX5_find_12 : decode cX5_find 12 = .ok (.iconst 1, 1) := by decide +kernel
theorem dX5_find_13 : decode cX5_find 13 = .ok (.isub, 1) := by decide +kernel
theorem dX5_find_14 : decode cX5_find 14 = .ok (.istore_n 3, 1) := by decide +kernel
theorem dX5_find_15 : decode cX5_find 15 = .ok (.iload_n 3, 1) := by decide +kernel
theorem dX5_find_16 : decode cX5_find 16 = .ok (.ifCond .lt 54, 3) := by decide +kernel
theorem dX5_find_19 : decode cX5_find 19 = .ok (.iconst 0, 1) := by decide +kernel
theorem dX5_find_20 : decode cX5_find 20 = .ok (.istore 4, 2) := by decide +kernel
theorem dX5_find_22 : decode cX5_find 22 = .ok (.iload 4, 2) := by decide +kernel
theorem dX5_find_24 : decode cX5_find 24 = .ok (.aload_n 0, 1) := by decide +kernel
theorem dX5_find_25 : decode cX5_find 25 = .ok (.getfield 36, 3) := by decide +kernel
theorem dX5_find_28 : decode cX5_find 28 = .ok (.invokevirtual 55, 3) := by decide +kernel
theorem dX5_find_31 : decode cX5_find 31 = .ok (.if_icmp .ge 33, 3) := by decide +kernel
theorem dX5_find_34 : decode cX5_find 34 = .ok (.iload_n 2, 1) := by decide +kernel
theorem dX5_find_35 : decode cX5_find 35 = .ok (.aload_n 0, 1) := by decide +kernel
theorem dX5_find_36 : decode cX5_find 36 = .ok (.getfield 36, 3) := by decide +kernel
theorem dX5_find_39 : decode cX5_find 39 = .ok (.iload 4, 2) := by decide +kernel
theorem dX5_find_41 : decode cX5_find 41 = .ok (.invokevirtual 58, 3) := by decide +kernel
theorem dX5_find_44 : decode cX5_find 44 = .ok (.invokestatic 62, 3) := by decide +kernel
theorem dX5_find_47 : decode cX5_find 47 = .ok (.ifCond .eq 11, 3) := by decide +kernel
theorem dX5_find_50 : decode cX5_find 50 = .ok (.aload_n 0, 1) := by decide +kernel
theorem dX5_find_51 : decode cX5_find 51 = .ok (.aload_n 1, 1) := by decide +kernel
theorem dX5_find_52 : decode cX5_find 52 = .ok (.iload_n 3, 1) := by decide +kernel
theorem dX5_find_53 : decode cX5_find 53 = .ok (.iload 4, 2) := by decide +kernel
theorem dX5_find_55 : decode cX5_find 55 = .ok (.invokevirtual 66, 3) := by decide +kernel
theorem dX5_find_58 : decode cX5_find 58 = .ok (.iinc 4 1, 3) := by decide +kernel
theorem dX5_find_61 : decode cX5_find 61 = .ok (.goto (-39), 3) := by decide +kernel
theorem dX5_find_64 : decode cX5_find 64 = .ok (.iinc 3 (-1), 3) := by decide +kernel
theorem dX5_find_67 : decode cX5_find 67 = .ok (.goto (-52), 3) := by decide +kernel
theorem dX5_find_70 : decode cX5_find 70 = .ok (.aload_n 0, 1) := by decide +kernel
theorem dX5_find_71 : decode cX5_find 71 = .ok (.invokevirtual 70, 3) := by decide +kernel
theorem dX5_find_74 : decode cX5_find 74 = .ok (.istore_n 3, 1) := by decide +kernel
theorem dX5_find_75 : decode cX5_find 75 = .ok (.aload_n 0, 1) := by decide +kernel
theorem dX5_find_76 : decode cX5_find 76 = .ok (.iload_n 3, 1) := by decide +kernel
theorem dX5_find_77 : decode cX5_find 77 = .ok (.invokevirtual 73, 3) := by decide +kernel
theorem dX5_find_80 : decode cX5_find 80 = .ok (.iload_n 3, 1) := by decide +kernel
theorem dX5_find_81 : decode cX5_find 81 = .ok (.ifCond .le 7, 3) := by decide +kernel
theorem dX5_find_84 : decode cX5_find 84 = .ok (.iconst 1, 1) := by decide +kernel
theorem dX5_find_85 : decode cX5_find 85 = .ok (.goto 4, 3) := by decide +kernel
theorem dX5_find_88 : decode cX5_find 88 = .ok (.iconst 0, 1) := by decide +kernel
theorem dX5_find_89 : decode cX5_find 89 = .ok (.ireturn, 1) := by decide +kernel
theorem dX5_caseOf_0 : decode cX5_caseOf 0 = .ok (.iload_n 0, 1) := by decide +kernel
theorem dX5_caseOf_1 : decode cX5_caseOf 1 = .ok (.iconst 5, 1) := by decide +kernel
theorem dX5_caseOf_2 : decode cX5_caseOf 2 = .ok (.imul, 1) := by decide +kernel
theorem dX5_caseOf_3 : decode cX5_caseOf 3 = .ok (.iload_n 1, 1) := by decide +kernel
theorem dX5_caseOf_4 : decode cX5_caseOf 4 = .ok (.iadd, 1) := by decide +kernel
theorem dX5_caseOf_5 : decode cX5_caseOf 5 = .ok (.iconst 4, 1) := by decide +kernel
theorem dX5_caseOf_6 : decode cX5_caseOf 6 = .ok (.imul, 1) := by decide +kernel
theorem dX5_caseOf_7 : decode cX5_caseOf 7 = .ok (.iload_n 2, 1) := by decide +kernel
theorem dX5_caseOf_8 : decode cX5_caseOf 8 = .ok (.iadd, 1) := by decide +kernel
theorem dX5_caseOf_9 : decode cX5_caseOf 9 = .ok (.ireturn, 1) := by decide +kernel
theorem dX5_start_0 : decode cX5_start 0 = .ok (.iconst 0, 1) := by decide +kernel
theorem dX5_start_1 : decode cX5_start 1 = .ok (.istore_n 2, 1) := by decide +kernel
theorem dX5_start_2 : decode cX5_start 2 = .ok (.iload_n 2, 1) := by decide +kernel
theorem dX5_start_3 : decode cX5_start 3 = .ok (.sipush 340, 3) := by decide +kernel
theorem dX5_start_6 : decode cX5_start 6 = .ok (.if_icmp .ge 24, 3) := by decide +kernel
theorem dX5_start_9 : decode cX5_start 9 = .ok (.aload_n 0, 1) := by decide +kernel
theorem dX5_start_10 : decode cX5_start 10 = .ok (.getfield 11, 3) := by decide +kernel
theorem dX5_start_13 : decode cX5_start 13 = .ok (.iload_n 2, 1) := by decide +kernel
theorem dX5_start_14 : decode cX5_start 14 = .ok (.ldc 76, 2) := by decide +kernel
theorem dX5_start_16 : decode cX5_start 16 = .ok (.iastore, 1) := by decide +kernel
theorem dX5_start_17 : decode cX5_start 17 = .ok (.aload_n 0, 1) := by decide +kernel
theorem dX5_start_18 : decode cX5_start 18 = .ok (.getfield 15, 3) := by decide +kernel
theorem dX5_start_21 : decode cX5_start 21 = .ok (.iload_n 2, 1) := by decide +kernel
theorem dX5_start_22 : decode cX5_start 22 = .ok (.iconst 1, 1) := by decide +kernel
theorem dX5_start_23 : decode cX5_start 23 = .ok (.iastore, 1) := by decide +kernel
theorem dX5_start_24 : decode cX5_start 24 = .ok (.iinc 2 1, 3) := by decide +kernel
theorem dX5_start_27 : decode cX5_start 27 = .ok (.goto (-25), 3) := by decide +kernel
theorem dX5_start_30 : decode cX5_start 30 = .ok (.iconst 0, 1) := by decide +kernel
theorem dX5_start_31 : decode cX5_start 31 = .ok (.istore_n 2, 1) := by decide +kernel
theorem dX5_start_32 : decode cX5_start 32 = .ok (.iload_n 2, 1) := by decide +kernel
theorem dX5_start_33 : decode cX5_start 33 = .ok (.iconst 3, 1) := by decide +kernel
theorem dX5_start_34 : decode cX5_start 34 = .ok (.if_icmp .ge 21, 3) := by decide +kernel
theorem dX5_start_37 : decode cX5_start 37 = .ok (.aload_n 0, 1) := by decide +kernel
theorem dX5_start_38 : decode cX5_start 38 = .ok (.getfield 11, 3) := by decide +kernel
theorem dX5_start_41 : decode cX5_start 41 = .ok (.iload_n 1, 1) := by decide +kernel
theorem dX5_start_42 : decode cX5_start 42 = .ok (.iconst 0, 1) := by decide +kernel
theorem dX5_start_43 : decode cX5_start 43 = .ok (.iload_n 2, 1) := by decide +kernel
theorem dX5_start_44 : decode cX5_start 44 = .ok (.invokestatic 77, 3) := by decide +kernel
theorem dX5_start_47 : decode cX5_start 47 = .ok (.iconst 0, 1) := by decide +kernel
theorem dX5_start_48 : decode cX5_start 48 = .ok (.iastore, 1) := by decide +kernel
theorem dX5_start_49 : decode cX5_start 49 = .ok (.iinc 2 1, 3) := by decide +kernel
theorem dX5_start_52 : decode cX5_start 52 = .ok (.goto (-20), 3) := by decide +kernel
theorem dX5_start_55 : decode cX5_start 55 = .ok (.return_, 1) := by decide +kernel
theorem dX5_tryWord_0 : decode cX5_tryWord 0 = .ok (.bipush 10, 2) := by decide +kernel
theorem dX5_tryWord_2 : decode cX5_tryWord 2 = .ok (.aload_n 1, 1) := by decide +kernel
theorem dX5_tryWord_3 : decode cX5_tryWord 3 = .ok (.invokevirtual 48, 3) := by decide +kernel
theorem dX5_tryWord_6 : decode cX5_tryWord 6 = .ok (.iload_n 2, 1) := by decide +kernel
theorem dX5_tryWord_7 : decode cX5_tryWord 7 = .ok (.isub, 1) := by decide +kernel
theorem dX5_tryWord_8 : decode cX5_tryWord 8 = .ok (.invokestatic 81, 3) := by decide +kernel
theorem dX5_tryWord_11 : decode cX5_tryWord 11 = .ok (.istore 4, 2) := by decide +kernel
theorem dX5_tryWord_13 : decode cX5_tryWord 13 = .ok (.aload_n 0, 1) := by decide +kernel
theorem dX5_tryWord_14 : decode cX5_tryWord 14 = .ok (.getfield 40, 3) := by decide +kernel
theorem dX5_tryWord_17 : decode cX5_tryWord 17 = .ok (.aload_n 1, 1) := by decide +kernel
theorem dX5_tryWord_18 : decode cX5_tryWord 18 = .ok (.iload_n 2, 1) := by decide +kernel
theorem dX5_tryWord_19 : decode cX5_tryWord 19 = .ok (.iload 4, 2) := by decide +kernel
theorem dX5_tryWord_21 : decode cX5_tryWord 21 = .ok (.aload_n 0, 1) := by decide +kernel
theorem dX5_tryWord_22 : decode cX5_tryWord 22 = .ok (.getfield 36, 3) := by decide +kernel
theorem dX5_tryWord_25 : decode cX5_tryWord 25 = .ok (.iload_n 3, 1) := by decide +kernel
theorem dX5_tryWord_26 : decode cX5_tryWord 26 = .ok (.invokevirtual 87, 3) := by decide +kernel
theorem dX5_tryWord_29 : decode cX5_tryWord 29 = .ok (.invokevirtual 91, 3) := by decide +kernel
theorem dX5_tryWord_32 : decode cX5_tryWord 32 = .ok (.iconst 1, 1) := by decide +kernel
theorem dX5_tryWord_33 : decode cX5_tryWord 33 = .ok (.istore 5, 2) := by decide +kernel
theorem dX5_tryWord_35 : decode cX5_tryWord 35 = .ok (.iload 5, 2) := by decide +kernel
theorem dX5_tryWord_37 : decode cX5_tryWord 37 = .ok (.iload 4, 2) := by decide +kernel
theorem dX5_tryWord_39 : decode cX5_tryWord 39 = .ok (.if_icmp .gt 55, 3) := by decide +kernel
theorem dX5_tryWord_42 : decode cX5_tryWord 42 = .ok (.aload_n 0, 1) := by decide +kernel
theorem dX5_tryWord_43 : decode cX5_tryWord 43 = .ok (.getfield 40, 3) := by decide +kernel
theorem dX5_tryWord_46 : decode cX5_tryWord 46 = .ok (.iload 5, 2) := by decide +kernel
theorem dX5_tryWord_48 : decode cX5_tryWord 48 = .ok (.aload_n 0, 1) := by decide +kernel
theorem dX5_tryWord_49 : decode cX5_tryWord 49 = .ok (.getfield 36, 3) := by decide +kernel
theorem dX5_tryWord_52 : decode cX5_tryWord 52 = .ok (.iload_n 3, 1) := by decide +kernel
theorem dX5_tryWord_53 : decode cX5_tryWord 53 = .ok (.invokevirtual 87, 3) := by decide +kernel
theorem dX5_tryWord_56 : decode cX5_tryWord 56 = .ok (.invokevirtual 97, 3) := by decide +kernel
theorem dX5_tryWord_59 : decode cX5_tryWord 59 = .ok (.istore 6, 2) := by decide +kernel
theorem dX5_tryWord_61 : decode cX5_tryWord 61 = .ok (.iconst 1, 1) := by decide +kernel
theorem dX5_tryWord_62 : decode cX5_tryWord 62 = .ok (.istore 7, 2) := by decide +kernel
theorem dX5_tryWord_64 : decode cX5_tryWord 64 = .ok (.iload 7, 2) := by decide +kernel
theorem dX5_tryWord_66 : decode cX5_tryWord 66 = .ok (.iconst 4, 1) := by decide +kernel
theorem dX5_tryWord_67 : decode cX5_tryWord 67 = .ok (.if_icmp .gt 21, 3) := by decide +kernel
theorem dX5_tryWord_70 : decode cX5_tryWord 70 = .ok (.aload_n 0, 1) := by decide +kernel
theorem dX5_tryWord_71 : decode cX5_tryWord 71 = .ok (.iload_n 2, 1) := by decide +kernel
theorem dX5_tryWord_72 : decode cX5_tryWord 72 = .ok (.iload 7, 2) := by decide +kernel
theorem dX5_tryWord_74 : decode cX5_tryWord 74 = .ok (.iload_n 3, 1) := by decide +kernel
theorem dX5_tryWord_75 : decode cX5_tryWord 75 = .ok (.iload 5, 2) := by decide +kernel
theorem dX5_tryWord_77 : decode cX5_tryWord 77 = .ok (.iload 6, 2) := by decide +kernel
theorem dX5_tryWord_79 : decode cX5_tryWord 79 = .ok (.invokevirtual 101, 3) := by decide +kernel
theorem dX5_tryWord_82 : decode cX5_tryWord 82 = .ok (.iinc 7 1, 3) := by decide +kernel
theorem dX5_tryWord_85 : decode cX5_tryWord 85 = .ok (.goto (-21), 3) := by decide +kernel
theorem dX5_tryWord_88 : decode cX5_tryWord 88 = .ok (.iinc 5 1, 3) := by decide +kernel
theorem dX5_tryWord_91 : decode cX5_tryWord 91 = .ok (.goto (-56), 3) := by decide +kernel
theorem dX5_tryWord_94 : decode cX5_tryWord 94 = .ok (.return_, 1) := by decide +kernel
theorem dX5_tryPiece_0 : decode cX5_tryPiece 0 = .ok (.aload_n 0, 1) := by decide +kernel
theorem dX5_tryPiece_1 : decode cX5_tryPiece 1 = .ok (.getfield 36, 3) := by decide +kernel
theorem dX5_tryPiece_4 : decode cX5_tryPiece 4 = .ok (.iload_n 3, 1) := by decide +kernel
theorem dX5_tryPiece_5 : decode cX5_tryPiece 5 = .ok (.invokevirtual 58, 3) := by decide +kernel
theorem dX5_tryPiece_8 : decode cX5_tryPiece 8 = .ok (.istore 6, 2) := by decide +kernel
theorem dX5_tryPiece_10 : decode cX5_tryPiece 10 = .ok (.iload_n 1, 1) := by decide +kernel
theorem dX5_tryPiece_11 : decode cX5_tryPiece 11 = .ok (.iload 4, 2) := by decide +kernel
theorem dX5_tryPiece_13 : decode cX5_tryPiece 13 = .ok (.iadd, 1) := by decide +kernel
theorem dX5_tryPiece_14 : decode cX5_tryPiece 14 = .ok (.iload_n 2, 1) := by decide +kernel
theorem dX5_tryPiece_15 : decode cX5_tryPiece 15 = .ok (.iconst 1, 1) := by decide +kernel
theorem dX5_tryPiece_16 : decode cX5_tryPiece 16 = .ok (.isub, 1) := by decide +kernel
theorem dX5_tryPiece_17 : decode cX5_tryPiece 17 = .ok (.iload 6, 2) := by decide +kernel
theorem dX5_tryPiece_19 : decode cX5_tryPiece 19 = .ok (.invokestatic 77, 3) := by decide +kernel
theorem dX5_tryPiece_22 : decode cX5_tryPiece 22 = .ok (.istore 7, 2) := by decide +kernel
theorem dX5_tryPiece_24 : decode cX5_tryPiece 24 = .ok (.aload_n 0, 1) := by decide +kernel
theorem dX5_tryPiece_25 : decode cX5_tryPiece 25 = .ok (.getfield 11, 3) := by decide +kernel
theorem dX5_tryPiece_28 : decode cX5_tryPiece 28 = .ok (.iload 7, 2) := by decide +kernel
theorem dX5_tryPiece_30 : decode cX5_tryPiece 30 = .ok (.iaload, 1) := by decide +kernel
theorem dX5_tryPiece_31 : decode cX5_tryPiece 31 = .ok (.ldc 76, 2) := by decide +kernel
theorem dX5_tryPiece_33 : decode cX5_tryPiece 33 = .ok (.if_icmp .ne 4, 3) := by decide +kernel
theorem dX5_tryPiece_36 : decode cX5_tryPiece 36 = .ok (.return_, 1) := by decide +kernel
theorem dX5_tryPiece_37 : decode cX5_tryPiece 37 = .ok (.iload 5, 2) := by decide +kernel
theorem dX5_tryPiece_39 : decode cX5_tryPiece 39 = .ok (.aload_n 0, 1) := by decide +kernel
theorem dX5_tryPiece_40 : decode cX5_tryPiece 40 = .ok (.getfield 11, 3) := by decide +kernel
theorem dX5_tryPiece_43 : decode cX5_tryPiece 43 = .ok (.iload 7, 2) := by decide +kernel
theorem dX5_tryPiece_45 : decode cX5_tryPiece 45 = .ok (.iaload, 1) := by decide +kernel
theorem dX5_tryPiece_46 : decode cX5_tryPiece 46 = .ok (.iadd, 1) := by decide +kernel
theorem dX5_tryPiece_47 : decode cX5_tryPiece 47 = .ok (.istore 8, 2) := by decide +kernel
theorem dX5_tryPiece_49 : decode cX5_tryPiece 49 = .ok (.aload_n 0, 1) := by decide +kernel
theorem dX5_tryPiece_50 : decode cX5_tryPiece 50 = .ok (.getfield 36, 3) := by decide +kernel
theorem dX5_tryPiece_53 : decode cX5_tryPiece 53 = .ok (.iload_n 3, 1) := by decide +kernel
theorem dX5_tryPiece_54 : decode cX5_tryPiece 54 = .ok (.invokevirtual 105, 3) := by decide +kernel
theorem dX5_tryPiece_57 : decode cX5_tryPiece 57 = .ok (.aload_n 0, 1) := by decide +kernel
theorem dX5_tryPiece_58 : decode cX5_tryPiece 58 = .ok (.getfield 15, 3) := by decide +kernel
theorem dX5_tryPiece_61 : decode cX5_tryPiece 61 = .ok (.iload 7, 2) := by decide +kernel
theorem dX5_tryPiece_63 : decode cX5_tryPiece 63 = .ok (.iaload, 1) := by decide +kernel
theorem dX5_tryPiece_64 : decode cX5_tryPiece 64 = .ok (.imul, 1) := by decide +kernel
theorem dX5_tryPiece_65 : decode cX5_tryPiece 65 = .ok (.istore 9, 2) := by decide +kernel
theorem dX5_tryPiece_67 : decode cX5_tryPiece 67 = .ok (.iconst 0, 1) := by decide +kernel
theorem dX5_tryPiece_68 : decode cX5_tryPiece 68 = .ok (.istore 10, 2) := by decide +kernel
theorem dX5_tryPiece_70 : decode cX5_tryPiece 70 = .ok (.iload 10, 2) := by decide +kernel
theorem dX5_tryPiece_72 : decode cX5_tryPiece 72 = .ok (.iconst 3, 1) := by decide +kernel
theorem dX5_tryPiece_73 : decode cX5_tryPiece 73 = .ok (.if_icmp .gt 122, 3) := by decide +kernel
theorem dX5_tryPiece_76 : decode cX5_tryPiece 76 = .ok (.iload 10, 2) := by decide +kernel
theorem dX5_tryPiece_78 : decode cX5_tryPiece 78 = .ok (.iload 6, 2) := by decide +kernel
theorem dX5_tryPiece_80 : decode cX5_tryPiece 80 = .ok (.if_icmp .eq 13, 3) := by decide +kernel
theorem dX5_tryPiece_83 : decode cX5_tryPiece 83 = .ok (.iload 10, 2) := by decide +kernel
theorem dX5_tryPiece_85 : decode cX5_tryPiece 85 = .ok (.iconst 3, 1) := by decide +kernel
theorem dX5_tryPiece_86 : decode cX5_tryPiece 86 = .ok (.if_icmp .eq 7, 3) := by decide +kernel
theorem dX5_tryPiece_89 : decode cX5_tryPiece 89 = .ok (.iconst 1, 1) := by decide +kernel
theorem dX5_tryPiece_90 : decode cX5_tryPiece 90 = .ok (.goto 4, 3) := by decide +kernel
theorem dX5_tryPiece_93 : decode cX5_tryPiece 93 = .ok (.iconst 0, 1) := by decide +kernel
theorem dX5_tryPiece_94 : decode cX5_tryPiece 94 = .ok (.istore 11, 2) := by decide +kernel
theorem dX5_tryPiece_96 : decode cX5_tryPiece 96 = .ok (.iload_n 1, 1) := by decide +kernel
theorem dX5_tryPiece_97 : decode cX5_tryPiece 97 = .ok (.iload_n 2, 1) := by decide +kernel
theorem dX5_tryPiece_98 : decode cX5_tryPiece 98 = .ok (.iload 10, 2) := by decide +kernel
theorem dX5_tryPiece_100 : decode cX5_tryPiece 100 = .ok (.invokestatic 77, 3) := by decide +kernel
theorem dX5_tryPiece_103 : decode cX5_tryPiece 103 = .ok (.istore 12, 2) := by decide +kernel
theorem dX5_tryPiece_105 : decode cX5_tryPiece 105 = .ok (.aload_n 0, 1) := by decide +kernel
theorem dX5_tryPiece_106 : decode cX5_tryPiece 106 = .ok (.iload 11, 2) := by decide +kernel
theorem dX5_tryPiece_108 : decode cX5_tryPiece 108 = .ok (.ifCond .eq 16, 3) := by decide +kernel
theorem dX5_tryPiece_111 : decode cX5_tryPiece 111 = .ok (.iload 8, 2) := by decide +kernel
theorem dX5_tryPiece_113 : decode cX5_tryPiece 113 = .ok (.aload_n 0, 1) := by decide +kernel
theorem dX5_tryPiece_114 : decode cX5_tryPiece 114 = .ok (.getfield 40, 3) := by decide +kernel
theorem dX5_tryPiece_117 : decode cX5_tryPiece 117 = .ok (.invokevirtual 108, 3) := by decide +kernel
theorem dX5_tryPiece_120 : decode cX5_tryPiece 120 = .ok (.iadd, 1) := by decide +kernel
theorem dX5_tryPiece_121 : decode cX5_tryPiece 121 = .ok (.goto 5, 3) := by decide +kernel
theorem dX5_tryPiece_124 : decode cX5_tryPiece 124 = .ok (.iload 8, 2) := by decide +kernel
theorem dX5_tryPiece_126 : decode cX5_tryPiece 126 = .ok (.iload 9, 2) := by decide +kernel
theorem dX5_tryPiece_128 : decode cX5_tryPiece 128 = .ok (.iload 12, 2) := by decide +kernel
theorem dX5_tryPiece_130 : decode cX5_tryPiece 130 = .ok (.invokevirtual 111, 3) := by decide +kernel
theorem dX5_tryPiece_133 : decode cX5_tryPiece 133 = .ok (.ifCond .eq 56, 3) := by decide +kernel
theorem dX5_tryPiece_136 : decode cX5_tryPiece 136 = .ok (.aload_n 0, 1) := by decide +kernel
theorem dX5_tryPiece_137 : decode cX5_tryPiece 137 = .ok (.getfield 11, 3) := by decide +kernel
theorem dX5_tryPiece_140 : decode cX5_tryPiece 140 = .ok (.iload 12, 2) := by decide +kernel
theorem dX5_tryPiece_142 : decode cX5_tryPiece 142 = .ok (.iload 11, 2) := by decide +kernel
theorem dX5_tryPiece_144 : decode cX5_tryPiece 144 = .ok (.ifCond .eq 16, 3) := by decide +kernel
theorem dX5_tryPiece_147 : decode cX5_tryPiece 147 = .ok (.iload 8, 2) := by decide +kernel
theorem dX5_tryPiece_149 : decode cX5_tryPiece 149 = .ok (.aload_n 0, 1) := by decide +kernel
theorem dX5_tryPiece_150 : decode cX5_tryPiece 150 = .ok (.getfield 40, 3) := by decide +kernel
theorem dX5_tryPiece_153 : decode cX5_tryPiece 153 = .ok (.invokevirtual 108, 3) := by decide +kernel
theorem dX5_tryPiece_156 : decode cX5_tryPiece 156 = .ok (.iadd, 1) := by decide +kernel
theorem dX5_tryPiece_157 : decode cX5_tryPiece 157 = .ok (.goto 5, 3) := by decide +kernel
theorem dX5_tryPiece_160 : decode cX5_tryPiece 160 = .ok (.iload 8, 2) := by decide +kernel
theorem dX5_tryPiece_162 : decode cX5_tryPiece 162 = .ok (.iastore, 1) := by decide +kernel
theorem dX5_tryPiece_163 : decode cX5_tryPiece 163 = .ok (.aload_n 0, 1) := by decide +kernel
theorem dX5_tryPiece_164 : decode cX5_tryPiece 164 = .ok (.getfield 15, 3) := by decide +kernel
theorem dX5_tryPiece_167 : decode cX5_tryPiece 167 = .ok (.iload 12, 2) := by decide +kernel
theorem dX5_tryPiece_169 : decode cX5_tryPiece 169 = .ok (.iload 9, 2) := by decide +kernel
theorem dX5_tryPiece_171 : decode cX5_tryPiece 171 = .ok (.iastore, 1) := by decide +kernel
theorem dX5_tryPiece_172 : decode cX5_tryPiece 172 = .ok (.aload_n 0, 1) := by decide +kernel
theorem dX5_tryPiece_173 : decode cX5_tryPiece 173 = .ok (.getfield 18, 3) := by decide +kernel
theorem dX5_tryPiece_176 : decode cX5_tryPiece 176 = .ok (.iload 12, 2) := by decide +kernel
theorem dX5_tryPiece_178 : decode cX5_tryPiece 178 = .ok (.iload_n 3, 1) := by decide +kernel
theorem dX5_tryPiece_179 : decode cX5_tryPiece 179 = .ok (.iastore, 1) := by decide +kernel
theorem dX5_tryPiece_180 : decode cX5_tryPiece 180 = .ok (.aload_n 0, 1) := by decide +kernel
theorem dX5_tryPiece_181 : decode cX5_tryPiece 181 = .ok (.getfield 21, 3) := by decide +kernel
theorem dX5_tryPiece_184 : decode cX5_tryPiece 184 = .ok (.iload 12, 2) := by decide +kernel
theorem dX5_tryPiece_186 : decode cX5_tryPiece 186 = .ok (.iload 4, 2) := by decide +kernel
theorem dX5_tryPiece_188 : decode cX5_tryPiece 188 = .ok (.iastore, 1) := by decide +kernel
theorem dX5_tryPiece_189 : decode cX5_tryPiece 189 = .ok (.iinc 10 1, 3) := by decide +kernel
theorem dX5_tryPiece_192 : decode cX5_tryPiece 192 = .ok (.goto (-122), 3) := by decide +kernel
theorem dX5_tryPiece_195 : decode cX5_tryPiece 195 = .ok (.return_, 1) := by decide +kernel
theorem dX5_isBetter_0 : decode cX5_isBetter 0 = .ok (.iload_n 1, 1) := by decide +kernel
theorem dX5_isBetter_1 : decode cX5_isBetter 1 = .ok (.aload_n 0, 1) := by decide +kernel
theorem dX5_isBetter_2 : decode cX5_isBetter 2 = .ok (.getfield 11, 3) := by decide +kernel
theorem dX5_isBetter_5 : decode cX5_isBetter 5 = .ok (.iload_n 3, 1) := by decide +kernel
theorem dX5_isBetter_6 : decode cX5_isBetter 6 = .ok (.iaload, 1) := by decide +kernel
theorem dX5_isBetter_7 : decode cX5_isBetter 7 = .ok (.if_icmp .lt 23, 3) := by decide +kernel
theorem dX5_isBetter_10 : decode cX5_isBetter 10 = .ok (.iload_n 1, 1) := by decide +kernel
theorem dX5_isBetter_11 : decode cX5_isBetter 11 = .ok (.aload_n 0, 1) := by decide +kernel
theorem dX5_isBetter_12 : decode cX5_isBetter 12 = .ok (.getfield 11, 3) := by decide +kernel
theorem dX5_isBetter_15 : decode cX5_isBetter 15 = .ok (.iload_n 3, 1) := by decide +kernel
theorem dX5_isBetter_16 : decode cX5_isBetter 16 = .ok (.iaload, 1) := by decide +kernel
theorem dX5_isBetter_17 : decode cX5_isBetter 17 = .ok (.if_icmp .ne 17, 3) := by decide +kernel
theorem dX5_isBetter_20 : decode cX5_isBetter 20 = .ok (.iload_n 2, 1) := by decide +kernel
theorem dX5_isBetter_21 : decode cX5_isBetter 21 = .ok (.aload_n 0, 1) := by decide +kernel
theorem dX5_isBetter_22 : decode cX5_isBetter 22 = .ok (.getfield 15, 3) := by decide +kernel
theorem dX5_isBetter_25 : decode cX5_isBetter 25 = .ok (.iload_n 3, 1) := by decide +kernel
theorem dX5_isBetter_26 : decode cX5_isBetter 26 = .ok (.iaload, 1) := by decide +kernel
theorem dX5_isBetter_27 : decode cX5_isBetter 27 = .ok (.if_icmp .le 7, 3) := by decide +kernel
theorem dX5_isBetter_30 : decode cX5_isBetter 30 = .ok (.iconst 1, 1) := by decide +kernel
theorem dX5_isBetter_31 : decode cX5_isBetter 31 = .ok (.goto 4, 3) := by decide +kernel
theorem dX5_isBetter_34 : decode cX5_isBetter 34 = .ok (.iconst 0, 1) := by decide +kernel
theorem dX5_isBetter_35 : decode cX5_isBetter 35 = .ok (.ireturn, 1) := by decide +kernel
theorem dX5_bestNumberOfPieces_0 : decode cX5_bestNumberOfPieces 0 = .ok (.iconst 0, 1) := by decide +kernel
theorem dX5_bestNumberOfPieces_1 : decode cX5_bestNumberOfPieces 1 = .ok (.istore_n 1, 1) := by decide +kernel
theorem dX5_bestNumberOfPieces_2 : decode cX5_bestNumberOfPieces 2 = .ok (.iconst 1, 1) := by decide +kernel
theorem dX5_bestNumberOfPieces_3 : decode cX5_bestNumberOfPieces 3 = .ok (.istore_n 2, 1) := by decide +kernel
theorem dX5_bestNumberOfPieces_4 : decode cX5_bestNumberOfPieces 4 = .ok (.iload_n 2, 1) := by decide +kernel
theorem dX5_bestNumberOfPieces_5 : decode cX5_bestNumberOfPieces 5 = .ok (.iconst 4, 1) := by decide +kernel
theorem dX5_bestNumberOfPieces_6 : decode cX5_bestNumberOfPieces 6 = .ok (.if_icmp .gt 58, 3) := by decide +kernel
theorem dX5_bestNumberOfPieces_9 : decode cX5_bestNumberOfPieces 9 = .ok (.iconst 0, 1) := by decide +kernel
theorem dX5_bestNumberOfPieces_10 : decode cX5_bestNumberOfPieces 10 = .ok (.iload_n 2, 1) := by decide +kernel
theorem dX5_bestNumberOfPieces_11 : decode cX5_bestNumberOfPieces 11 = .ok (.iconst 3, 1) := by decide +kernel
theorem dX5_bestNumberOfPieces_12 : decode cX5_bestNumberOfPieces 12 = .ok (.invokestatic 77, 3) := by decide +kernel
theorem dX5_bestNumberOfPieces_15 : decode cX5_bestNumberOfPieces 15 = .ok (.istore_n 3, 1) := by decide +kernel
theorem dX5_bestNumberOfPieces_16 : decode cX5_bestNumberOfPieces 16 = .ok (.aload_n 0, 1) := by decide +kernel
theorem dX5_bestNumberOfPieces_17 : decode cX5_bestNumberOfPieces 17 = .ok (.getfield 11, 3) := by decide +kernel
theorem dX5_bestNumberOfPieces_20 : decode cX5_bestNumberOfPieces 20 = .ok (.iload_n 3, 1) := by decide +kernel
theorem dX5_bestNumberOfPieces_21 : decode cX5_bestNumberOfPieces 21 = .ok (.iaload, 1) := by decide +kernel
theorem dX5_bestNumberOfPieces_22 : decode cX5_bestNumberOfPieces 22 = .ok (.ldc 76, 2) := by decide +kernel
theorem dX5_bestNumberOfPieces_24 : decode cX5_bestNumberOfPieces 24 = .ok (.if_icmp .ge 34, 3) := by decide +kernel
theorem dX5_bestNumberOfPieces_27 : decode cX5_bestNumberOfPieces 27 = .ok (.iload_n 1, 1) := by decide +kernel
theorem dX5_bestNumberOfPieces_28 : decode cX5_bestNumberOfPieces 28 = .ok (.ifCond .eq 28, 3) := by decide +kernel
theorem dX5_bestNumberOfPieces_31 : decode cX5_bestNumberOfPieces 31 = .ok (.aload_n 0, 1) := by decide +kernel
theorem dX5_bestNumberOfPieces_32 : decode cX5_bestNumberOfPieces 32 = .ok (.aload_n 0, 1) := by decide +kernel
theorem dX5_bestNumberOfPieces_33 : decode cX5_bestNumberOfPieces 33 = .ok (.getfield 11, 3) := by decide +kernel
theorem dX5_bestNumberOfPieces_36 : decode cX5_bestNumberOfPieces 36 = .ok (.iload_n 3, 1) := by decide +kernel
theorem dX5_bestNumberOfPieces_37 : decode cX5_bestNumberOfPieces 37 = .ok (.iaload, 1) := by decide +kernel
theorem dX5_bestNumberOfPieces_38 : decode cX5_bestNumberOfPieces 38 = .ok (.aload_n 0, 1) := by decide +kernel
theorem dX5_bestNumberOfPieces_39 : decode cX5_bestNumberOfPieces 39 = .ok (.getfield 15, 3) := by decide +kernel
theorem dX5_bestNumberOfPieces_42 : decode cX5_bestNumberOfPieces 42 = .ok (.iload_n 3, 1) := by decide +kernel
theorem dX5_bestNumberOfPieces_43 : decode cX5_bestNumberOfPieces 43 = .ok (.iaload, 1) := by decide +kernel
theorem dX5_bestNumberOfPieces_44 : decode cX5_bestNumberOfPieces 44 = .ok (.iconst 0, 1) := by decide +kernel
theorem dX5_bestNumberOfPieces_45 : decode cX5_bestNumberOfPieces 45 = .ok (.iload_n 1, 1) := by decide +kernel
theorem dX5_bestNumberOfPieces_46 : decode cX5_bestNumberOfPieces 46 = .ok (.iconst 3, 1) := by decide +kernel
theorem dX5_bestNumberOfPieces_47 : decode cX5_bestNumberOfPieces 47 = .ok (.invokestatic 77, 3) := by decide +kernel
theorem dX5_bestNumberOfPieces_50 : decode cX5_bestNumberOfPieces 50 = .ok (.invokevirtual 111, 3) := by decide +kernel
theorem dX5_bestNumberOfPieces_53 : decode cX5_bestNumberOfPieces 53 = .ok (.ifCond .eq 5, 3) := by decide +kernel
theorem dX5_bestNumberOfPieces_56 : decode cX5_bestNumberOfPieces 56 = .ok (.iload_n 2, 1) := by decide +kernel
theorem dX5_bestNumberOfPieces_57 : decode cX5_bestNumberOfPieces 57 = .ok (.istore_n 1, 1) := by decide +kernel
theorem dX5_bestNumberOfPieces_58 : decode cX5_bestNumberOfPieces 58 = .ok (.iinc 2 1, 3) := by decide +kernel
theorem dX5_bestNumberOfPieces_61 : decode cX5_bestNumberOfPieces 61 = .ok (.goto (-57), 3) := by decide +kernel
theorem dX5_bestNumberOfPieces_64 : decode cX5_bestNumberOfPieces 64 = .ok (.iload_n 1, 1) := by decide +kernel
theorem dX5_bestNumberOfPieces_65 : decode cX5_bestNumberOfPieces 65 = .ok (.ireturn, 1) := by decide +kernel
theorem dX5_follow_0 : decode cX5_follow 0 = .ok (.aload_n 0, 1) := by decide +kernel
theorem dX5_follow_1 : decode cX5_follow 1 = .ok (.getfield 29, 3) := by decide +kernel
theorem dX5_follow_4 : decode cX5_follow 4 = .ok (.invokevirtual 115, 3) := by decide +kernel
theorem dX5_follow_7 : decode cX5_follow 7 = .ok (.pop, 1) := by decide +kernel
theorem dX5_follow_8 : decode cX5_follow 8 = .ok (.aload_n 0, 1) := by decide +kernel
theorem dX5_follow_9 : decode cX5_follow 9 = .ok (.getfield 33, 3) := by decide +kernel
theorem dX5_follow_12 : decode cX5_follow 12 = .ok (.invokevirtual 115, 3) := by decide +kernel
theorem dX5_follow_15 : decode cX5_follow 15 = .ok (.pop, 1) := by decide +kernel
theorem dX5_follow_16 : decode cX5_follow 16 = .ok (.aload_n 0, 1) := by decide +kernel
theorem dX5_follow_17 : decode cX5_follow 17 = .ok (.aload_n 0, 1) := by decide +kernel
theorem dX5_follow_18 : decode cX5_follow 18 = .ok (.getfield 11, 3) := by decide +kernel
theorem dX5_follow_21 : decode cX5_follow 21 = .ok (.iconst 0, 1) := by decide +kernel
theorem dX5_follow_22 : decode cX5_follow 22 = .ok (.iload_n 1, 1) := by decide +kernel
theorem dX5_follow_23 : decode cX5_follow 23 = .ok (.iconst 3, 1) := by decide +kernel
theorem dX5_follow_24 : decode cX5_follow 24 = .ok (.invokestatic 77, 3) := by decide +kernel
theorem dX5_follow_27 : decode cX5_follow 27 = .ok (.iaload, 1) := by decide +kernel
theorem dX5_follow_28 : decode cX5_follow 28 = .ok (.putfield 44, 3) := by decide +kernel
theorem dX5_follow_31 : decode cX5_follow 31 = .ok (.iconst 0, 1) := by decide +kernel
theorem dX5_follow_32 : decode cX5_follow 32 = .ok (.istore_n 2, 1) := by decide +kernel
theorem dX5_follow_33 : decode cX5_follow 33 = .ok (.iconst 3, 1) := by decide +kernel
theorem dX5_follow_34 : decode cX5_follow 34 = .ok (.istore_n 3, 1) := by decide +kernel
theorem dX5_follow_35 : decode cX5_follow 35 = .ok (.iload_n 1, 1) := by decide +kernel
theorem dX5_follow_36 : decode cX5_follow 36 = .ok (.istore 4, 2) := by decide +kernel
theorem dX5_follow_38 : decode cX5_follow 38 = .ok (.iload 4, 2) := by decide +kernel
theorem dX5_follow_40 : decode cX5_follow 40 = .ok (.ifCond .le 71, 3) := by decide +kernel
theorem dX5_follow_43 : decode cX5_follow 43 = .ok (.iload_n 2, 1) := by decide +kernel
theorem dX5_follow_44 : decode cX5_follow 44 = .ok (.iload 4, 2) := by decide +kernel
theorem dX5_follow_46 : decode cX5_follow 46 = .ok (.iload_n 3, 1) := by decide +kernel
theorem dX5_follow_47 : decode cX5_follow 47 = .ok (.invokestatic 77, 3) := by decide +kernel
theorem dX5_follow_50 : decode cX5_follow 50 = .ok (.istore 5, 2) := by decide +kernel
theorem dX5_follow_52 : decode cX5_follow 52 = .ok (.aload_n 0, 1) := by decide +kernel
theorem dX5_follow_53 : decode cX5_follow 53 = .ok (.getfield 29, 3) := by decide +kernel
theorem dX5_follow_56 : decode cX5_follow 56 = .ok (.aload_n 0, 1) := by decide +kernel
theorem dX5_follow_57 : decode cX5_follow 57 = .ok (.getfield 18, 3) := by decide +kernel
theorem dX5_follow_60 : decode cX5_follow 60 = .ok (.iload 5, 2) := by decide +kernel
theorem dX5_follow_62 : decode cX5_follow 62 = .ok (.iaload, 1) := by decide +kernel
theorem dX5_follow_63 : decode cX5_follow 63 = .ok (.invokevirtual 118, 3) := by decide +kernel
theorem dX5_follow_66 : decode cX5_follow 66 = .ok (.aload_n 0, 1) := by decide +kernel
theorem dX5_follow_67 : decode cX5_follow 67 = .ok (.getfield 33, 3) := by decide +kernel
theorem dX5_follow_70 : decode cX5_follow 70 = .ok (.aload_n 0, 1) := by decide +kernel
theorem dX5_follow_71 : decode cX5_follow 71 = .ok (.getfield 21, 3) := by decide +kernel
theorem dX5_follow_74 : decode cX5_follow 74 = .ok (.iload 5, 2) := by decide +kernel
theorem dX5_follow_76 : decode cX5_follow 76 = .ok (.iaload, 1) := by decide +kernel
theorem dX5_follow_77 : decode cX5_follow 77 = .ok (.invokevirtual 118, 3) := by decide +kernel
theorem dX5_follow_80 : decode cX5_follow 80 = .ok (.iload_n 2, 1) := by decide +kernel
theorem dX5_follow_81 : decode cX5_follow 81 = .ok (.aload_n 0, 1) := by decide +kernel
theorem dX5_follow_82 : decode cX5_follow 82 = .ok (.getfield 21, 3) := by decide +kernel
theorem dX5_follow_85 : decode cX5_follow 85 = .ok (.iload 5, 2) := by decide +kernel
theorem dX5_follow_87 : decode cX5_follow 87 = .ok (.iaload, 1) := by decide +kernel
theorem dX5_follow_88 : decode cX5_follow 88 = .ok (.iadd, 1) := by decide +kernel
theorem dX5_follow_89 : decode cX5_follow 89 = .ok (.istore_n 2, 1) := by decide +kernel
theorem dX5_follow_90 : decode cX5_follow 90 = .ok (.aload_n 0, 1) := by decide +kernel
theorem dX5_follow_91 : decode cX5_follow 91 = .ok (.getfield 36, 3) := by decide +kernel
theorem dX5_follow_94 : decode cX5_follow 94 = .ok (.aload_n 0, 1) := by decide +kernel
theorem dX5_follow_95 : decode cX5_follow 95 = .ok (.getfield 18, 3) := by decide +kernel
theorem dX5_follow_98 : decode cX5_follow 98 = .ok (.iload 5, 2) := by decide +kernel
theorem dX5_follow_100 : decode cX5_follow 100 = .ok (.iaload, 1) := by decide +kernel
theorem dX5_follow_101 : decode cX5_follow 101 = .ok (.invokevirtual 58, 3) := by decide +kernel
theorem dX5_follow_104 : decode cX5_follow 104 = .ok (.istore_n 3, 1) := by decide +kernel
theorem dX5_follow_105 : decode cX5_follow 105 = .ok (.iinc 4 (-1), 3) := by decide +kernel
theorem dX5_follow_108 : decode cX5_follow 108 = .ok (.goto (-70), 3) := by decide +kernel
theorem dX5_follow_111 : decode cX5_follow 111 = .ok (.return_, 1) := by decide +kernel
theorem dX6_init_0 : decode cX6_init 0 = .ok (.aload_n 0, 1) := by decide +kernel
theorem dX6_init_1 : decode cX6_init 1 = .ok (.invokespecial 3, 3) := by decide +kernel
theorem dX6_init_4 : decode cX6_init 4 = .ok (.aload_n 0, 1) := by decide +kernel
theorem dX6_init_5 : decode cX6_init 5 = .ok (.iload_n 1, 1) := by decide +kernel
theorem dX6_init_6 : decode cX6_init 6 = .ok (.iconst 0, 1) := by decide +kernel
theorem dX6_init_7 : decode cX6_init 7 = .ok (.invokestatic 9, 3) := by decide +kernel
theorem dX6_init_10 : decode cX6_init 10 = .ok (.newarray .int, 2) := by decide +kernel
theorem dX6_init_12 : decode cX6_init 12 = .ok (.putfield 15, 3) := by decide +kernel
theorem dX6_init_15 : decode cX6_init 15 = .ok (.return_, 1) := by decide +kernel
theorem dX6_size_0 : decode cX6_size 0 = .ok (.aload_n 0, 1) := by decide +kernel
theorem dX6_size_1 : decode cX6_size 1 = .ok (.getfield 21, 3) := by decide +kernel
theorem dX6_size_4 : decode cX6_size 4 = .ok (.ireturn, 1) := by decide +kernel
theorem dX6_isEmpty_0 : decode cX6_isEmpty 0 = .ok (.aload_n 0, 1) := by decide +kernel
theorem dX6_isEmpty_1 : decode cX6_isEmpty 1 = .ok (.getfield 21, 3) := by decide +kernel
theorem dX6_isEmpty_4 : decode cX6_isEmpty 4 = .ok (.ifCond .ne 7, 3) := by decide +kernel
theorem dX6_isEmpty_7 : decode cX6_isEmpty 7 = .ok (.iconst 1, 1) := by decide +kernel
theorem dX6_isEmpty_8 : decode cX6_isEmpty 8 = .ok (.goto 4, 3) := by decide +kernel
theorem dX6_isEmpty_11 : decode cX6_isEmpty 11 = .ok (.iconst 0, 1) := by decide +kernel
theorem dX6_isEmpty_12 : decode cX6_isEmpty 12 = .ok (.ireturn, 1) := by decide +kernel
theorem dX6_isFull_0 : decode cX6_isFull 0 = .ok (.aload_n 0, 1) := by decide +kernel
theorem dX6_isFull_1 : decode cX6_isFull 1 = .ok (.getfield 21, 3) := by decide +kernel
theorem dX6_isFull_4 : decode cX6_isFull 4 = .ok (.aload_n 0, 1) := by decide +kernel
theorem dX6_isFull_5 : decode cX6_isFull 5 = .ok (.getfield 15, 3) := by decide +kernel
theorem dX6_isFull_8 : decode cX6_isFull 8 = .ok (.arraylength, 1) := by decide +kernel
theorem dX6_isFull_9 : decode cX6_isFull 9 = .ok (.if_icmp .lt 7, 3) := by decide +kernel
theorem dX6_isFull_12 : decode cX6_isFull 12 = .ok (.iconst 1, 1) := by decide +kernel
theorem dX6_isFull_13 : decode cX6_isFull 13 = .ok (.goto 4, 3) := by decide +kernel
theorem dX6_isFull_16 : decode cX6_isFull 16 = .ok (.iconst 0, 1) := by decide +kernel
theorem dX6_isFull_17 : decode cX6_isFull 17 = .ok (.ireturn, 1) := by decide +kernel
theorem dX6_has_0 : decode cX6_has 0 = .ok (.iload_n 1, 1) := by decide +kernel
theorem dX6_has_1 : decode cX6_has 1 = .ok (.ifCond .lt 15, 3) := by decide +kernel
theorem dX6_has_4 : decode cX6_has 4 = .ok (.iload_n 1, 1) := by decide +kernel
theorem dX6_has_5 : decode cX6_has 5 = .ok (.aload_n 0, 1) := by decide +kernel
theorem dX6_has_6 : decode cX6_has 6 = .ok (.getfield 21, 3) := by decide +kernel
theorem dX6_has_9 : decode cX6_has 9 = .ok (.if_icmp .ge 7, 3) := by decide +kernel
theorem dX6_has_12 : decode cX6_has 12 = .ok (.iconst 1, 1) := by decide +kernel
theorem dX6_has_13 : decode cX6_has 13 = .ok (.goto 4, 3) := by decide +kernel
theorem dX6_has_16 : decode cX6_has 16 = .ok (.iconst 0, 1) := by decide +kernel
theorem dX6_has_17 : decode cX6_has 17 = .ok (.ireturn, 1) := by decide +kernel
theorem dX6_at_0 : decode cX6_at 0 = .ok (.iload_n 1, 1) := by decide +kernel
theorem dX6_at_1 : decode cX6_at 1 = .ok (.ifCond .lt 20, 3) := by decide +kernel
theorem dX6_at_4 : decode cX6_at 4 = .ok (.iload_n 1, 1) := by decide +kernel
theorem dX6_at_5 : decode cX6_at 5 = .ok (.aload_n 0, 1) := by decide +kernel
theorem dX6_at_6 : decode cX6_at 6 = .ok (.getfield 21, 3) := by decide +kernel
theorem dX6_at_9 : decode cX6_at 9 = .ok (.if_icmp .ge 12, 3) := by decide +kernel
theorem dX6_at_12 : decode cX6_at 12 = .ok (.aload_n 0, 1) := by decide +kernel
theorem dX6_at_13 : decode cX6_at 13 = .ok (.getfield 15, 3) := by decide +kernel
theorem dX6_at_16 : decode cX6_at 16 = .ok (.iload_n 1, 1) := by decide +kernel
theorem dX6_at_17 : decode cX6_at 17 = .ok (.iaload, 1) := by decide +kernel
theorem dX6_at_18 : decode cX6_at 18 = .ok (.goto 4, 3) := by decide +kernel
theorem dX6_at_21 : decode cX6_at 21 = .ok (.iconst (-1), 1) := by decide +kernel
theorem dX6_at_22 : decode cX6_at 22 = .ok (.ireturn, 1) := by decide +kernel
theorem dX6_add_0 : decode cX6_add 0 = .ok (.aload_n 0, 1) := by decide +kernel
theorem dX6_add_1 : decode cX6_add 1 = .ok (.aload_n 0, 1) := by decide +kernel
theorem dX6_add_2 : decode cX6_add 2 = .ok (.getfield 21, 3) := by decide +kernel
theorem dX6_add_5 : decode cX6_add 5 = .ok (.iload_n 1, 1) := by decide +kernel
theorem dX6_add_6 : decode cX6_add 6 = .ok (.invokevirtual 25, 3) := by decide +kernel
theorem dX6_add_9 : decode cX6_add 9 = .ok (.return_, 1) := by decide +kernel
theorem dX6_insert_0 : decode cX6_insert 0 = .ok (.aload_n 0, 1) := by decide +kernel
theorem dX6_insert_1 : decode cX6_insert 1 = .ok (.invokevirtual 29, 3) := by decide +kernel
theorem dX6_insert_4 : decode cX6_insert 4 = .ok (.ifCond .ne 15, 3) := by decide +kernel
theorem dX6_insert_7 : decode cX6_insert 7 = .ok (.iload_n 1, 1) := by decide +kernel
theorem dX6_insert_8 : decode cX6_insert 8 = .ok (.ifCond .lt 11, 3) := by decide +kernel
theorem dX6_insert_11 : decode cX6_insert 11 = .ok (.iload_n 1, 1) := by decide +kernel
theorem dX6_insert_12 : decode cX6_insert 12 = .ok (.aload_n 0, 1) := by decide +kernel
theorem dX6_insert_13 : decode cX6_insert 13 = .ok (.getfield 21, 3) := by decide +kernel
theorem dX6_insert_16 : decode cX6_insert 16 = .ok (.if_icmp .le 4, 3) := by decide +kernel
theorem dX6_insert_19 : decode cX6_insert 19 = .ok (.return_, 1) := by decide +kernel
theorem dX6_insert_20 : decode cX6_insert 20 = .ok (.aload_n 0, 1) := by decide +kernel
theorem dX6_insert_21 : decode cX6_insert 21 = .ok (.getfield 21, 3) := by decide +kernel
theorem dX6_insert_24 : decode cX6_insert 24 = .ok (.istore_n 3, 1) := by decide +kernel
theorem dX6_insert_25 : decode cX6_insert 25 = .ok (.iload_n 3, 1) := by decide +kernel
theorem dX6_insert_26 : decode cX6_insert 26 = .ok (.iload_n 1, 1) := by decide +kernel
theorem dX6_insert_27 : decode cX6_insert 27 = .ok (.if_icmp .le 23, 3) := by decide +kernel
theorem dX6_insert_30 : decode cX6_insert 30 = .ok (.aload_n 0, 1) := by decide +kernel
theorem dX6_insert_31 : decode cX6_insert 31 = .ok (.getfield 15, 3) := by decide +kernel
theorem dX6_insert_34 : decode cX6_insert 34 = .ok (.iload_n 3, 1) := by decide +kernel
theorem dX6_insert_35 : decode cX6_insert 35 = .ok (.aload_n 0, 1) := by decide +kernel
theorem dX6_insert_36 : decode cX6_insert 36 = .ok (.getfield 15, 3) := by decide +kernel
theorem dX6_insert_39 : decode cX6_insert 39 = .ok (.iload_n 3, 1) := by decide +kernel
theorem dX6_insert_40 : decode cX6_insert 40 = .ok (.iconst 1, 1) := by decide +kernel
theorem dX6_insert_41 : decode cX6_insert 41 = .ok (.isub, 1) := by decide +kernel
theorem dX6_insert_42 : decode cX6_insert 42 = .ok (.iaload, 1) := by decide +kernel
theorem dX6_insert_43 : decode cX6_insert 43 = .ok (.iastore, 1) := by decide +kernel
theorem dX6_insert_44 : decode cX6_insert 44 = .ok (.iinc 3 (-1), 3) := by decide +kernel
theorem dX6_insert_47 : decode cX6_insert 47 = .ok (.goto (-22), 3) := by decide +kernel
theorem dX6_insert_50 : decode cX6_insert 50 = .ok (.aload_n 0, 1) := by decide +kernel
theorem dX6_insert_51 : decode cX6_insert 51 = .ok (.getfield 15, 3) := by decide +kernel
theorem dX6_insert_54 : decode cX6_insert 54 = .ok (.iload_n 1, 1) := by decide +kernel
theorem dX6_insert_55 : decode cX6_insert 55 = .ok (.iload_n 2, 1) := by decide +kernel
theorem dX6_insert_56 : decode cX6_insert 56 = .ok (.iastore, 1) := by decide +kernel
theorem dX6_insert_57 : decode cX6_insert 57 = .ok (.aload_n 0, 1) := by decide +kernel
theorem dX6_insert_58 : decode cX6_insert 58 = .ok (.dup, 1) := by decide +kernel
theorem dX6_insert_59 : decode cX6_insert 59 = .ok (.getfield 21, 3) := by decide +kernel
theorem dX6_insert_62 : decode cX6_insert 62 = .ok (.iconst 1, 1) := by decide +kernel
theorem dX6_insert_63 : decode cX6_insert 63 = .ok (.iadd, 1) := by decide +kernel
theorem dX6_insert_64 : decode cX6_insert 64 = .ok (.putfield 21, 3) := by decide +kernel
theorem dX6_insert_67 : decode cX6_insert 67 = .ok (.return_, 1) := by decide +kernel
theorem dX6_replace_0 : decode cX6_replace 0 = .ok (.aload_n 0, 1) := by decide +kernel
theorem dX6_replace_1 : decode cX6_replace 1 = .ok (.iload_n 1, 1) := by decide +kernel
theorem dX6_replace_2 : decode cX6_replace 2 = .ok (.invokevirtual 33, 3) := by decide +kernel
theorem dX6_replace_5 : decode cX6_replace 5 = .ok (.istore_n 3, 1) := by decide +kernel
theorem dX6_replace_6 : decode cX6_replace 6 = .ok (.aload_n 0, 1) := by decide +kernel
theorem dX6_replace_7 : decode cX6_replace 7 = .ok (.iload_n 1, 1) := by decide +kernel
theorem dX6_replace_8 : decode cX6_replace 8 = .ok (.invokevirtual 37, 3) := by decide +kernel
theorem dX6_replace_11 : decode cX6_replace 11 = .ok (.ifCond .eq 10, 3) := by decide +kernel
theorem dX6_replace_14 : decode cX6_replace 14 = .ok (.aload_n 0, 1) := by decide +kernel
theorem dX6_replace_15 : decode cX6_replace 15 = .ok (.getfield 15, 3) := by decide +kernel
theorem dX6_replace_18 : decode cX6_replace 18 = .ok (.iload_n 1, 1) := by decide +kernel
theorem dX6_replace_19 : decode cX6_replace 19 = .ok (.iload_n 2, 1) := by decide +kernel
theorem dX6_replace_20 : decode cX6_replace 20 = .ok (.iastore, 1) := by decide +kernel
theorem dX6_replace_21 : decode cX6_replace 21 = .ok (.iload_n 3, 1) := by decide +kernel
theorem dX6_replace_22 : decode cX6_replace 22 = .ok (.ireturn, 1) := by decide +kernel
theorem dX6_remove_0 : decode cX6_remove 0 = .ok (.aload_n 0, 1) := by decide +kernel
theorem dX6_remove_1 : decode cX6_remove 1 = .ok (.iload_n 1, 1) := by decide +kernel
theorem dX6_remove_2 : decode cX6_remove 2 = .ok (.invokevirtual 33, 3) := by decide +kernel
theorem dX6_remove_5 : decode cX6_remove 5 = .ok (.istore_n 2, 1) := by decide +kernel
theorem dX6_remove_6 : decode cX6_remove 6 = .ok (.aload_n 0, 1) := by decide +kernel
theorem dX6_remove_7 : decode cX6_remove 7 = .ok (.iload_n 1, 1) := by decide +kernel
theorem dX6_remove_8 : decode cX6_remove 8 = .ok (.invokevirtual 37, 3) := by decide +kernel
theorem dX6_remove_11 : decode cX6_remove 11 = .ok (.ifCond .eq 43, 3) := by decide +kernel
theorem dX6_remove_14 : decode cX6_remove 14 = .ok (.aload_n 0, 1) := by decide +kernel
theorem dX6_remove_15 : decode cX6_remove 15 = .ok (.dup, 1) := by decide +kernel
theorem dX6_remove_16 : decode cX6_remove 16 = .ok (.getfield 21, 3) := by decide +kernel
theorem dX6_remove_19 : decode cX6_remove 19 = .ok (.iconst 1, 1) := by decide +kernel
theorem dX6_remove_20 : decode cX6_remove 20 = .ok (.isub, 1) := by decide +kernel
theorem dX6_remove_21 : decode cX6_remove 21 = .ok (.putfield 21, 3) := by decide +kernel
theorem dX6_remove_24 : decode cX6_remove 24 = .ok (.iload_n 1, 1) := by decide +kernel
theorem dX6_remove_25 : decode cX6_remove 25 = .ok (.istore_n 3, 1) := by decide +kernel
theorem dX6_remove_26 : decode cX6_remove 26 = .ok (.iload_n 3, 1) := by decide +kernel
theorem dX6_remove_27 : decode cX6_remove 27 = .ok (.aload_n 0, 1) := by decide +kernel
theorem dX6_remove_28 : decode cX6_remove 28 = .ok (.getfield 21, 3) := by decide +kernel
theorem dX6_remove_31 : decode cX6_remove 31 = .ok (.if_icmp .ge 23, 3) := by decide +kernel
theorem dX6_remove_34 : decode cX6_remove 34 = .ok (.aload_n 0, 1) := by decide +kernel
theorem dX6_remove_35 : decode cX6_remove 35 = .ok (.getfield 15, 3) := by decide +kernel
theorem dX6_remove_38 : decode cX6_remove 38 = .ok (.iload_n 3, 1) := by decide +kernel
theorem dX6_remove_39 : decode cX6_remove 39 = .ok (.aload_n 0, 1) := by decide +kernel
theorem dX6_remove_40 : decode cX6_remove 40 = .ok (.getfield 15, 3) := by decide +kernel
theorem dX6_remove_43 : decode cX6_remove 43 = .ok (.iload_n 3, 1) := by decide +kernel
theorem dX6_remove_44 : decode cX6_remove 44 = .ok (.iconst 1, 1) := by decide +kernel
theorem dX6_remove_45 : decode cX6_remove 45 = .ok (.iadd, 1) := by decide +kernel
theorem dX6_remove_46 : decode cX6_remove 46 = .ok (.iaload, 1) := by decide +kernel
theorem dX6_remove_47 : decode cX6_remove 47 = .ok (.iastore, 1) := by decide +kernel
theorem dX6_remove_48 : decode cX6_remove 48 = .ok (.iinc 3 1, 3) := by decide +kernel
theorem dX6_remove_51 : decode cX6_remove 51 = .ok (.goto (-25), 3) := by decide +kernel
theorem dX6_remove_54 : decode cX6_remove 54 = .ok (.iload_n 2, 1) := by decide +kernel
theorem dX6_remove_55 : decode cX6_remove 55 = .ok (.ireturn, 1) := by decide +kernel
theorem dX6_clear_0 : decode cX6_clear 0 = .ok (.aload_n 0, 1) := by decide +kernel
theorem dX6_clear_1 : decode cX6_clear 1 = .ok (.getfield 21, 3) := by decide +kernel
theorem dX6_clear_4 : decode cX6_clear 4 = .ok (.istore_n 1, 1) := by decide +kernel
theorem dX6_clear_5 : decode cX6_clear 5 = .ok (.aload_n 0, 1) := by decide +kernel
theorem dX6_clear_6 : decode cX6_clear 6 = .ok (.iconst 0, 1) := by decide +kernel
theorem dX6_clear_7 : decode cX6_clear 7 = .ok (.putfield 21, 3) := by decide +kernel
theorem dX6_clear_10 : decode cX6_clear 10 = .ok (.iload_n 1, 1) := by decide +kernel
theorem dX6_clear_11 : decode cX6_clear 11 = .ok (.ireturn, 1) := by decide +kernel
theorem dX6_copy_0 : decode cX6_copy 0 = .ok (.aload_n 0, 1) := by decide +kernel
theorem dX6_copy_1 : decode cX6_copy 1 = .ok (.invokevirtual 41, 3) := by decide +kernel
theorem dX6_copy_4 : decode cX6_copy 4 = .ok (.pop, 1) := by decide +kernel
theorem dX6_copy_5 : decode cX6_copy 5 = .ok (.iconst 0, 1) := by decide +kernel
theorem dX6_copy_6 : decode cX6_copy 6 = .ok (.istore_n 2, 1) := by decide +kernel
theorem dX6_copy_7 : decode cX6_copy 7 = .ok (.iload_n 2, 1) := by decide +kernel
theorem dX6_copy_8 : decode cX6_copy 8 = .ok (.aload_n 1, 1) := by decide +kernel
theorem dX6_copy_9 : decode cX6_copy 9 = .ok (.getfield 21, 3) := by decide +kernel
theorem dX6_copy_12 : decode cX6_copy 12 = .ok (.if_icmp .ge 19, 3) := by decide +kernel
theorem dX6_copy_15 : decode cX6_copy 15 = .ok (.aload_n 0, 1) := by decide +kernel
theorem dX6_copy_16 : decode cX6_copy 16 = .ok (.aload_n 1, 1) := by decide +kernel
theorem dX6_copy_17 : decode cX6_copy 17 = .ok (.getfield 15, 3) := by decide +kernel
theorem dX6_copy_20 : decode cX6_copy 20 = .ok (.iload_n 2, 1) := by decide +kernel
theorem dX6_copy_21 : decode cX6_copy 21 = .ok (.iaload, 1) := by decide +kernel
theorem dX6_copy_22 : decode cX6_copy 22 = .ok (.invokevirtual 45, 3) := by decide +kernel
theorem dX6_copy_25 : decode cX6_copy 25 = .ok (.iinc 2 1, 3) := by decide +kernel
theorem dX6_copy_28 : decode cX6_copy 28 = .ok (.goto (-21), 3) := by decide +kernel
theorem dX6_copy_31 : decode cX6_copy 31 = .ok (.return_, 1) := by decide +kernel
theorem dX6_isLike_0 : decode cX6_isLike 0 = .ok (.aload_n 0, 1) := by decide +kernel
theorem dX6_isLike_1 : decode cX6_isLike 1 = .ok (.getfield 21, 3) := by decide +kernel
theorem dX6_isLike_4 : decode cX6_isLike 4 = .ok (.aload_n 1, 1) := by decide +kernel
theorem dX6_isLike_5 : decode cX6_isLike 5 = .ok (.getfield 21, 3) := by decide +kernel
theorem dX6_isLike_8 : decode cX6_isLike 8 = .ok (.if_icmp .ne 20, 3) := by decide +kernel
theorem dX6_isLike_11 : decode cX6_isLike 11 = .ok (.aload_n 0, 1) := by decide +kernel
theorem dX6_isLike_12 : decode cX6_isLike 12 = .ok (.aload_n 1, 1) := by decide +kernel
theorem dX6_isLike_13 : decode cX6_isLike 13 = .ok (.iconst 0, 1) := by decide +kernel
theorem dX6_isLike_14 : decode cX6_isLike 14 = .ok (.aload_n 0, 1) := by decide +kernel
theorem dX6_isLike_15 : decode cX6_isLike 15 = .ok (.getfield 21, 3) := by decide +kernel
theorem dX6_isLike_18 : decode cX6_isLike 18 = .ok (.invokevirtual 49, 3) := by decide +kernel
theorem dX6_isLike_21 : decode cX6_isLike 21 = .ok (.ifCond .eq 7, 3) := by decide +kernel
theorem dX6_isLike_24 : decode cX6_isLike 24 = .ok (.iconst 1, 1) := by decide +kernel
theorem dX6_isLike_25 : decode cX6_isLike 25 = .ok (.goto 4, 3) := by decide +kernel
theorem dX6_isLike_28 : decode cX6_isLike 28 = .ok (.iconst 0, 1) := by decide +kernel
theorem dX6_isLike_29 : decode cX6_isLike 29 = .ok (.ireturn, 1) := by decide +kernel
theorem dX6_agrees_0 : decode cX6_agrees 0 = .ok (.iload_n 3, 1) := by decide +kernel
theorem dX6_agrees_1 : decode cX6_agrees 1 = .ok (.aload_n 0, 1) := by decide +kernel
theorem dX6_agrees_2 : decode cX6_agrees 2 = .ok (.getfield 21, 3) := by decide +kernel
theorem dX6_agrees_5 : decode cX6_agrees 5 = .ok (.if_icmp .gt 17, 3) := by decide +kernel
theorem dX6_agrees_8 : decode cX6_agrees 8 = .ok (.iload_n 2, 1) := by decide +kernel
theorem dX6_agrees_9 : decode cX6_agrees 9 = .ok (.ifCond .lt 13, 3) := by decide +kernel
theorem dX6_agrees_12 : decode cX6_agrees 12 = .ok (.iload_n 3, 1) := by decide +kernel
theorem dX6_agrees_13 : decode cX6_agrees 13 = .ok (.aload_n 1, 1) := by decide +kernel
theorem dX6_agrees_14 : decode cX6_agrees 14 = .ok (.getfield 21, 3) := by decide +kernel
theorem dX6_agrees_17 : decode cX6_agrees 17 = .ok (.iload_n 2, 1) := by decide +kernel
theorem dX6_agrees_18 : decode cX6_agrees 18 = .ok (.isub, 1) := by decide +kernel
theorem dX6_agrees_19 : decode cX6_agrees 19 = .ok (.if_icmp .le 5, 3) := by decide +kernel
theorem dX6_agrees_22 : decode cX6_agrees 22 = .ok (.iconst 0, 1) := by decide +kernel
theorem dX6_agrees_23 : decode cX6_agrees 23 = .ok (.ireturn, 1) := by decide +kernel
theorem dX6_agrees_24 : decode cX6_agrees 24 = .ok (.iconst 0, 1) := by decide +kernel
theorem dX6_agrees_25 : decode cX6_agrees 25 = .ok (.istore 4, 2) := by decide +kernel
theorem dX6_agrees_27 : decode cX6_agrees 27 = .ok (.iload 4, 2) := by decide +kernel
theorem dX6_agrees_29 : decode cX6_agrees 29 = .ok (.iload_n 3, 1) := by decide +kernel
theorem dX6_agrees_30 : decode cX6_agrees 30 = .ok (.if_icmp .ge 30, 3) := by decide +kernel
theorem dX6_agrees_33 : decode cX6_agrees 33 = .ok (.aload_n 0, 1) := by decide +kernel
theorem dX6_agrees_34 : decode cX6_agrees 34 = .ok (.getfield 15, 3) := by decide +kernel
theorem dX6_agrees_37 : decode cX6_agrees 37 = .ok (.iload 4, 2) := by decide +kernel
theorem dX6_agrees_39 : decode cX6_agrees 39 = .ok (.iaload, 1) := by decide +kernel
theorem dX6_agrees_40 : decode cX6_agrees 40 = .ok (.aload_n 1, 1) := by decide +kernel
theorem dX6_agrees_41 : decode cX6_agrees 41 = .ok (.getfield 15, 3) := by decide +kernel
theorem dX6_agrees_44 : decode cX6_agrees 44 = .ok (.iload_n 2, 1) := by decide +kernel
theorem dX6_agrees_45 : decode cX6_agrees 45 = .ok (.iload 4, 2) := by decide +kernel
theorem dX6_agrees_47 : decode cX6_agrees 47 = .ok (.iadd, 1) := by decide +kernel
theorem dX6_agrees_48 : decode cX6_agrees 48 = .ok (.iaload, 1) := by decide +kernel
theorem dX6_agrees_49 : decode cX6_agrees 49 = .ok (.if_icmp .eq 5, 3) := by decide +kernel
theorem dX6_agrees_52 : decode cX6_agrees 52 = .ok (.iconst 0, 1) := by decide +kernel
theorem dX6_agrees_53 : decode cX6_agrees 53 = .ok (.ireturn, 1) := by decide +kernel
theorem dX6_agrees_54 : decode cX6_agrees 54 = .ok (.iinc 4 1, 3) := by decide +kernel
theorem dX6_agrees_57 : decode cX6_agrees 57 = .ok (.goto (-30), 3) := by decide +kernel
theorem dX6_agrees_60 : decode cX6_agrees 60 = .ok (.iconst 1, 1) := by decide +kernel
theorem dX6_agrees_61 : decode cX6_agrees 61 = .ok (.ireturn, 1) := by decide +kernel
theorem dX7_init_0 : decode cX7_init 0 = .ok (.aload_n 0, 1) := by decide +kernel
theorem dX7_init_1 : decode cX7_init 1 = .ok (.invokespecial 3, 3) := by decide +kernel
theorem dX7_init_4 : decode cX7_init 4 = .ok (.aload_n 0, 1) := by decide +kernel
theorem dX7_init_5 : decode cX7_init 5 = .ok (.bipush 6, 2) := by decide +kernel
theorem dX7_init_7 : decode cX7_init 7 = .ok (.newarray .int, 2) := by decide +kernel
theorem dX7_init_9 : decode cX7_init 9 = .ok (.dup, 1) := by decide +kernel
theorem dX7_init_10 : decode cX7_init 10 = .ok (.iconst 0, 1) := by decide +kernel
theorem dX7_init_11 : decode cX7_init 11 = .ok (.iconst 3, 1) := by decide +kernel
theorem dX7_init_12 : decode cX7_init 12 = .ok (.iastore, 1) := by decide +kernel
theorem dX7_init_13 : decode cX7_init 13 = .ok (.dup, 1) := by decide +kernel
theorem dX7_init_14 : decode cX7_init 14 = .ok (.iconst 1, 1) := by decide +kernel
theorem dX7_init_15 : decode cX7_init 15 = .ok (.iconst 3, 1) := by decide +kernel
theorem dX7_init_16 : decode cX7_init 16 = .ok (.iastore, 1) := by decide +kernel
theorem dX7_init_17 : decode cX7_init 17 = .ok (.dup, 1) := by decide +kernel
theorem dX7_init_18 : decode cX7_init 18 = .ok (.iconst 2, 1) := by decide +kernel
theorem dX7_init_19 : decode cX7_init 19 = .ok (.iconst 4, 1) := by decide +kernel
theorem dX7_init_20 : decode cX7_init 20 = .ok (.iastore, 1) := by decide +kernel
theorem dX7_init_21 : decode cX7_init 21 = .ok (.dup, 1) := by decide +kernel
theorem dX7_init_22 : decode cX7_init 22 = .ok (.iconst 3, 1) := by decide +kernel
theorem dX7_init_23 : decode cX7_init 23 = .ok (.iconst 3, 1) := by decide +kernel
theorem dX7_init_24 : decode cX7_init 24 = .ok (.iastore, 1) := by decide +kernel
theorem dX7_init_25 : decode cX7_init 25 = .ok (.dup, 1) := by decide +kernel
theorem dX7_init_26 : decode cX7_init 26 = .ok (.iconst 4, 1) := by decide +kernel
theorem dX7_init_27 : decode cX7_init 27 = .ok (.bipush 6, 2) := by decide +kernel
theorem dX7_init_29 : decode cX7_init 29 = .ok (.iastore, 1) := by decide +kernel
theorem dX7_init_30 : decode cX7_init 30 = .ok (.dup, 1) := by decide +kernel
theorem dX7_init_31 : decode cX7_init 31 = .ok (.iconst 5, 1) := by decide +kernel
theorem dX7_init_32 : decode cX7_init 32 = .ok (.iconst 5, 1) := by decide +kernel
theorem dX7_init_33 : decode cX7_init 33 = .ok (.iastore, 1) := by decide +kernel
theorem dX7_init_34 : decode cX7_init 34 = .ok (.putfield 9, 3) := by decide +kernel
theorem dX7_init_37 : decode cX7_init 37 = .ok (.aload_n 0, 1) := by decide +kernel
theorem dX7_init_38 : decode cX7_init 38 = .ok (.bipush 17, 2) := by decide +kernel
theorem dX7_init_40 : decode cX7_init 40 = .ok (.bipush 9, 2) := by decide +kernel
theorem dX7_init_42 : decode cX7_init 42 = .ok (.multianewarray 15 2, 4) := by decide +kernel
theorem dX7_init_46 : decode cX7_init 46 = .ok (.putfield 17, 3) := by decide +kernel
theorem dX7_init_49 : decode cX7_init 49 = .ok (.return_, 1) := by decide +kernel
theorem dX7_setPrice_0 : decode cX7_setPrice 0 = .ok (.aload_n 0, 1) := by decide +kernel
theorem dX7_setPrice_1 : decode cX7_setPrice 1 = .ok (.getfield 9, 3) := by decide +kernel
theorem dX7_setPrice_4 : decode cX7_setPrice 4 = .ok (.iload_n 1, 1) := by decide +kernel
theorem dX7_setPrice_5 : decode cX7_setPrice 5 = .ok (.iaload, 1) := by decide +kernel
theorem dX7_setPrice_6 : decode cX7_setPrice 6 = .ok (.istore_n 3, 1) := by decide +kernel
theorem dX7_setPrice_7 : decode cX7_setPrice 7 = .ok (.aload_n 0, 1) := by decide +kernel
theorem dX7_setPrice_8 : decode cX7_setPrice 8 = .ok (.getfield 9, 3) := by decide +kernel
theorem dX7_setPrice_11 : decode cX7_setPrice 11 = .ok (.iload_n 1, 1) := by decide +kernel
theorem dX7_setPrice_12 : decode cX7_setPrice 12 = .ok (.iload_n 2, 1) := by decide +kernel
theorem dX7_setPrice_13 : decode cX7_setPrice 13 = .ok (.iastore, 1) := by decide +kernel
theorem dX7_setPrice_14 : decode cX7_setPrice 14 = .ok (.iload_n 3, 1) := by decide +kernel
theorem dX7_setPrice_15 : decode cX7_setPrice 15 = .ok (.ireturn, 1) := by decide +kernel
theorem dX7_switchPrice_0 : decode cX7_switchPrice 0 = .ok (.aload_n 0, 1) := by decide +kernel
theorem dX7_switchPrice_1 : decode cX7_switchPrice 1 = .ok (.getfield 9, 3) := by decide +kernel
theorem dX7_switchPrice_4 : decode cX7_switchPrice 4 = .ok (.iconst 5, 1) := by decide +kernel
theorem dX7_switchPrice_5 : decode cX7_switchPrice 5 = .ok (.iaload, 1) := by decide +kernel
theorem dX7_switchPrice_6 : decode cX7_switchPrice 6 = .ok (.ireturn, 1) := by decide +kernel
theorem dX7_priceOf_0 : decode cX7_priceOf 0 = .ok (.aload_n 0, 1) := by decide +kernel
theorem dX7_priceOf_1 : decode cX7_priceOf 1 = .ok (.aload_n 1, 1) := by decide +kernel
theorem dX7_priceOf_2 : decode cX7_priceOf 2 = .ok (.iconst 0, 1) := by decide +kernel
theorem dX7_priceOf_3 : decode cX7_priceOf 3 = .ok (.aload_n 1, 1) := by decide +kernel
theorem dX7_priceOf_4 : decode cX7_priceOf 4 = .ok (.invokevirtual 20, 3) := by decide +kernel
theorem dX7_priceOf_7 : decode cX7_priceOf 7 = .ok (.aload_n 2, 1) := by decide +kernel
theorem dX7_priceOf_8 : decode cX7_priceOf 8 = .ok (.invokevirtual 26, 3) := by decide +kernel
theorem dX7_priceOf_11 : decode cX7_priceOf 11 = .ok (.aload_n 0, 1) := by decide +kernel
theorem dX7_priceOf_12 : decode cX7_priceOf 12 = .ok (.aload_n 1, 1) := by decide +kernel
theorem dX7_priceOf_13 : decode cX7_priceOf 13 = .ok (.invokevirtual 20, 3) := by decide +kernel
theorem dX7_priceOf_16 : decode cX7_priceOf 16 = .ok (.aload_n 2, 1) := by decide +kernel
theorem dX7_priceOf_17 : decode cX7_priceOf 17 = .ok (.invokevirtual 30, 3) := by decide +kernel
theorem dX7_priceOf_20 : decode cX7_priceOf 20 = .ok (.ireturn, 1) := by decide +kernel
theorem dX7_leastFor_0 : decode cX7_leastFor 0 = .ok (.aload_n 0, 1) := by decide +kernel
theorem dX7_leastFor_1 : decode cX7_leastFor 1 = .ok (.getfield 17, 3) := by decide +kernel
theorem dX7_leastFor_4 : decode cX7_leastFor 4 = .ok (.iload_n 1, 1) := by decide +kernel
theorem dX7_leastFor_5 : decode cX7_leastFor 5 = .ok (.aaload, 1) := by decide +kernel
theorem dX7_leastFor_6 : decode cX7_leastFor 6 = .ok (.aload_n 2, 1) := by decide +kernel
theorem dX7_leastFor_7 : decode cX7_leastFor 7 = .ok (.invokevirtual 20, 3) := by decide +kernel
theorem dX7_leastFor_10 : decode cX7_leastFor 10 = .ok (.iaload, 1) := by decide +kernel
theorem dX7_leastFor_11 : decode cX7_leastFor 11 = .ok (.ireturn, 1) := by decide +kernel
theorem dX7_workOut_0 : decode cX7_workOut 0 = .ok (.iconst 0, 1) := by decide +kernel
theorem dX7_workOut_1 : decode cX7_workOut 1 = .ok (.istore 5, 2) := by decide +kernel
theorem dX7_workOut_3 : decode cX7_workOut 3 = .ok (.iload 5, 2) := by decide +kernel
theorem dX7_workOut_5 : decode cX7_workOut 5 = .ok (.iload_n 3, 1) := by decide +kernel
theorem dX7_workOut_6 : decode cX7_workOut 6 = .ok (.if_icmp .gt 50, 3) := by decide +kernel
theorem dX7_workOut_9 : decode cX7_workOut 9 = .ok (.iconst 0, 1) := by decide +kernel
theorem dX7_workOut_10 : decode cX7_workOut 10 = .ok (.istore 6, 2) := by decide +kernel
theorem dX7_workOut_12 : decode cX7_workOut 12 = .ok (.iload 6, 2) := by decide +kernel
theorem dX7_workOut_14 : decode cX7_workOut 14 = .ok (.aload 4, 2) := by decide +kernel
theorem dX7_workOut_16 : decode cX7_workOut 16 = .ok (.invokevirtual 20, 3) := by decide +kernel
theorem dX7_workOut_19 : decode cX7_workOut 19 = .ok (.if_icmp .gt 31, 3) := by decide +kernel
theorem dX7_workOut_22 : decode cX7_workOut 22 = .ok (.aload_n 0, 1) := by decide +kernel
theorem dX7_workOut_23 : decode cX7_workOut 23 = .ok (.getfield 17, 3) := by decide +kernel
theorem dX7_workOut_26 : decode cX7_workOut 26 = .ok (.iload 5, 2) := by decide +kernel
theorem dX7_workOut_28 : decode cX7_workOut 28 = .ok (.aaload, 1) := by decide +kernel
theorem dX7_workOut_29 : decode cX7_workOut 29 = .ok (.iload 6, 2) := by decide +kernel
theorem dX7_workOut_31 : decode cX7_workOut 31 = .ok (.aload_n 0, 1) := by decide +kernel
theorem dX7_workOut_32 : decode cX7_workOut 32 = .ok (.aload_n 1, 1) := by decide +kernel
theorem dX7_workOut_33 : decode cX7_workOut 33 = .ok (.iload_n 2, 1) := by decide +kernel
theorem dX7_workOut_34 : decode cX7_workOut 34 = .ok (.iload 5, 2) := by decide +kernel
theorem dX7_workOut_36 : decode cX7_workOut 36 = .ok (.aload 4, 2) := by decide +kernel
theorem dX7_workOut_38 : decode cX7_workOut 38 = .ok (.iload 6, 2) := by decide +kernel
theorem dX7_workOut_40 : decode cX7_workOut 40 = .ok (.invokevirtual 34, 3) := by decide +kernel
theorem dX7_workOut_43 : decode cX7_workOut 43 = .ok (.iastore, 1) := by decide +kernel
theorem dX7_workOut_44 : decode cX7_workOut 44 = .ok (.iinc 6 1, 3) := by decide +kernel
theorem dX7_workOut_47 : decode cX7_workOut 47 = .ok (.goto (-35), 3) := by decide +kernel
theorem dX7_workOut_50 : decode cX7_workOut 50 = .ok (.iinc 5 1, 3) := by decide +kernel
theorem dX7_workOut_53 : decode cX7_workOut 53 = .ok (.goto (-50), 3) := by decide +kernel
theorem dX7_workOut_56 : decode cX7_workOut 56 = .ok (.return_, 1) := by decide +kernel
theorem dX7_leastSum_0 : decode cX7_leastSum 0 = .ok (.iload_n 3, 1) := by decide +kernel
theorem dX7_leastSum_1 : decode cX7_leastSum 1 = .ok (.ifCond .ne 13, 3) := by decide +kernel
theorem dX7_leastSum_4 : decode cX7_leastSum 4 = .ok (.iload 5, 2) := by decide +kernel
theorem dX7_leastSum_6 : decode cX7_leastSum 6 = .ok (.aload_n 0, 1) := by decide +kernel
theorem dX7_leastSum_7 : decode cX7_leastSum 7 = .ok (.getfield 9, 3) := by decide +kernel
theorem dX7_leastSum_10 : decode cX7_leastSum 10 = .ok (.iconst 2, 1) := by decide +kernel
theorem dX7_leastSum_11 : decode cX7_leastSum 11 = .ok (.iaload, 1) := by decide +kernel
theorem dX7_leastSum_12 : decode cX7_leastSum 12 = .ok (.imul, 1) := by decide +kernel
theorem dX7_leastSum_13 : decode cX7_leastSum 13 = .ok (.ireturn, 1) := by decide +kernel
theorem dX7_leastSum_14 : decode cX7_leastSum 14 = .ok (.aload_n 1, 1) := by decide +kernel
theorem dX7_leastSum_15 : decode cX7_leastSum 15 = .ok (.iload_n 2, 1) := by decide +kernel
theorem dX7_leastSum_16 : decode cX7_leastSum 16 = .ok (.iload_n 3, 1) := by decide +kernel
theorem dX7_leastSum_17 : decode cX7_leastSum 17 = .ok (.iadd, 1) := by decide +kernel
theorem dX7_leastSum_18 : decode cX7_leastSum 18 = .ok (.iconst 1, 1) := by decide +kernel
theorem dX7_leastSum_19 : decode cX7_leastSum 19 = .ok (.isub, 1) := by decide +kernel
theorem dX7_leastSum_20 : decode cX7_leastSum 20 = .ok (.invokevirtual 38, 3) := by decide +kernel
theorem dX7_leastSum_23 : decode cX7_leastSum 23 = .ok (.istore 6, 2) := by decide +kernel
theorem dX7_leastSum_25 : decode cX7_leastSum 25 = .ok (.iload_n 3, 1) := by decide +kernel
theorem dX7_leastSum_26 : decode cX7_leastSum 26 = .ok (.iconst 1, 1) := by decide +kernel
theorem dX7_leastSum_27 : decode cX7_leastSum 27 = .ok (.if_icmp .le 15, 3) := by decide +kernel
theorem dX7_leastSum_30 : decode cX7_leastSum 30 = .ok (.aload_n 1, 1) := by decide +kernel
theorem dX7_leastSum_31 : decode cX7_leastSum 31 = .ok (.iload_n 2, 1) := by decide +kernel
theorem dX7_leastSum_32 : decode cX7_leastSum 32 = .ok (.iload_n 3, 1) := by decide +kernel
theorem dX7_leastSum_33 : decode cX7_leastSum 33 = .ok (.iadd, 1) := by decide +kernel
theorem dX7_leastSum_34 : decode cX7_leastSum 34 = .ok (.iconst 2, 1) := by decide +kernel
theorem dX7_leastSum_35 : decode cX7_leastSum 35 = .ok (.isub, 1) := by decide +kernel
theorem dX7_leastSum_36 : decode cX7_leastSum 36 = .ok (.invokevirtual 38, 3) := by decide +kernel
theorem dX7_leastSum_39 : decode cX7_leastSum 39 = .ok (.goto 4, 3) := by decide +kernel
theorem dX7_leastSum_42 : decode cX7_leastSum 42 = .ok (.iconst (-1), 1) := by decide +kernel
theorem dX7_leastSum_43 : decode cX7_leastSum 43 = .ok (.istore 7, 2) := by decide +kernel
theorem dX7_leastSum_45 : decode cX7_leastSum 45 = .ok (.aload_n 0, 1) := by decide +kernel
theorem dX7_leastSum_46 : decode cX7_leastSum 46 = .ok (.getfield 17, 3) := by decide +kernel
theorem dX7_leastSum_49 : decode cX7_leastSum 49 = .ok (.iload_n 3, 1) := by decide +kernel
theorem dX7_leastSum_50 : decode cX7_leastSum 50 = .ok (.iconst 1, 1) := by decide +kernel
theorem dX7_leastSum_51 : decode cX7_leastSum 51 = .ok (.isub, 1) := by decide +kernel
theorem dX7_leastSum_52 : decode cX7_leastSum 52 = .ok (.aaload, 1) := by decide +kernel
theorem dX7_leastSum_53 : decode cX7_leastSum 53 = .ok (.iload 5, 2) := by decide +kernel
theorem dX7_leastSum_55 : decode cX7_leastSum 55 = .ok (.iaload, 1) := by decide +kernel
theorem dX7_leastSum_56 : decode cX7_leastSum 56 = .ok (.aload_n 0, 1) := by decide +kernel
theorem dX7_leastSum_57 : decode cX7_leastSum 57 = .ok (.getfield 9, 3) := by decide +kernel
theorem dX7_leastSum_60 : decode cX7_leastSum 60 = .ok (.iload 6, 2) := by decide +kernel
theorem dX7_leastSum_62 : decode cX7_leastSum 62 = .ok (.iload 7, 2) := by decide +kernel
theorem dX7_leastSum_64 : decode cX7_leastSum 64 = .ok (.if_icmp .ne 7, 3) := by decide +kernel
theorem dX7_leastSum_67 : decode cX7_leastSum 67 = .ok (.iconst 1, 1) := by decide +kernel
theorem dX7_leastSum_68 : decode cX7_leastSum 68 = .ok (.goto 4, 3) := by decide +kernel
theorem dX7_leastSum_71 : decode cX7_leastSum 71 = .ok (.iconst 4, 1) := by decide +kernel
theorem dX7_leastSum_72 : decode cX7_leastSum 72 = .ok (.iaload, 1) := by decide +kernel
theorem dX7_leastSum_73 : decode cX7_leastSum 73 = .ok (.iadd, 1) := by decide +kernel
theorem dX7_leastSum_74 : decode cX7_leastSum 74 = .ok (.istore 8, 2) := by decide +kernel
theorem dX7_leastSum_76 : decode cX7_leastSum 76 = .ok (.iload 5, 2) := by decide +kernel
theorem dX7_leastSum_78 : decode cX7_leastSum 78 = .ok (.ifCond .le 64, 3) := by decide +kernel
theorem dX7_leastSum_81 : decode cX7_leastSum 81 = .ok (.iload 8, 2) := by decide +kernel
theorem dX7_leastSum_83 : decode cX7_leastSum 83 = .ok (.aload_n 0, 1) := by decide +kernel
theorem dX7_leastSum_84 : decode cX7_leastSum 84 = .ok (.getfield 17, 3) := by decide +kernel
theorem dX7_leastSum_87 : decode cX7_leastSum 87 = .ok (.iload_n 3, 1) := by decide +kernel
theorem dX7_leastSum_88 : decode cX7_leastSum 88 = .ok (.aaload, 1) := by decide +kernel
theorem dX7_leastSum_89 : decode cX7_leastSum 89 = .ok (.iload 5, 2) := by decide +kernel
theorem dX7_leastSum_91 : decode cX7_leastSum 91 = .ok (.iconst 1, 1) := by decide +kernel
theorem dX7_leastSum_92 : decode cX7_leastSum 92 = .ok (.isub, 1) := by decide +kernel
theorem dX7_leastSum_93 : decode cX7_leastSum 93 = .ok (.iaload, 1) := by decide +kernel
theorem dX7_leastSum_94 : decode cX7_leastSum 94 = .ok (.aload_n 0, 1) := by decide +kernel
theorem dX7_leastSum_95 : decode cX7_leastSum 95 = .ok (.getfield 9, 3) := by decide +kernel
theorem dX7_leastSum_98 : decode cX7_leastSum 98 = .ok (.iconst 2, 1) := by decide +kernel
theorem dX7_leastSum_99 : decode cX7_leastSum 99 = .ok (.iaload, 1) := by decide +kernel
theorem dX7_leastSum_100 : decode cX7_leastSum 100 = .ok (.iadd, 1) := by decide +kernel
theorem dX7_leastSum_101 : decode cX7_leastSum 101 = .ok (.invokestatic 42, 3) := by decide +kernel
theorem dX7_leastSum_104 : decode cX7_leastSum 104 = .ok (.istore 8, 2) := by decide +kernel
theorem dX7_leastSum_106 : decode cX7_leastSum 106 = .ok (.iload 8, 2) := by decide +kernel
theorem dX7_leastSum_108 : decode cX7_leastSum 108 = .ok (.aload_n 0, 1) := by decide +kernel
theorem dX7_leastSum_109 : decode cX7_leastSum 109 = .ok (.getfield 17, 3) := by decide +kernel
theorem dX7_leastSum_112 : decode cX7_leastSum 112 = .ok (.iload_n 3, 1) := by decide +kernel
theorem dX7_leastSum_113 : decode cX7_leastSum 113 = .ok (.iconst 1, 1) := by decide +kernel
theorem dX7_leastSum_114 : decode cX7_leastSum 114 = .ok (.isub, 1) := by decide +kernel
theorem dX7_leastSum_115 : decode cX7_leastSum 115 = .ok (.aaload, 1) := by decide +kernel
theorem dX7_leastSum_116 : decode cX7_leastSum 116 = .ok (.iload 5, 2) := by decide +kernel
theorem dX7_leastSum_118 : decode cX7_leastSum 118 = .ok (.iconst 1, 1) := by decide +kernel
theorem dX7_leastSum_119 : decode cX7_leastSum 119 = .ok (.isub, 1) := by decide +kernel
theorem dX7_leastSum_120 : decode cX7_leastSum 120 = .ok (.iaload, 1) := by decide +kernel
theorem dX7_leastSum_121 : decode cX7_leastSum 121 = .ok (.aload_n 0, 1) := by decide +kernel
theorem dX7_leastSum_122 : decode cX7_leastSum 122 = .ok (.iload 6, 2) := by decide +kernel
theorem dX7_leastSum_124 : decode cX7_leastSum 124 = .ok (.aload 4, 2) := by decide +kernel
theorem dX7_leastSum_126 : decode cX7_leastSum 126 = .ok (.iload 5, 2) := by decide +kernel
theorem dX7_leastSum_128 : decode cX7_leastSum 128 = .ok (.iconst 1, 1) := by decide +kernel
theorem dX7_leastSum_129 : decode cX7_leastSum 129 = .ok (.isub, 1) := by decide +kernel
theorem dX7_leastSum_130 : decode cX7_leastSum 130 = .ok (.invokevirtual 38, 3) := by decide +kernel
theorem dX7_leastSum_133 : decode cX7_leastSum 133 = .ok (.invokevirtual 48, 3) := by decide +kernel
theorem dX7_leastSum_136 : decode cX7_leastSum 136 = .ok (.iadd, 1) := by decide +kernel
theorem dX7_leastSum_137 : decode cX7_leastSum 137 = .ok (.invokestatic 42, 3) := by decide +kernel
theorem dX7_leastSum_140 : decode cX7_leastSum 140 = .ok (.istore 8, 2) := by decide +kernel
theorem dX7_leastSum_142 : decode cX7_leastSum 142 = .ok (.iload_n 3, 1) := by decide +kernel
theorem dX7_leastSum_143 : decode cX7_leastSum 143 = .ok (.iconst 1, 1) := by decide +kernel
theorem dX7_leastSum_144 : decode cX7_leastSum 144 = .ok (.if_icmp .le 71, 3) := by decide +kernel
theorem dX7_leastSum_147 : decode cX7_leastSum 147 = .ok (.iload 5, 2) := by decide +kernel
theorem dX7_leastSum_149 : decode cX7_leastSum 149 = .ok (.iconst 1, 1) := by decide +kernel
theorem dX7_leastSum_150 : decode cX7_leastSum 150 = .ok (.if_icmp .le 65, 3) := by decide +kernel
theorem dX7_leastSum_153 : decode cX7_leastSum 153 = .ok (.iload 6, 2) := by decide +kernel
theorem dX7_leastSum_155 : decode cX7_leastSum 155 = .ok (.iload 7, 2) := by decide +kernel
theorem dX7_leastSum_157 : decode cX7_leastSum 157 = .ok (.if_icmp .eq 58, 3) := by decide +kernel
theorem dX7_leastSum_160 : decode cX7_leastSum 160 = .ok (.iload 6, 2) := by decide +kernel
theorem dX7_leastSum_162 : decode cX7_leastSum 162 = .ok (.aload 4, 2) := by decide +kernel
theorem dX7_leastSum_164 : decode cX7_leastSum 164 = .ok (.iload 5, 2) := by decide +kernel
theorem dX7_leastSum_166 : decode cX7_leastSum 166 = .ok (.iconst 2, 1) := by decide +kernel
theorem dX7_leastSum_167 : decode cX7_leastSum 167 = .ok (.isub, 1) := by decide +kernel
theorem dX7_leastSum_168 : decode cX7_leastSum 168 = .ok (.invokevirtual 38, 3) := by decide +kernel
theorem dX7_leastSum_171 : decode cX7_leastSum 171 = .ok (.if_icmp .ne 44, 3) := by decide +kernel
theorem dX7_leastSum_174 : decode cX7_leastSum 174 = .ok (.iload 7, 2) := by decide +kernel
theorem dX7_leastSum_176 : decode cX7_leastSum 176 = .ok (.aload 4, 2) := by decide +kernel
theorem dX7_leastSum_178 : decode cX7_leastSum 178 = .ok (.iload 5, 2) := by decide +kernel
theorem dX7_leastSum_180 : decode cX7_leastSum 180 = .ok (.iconst 1, 1) := by decide +kernel
theorem dX7_leastSum_181 : decode cX7_leastSum 181 = .ok (.isub, 1) := by decide +kernel
theorem dX7_leastSum_182 : decode cX7_leastSum 182 = .ok (.invokevirtual 38, 3) := by decide +kernel
theorem dX7_leastSum_185 : decode cX7_leastSum 185 = .ok (.if_icmp .ne 30, 3) := by decide +kernel
theorem dX7_leastSum_188 : decode cX7_leastSum 188 = .ok (.iload 8, 2) := by decide +kernel
theorem dX7_leastSum_190 : decode cX7_leastSum 190 = .ok (.aload_n 0, 1) := by decide +kernel
theorem dX7_leastSum_191 : decode cX7_leastSum 191 = .ok (.getfield 17, 3) := by decide +kernel
theorem dX7_leastSum_194 : decode cX7_leastSum 194 = .ok (.iload_n 3, 1) := by decide +kernel
theorem dX7_leastSum_195 : decode cX7_leastSum 195 = .ok (.iconst 2, 1) := by decide +kernel
theorem dX7_leastSum_196 : decode cX7_leastSum 196 = .ok (.isub, 1) := by decide +kernel
theorem dX7_leastSum_197 : decode cX7_leastSum 197 = .ok (.aaload, 1) := by decide +kernel
theorem dX7_leastSum_198 : decode cX7_leastSum 198 = .ok (.iload 5, 2) := by decide +kernel
theorem dX7_leastSum_200 : decode cX7_leastSum 200 = .ok (.iconst 2, 1) := by decide +kernel
theorem dX7_leastSum_201 : decode cX7_leastSum 201 = .ok (.isub, 1) := by decide +kernel
theorem dX7_leastSum_202 : decode cX7_leastSum 202 = .ok (.iaload, 1) := by decide +kernel
theorem dX7_leastSum_203 : decode cX7_leastSum 203 = .ok (.aload_n 0, 1) := by decide +kernel
theorem dX7_leastSum_204 : decode cX7_leastSum 204 = .ok (.getfield 9, 3) := by decide +kernel
theorem dX7_leastSum_207 : decode cX7_leastSum 207 = .ok (.iconst 3, 1) := by decide +kernel
theorem dX7_leastSum_208 : decode cX7_leastSum 208 = .ok (.iaload, 1) := by decide +kernel
theorem dX7_leastSum_209 : decode cX7_leastSum 209 = .ok (.iadd, 1) := by decide +kernel
theorem dX7_leastSum_210 : decode cX7_leastSum 210 = .ok (.invokestatic 42, 3) := by decide +kernel
theorem dX7_leastSum_213 : decode cX7_leastSum 213 = .ok (.istore 8, 2) := by decide +kernel
theorem dX7_leastSum_215 : decode cX7_leastSum 215 = .ok (.iload 8, 2) := by decide +kernel
theorem dX7_leastSum_217 : decode cX7_leastSum 217 = .ok (.ireturn, 1) := by decide +kernel
theorem dX7_priceOfOne_0 : decode cX7_priceOfOne 0 = .ok (.iload_n 1, 1) := by decide +kernel
theorem dX7_priceOfOne_1 : decode cX7_priceOfOne 1 = .ok (.iload_n 2, 1) := by decide +kernel
theorem dX7_priceOfOne_2 : decode cX7_priceOfOne 2 = .ok (.if_icmp .ne 5, 3) := by decide +kernel
theorem dX7_priceOfOne_5 : decode cX7_priceOfOne 5 = .ok (.iconst 0, 1) := by decide +kernel
theorem dX7_priceOfOne_6 : decode cX7_priceOfOne 6 = .ok (.ireturn, 1) := by decide +kernel
theorem dX7_priceOfOne_7 : decode cX7_priceOfOne 7 = .ok (.iload_n 1, 1) := by decide +kernel
theorem dX7_priceOfOne_8 : decode cX7_priceOfOne 8 = .ok (.iconst 4, 1) := by decide +kernel
theorem dX7_priceOfOne_9 : decode cX7_priceOfOne 9 = .ok (.idiv, 1) := by decide +kernel
theorem dX7_priceOfOne_10 : decode cX7_priceOfOne 10 = .ok (.iload_n 2, 1) := by decide +kernel
theorem dX7_priceOfOne_11 : decode cX7_priceOfOne 11 = .ok (.iconst 4, 1) := by decide +kernel
theorem dX7_priceOfOne_12 : decode cX7_priceOfOne 12 = .ok (.idiv, 1) := by decide +kernel
theorem dX7_priceOfOne_13 : decode cX7_priceOfOne 13 = .ok (.isub, 1) := by decide +kernel
theorem dX7_priceOfOne_14 : decode cX7_priceOfOne 14 = .ok (.invokestatic 51, 3) := by decide +kernel
theorem dX7_priceOfOne_17 : decode cX7_priceOfOne 17 = .ok (.istore_n 3, 1) := by decide +kernel
theorem dX7_priceOfOne_18 : decode cX7_priceOfOne 18 = .ok (.iload_n 1, 1) := by decide +kernel
theorem dX7_priceOfOne_19 : decode cX7_priceOfOne 19 = .ok (.iconst 4, 1) := by decide +kernel
theorem dX7_priceOfOne_20 : decode cX7_priceOfOne 20 = .ok (.irem, 1) := by decide +kernel
theorem dX7_priceOfOne_21 : decode cX7_priceOfOne 21 = .ok (.iload_n 2, 1) := by decide +kernel
theorem dX7_priceOfOne_22 : decode cX7_priceOfOne 22 = .ok (.iconst 4, 1) := by decide +kernel
theorem dX7_priceOfOne_23 : decode cX7_priceOfOne 23 = .ok (.irem, 1) := by decide +kernel
theorem dX7_priceOfOne_24 : decode cX7_priceOfOne 24 = .ok (.isub, 1) := by decide +kernel
theorem dX7_priceOfOne_25 : decode cX7_priceOfOne 25 = .ok (.invokestatic 51, 3) := by decide +kernel
theorem dX7_priceOfOne_28 : decode cX7_priceOfOne 28 = .ok (.istore 4, 2) := by decide +kernel
theorem dX7_priceOfOne_30 : decode cX7_priceOfOne 30 = .ok (.aload_n 0, 1) := by decide +kernel
theorem dX7_priceOfOne_31 : decode cX7_priceOfOne 31 = .ok (.getfield 9, 3) := by decide +kernel
theorem dX7_priceOfOne_34 : decode cX7_priceOfOne 34 = .ok (.iload_n 3, 1) := by decide +kernel
theorem dX7_priceOfOne_35 : decode cX7_priceOfOne 35 = .ok (.iconst 1, 1) := by decide +kernel
theorem dX7_priceOfOne_36 : decode cX7_priceOfOne 36 = .ok (.if_icmp .gt 13, 3) := by decide +kernel
theorem dX7_priceOfOne_39 : decode cX7_priceOfOne 39 = .ok (.iload 4, 2) := by decide +kernel
theorem dX7_priceOfOne_41 : decode cX7_priceOfOne 41 = .ok (.iconst 1, 1) := by decide +kernel
theorem dX7_priceOfOne_42 : decode cX7_priceOfOne 42 = .ok (.if_icmp .gt 7, 3) := by decide +kernel
theorem dX7_priceOfOne_45 : decode cX7_priceOfOne 45 = .ok (.iconst 0, 1) := by decide +kernel
theorem dX7_priceOfOne_46 : decode cX7_priceOfOne 46 = .ok (.goto 4, 3) := by decide +kernel
theorem dX7_priceOfOne_49 : decode cX7_priceOfOne 49 = .ok (.iconst 4, 1) := by decide +kernel
theorem dX7_priceOfOne_50 : decode cX7_priceOfOne 50 = .ok (.iaload, 1) := by decide +kernel
theorem dX7_priceOfOne_51 : decode cX7_priceOfOne 51 = .ok (.ireturn, 1) := by decide +kernel
theorem dX8_init_0 : decode cX8_init 0 = .ok (.aload_n 0, 1) := by decide +kernel
theorem dX8_init_1 : decode cX8_init 1 = .ok (.invokespecial 3, 3) := by decide +kernel
theorem dX8_init_4 : decode cX8_init 4 = .ok (.aload_n 0, 1) := by decide +kernel
theorem dX8_init_5 : decode cX8_init 5 = .ok (.bipush 24, 2) := by decide +kernel
theorem dX8_init_7 : decode cX8_init 7 = .ok (.anewarray 9, 3) := by decide +kernel
theorem dX8_init_10 : decode cX8_init 10 = .ok (.putfield 11, 3) := by decide +kernel
theorem dX8_init_13 : decode cX8_init 13 = .ok (.aload_n 0, 1) := by decide +kernel
theorem dX8_init_14 : decode cX8_init 14 = .ok (.bipush 24, 2) := by decide +kernel
theorem dX8_init_16 : decode cX8_init 16 = .ok (.anewarray 9, 3) := by decide +kernel
theorem dX8_init_19 : decode cX8_init 19 = .ok (.putfield 17, 3) := by decide +kernel
theorem dX8_init_22 : decode cX8_init 22 = .ok (.aload_n 0, 1) := by decide +kernel
theorem dX8_init_23 : decode cX8_init 23 = .ok (.new 9, 3) := by decide +kernel
theorem dX8_init_26 : decode cX8_init 26 = .ok (.dup, 1) := by decide +kernel
theorem dX8_init_27 : decode cX8_init 27 = .ok (.bipush 12, 2) := by decide +kernel
theorem dX8_init_29 : decode cX8_init 29 = .ok (.invokespecial 20, 3) := by decide +kernel
theorem dX8_init_32 : decode cX8_init 32 = .ok (.putfield 23, 3) := by decide +kernel
theorem dX8_init_35 : decode cX8_init 35 = .ok (.aload_n 0, 1) := by decide +kernel
theorem dX8_init_36 : decode cX8_init 36 = .ok (.new 9, 3) := by decide +kernel
theorem dX8_init_39 : decode cX8_init 39 = .ok (.dup, 1) := by decide +kernel
theorem dX8_init_40 : decode cX8_init 40 = .ok (.bipush 12, 2) := by decide +kernel
theorem dX8_init_42 : decode cX8_init 42 = .ok (.invokespecial 20, 3) := by decide +kernel
theorem dX8_init_45 : decode cX8_init 45 = .ok (.putfield 27, 3) := by decide +kernel
theorem dX8_init_48 : decode cX8_init 48 = .ok (.aload_n 0, 1) := by decide +kernel
theorem dX8_init_49 : decode cX8_init 49 = .ok (.new 9, 3) := by decide +kernel
theorem dX8_init_52 : decode cX8_init 52 = .ok (.dup, 1) := by decide +kernel
theorem dX8_init_53 : decode cX8_init 53 = .ok (.bipush 12, 2) := by decide +kernel
theorem dX8_init_55 : decode cX8_init 55 = .ok (.invokespecial 20, 3) := by decide +kernel
theorem dX8_init_58 : decode cX8_init 58 = .ok (.putfield 30, 3) := by decide +kernel
theorem dX8_init_61 : decode cX8_init 61 = .ok (.aload_n 0, 1) := by decide +kernel
theorem dX8_init_62 : decode cX8_init 62 = .ok (.bipush 61, 2) := by decide +kernel
theorem dX8_init_64 : decode cX8_init 64 = .ok (.newarray .boolean, 2) := by decide +kernel
theorem dX8_init_66 : decode cX8_init 66 = .ok (.putfield 33, 3) := by decide +kernel
theorem dX8_init_69 : decode cX8_init 69 = .ok (.aload_n 0, 1) := by decide +kernel
theorem dX8_init_70 : decode cX8_init 70 = .ok (.bipush 61, 2) := by decide +kernel
theorem dX8_init_72 : decode cX8_init 72 = .ok (.newarray .boolean, 2) := by decide +kernel
theorem dX8_init_74 : decode cX8_init 74 = .ok (.putfield 37, 3) := by decide +kernel
theorem dX8_init_77 : decode cX8_init 77 = .ok (.iconst 0, 1) := by decide +kernel
theorem dX8_init_78 : decode cX8_init 78 = .ok (.istore_n 1, 1) := by decide +kernel
theorem dX8_init_79 : decode cX8_init 79 = .ok (.iload_n 1, 1) := by decide +kernel
theorem dX8_init_80 : decode cX8_init 80 = .ok (.bipush 24, 2) := by decide +kernel
theorem dX8_init_82 : decode cX8_init 82 = .ok (.if_icmp .ge 37, 3) := by decide +kernel
theorem dX8_init_85 : decode cX8_init 85 = .ok (.aload_n 0, 1) := by decide +kernel
theorem dX8_init_86 : decode cX8_init 86 = .ok (.getfield 11, 3) := by decide +kernel
theorem dX8_init_89 : decode cX8_init 89 = .ok (.iload_n 1, 1) := by decide +kernel
theorem dX8_init_90 : decode cX8_init 90 = .ok (.new 9, 3) := by decide +kernel
theorem dX8_init_93 : decode cX8_init 93 = .ok (.dup, 1) := by decide +kernel
theorem dX8_init_94 : decode cX8_init 94 = .ok (.iconst 4, 1) := by decide +kernel
theorem dX8_init_95 : decode cX8_init 95 = .ok (.invokespecial 20, 3) := by decide +kernel
theorem dX8_init_98 : decode cX8_init 98 = .ok (.aastore, 1) := by decide +kernel
theorem dX8_init_99 : decode cX8_init 99 = .ok (.aload_n 0, 1) := by decide +kernel
theorem dX8_init_100 : decode cX8_init 100 = .ok (.getfield 17, 3) := by decide +kernel
theorem dX8_init_103 : decode cX8_init 103 = .ok (.iload_n 1, 1) := by decide +kernel
theorem dX8_init_104 : decode cX8_init 104 = .ok (.new 9, 3) := by decide +kernel
theorem dX8_init_107 : decode cX8_init 107 = .ok (.dup, 1) := by decide +kernel
theorem dX8_init_108 : decode cX8_init 108 = .ok (.iconst 3, 1) := by decide +kernel
theorem dX8_init_109 : decode cX8_init 109 = .ok (.invokespecial 20, 3) := by decide +kernel
theorem dX8_init_112 : decode cX8_init 112 = .ok (.aastore, 1) := by decide +kernel
theorem dX8_init_113 : decode cX8_init 113 = .ok (.iinc 1 1, 3) := by decide +kernel
theorem dX8_init_116 : decode cX8_init 116 = .ok (.goto (-37), 3) := by decide +kernel
theorem dX8_init_119 : decode cX8_init 119 = .ok (.return_, 1) := by decide +kernel
theorem dX8_rules_0 : decode cX8_rules 0 = .ok (.aload_n 0, 1) := by decide +kernel
theorem dX8_rules_1 : decode cX8_rules 1 = .ok (.getfield 40, 3) := by decide +kernel
theorem dX8_rules_4 : decode cX8_rules 4 = .ok (.ireturn, 1) := by decide +kernel
theorem dX8_joins_0 : decode cX8_joins 0 = .ok (.aload_n 0, 1) := by decide +kernel
theorem dX8_joins_1 : decode cX8_joins 1 = .ok (.getfield 30, 3) := by decide +kernel
theorem dX8_joins_4 : decode cX8_joins 4 = .ok (.invokevirtual 44, 3) := by decide +kernel
theorem dX8_joins_7 : decode cX8_joins 7 = .ok (.ireturn, 1) := by decide +kernel
theorem dX8_isFullOfRules_0 : decode cX8_isFullOfRules 0 = .ok (.aload_n 0, 1) := by decide +kernel
theorem dX8_isFullOfRules_1 : decode cX8_isFullOfRules 1 = .ok (.getfield 40, 3) := by decide +kernel
theorem dX8_isFullOfRules_4 : decode cX8_isFullOfRules 4 = .ok (.bipush 24, 2) := by decide +kernel
theorem dX8_isFullOfRules_6 : decode cX8_isFullOfRules 6 = .ok (.if_icmp .lt 7, 3) := by decide +kernel
theorem dX8_isFullOfRules_9 : decode cX8_isFullOfRules 9 = .ok (.iconst 1, 1) := by decide +kernel
theorem dX8_isFullOfRules_10 : decode cX8_isFullOfRules 10 = .ok (.goto 4, 3) := by decide +kernel
theorem dX8_isFullOfRules_13 : decode cX8_isFullOfRules 13 = .ok (.iconst 0, 1) := by decide +kernel
theorem dX8_isFullOfRules_14 : decode cX8_isFullOfRules 14 = .ok (.ireturn, 1) := by decide +kernel
theorem dX8_isFullOfJoins_0 : decode cX8_isFullOfJoins 0 = .ok (.aload_n 0, 1) := by decide +kernel
theorem dX8_isFullOfJoins_1 : decode cX8_isFullOfJoins 1 = .ok (.getfield 30, 3) := by decide +kernel
theorem dX8_isFullOfJoins_4 : decode cX8_isFullOfJoins 4 = .ok (.invokevirtual 48, 3) := by decide +kernel
theorem dX8_isFullOfJoins_7 : decode cX8_isFullOfJoins 7 = .ok (.ireturn, 1) := by decide +kernel
theorem dX8_keysOfRule_0 : decode cX8_keysOfRule 0 = .ok (.aload_n 0, 1) := by decide +kernel
theorem dX8_keysOfRule_1 : decode cX8_keysOfRule 1 = .ok (.getfield 11, 3) := by decide +kernel
theorem dX8_keysOfRule_4 : decode cX8_keysOfRule 4 = .ok (.iload_n 1, 1) := by decide +kernel
theorem dX8_keysOfRule_5 : decode cX8_keysOfRule 5 = .ok (.aaload, 1) := by decide +kernel
theorem dX8_keysOfRule_6 : decode cX8_keysOfRule 6 = .ok (.areturn, 1) := by decide +kernel
theorem dX8_lettersOfRule_0 : decode cX8_lettersOfRule 0 = .ok (.aload_n 0, 1) := by decide +kernel
theorem dX8_lettersOfRule_1 : decode cX8_lettersOfRule 1 = .ok (.getfield 17, 3) := by decide +kernel
theorem dX8_lettersOfRule_4 : decode cX8_lettersOfRule 4 = .ok (.iload_n 1, 1) := by decide +kernel
theorem dX8_lettersOfRule_5 : decode cX8_lettersOfRule 5 = .ok (.aaload, 1) := by decide +kernel
theorem dX8_lettersOfRule_6 : decode cX8_lettersOfRule 6 = .ok (.areturn, 1) := by decide +kernel
theorem dX8_addRule_0 : decode cX8_addRule 0 = .ok (.aload_n 0, 1) := by decide +kernel
theorem dX8_addRule_1 : decode cX8_addRule 1 = .ok (.invokevirtual 52, 3) := by decide +kernel
theorem dX8_addRule_4 : decode cX8_addRule 4 = .ok (.ifCond .eq 6, 3) := by decide +kernel
theorem dX8_addRule_7 : decode cX8_addRule 7 = .ok (.bipush (-4), 2) := by decide +kernel
theorem dX8_addRule_9 : decode cX8_addRule 9 = .ok (.ireturn, 1) := by decide +kernel
theorem dX8_addRule_10 : decode cX8_addRule 10 = .ok (.aload_n 0, 1) := by decide +kernel
theorem dX8_addRule_11 : decode cX8_addRule 11 = .ok (.getfield 11, 3) := by decide +kernel
theorem dX8_addRule_14 : decode cX8_addRule 14 = .ok (.aload_n 0, 1) := by decide +kernel
theorem dX8_addRule_15 : decode cX8_addRule 15 = .ok (.getfield 40, 3) := by decide +kernel
theorem dX8_addRule_18 : decode cX8_addRule 18 = .ok (.aaload, 1) := by decide +kernel
theorem dX8_addRule_19 : decode cX8_addRule 19 = .ok (.aload_n 1, 1) := by decide +kernel
theorem dX8_addRule_20 : decode cX8_addRule 20 = .ok (.invokevirtual 55, 3) := by decide +kernel
theorem dX8_addRule_23 : decode cX8_addRule 23 = .ok (.aload_n 0, 1) := by decide +kernel
theorem dX8_addRule_24 : decode cX8_addRule 24 = .ok (.getfield 17, 3) := by decide +kernel
theorem dX8_addRule_27 : decode cX8_addRule 27 = .ok (.aload_n 0, 1) := by decide +kernel
theorem dX8_addRule_28 : decode cX8_addRule 28 = .ok (.getfield 40, 3) := by decide +kernel
theorem dX8_addRule_31 : decode cX8_addRule 31 = .ok (.aaload, 1) := by decide +kernel
theorem dX8_addRule_32 : decode cX8_addRule 32 = .ok (.aload_n 2, 1) := by decide +kernel
theorem dX8_addRule_33 : decode cX8_addRule 33 = .ok (.invokevirtual 55, 3) := by decide +kernel
theorem dX8_addRule_36 : decode cX8_addRule 36 = .ok (.aload_n 0, 1) := by decide +kernel
theorem dX8_addRule_37 : decode cX8_addRule 37 = .ok (.dup, 1) := by decide +kernel
theorem dX8_addRule_38 : decode cX8_addRule 38 = .ok (.getfield 40, 3) := by decide +kernel
theorem dX8_addRule_41 : decode cX8_addRule 41 = .ok (.iconst 1, 1) := by decide +kernel
theorem dX8_addRule_42 : decode cX8_addRule 42 = .ok (.iadd, 1) := by decide +kernel
theorem dX8_addRule_43 : decode cX8_addRule 43 = .ok (.putfield 40, 3) := by decide +kernel
theorem dX8_addRule_46 : decode cX8_addRule 46 = .ok (.aload_n 0, 1) := by decide +kernel
theorem dX8_addRule_47 : decode cX8_addRule 47 = .ok (.getfield 40, 3) := by decide +kernel
theorem dX8_addRule_50 : decode cX8_addRule 50 = .ok (.iconst 1, 1) := by decide +kernel
theorem dX8_addRule_51 : decode cX8_addRule 51 = .ok (.isub, 1) := by decide +kernel
theorem dX8_addRule_52 : decode cX8_addRule 52 = .ok (.ireturn, 1) := by decide +kernel
theorem dX8_addJoin_0 : decode cX8_addJoin 0 = .ok (.aload_n 0, 1) := by decide +kernel
theorem dX8_addJoin_1 : decode cX8_addJoin 1 = .ok (.getfield 23, 3) := by decide +kernel
theorem dX8_addJoin_4 : decode cX8_addJoin 4 = .ok (.iload_n 1, 1) := by decide +kernel
theorem dX8_addJoin_5 : decode cX8_addJoin 5 = .ok (.invokevirtual 59, 3) := by decide +kernel
theorem dX8_addJoin_8 : decode cX8_addJoin 8 = .ok (.aload_n 0, 1) := by decide +kernel
theorem dX8_addJoin_9 : decode cX8_addJoin 9 = .ok (.getfield 27, 3) := by decide +kernel
theorem dX8_addJoin_12 : decode cX8_addJoin 12 = .ok (.iload_n 2, 1) := by decide +kernel
theorem dX8_addJoin_13 : decode cX8_addJoin 13 = .ok (.invokevirtual 59, 3) := by decide +kernel
theorem dX8_addJoin_16 : decode cX8_addJoin 16 = .ok (.aload_n 0, 1) := by decide +kernel
theorem dX8_addJoin_17 : decode cX8_addJoin 17 = .ok (.getfield 30, 3) := by decide +kernel
theorem dX8_addJoin_20 : decode cX8_addJoin 20 = .ok (.iload_n 3, 1) := by decide +kernel
theorem dX8_addJoin_21 : decode cX8_addJoin 21 = .ok (.invokevirtual 59, 3) := by decide +kernel
theorem dX8_addJoin_24 : decode cX8_addJoin 24 = .ok (.aload_n 0, 1) := by decide +kernel
theorem dX8_addJoin_25 : decode cX8_addJoin 25 = .ok (.getfield 30, 3) := by decide +kernel
theorem dX8_addJoin_28 : decode cX8_addJoin 28 = .ok (.invokevirtual 44, 3) := by decide +kernel
theorem dX8_addJoin_31 : decode cX8_addJoin 31 = .ok (.ireturn, 1) := by decide +kernel
theorem dX8_setLetter_0 : decode cX8_setLetter 0 = .ok (.aload_n 0, 1) := by decide +kernel
theorem dX8_setLetter_1 : decode cX8_setLetter 1 = .ok (.getfield 33, 3) := by decide +kernel
theorem dX8_setLetter_4 : decode cX8_setLetter 4 = .ok (.iload_n 1, 1) := by decide +kernel
theorem dX8_setLetter_5 : decode cX8_setLetter 5 = .ok (.baload, 1) := by decide +kernel
theorem dX8_setLetter_6 : decode cX8_setLetter 6 = .ok (.istore_n 3, 1) := by decide +kernel
theorem dX8_setLetter_7 : decode cX8_setLetter 7 = .ok (.aload_n 0, 1) := by decide +kernel
theorem dX8_setLetter_8 : decode cX8_setLetter 8 = .ok (.getfield 33, 3) := by decide +kernel
theorem dX8_setLetter_11 : decode cX8_setLetter 11 = .ok (.iload_n 1, 1) := by decide +kernel
theorem dX8_setLetter_12 : decode cX8_setLetter 12 = .ok (.iload_n 2, 1) := by decide +kernel
theorem dX8_setLetter_13 : decode cX8_setLetter 13 = .ok (.bastore, 1) := by decide +kernel
theorem dX8_setLetter_14 : decode cX8_setLetter 14 = .ok (.iload_n 3, 1) := by decide +kernel
theorem dX8_setLetter_15 : decode cX8_setLetter 15 = .ok (.ireturn, 1) := by decide +kernel
theorem dX8_joined_0 : decode cX8_joined 0 = .ok (.iconst 0, 1) := by decide +kernel
theorem dX8_joined_1 : decode cX8_joined 1 = .ok (.istore_n 3, 1) := by decide +kernel
theorem dX8_joined_2 : decode cX8_joined 2 = .ok (.iload_n 3, 1) := by decide +kernel
theorem dX8_joined_3 : decode cX8_joined 3 = .ok (.aload_n 0, 1) := by decide +kernel
theorem dX8_joined_4 : decode cX8_joined 4 = .ok (.getfield 30, 3) := by decide +kernel
theorem dX8_joined_7 : decode cX8_joined 7 = .ok (.invokevirtual 44, 3) := by decide +kernel
theorem dX8_joined_10 : decode cX8_joined 10 = .ok (.if_icmp .ge 42, 3) := by decide +kernel
theorem dX8_joined_13 : decode cX8_joined 13 = .ok (.aload_n 0, 1) := by decide +kernel
theorem dX8_joined_14 : decode cX8_joined 14 = .ok (.getfield 23, 3) := by decide +kernel
theorem dX8_joined_17 : decode cX8_joined 17 = .ok (.iload_n 3, 1) := by decide +kernel
theorem dX8_joined_18 : decode cX8_joined 18 = .ok (.invokevirtual 62, 3) := by decide +kernel
theorem dX8_joined_21 : decode cX8_joined 21 = .ok (.iload_n 1, 1) := by decide +kernel
theorem dX8_joined_22 : decode cX8_joined 22 = .ok (.if_icmp .ne 24, 3) := by decide +kernel
theorem dX8_joined_25 : decode cX8_joined 25 = .ok (.aload_n 0, 1) := by decide +kernel
theorem dX8_joined_26 : decode cX8_joined 26 = .ok (.getfield 27, 3) := by decide +kernel
theorem dX8_joined_29 : decode cX8_joined 29 = .ok (.iload_n 3, 1) := by decide +kernel
theorem dX8_joined_30 : decode cX8_joined 30 = .ok (.invokevirtual 62, 3) := by decide +kernel
theorem dX8_joined_33 : decode cX8_joined 33 = .ok (.iload_n 2, 1) := by decide +kernel
theorem dX8_joined_34 : decode cX8_joined 34 = .ok (.if_icmp .ne 12, 3) := by decide +kernel
theorem dX8_joined_37 : decode cX8_joined 37 = .ok (.aload_n 0, 1) := by decide +kernel
theorem dX8_joined_38 : decode cX8_joined 38 = .ok (.getfield 30, 3) := by decide +kernel
theorem dX8_joined_41 : decode cX8_joined 41 = .ok (.iload_n 3, 1) := by decide +kernel
theorem dX8_joined_42 : decode cX8_joined 42 = .ok (.invokevirtual 62, 3) := by decide +kernel
theorem dX8_joined_45 : decode cX8_joined 45 = .ok (.ireturn, 1) := by decide +kernel
theorem dX8_joined_46 : decode cX8_joined 46 = .ok (.iinc 3 1, 3) := by decide +kernel
theorem dX8_joined_49 : decode cX8_joined 49 = .ok (.goto (-47), 3) := by decide +kernel
theorem dX8_joined_52 : decode cX8_joined 52 = .ok (.iconst 0, 1) := by decide +kernel
theorem dX8_joined_53 : decode cX8_joined 53 = .ok (.ireturn, 1) := by decide +kernel
theorem dX8_longestRule_0 : decode cX8_longestRule 0 = .ok (.iconst (-1), 1) := by decide +kernel
theorem dX8_longestRule_1 : decode cX8_longestRule 1 = .ok (.istore_n 3, 1) := by decide +kernel
theorem dX8_longestRule_2 : decode cX8_longestRule 2 = .ok (.iconst 0, 1) := by decide +kernel
theorem dX8_longestRule_3 : decode cX8_longestRule 3 = .ok (.istore 4, 2) := by decide +kernel
theorem dX8_longestRule_5 : decode cX8_longestRule 5 = .ok (.iconst 0, 1) := by decide +kernel
theorem dX8_longestRule_6 : decode cX8_longestRule 6 = .ok (.istore 5, 2) := by decide +kernel
theorem dX8_longestRule_8 : decode cX8_longestRule 8 = .ok (.iload 5, 2) := by decide +kernel
theorem dX8_longestRule_10 : decode cX8_longestRule 10 = .ok (.aload_n 0, 1) := by decide +kernel
theorem dX8_longestRule_11 : decode cX8_longestRule 11 = .ok (.getfield 40, 3) := by decide +kernel
theorem dX8_longestRule_14 : decode cX8_longestRule 14 = .ok (.if_icmp .ge 53, 3) := by decide +kernel
theorem dX8_longestRule_17 : decode cX8_longestRule 17 = .ok (.aload_n 0, 1) := by decide +kernel
theorem dX8_longestRule_18 : decode cX8_longestRule 18 = .ok (.getfield 11, 3) := by decide +kernel
theorem dX8_longestRule_21 : decode cX8_longestRule 21 = .ok (.iload 5, 2) := by decide +kernel
theorem dX8_longestRule_23 : decode cX8_longestRule 23 = .ok (.aaload, 1) := by decide +kernel
theorem dX8_longestRule_24 : decode cX8_longestRule 24 = .ok (.astore 6, 2) := by decide +kernel
theorem dX8_longestRule_26 : decode cX8_longestRule 26 = .ok (.aload 6, 2) := by decide +kernel
theorem dX8_longestRule_28 : decode cX8_longestRule 28 = .ok (.invokevirtual 44, 3) := by decide +kernel
theorem dX8_longestRule_31 : decode cX8_longestRule 31 = .ok (.iload 4, 2) := by decide +kernel
theorem dX8_longestRule_33 : decode cX8_longestRule 33 = .ok (.if_icmp .le 28, 3) := by decide +kernel
theorem dX8_longestRule_36 : decode cX8_longestRule 36 = .ok (.aload 6, 2) := by decide +kernel
theorem dX8_longestRule_38 : decode cX8_longestRule 38 = .ok (.aload_n 1, 1) := by decide +kernel
theorem dX8_longestRule_39 : decode cX8_longestRule 39 = .ok (.iload_n 2, 1) := by decide +kernel
theorem dX8_longestRule_40 : decode cX8_longestRule 40 = .ok (.aload 6, 2) := by decide +kernel
theorem dX8_longestRule_42 : decode cX8_longestRule 42 = .ok (.invokevirtual 44, 3) := by decide +kernel
theorem dX8_longestRule_45 : decode cX8_longestRule 45 = .ok (.invokevirtual 66, 3) := by decide +kernel
theorem dX8_longestRule_48 : decode cX8_longestRule 48 = .ok (.ifCond .eq 13, 3) := by decide +kernel
theorem dX8_longestRule_51 : decode cX8_longestRule 51 = .ok (.aload 6, 2) := by decide +kernel
theorem dX8_longestRule_53 : decode cX8_longestRule 53 = .ok (.invokevirtual 44, 3) := by decide +kernel
theorem dX8_longestRule_56 : decode cX8_longestRule 56 = .ok (.istore 4, 2) := by decide +kernel
theorem dX8_longestRule_58 : decode cX8_longestRule 58 = .ok (.iload 5, 2) := by decide +kernel
theorem dX8_longestRule_60 : decode cX8_longestRule 60 = .ok (.istore_n 3, 1) := by decide +kernel
theorem dX8_longestRule_61 : decode cX8_longestRule 61 = .ok (.iinc 5 1, 3) := by decide +kernel
theorem dX8_longestRule_64 : decode cX8_longestRule 64 = .ok (.goto (-56), 3) := by decide +kernel
theorem dX8_longestRule_67 : decode cX8_longestRule 67 = .ok (.iload_n 3, 1) := by decide +kernel
theorem dX8_longestRule_68 : decode cX8_longestRule 68 = .ok (.ireturn, 1) := by decide +kernel
theorem dX8_keysBehind_0 : decode cX8_keysBehind 0 = .ok (.aload_n 1, 1) := by decide +kernel
theorem dX8_keysBehind_1 : decode cX8_keysBehind 1 = .ok (.invokevirtual 44, 3) := by decide +kernel
theorem dX8_keysBehind_4 : decode cX8_keysBehind 4 = .ok (.iload_n 2, 1) := by decide +kernel
theorem dX8_keysBehind_5 : decode cX8_keysBehind 5 = .ok (.isub, 1) := by decide +kernel
theorem dX8_keysBehind_6 : decode cX8_keysBehind 6 = .ok (.istore_n 3, 1) := by decide +kernel
theorem dX8_keysBehind_7 : decode cX8_keysBehind 7 = .ok (.iconst 0, 1) := by decide +kernel
theorem dX8_keysBehind_8 : decode cX8_keysBehind 8 = .ok (.istore 4, 2) := by decide +kernel
theorem dX8_keysBehind_10 : decode cX8_keysBehind 10 = .ok (.iconst 0, 1) := by decide +kernel
theorem dX8_keysBehind_11 : decode cX8_keysBehind 11 = .ok (.istore 5, 2) := by decide +kernel
theorem dX8_keysBehind_13 : decode cX8_keysBehind 13 = .ok (.iload 5, 2) := by decide +kernel
theorem dX8_keysBehind_15 : decode cX8_keysBehind 15 = .ok (.aload_n 0, 1) := by decide +kernel
theorem dX8_keysBehind_16 : decode cX8_keysBehind 16 = .ok (.getfield 40, 3) := by decide +kernel
theorem dX8_keysBehind_19 : decode cX8_keysBehind 19 = .ok (.if_icmp .ge 51, 3) := by decide +kernel
theorem dX8_keysBehind_22 : decode cX8_keysBehind 22 = .ok (.aload_n 0, 1) := by decide +kernel
theorem dX8_keysBehind_23 : decode cX8_keysBehind 23 = .ok (.getfield 11, 3) := by decide +kernel
theorem dX8_keysBehind_26 : decode cX8_keysBehind 26 = .ok (.iload 5, 2) := by decide +kernel
theorem dX8_keysBehind_28 : decode cX8_keysBehind 28 = .ok (.aaload, 1) := by decide +kernel
theorem dX8_keysBehind_29 : decode cX8_keysBehind 29 = .ok (.astore 6, 2) := by decide +kernel
theorem dX8_keysBehind_31 : decode cX8_keysBehind 31 = .ok (.aload 6, 2) := by decide +kernel
theorem dX8_keysBehind_33 : decode cX8_keysBehind 33 = .ok (.iload_n 3, 1) := by decide +kernel
theorem dX8_keysBehind_34 : decode cX8_keysBehind 34 = .ok (.invokevirtual 70, 3) := by decide +kernel
theorem dX8_keysBehind_37 : decode cX8_keysBehind 37 = .ok (.ifCond .eq 27, 3) := by decide +kernel
theorem dX8_keysBehind_40 : decode cX8_keysBehind 40 = .ok (.aload 6, 2) := by decide +kernel
theorem dX8_keysBehind_42 : decode cX8_keysBehind 42 = .ok (.aload_n 1, 1) := by decide +kernel
theorem dX8_keysBehind_43 : decode cX8_keysBehind 43 = .ok (.iload_n 2, 1) := by decide +kernel
theorem dX8_keysBehind_44 : decode cX8_keysBehind 44 = .ok (.iload_n 3, 1) := by decide +kernel
theorem dX8_keysBehind_45 : decode cX8_keysBehind 45 = .ok (.invokevirtual 66, 3) := by decide +kernel
theorem dX8_keysBehind_48 : decode cX8_keysBehind 48 = .ok (.ifCond .eq 16, 3) := by decide +kernel
theorem dX8_keysBehind_51 : decode cX8_keysBehind 51 = .ok (.iload 4, 2) := by decide +kernel
theorem dX8_keysBehind_53 : decode cX8_keysBehind 53 = .ok (.iconst 1, 1) := by decide +kernel
theorem dX8_keysBehind_54 : decode cX8_keysBehind 54 = .ok (.aload 6, 2) := by decide +kernel
theorem dX8_keysBehind_56 : decode cX8_keysBehind 56 = .ok (.iload_n 3, 1) := by decide +kernel
theorem dX8_keysBehind_57 : decode cX8_keysBehind 57 = .ok (.invokevirtual 62, 3) := by decide +kernel
theorem dX8_keysBehind_60 : decode cX8_keysBehind 60 = .ok (.ishl, 1) := by decide +kernel
theorem dX8_keysBehind_61 : decode cX8_keysBehind 61 = .ok (.ior, 1) := by decide +kernel
theorem dX8_keysBehind_62 : decode cX8_keysBehind 62 = .ok (.istore 4, 2) := by decide +kernel
theorem dX8_keysBehind_64 : decode cX8_keysBehind 64 = .ok (.iinc 5 1, 3) := by decide +kernel
theorem dX8_keysBehind_67 : decode cX8_keysBehind 67 = .ok (.goto (-54), 3) := by decide +kernel
theorem dX8_keysBehind_70 : decode cX8_keysBehind 70 = .ok (.iload 4, 2) := by decide +kernel
theorem dX8_keysBehind_72 : decode cX8_keysBehind 72 = .ok (.ireturn, 1) := by decide +kernel
theorem dX8_quarrelAt_0 : decode cX8_quarrelAt 0 = .ok (.iconst 0, 1) := by decide +kernel
theorem dX8_quarrelAt_1 : decode cX8_quarrelAt 1 = .ok (.istore_n 2, 1) := by decide +kernel
theorem dX8_quarrelAt_2 : decode cX8_quarrelAt 2 = .ok (.iconst 0, 1) := by decide +kernel
theorem dX8_quarrelAt_3 : decode cX8_quarrelAt 3 = .ok (.istore_n 3, 1) := by decide +kernel
theorem dX8_quarrelAt_4 : decode cX8_quarrelAt 4 = .ok (.iload_n 3, 1) := by decide +kernel
theorem dX8_quarrelAt_5 : decode cX8_quarrelAt 5 = .ok (.aload_n 0, 1) := by decide +kernel
theorem dX8_quarrelAt_6 : decode cX8_quarrelAt 6 = .ok (.getfield 40, 3) := by decide +kernel
theorem dX8_quarrelAt_9 : decode cX8_quarrelAt 9 = .ok (.if_icmp .ge 83, 3) := by decide +kernel
theorem dX8_quarrelAt_12 : decode cX8_quarrelAt 12 = .ok (.iload_n 3, 1) := by decide +kernel
theorem dX8_quarrelAt_13 : decode cX8_quarrelAt 13 = .ok (.iconst 1, 1) := by decide +kernel
theorem dX8_quarrelAt_14 : decode cX8_quarrelAt 14 = .ok (.iadd, 1) := by decide +kernel
theorem dX8_quarrelAt_15 : decode cX8_quarrelAt 15 = .ok (.istore 4, 2) := by decide +kernel
theorem dX8_quarrelAt_17 : decode cX8_quarrelAt 17 = .ok (.iload 4, 2) := by decide +kernel
theorem dX8_quarrelAt_19 : decode cX8_quarrelAt 19 = .ok (.aload_n 0, 1) := by decide +kernel
theorem dX8_quarrelAt_20 : decode cX8_quarrelAt 20 = .ok (.getfield 40, 3) := by decide +kernel
theorem dX8_quarrelAt_23 : decode cX8_quarrelAt 23 = .ok (.if_icmp .ge 63, 3) := by decide +kernel
theorem dX8_quarrelAt_26 : decode cX8_quarrelAt 26 = .ok (.aload_n 0, 1) := by decide +kernel
theorem dX8_quarrelAt_27 : decode cX8_quarrelAt 27 = .ok (.getfield 11, 3) := by decide +kernel
theorem dX8_quarrelAt_30 : decode cX8_quarrelAt 30 = .ok (.iload_n 3, 1) := by decide +kernel
theorem dX8_quarrelAt_31 : decode cX8_quarrelAt 31 = .ok (.aaload, 1) := by decide +kernel
theorem dX8_quarrelAt_32 : decode cX8_quarrelAt 32 = .ok (.aload_n 0, 1) := by decide +kernel
theorem dX8_quarrelAt_33 : decode cX8_quarrelAt 33 = .ok (.getfield 11, 3) := by decide +kernel
theorem dX8_quarrelAt_36 : decode cX8_quarrelAt 36 = .ok (.iload 4, 2) := by decide +kernel
theorem dX8_quarrelAt_38 : decode cX8_quarrelAt 38 = .ok (.aaload, 1) := by decide +kernel
theorem dX8_quarrelAt_39 : decode cX8_quarrelAt 39 = .ok (.invokevirtual 74, 3) := by decide +kernel
theorem dX8_quarrelAt_42 : decode cX8_quarrelAt 42 = .ok (.ifCond .eq 38, 3) := by decide +kernel
theorem dX8_quarrelAt_45 : decode cX8_quarrelAt 45 = .ok (.aload_n 0, 1) := by decide +kernel
theorem dX8_quarrelAt_46 : decode cX8_quarrelAt 46 = .ok (.getfield 17, 3) := by decide +kernel
theorem dX8_quarrelAt_49 : decode cX8_quarrelAt 49 = .ok (.iload_n 3, 1) := by decide +kernel
theorem dX8_quarrelAt_50 : decode cX8_quarrelAt 50 = .ok (.aaload, 1) := by decide +kernel
theorem dX8_quarrelAt_51 : decode cX8_quarrelAt 51 = .ok (.aload_n 0, 1) := by decide +kernel
theorem dX8_quarrelAt_52 : decode cX8_quarrelAt 52 = .ok (.getfield 17, 3) := by decide +kernel
theorem dX8_quarrelAt_55 : decode cX8_quarrelAt 55 = .ok (.iload 4, 2) := by decide +kernel
theorem dX8_quarrelAt_57 : decode cX8_quarrelAt 57 = .ok (.aaload, 1) := by decide +kernel
theorem dX8_quarrelAt_58 : decode cX8_quarrelAt 58 = .ok (.invokevirtual 74, 3) := by decide +kernel
theorem dX8_quarrelAt_61 : decode cX8_quarrelAt 61 = .ok (.ifCond .ne 19, 3) := by decide +kernel
theorem dX8_quarrelAt_64 : decode cX8_quarrelAt 64 = .ok (.iload_n 2, 1) := by decide +kernel
theorem dX8_quarrelAt_65 : decode cX8_quarrelAt 65 = .ok (.iload_n 1, 1) := by decide +kernel
theorem dX8_quarrelAt_66 : decode cX8_quarrelAt 66 = .ok (.if_icmp .ne 11, 3) := by decide +kernel
theorem dX8_quarrelAt_69 : decode cX8_quarrelAt 69 = .ok (.bipush 100, 2) := by decide +kernel
theorem dX8_quarrelAt_71 : decode cX8_quarrelAt 71 = .ok (.iload_n 3, 1) := by decide +kernel
theorem dX8_quarrelAt_72 : decode cX8_quarrelAt 72 = .ok (.imul, 1) := by decide +kernel
theorem dX8_quarrelAt_73 : decode cX8_quarrelAt 73 = .ok (.iload 4, 2) := by decide +kernel
theorem dX8_quarrelAt_75 : decode cX8_quarrelAt 75 = .ok (.iadd, 1) := by decide +kernel
theorem dX8_quarrelAt_76 : decode cX8_quarrelAt 76 = .ok (.ireturn, 1) := by decide +kernel
theorem dX8_quarrelAt_77 : decode cX8_quarrelAt 77 = .ok (.iinc 2 1, 3) := by decide +kernel
theorem dX8_quarrelAt_80 : decode cX8_quarrelAt 80 = .ok (.iinc 4 1, 3) := by decide +kernel
theorem dX8_quarrelAt_83 : decode cX8_quarrelAt 83 = .ok (.goto (-66), 3) := by decide +kernel
theorem dX8_quarrelAt_86 : decode cX8_quarrelAt 86 = .ok (.iinc 3 1, 3) := by decide +kernel
theorem dX8_quarrelAt_89 : decode cX8_quarrelAt 89 = .ok (.goto (-85), 3) := by decide +kernel
theorem dX8_quarrelAt_92 : decode cX8_quarrelAt 92 = .ok (.iload_n 1, 1) := by decide +kernel
theorem dX8_quarrelAt_93 : decode cX8_quarrelAt 93 = .ok (.iconst (-1), 1) := by decide +kernel
theorem dX8_quarrelAt_94 : decode cX8_quarrelAt 94 = .ok (.if_icmp .ne 7, 3) := by decide +kernel
theorem dX8_quarrelAt_97 : decode cX8_quarrelAt 97 = .ok (.iload_n 2, 1) := by decide +kernel
theorem dX8_quarrelAt_98 : decode cX8_quarrelAt 98 = .ok (.goto 5, 3) := by decide +kernel
theorem dX8_quarrelAt_101 : decode cX8_quarrelAt 101 = .ok (.bipush (-6), 2) := by decide +kernel
theorem dX8_quarrelAt_103 : decode cX8_quarrelAt 103 = .ok (.ireturn, 1) := by decide +kernel
theorem dX8_idleRules_0 : decode cX8_idleRules 0 = .ok (.iconst 0, 1) := by decide +kernel
theorem dX8_idleRules_1 : decode cX8_idleRules 1 = .ok (.istore_n 1, 1) := by decide +kernel
theorem dX8_idleRules_2 : decode cX8_idleRules 2 = .ok (.iconst 0, 1) := by decide +kernel
theorem dX8_idleRules_3 : decode cX8_idleRules 3 = .ok (.istore_n 2, 1) := by decide +kernel
theorem dX8_idleRules_4 : decode cX8_idleRules 4 = .ok (.iload_n 2, 1) := by decide +kernel
theorem dX8_idleRules_5 : decode cX8_idleRules 5 = .ok (.aload_n 0, 1) := by decide +kernel
theorem dX8_idleRules_6 : decode cX8_idleRules 6 = .ok (.getfield 40, 3) := by decide +kernel
theorem dX8_idleRules_9 : decode cX8_idleRules 9 = .ok (.if_icmp .ge 23, 3) := by decide +kernel
theorem dX8_idleRules_12 : decode cX8_idleRules 12 = .ok (.aload_n 0, 1) := by decide +kernel
theorem dX8_idleRules_13 : decode cX8_idleRules 13 = .ok (.iload_n 2, 1) := by decide +kernel
theorem dX8_idleRules_14 : decode cX8_idleRules 14 = .ok (.invokevirtual 78, 3) := by decide +kernel
theorem dX8_idleRules_17 : decode cX8_idleRules 17 = .ok (.ifCond .eq 9, 3) := by decide +kernel
theorem dX8_idleRules_20 : decode cX8_idleRules 20 = .ok (.iload_n 1, 1) := by decide +kernel
theorem dX8_idleRules_21 : decode cX8_idleRules 21 = .ok (.iconst 1, 1) := by decide +kernel
theorem dX8_idleRules_22 : decode cX8_idleRules 22 = .ok (.iload_n 2, 1) := by decide +kernel
theorem dX8_idleRules_23 : decode cX8_idleRules 23 = .ok (.ishl, 1) := by decide +kernel
theorem dX8_idleRules_24 : decode cX8_idleRules 24 = .ok (.ior, 1) := by decide +kernel
theorem dX8_idleRules_25 : decode cX8_idleRules 25 = .ok (.istore_n 1, 1) := by decide +kernel
theorem dX8_idleRules_26 : decode cX8_idleRules 26 = .ok (.iinc 2 1, 3) := by decide +kernel
theorem dX8_idleRules_29 : decode cX8_idleRules 29 = .ok (.goto (-25), 3) := by decide +kernel
theorem dX8_idleRules_32 : decode cX8_idleRules 32 = .ok (.iload_n 1, 1) := by decide +kernel
theorem dX8_idleRules_33 : decode cX8_idleRules 33 = .ok (.ireturn, 1) := by decide +kernel
theorem dX8_isIdle_0 : decode cX8_isIdle 0 = .ok (.iconst 0, 1) := by decide +kernel
theorem dX8_isIdle_1 : decode cX8_isIdle 1 = .ok (.istore_n 2, 1) := by decide +kernel
theorem dX8_isIdle_2 : decode cX8_isIdle 2 = .ok (.iload_n 2, 1) := by decide +kernel
theorem dX8_isIdle_3 : decode cX8_isIdle 3 = .ok (.iload_n 1, 1) := by decide +kernel
theorem dX8_isIdle_4 : decode cX8_isIdle 4 = .ok (.if_icmp .ge 29, 3) := by decide +kernel
theorem dX8_isIdle_7 : decode cX8_isIdle 7 = .ok (.aload_n 0, 1) := by decide +kernel
theorem dX8_isIdle_8 : decode cX8_isIdle 8 = .ok (.getfield 11, 3) := by decide +kernel
theorem dX8_isIdle_11 : decode cX8_isIdle 11 = .ok (.iload_n 2, 1) := by decide +kernel
theorem dX8_isIdle_12 : decode cX8_isIdle 12 = .ok (.aaload, 1) := by decide +kernel
theorem dX8_isIdle_13 : decode cX8_isIdle 13 = .ok (.aload_n 0, 1) := by decide +kernel
theorem dX8_isIdle_14 : decode cX8_isIdle 14 = .ok (.getfield 11, 3) := by decide +kernel
theorem dX8_isIdle_17 : decode cX8_isIdle 17 = .ok (.iload_n 1, 1) := by decide +kernel
theorem dX8_isIdle_18 : decode cX8_isIdle 18 = .ok (.aaload, 1) := by decide +kernel
theorem dX8_isIdle_19 : decode cX8_isIdle 19 = .ok (.invokevirtual 74, 3) := by decide +kernel
theorem dX8_isIdle_22 : decode cX8_isIdle 22 = .ok (.ifCond .eq 5, 3) := by decide +kernel
theorem dX8_isIdle_25 : decode cX8_isIdle 25 = .ok (.iconst 1, 1) := by decide +kernel
theorem dX8_isIdle_26 : decode cX8_isIdle 26 = .ok (.ireturn, 1) := by decide +kernel
theorem dX8_isIdle_27 : decode cX8_isIdle 27 = .ok (.iinc 2 1, 3) := by decide +kernel
theorem dX8_isIdle_30 : decode cX8_isIdle 30 = .ok (.goto (-28), 3) := by decide +kernel
theorem dX8_isIdle_33 : decode cX8_isIdle 33 = .ok (.iconst 0, 1) := by decide +kernel
theorem dX8_isIdle_34 : decode cX8_isIdle 34 = .ok (.ireturn, 1) := by decide +kernel
theorem dX8_unusedKeys_0 : decode cX8_unusedKeys 0 = .ok (.sipush 4095, 3) := by decide +kernel
theorem dX8_unusedKeys_3 : decode cX8_unusedKeys 3 = .ok (.istore_n 1, 1) := by decide +kernel
theorem dX8_unusedKeys_4 : decode cX8_unusedKeys 4 = .ok (.iconst 0, 1) := by decide +kernel
theorem dX8_unusedKeys_5 : decode cX8_unusedKeys 5 = .ok (.istore_n 2, 1) := by decide +kernel
theorem dX8_unusedKeys_6 : decode cX8_unusedKeys 6 = .ok (.iload_n 2, 1) := by decide +kernel
theorem dX8_unusedKeys_7 : decode cX8_unusedKeys 7 = .ok (.aload_n 0, 1) := by decide +kernel
theorem dX8_unusedKeys_8 : decode cX8_unusedKeys 8 = .ok (.getfield 40, 3) := by decide +kernel
theorem dX8_unusedKeys_11 : decode cX8_unusedKeys 11 = .ok (.if_icmp .ge 47, 3) := by decide +kernel
theorem dX8_unusedKeys_14 : decode cX8_unusedKeys 14 = .ok (.iconst 0, 1) := by decide +kernel
theorem dX8_unusedKeys_15 : decode cX8_unusedKeys 15 = .ok (.istore_n 3, 1) := by decide +kernel
theorem dX8_unusedKeys_16 : decode cX8_unusedKeys 16 = .ok (.iload_n 3, 1) := by decide +kernel
theorem dX8_unusedKeys_17 : decode cX8_unusedKeys 17 = .ok (.aload_n 0, 1) := by decide +kernel
theorem dX8_unusedKeys_18 : decode cX8_unusedKeys 18 = .ok (.getfield 11, 3) := by decide +kernel
theorem dX8_unusedKeys_21 : decode cX8_unusedKeys 21 = .ok (.iload_n 2, 1) := by decide +kernel
theorem dX8_unusedKeys_22 : decode cX8_unusedKeys 22 = .ok (.aaload, 1) := by decide +kernel
theorem dX8_unusedKeys_23 : decode cX8_unusedKeys 23 = .ok (.invokevirtual 44, 3) := by decide +kernel
theorem dX8_unusedKeys_26 : decode cX8_unusedKeys 26 = .ok (.if_icmp .ge 26, 3) := by decide +kernel
theorem dX8_unusedKeys_29 : decode cX8_unusedKeys 29 = .ok (.iload_n 1, 1) := by decide +kernel
theorem dX8_unusedKeys_30 : decode cX8_unusedKeys 30 = .ok (.iconst 1, 1) := by decide +kernel
theorem dX8_unusedKeys_31 : decode cX8_unusedKeys 31 = .ok (.aload_n 0, 1) := by decide +kernel
theorem dX8_unusedKeys_32 : decode cX8_unusedKeys 32 = .ok (.getfield 11, 3) := by decide +kernel
theorem dX8_unusedKeys_35 : decode cX8_unusedKeys 35 = .ok (.iload_n 2, 1) := by decide +kernel
theorem dX8_unusedKeys_36 : decode cX8_unusedKeys 36 = .ok (.aaload, 1) := by decide +kernel
theorem dX8_unusedKeys_37 : decode cX8_unusedKeys 37 = .ok (.iload_n 3, 1) := by decide +kernel
theorem dX8_unusedKeys_38 : decode cX8_unusedKeys 38 = .ok (.invokevirtual 62, 3) := by decide +kernel
theorem dX8_unusedKeys_41 : decode cX8_unusedKeys 41 = .ok (.ishl, 1) := by decide +kernel
theorem dX8_unusedKeys_42 : decode cX8_unusedKeys 42 = .ok (.iconst (-1), 1) := by decide +kernel
theorem dX8_unusedKeys_43 : decode cX8_unusedKeys 43 = .ok (.ixor, 1) := by decide +kernel
theorem dX8_unusedKeys_44 : decode cX8_unusedKeys 44 = .ok (.iand, 1) := by decide +kernel
theorem dX8_unusedKeys_45 : decode cX8_unusedKeys 45 = .ok (.istore_n 1, 1) := by decide +kernel
theorem dX8_unusedKeys_46 : decode cX8_unusedKeys 46 = .ok (.iinc 3 1, 3) := by decide +kernel
theorem dX8_unusedKeys_49 : decode cX8_unusedKeys 49 = .ok (.goto (-33), 3) := by decide +kernel
theorem dX8_unusedKeys_52 : decode cX8_unusedKeys 52 = .ok (.iinc 2 1, 3) := by decide +kernel
theorem dX8_unusedKeys_55 : decode cX8_unusedKeys 55 = .ok (.goto (-49), 3) := by decide +kernel
theorem dX8_unusedKeys_58 : decode cX8_unusedKeys 58 = .ok (.iload_n 1, 1) := by decide +kernel
theorem dX8_unusedKeys_59 : decode cX8_unusedKeys 59 = .ok (.ireturn, 1) := by decide +kernel
theorem dX8_missingAt_0 : decode cX8_missingAt 0 = .ok (.aload_n 0, 1) := by decide +kernel
theorem dX8_missingAt_1 : decode cX8_missingAt 1 = .ok (.invokevirtual 81, 3) := by decide +kernel
theorem dX8_missingAt_4 : decode cX8_missingAt 4 = .ok (.iconst 0, 1) := by decide +kernel
theorem dX8_missingAt_5 : decode cX8_missingAt 5 = .ok (.istore_n 2, 1) := by decide +kernel
theorem dX8_missingAt_6 : decode cX8_missingAt 6 = .ok (.iconst 1, 1) := by decide +kernel
theorem dX8_missingAt_7 : decode cX8_missingAt 7 = .ok (.istore_n 3, 1) := by decide +kernel
theorem dX8_missingAt_8 : decode cX8_missingAt 8 = .ok (.iload_n 3, 1) := by decide +kernel
theorem dX8_missingAt_9 : decode cX8_missingAt 9 = .ok (.bipush 60, 2) := by decide +kernel
theorem dX8_missingAt_11 : decode cX8_missingAt 11 = .ok (.if_icmp .gt 37, 3) := by decide +kernel
theorem dX8_missingAt_14 : decode cX8_missingAt 14 = .ok (.aload_n 0, 1) := by decide +kernel
theorem dX8_missingAt_15 : decode cX8_missingAt 15 = .ok (.getfield 33, 3) := by decide +kernel
theorem dX8_missingAt_18 : decode cX8_missingAt 18 = .ok (.iload_n 3, 1) := by decide +kernel
theorem dX8_missingAt_19 : decode cX8_missingAt 19 = .ok (.baload, 1) := by decide +kernel
theorem dX8_missingAt_20 : decode cX8_missingAt 20 = .ok (.ifCond .eq 22, 3) := by decide +kernel
theorem dX8_missingAt_23 : decode cX8_missingAt 23 = .ok (.aload_n 0, 1) := by decide +kernel
theorem dX8_missingAt_24 : decode cX8_missingAt 24 = .ok (.getfield 37, 3) := by decide +kernel
theorem dX8_missingAt_27 : decode cX8_missingAt 27 = .ok (.iload_n 3, 1) := by decide +kernel
theorem dX8_missingAt_28 : decode cX8_missingAt 28 = .ok (.baload, 1) := by decide +kernel
theorem dX8_missingAt_29 : decode cX8_missingAt 29 = .ok (.ifCond .ne 13, 3) := by decide +kernel
theorem dX8_missingAt_32 : decode cX8_missingAt 32 = .ok (.iload_n 2, 1) := by decide +kernel
theorem dX8_missingAt_33 : decode cX8_missingAt 33 = .ok (.iload_n 1, 1) := by decide +kernel
theorem dX8_missingAt_34 : decode cX8_missingAt 34 = .ok (.if_icmp .ne 5, 3) := by decide +kernel
theorem dX8_missingAt_37 : decode cX8_missingAt 37 = .ok (.iload_n 3, 1) := by decide +kernel
theorem dX8_missingAt_38 : decode cX8_missingAt 38 = .ok (.ireturn, 1) := by decide +kernel
theorem dX8_missingAt_39 : decode cX8_missingAt 39 = .ok (.iinc 2 1, 3) := by decide +kernel
theorem dX8_missingAt_42 : decode cX8_missingAt 42 = .ok (.iinc 3 1, 3) := by decide +kernel
theorem dX8_missingAt_45 : decode cX8_missingAt 45 = .ok (.goto (-37), 3) := by decide +kernel
theorem dX8_missingAt_48 : decode cX8_missingAt 48 = .ok (.iload_n 1, 1) := by decide +kernel
theorem dX8_missingAt_49 : decode cX8_missingAt 49 = .ok (.iconst (-1), 1) := by decide +kernel
theorem dX8_missingAt_50 : decode cX8_missingAt 50 = .ok (.if_icmp .ne 7, 3) := by decide +kernel
theorem dX8_missingAt_53 : decode cX8_missingAt 53 = .ok (.iload_n 2, 1) := by decide +kernel
theorem dX8_missingAt_54 : decode cX8_missingAt 54 = .ok (.goto 5, 3) := by decide +kernel
theorem dX8_missingAt_57 : decode cX8_missingAt 57 = .ok (.bipush (-6), 2) := by decide +kernel
theorem dX8_missingAt_59 : decode cX8_missingAt 59 = .ok (.ireturn, 1) := by decide +kernel
theorem dX8_markMade_0 : decode cX8_markMade 0 = .ok (.iconst 0, 1) := by decide +kernel
theorem dX8_markMade_1 : decode cX8_markMade 1 = .ok (.istore_n 1, 1) := by decide +kernel
theorem dX8_markMade_2 : decode cX8_markMade 2 = .ok (.iload_n 1, 1) := by decide +kernel
theorem dX8_markMade_3 : decode cX8_markMade 3 = .ok (.bipush 60, 2) := by decide +kernel
theorem dX8_markMade_5 : decode cX8_markMade 5 = .ok (.if_icmp .gt 16, 3) := by decide +kernel
theorem dX8_markMade_8 : decode cX8_markMade 8 = .ok (.aload_n 0, 1) := by decide +kernel
theorem dX8_markMade_9 : decode cX8_markMade 9 = .ok (.getfield 37, 3) := by decide +kernel
theorem dX8_markMade_12 : decode cX8_markMade 12 = .ok (.iload_n 1, 1) := by decide +kernel
theorem dX8_markMade_13 : decode cX8_markMade 13 = .ok (.iconst 0, 1) := by decide +kernel
theorem dX8_markMade_14 : decode cX8_markMade 14 = .ok (.bastore, 1) := by decide +kernel
theorem dX8_markMade_15 : decode cX8_markMade 15 = .ok (.iinc 1 1, 3) := by decide +kernel
theorem dX8_markMade_18 : decode cX8_markMade 18 = .ok (.goto (-16), 3) := by decide +kernel
theorem dX8_markMade_21 : decode cX8_markMade 21 = .ok (.iconst 0, 1) := by decide +kernel
theorem dX8_markMade_22 : decode cX8_markMade 22 = .ok (.istore_n 1, 1) := by decide +kernel
theorem dX8_markMade_23 : decode cX8_markMade 23 = .ok (.iload_n 1, 1) := by decide +kernel
theorem dX8_markMade_24 : decode cX8_markMade 24 = .ok (.aload_n 0, 1) := by decide +kernel
theorem dX8_markMade_25 : decode cX8_markMade 25 = .ok (.getfield 40, 3) := by decide +kernel
theorem dX8_markMade_28 : decode cX8_markMade 28 = .ok (.if_icmp .ge 22, 3) := by decide +kernel
theorem dX8_markMade_31 : decode cX8_markMade 31 = .ok (.aload_n 0, 1) := by decide +kernel
theorem dX8_markMade_32 : decode cX8_markMade 32 = .ok (.iload_n 1, 1) := by decide +kernel
theorem dX8_markMade_33 : decode cX8_markMade 33 = .ok (.invokevirtual 78, 3) := by decide +kernel
theorem dX8_markMade_36 : decode cX8_markMade 36 = .ok (.ifCond .ne 8, 3) := by decide +kernel
theorem dX8_markMade_39 : decode cX8_markMade 39 = .ok (.aload_n 0, 1) := by decide +kernel
theorem dX8_markMade_40 : decode cX8_markMade 40 = .ok (.iload_n 1, 1) := by decide +kernel
theorem dX8_markMade_41 : decode cX8_markMade 41 = .ok (.invokevirtual 84, 3) := by decide +kernel
theorem dX8_markMade_44 : decode cX8_markMade 44 = .ok (.iinc 1 1, 3) := by decide +kernel
theorem dX8_markMade_47 : decode cX8_markMade 47 = .ok (.goto (-24), 3) := by decide +kernel
theorem dX8_markMade_50 : decode cX8_markMade 50 = .ok (.iconst 0, 1) := by decide +kernel
theorem dX8_markMade_51 : decode cX8_markMade 51 = .ok (.istore_n 1, 1) := by decide +kernel
theorem dX8_markMade_52 : decode cX8_markMade 52 = .ok (.iload_n 1, 1) := by decide +kernel
theorem dX8_markMade_53 : decode cX8_markMade 53 = .ok (.aload_n 0, 1) := by decide +kernel
theorem dX8_markMade_54 : decode cX8_markMade 54 = .ok (.getfield 30, 3) := by decide +kernel
theorem dX8_markMade_57 : decode cX8_markMade 57 = .ok (.invokevirtual 44, 3) := by decide +kernel
theorem dX8_markMade_60 : decode cX8_markMade 60 = .ok (.if_icmp .ge 13, 3) := by decide +kernel
theorem dX8_markMade_63 : decode cX8_markMade 63 = .ok (.aload_n 0, 1) := by decide +kernel
theorem dX8_markMade_64 : decode cX8_markMade 64 = .ok (.invokevirtual 87, 3) := by decide +kernel
theorem dX8_markMade_67 : decode cX8_markMade 67 = .ok (.iinc 1 1, 3) := by decide +kernel
theorem dX8_markMade_70 : decode cX8_markMade 70 = .ok (.goto (-18), 3) := by decide +kernel
theorem dX8_markMade_73 : decode cX8_markMade 73 = .ok (.return_, 1) := by decide +kernel
theorem dX8_markLettersOf_0 : decode cX8_markLettersOf 0 = .ok (.iconst 0, 1) := by decide +kernel
theorem dX8_markLettersOf_1 : decode cX8_markLettersOf 1 = .ok (.istore_n 2, 1) := by decide +kernel
theorem dX8_markLettersOf_2 : decode cX8_markLettersOf 2 = .ok (.iload_n 2, 1) := by decide +kernel
theorem dX8_markLettersOf_3 : decode cX8_markLettersOf 3 = .ok (.aload_n 0, 1) := by decide +kernel
theorem dX8_markLettersOf_4 : decode cX8_markLettersOf 4 = .ok (.getfield 17, 3) := by decide +kernel
theorem dX8_markLettersOf_7 : decode cX8_markLettersOf 7 = .ok (.iload_n 1, 1) := by decide +kernel
theorem dX8_markLettersOf_8 : decode cX8_markLettersOf 8 = .ok (.aaload, 1) := by decide +kernel
theorem dX8_markLettersOf_9 : decode cX8_markLettersOf 9 = .ok (.invokevirtual 44, 3) := by decide +kernel
theorem dX8_markLettersOf_12 : decode cX8_markLettersOf 12 = .ok (.if_icmp .ge 23, 3) := by decide +kernel
theorem dX8_markLettersOf_15 : decode cX8_markLettersOf 15 = .ok (.aload_n 0, 1) := by decide +kernel
theorem dX8_markLettersOf_16 : decode cX8_markLettersOf 16 = .ok (.aload_n 0, 1) := by decide +kernel
theorem dX8_markLettersOf_17 : decode cX8_markLettersOf 17 = .ok (.getfield 17, 3) := by decide +kernel
theorem dX8_markLettersOf_20 : decode cX8_markLettersOf 20 = .ok (.iload_n 1, 1) := by decide +kernel
theorem dX8_markLettersOf_21 : decode cX8_markLettersOf 21 = .ok (.aaload, 1) := by decide +kernel
theorem dX8_markLettersOf_22 : decode cX8_markLettersOf 22 = .ok (.iload_n 2, 1) := by decide +kernel
theorem dX8_markLettersOf_23 : decode cX8_markLettersOf 23 = .ok (.invokevirtual 62, 3) := by decide +kernel
theorem dX8_markLettersOf_26 : decode cX8_markLettersOf 26 = .ok (.invokevirtual 90, 3) := by decide +kernel
theorem dX8_markLettersOf_29 : decode cX8_markLettersOf 29 = .ok (.iinc 2 1, 3) := by decide +kernel
theorem dX8_markLettersOf_32 : decode cX8_markLettersOf 32 = .ok (.goto (-30), 3) := by decide +kernel
theorem dX8_markLettersOf_35 : decode cX8_markLettersOf 35 = .ok (.return_, 1) := by decide +kernel
theorem dX8_markJoints_0 : decode cX8_markJoints 0 = .ok (.iconst 0, 1) := by decide +kernel
theorem dX8_markJoints_1 : decode cX8_markJoints 1 = .ok (.istore_n 1, 1) := by decide +kernel
theorem dX8_markJoints_2 : decode cX8_markJoints 2 = .ok (.iload_n 1, 1) := by decide +kernel
theorem dX8_markJoints_3 : decode cX8_markJoints 3 = .ok (.aload_n 0, 1) := by decide +kernel
theorem dX8_markJoints_4 : decode cX8_markJoints 4 = .ok (.getfield 30, 3) := by decide +kernel
theorem dX8_markJoints_7 : decode cX8_markJoints 7 = .ok (.invokevirtual 44, 3) := by decide +kernel
theorem dX8_markJoints_10 : decode cX8_markJoints 10 = .ok (.if_icmp .ge 51, 3) := by decide +kernel
theorem dX8_markJoints_13 : decode cX8_markJoints 13 = .ok (.aload_n 0, 1) := by decide +kernel
theorem dX8_markJoints_14 : decode cX8_markJoints 14 = .ok (.aload_n 0, 1) := by decide +kernel
theorem dX8_markJoints_15 : decode cX8_markJoints 15 = .ok (.getfield 23, 3) := by decide +kernel
theorem dX8_markJoints_18 : decode cX8_markJoints 18 = .ok (.iload_n 1, 1) := by decide +kernel
theorem dX8_markJoints_19 : decode cX8_markJoints 19 = .ok (.invokevirtual 62, 3) := by decide +kernel
theorem dX8_markJoints_22 : decode cX8_markJoints 22 = .ok (.invokevirtual 93, 3) := by decide +kernel
theorem dX8_markJoints_25 : decode cX8_markJoints 25 = .ok (.ifCond .eq 30, 3) := by decide +kernel
theorem dX8_markJoints_28 : decode cX8_markJoints 28 = .ok (.aload_n 0, 1) := by decide +kernel
theorem dX8_markJoints_29 : decode cX8_markJoints 29 = .ok (.aload_n 0, 1) := by decide +kernel
theorem dX8_markJoints_30 : decode cX8_markJoints 30 = .ok (.getfield 27, 3) := by decide +kernel
theorem dX8_markJoints_33 : decode cX8_markJoints 33 = .ok (.iload_n 1, 1) := by decide +kernel
theorem dX8_markJoints_34 : decode cX8_markJoints 34 = .ok (.invokevirtual 62, 3) := by decide +kernel
theorem dX8_markJoints_37 : decode cX8_markJoints 37 = .ok (.invokevirtual 93, 3) := by decide +kernel
theorem dX8_markJoints_40 : decode cX8_markJoints 40 = .ok (.ifCond .eq 15, 3) := by decide +kernel
theorem dX8_markJoints_43 : decode cX8_markJoints 43 = .ok (.aload_n 0, 1) := by decide +kernel
theorem dX8_markJoints_44 : decode cX8_markJoints 44 = .ok (.aload_n 0, 1) := by decide +kernel
theorem dX8_markJoints_45 : decode cX8_markJoints 45 = .ok (.getfield 30, 3) := by decide +kernel
theorem dX8_markJoints_48 : decode cX8_markJoints 48 = .ok (.iload_n 1, 1) := by decide +kernel
theorem dX8_markJoints_49 : decode cX8_markJoints 49 = .ok (.invokevirtual 62, 3) := by decide +kernel
theorem dX8_markJoints_52 : decode cX8_markJoints 52 = .ok (.invokevirtual 90, 3) := by decide +kernel
theorem dX8_markJoints_55 : decode cX8_markJoints 55 = .ok (.iinc 1 1, 3) := by decide +kernel
theorem dX8_markJoints_58 : decode cX8_markJoints 58 = .ok (.goto (-56), 3) := by decide +kernel
theorem dX8_markJoints_61 : decode cX8_markJoints 61 = .ok (.return_, 1) := by decide +kernel
theorem dX8_mark_0 : decode cX8_mark 0 = .ok (.iload_n 1, 1) := by decide +kernel
theorem dX8_mark_1 : decode cX8_mark 1 = .ok (.invokestatic 96, 3) := by decide +kernel
theorem dX8_mark_4 : decode cX8_mark 4 = .ok (.ifCond .eq 10, 3) := by decide +kernel
theorem dX8_mark_7 : decode cX8_mark 7 = .ok (.aload_n 0, 1) := by decide +kernel
theorem dX8_mark_8 : decode cX8_mark 8 = .ok (.getfield 37, 3) := by decide +kernel
theorem dX8_mark_11 : decode cX8_mark 11 = .ok (.iload_n 1, 1) := by decide +kernel
theorem dX8_mark_12 : decode cX8_mark 12 = .ok (.iconst 1, 1) := by decide +kernel
theorem dX8_mark_13 : decode cX8_mark 13 = .ok (.bastore, 1) := by decide +kernel
theorem dX8_mark_14 : decode cX8_mark 14 = .ok (.return_, 1) := by decide +kernel
theorem dX8_isMade_0 : decode cX8_isMade 0 = .ok (.iload_n 1, 1) := by decide +kernel
theorem dX8_isMade_1 : decode cX8_isMade 1 = .ok (.invokestatic 96, 3) := by decide +kernel
theorem dX8_isMade_4 : decode cX8_isMade 4 = .ok (.ifCond .eq 16, 3) := by decide +kernel
theorem dX8_isMade_7 : decode cX8_isMade 7 = .ok (.aload_n 0, 1) := by decide +kernel
theorem dX8_isMade_8 : decode cX8_isMade 8 = .ok (.getfield 37, 3) := by decide +kernel
theorem dX8_isMade_11 : decode cX8_isMade 11 = .ok (.iload_n 1, 1) := by decide +kernel
theorem dX8_isMade_12 : decode cX8_isMade 12 = .ok (.baload, 1) := by decide +kernel
theorem dX8_isMade_13 : decode cX8_isMade 13 = .ok (.ifCond .eq 7, 3) := by decide +kernel
theorem dX8_isMade_16 : decode cX8_isMade 16 = .ok (.iconst 1, 1) := by decide +kernel
theorem dX8_isMade_17 : decode cX8_isMade 17 = .ok (.goto 4, 3) := by decide +kernel
theorem dX8_isMade_20 : decode cX8_isMade 20 = .ok (.iconst 0, 1) := by decide +kernel
theorem dX8_isMade_21 : decode cX8_isMade 21 = .ok (.ireturn, 1) := by decide +kernel
theorem dX9_init_0 : decode cX9_init 0 = .ok (.aload_n 0, 1) := by decide +kernel
theorem dX9_init_1 : decode cX9_init 1 = .ok (.invokespecial 3, 3) := by decide +kernel
theorem dX9_init_4 : decode cX9_init 4 = .ok (.aload_n 0, 1) := by decide +kernel
theorem dX9_init_5 : decode cX9_init 5 = .ok (.bipush 120, 2) := by decide +kernel
theorem dX9_init_7 : decode cX9_init 7 = .ok (.newarray .int, 2) := by decide +kernel
theorem dX9_init_9 : decode cX9_init 9 = .ok (.putfield 9, 3) := by decide +kernel
theorem dX9_init_12 : decode cX9_init 12 = .ok (.aload_n 0, 1) := by decide +kernel
theorem dX9_init_13 : decode cX9_init 13 = .ok (.bipush 120, 2) := by decide +kernel
theorem dX9_init_15 : decode cX9_init 15 = .ok (.newarray .int, 2) := by decide +kernel
theorem dX9_init_17 : decode cX9_init 17 = .ok (.putfield 15, 3) := by decide +kernel
theorem dX9_init_20 : decode cX9_init 20 = .ok (.aload_n 0, 1) := by decide +kernel
theorem dX9_init_21 : decode cX9_init 21 = .ok (.sipush 1200, 3) := by decide +kernel
theorem dX9_init_24 : decode cX9_init 24 = .ok (.newarray .int, 2) := by decide +kernel
theorem dX9_init_26 : decode cX9_init 26 = .ok (.putfield 18, 3) := by decide +kernel
theorem dX9_init_29 : decode cX9_init 29 = .ok (.aload_n 0, 1) := by decide +kernel
theorem dX9_init_30 : decode cX9_init 30 = .ok (.bipush 120, 2) := by decide +kernel
theorem dX9_init_32 : decode cX9_init 32 = .ok (.newarray .int, 2) := by decide +kernel
theorem dX9_init_34 : decode cX9_init 34 = .ok (.putfield 21, 3) := by decide +kernel
theorem dX9_init_37 : decode cX9_init 37 = .ok (.aload_n 0, 1) := by decide +kernel
theorem dX9_init_38 : decode cX9_init 38 = .ok (.bipush 120, 2) := by decide +kernel
theorem dX9_init_40 : decode cX9_init 40 = .ok (.newarray .boolean, 2) := by decide +kernel
theorem dX9_init_42 : decode cX9_init 42 = .ok (.putfield 24, 3) := by decide +kernel
theorem dX9_init_45 : decode cX9_init 45 = .ok (.aload_n 0, 1) := by decide +kernel
theorem dX9_init_46 : decode cX9_init 46 = .ok (.bipush 120, 2) := by decide +kernel
theorem dX9_init_48 : decode cX9_init 48 = .ok (.newarray .int, 2) := by decide +kernel
theorem dX9_init_50 : decode cX9_init 50 = .ok (.putfield 28, 3) := by decide +kernel
theorem dX9_init_53 : decode cX9_init 53 = .ok (.aload_n 0, 1) := by decide +kernel
theorem dX9_init_54 : decode cX9_init 54 = .ok (.new 31, 3) := by decide +kernel
theorem dX9_init_57 : decode cX9_init 57 = .ok (.dup, 1) := by decide +kernel
theorem dX9_init_58 : decode cX9_init 58 = .ok (.bipush 120, 2) := by decide +kernel
theorem dX9_init_60 : decode cX9_init 60 = .ok (.invokespecial 33, 3) := by decide +kernel
theorem dX9_init_63 : decode cX9_init 63 = .ok (.putfield 36, 3) := by decide +kernel
theorem dX9_init_66 : decode cX9_init 66 = .ok (.aload_n 0, 1) := by decide +kernel
theorem dX9_init_67 : decode cX9_init 67 = .ok (.new 31, 3) := by decide +kernel
theorem dX9_init_70 : decode cX9_init 70 = .ok (.dup, 1) := by decide +kernel
theorem dX9_init_71 : decode cX9_init 71 = .ok (.bipush 120, 2) := by decide +kernel
theorem dX9_init_73 : decode cX9_init 73 = .ok (.invokespecial 33, 3) := by decide +kernel
theorem dX9_init_76 : decode cX9_init 76 = .ok (.putfield 40, 3) := by decide +kernel
theorem dX9_init_79 : decode cX9_init 79 = .ok (.aload_n 0, 1) := by decide +kernel
theorem dX9_init_80 : decode cX9_init 80 = .ok (.aload_n 1, 1) := by decide +kernel
theorem dX9_init_81 : decode cX9_init 81 = .ok (.putfield 43, 3) := by decide +kernel
theorem dX9_init_84 : decode cX9_init 84 = .ok (.return_, 1) := by decide +kernel
theorem dX9_peak_0 : decode cX9_peak 0 = .ok (.aload_n 0, 1) := by decide +kernel
theorem dX9_peak_1 : decode cX9_peak 1 = .ok (.getfield 47, 3) := by decide +kernel
theorem dX9_peak_4 : decode cX9_peak 4 = .ok (.ireturn, 1) := by decide +kernel
theorem dX9_path_0 : decode cX9_path 0 = .ok (.aload_n 0, 1) := by decide +kernel
theorem dX9_path_1 : decode cX9_path 1 = .ok (.getfield 40, 3) := by decide +kernel
theorem dX9_path_4 : decode cX9_path 4 = .ok (.areturn, 1) := by decide +kernel
theorem dX9_find_0 : decode cX9_find 0 = .ok (.aload_n 0, 1) := by decide +kernel
theorem dX9_find_1 : decode cX9_find 1 = .ok (.getfield 43, 3) := by decide +kernel
theorem dX9_find_4 : decode cX9_find 4 = .ok (.iload_n 1, 1) := by decide +kernel
theorem dX9_find_5 : decode cX9_find 5 = .ok (.invokevirtual 51, 3) := by decide +kernel
theorem dX9_find_8 : decode cX9_find 8 = .ok (.pop, 1) := by decide +kernel
theorem dX9_find_9 : decode cX9_find 9 = .ok (.aload_n 0, 1) := by decide +kernel
theorem dX9_find_10 : decode cX9_find 10 = .ok (.getfield 43, 3) := by decide +kernel
theorem dX9_find_13 : decode cX9_find 13 = .ok (.invokevirtual 57, 3) := by decide +kernel
theorem dX9_find_16 : decode cX9_find 16 = .ok (.istore_n 3, 1) := by decide +kernel
theorem dX9_find_17 : decode cX9_find 17 = .ok (.aload_n 0, 1) := by decide +kernel
theorem dX9_find_18 : decode cX9_find 18 = .ok (.getfield 43, 3) := by decide +kernel
theorem dX9_find_21 : decode cX9_find 21 = .ok (.iload_n 2, 1) := by decide +kernel
theorem dX9_find_22 : decode cX9_find 22 = .ok (.invokevirtual 51, 3) := by decide +kernel
theorem dX9_find_25 : decode cX9_find 25 = .ok (.pop, 1) := by decide +kernel
theorem dX9_find_26 : decode cX9_find 26 = .ok (.aload_n 0, 1) := by decide +kernel
theorem dX9_find_27 : decode cX9_find 27 = .ok (.getfield 43, 3) := by decide +kernel
theorem dX9_find_30 : decode cX9_find 30 = .ok (.invokevirtual 57, 3) := by decide +kernel
theorem dX9_find_33 : decode cX9_find 33 = .ok (.istore 4, 2) := by decide +kernel
theorem dX9_find_35 : decode cX9_find 35 = .ok (.aload_n 0, 1) := by decide +kernel
theorem dX9_find_36 : decode cX9_find 36 = .ok (.invokevirtual 61, 3) := by decide +kernel
theorem dX9_find_39 : decode cX9_find 39 = .ok (.aload_n 0, 1) := by decide +kernel
theorem dX9_find_40 : decode cX9_find 40 = .ok (.aload_n 0, 1) := by decide +kernel
theorem dX9_find_41 : decode cX9_find 41 = .ok (.iload_n 3, 1) := by decide +kernel
theorem dX9_find_42 : decode cX9_find 42 = .ok (.iload 4, 2) := by decide +kernel
theorem dX9_find_44 : decode cX9_find 44 = .ok (.invokevirtual 64, 3) := by decide +kernel
theorem dX9_find_47 : decode cX9_find 47 = .ok (.putfield 47, 3) := by decide +kernel
theorem dX9_find_50 : decode cX9_find 50 = .ok (.aload_n 0, 1) := by decide +kernel
theorem dX9_find_51 : decode cX9_find 51 = .ok (.iload 4, 2) := by decide +kernel
theorem dX9_find_53 : decode cX9_find 53 = .ok (.invokevirtual 68, 3) := by decide +kernel
theorem dX9_find_56 : decode cX9_find 56 = .ok (.aload_n 0, 1) := by decide +kernel
theorem dX9_find_57 : decode cX9_find 57 = .ok (.iload_n 3, 1) := by decide +kernel
theorem dX9_find_58 : decode cX9_find 58 = .ok (.invokevirtual 71, 3) := by decide +kernel
theorem dX9_find_61 : decode cX9_find 61 = .ok (.return_, 1) := by decide +kernel
theorem dX9_listLayouts_0 : decode cX9_listLayouts 0 = .ok (.aload_n 0, 1) := by decide +kernel
theorem dX9_listLayouts_1 : decode cX9_listLayouts 1 = .ok (.iconst 0, 1) := by decide +kernel
theorem dX9_listLayouts_2 : decode cX9_listLayouts 2 = .ok (.putfield 74, 3) := by decide +kernel
theorem dX9_listLayouts_5 : decode cX9_listLayouts 5 = .ok (.aload_n 0, 1) := by decide +kernel
theorem dX9_listLayouts_6 : decode cX9_listLayouts 6 = .ok (.aload_n 0, 1) := by decide +kernel
theorem dX9_listLayouts_7 : decode cX9_listLayouts 7 = .ok (.getfield 43, 3) := by decide +kernel
theorem dX9_listLayouts_10 : decode cX9_listLayouts 10 = .ok (.invokevirtual 77, 3) := by decide +kernel
theorem dX9_listLayouts_13 : decode cX9_listLayouts 13 = .ok (.aload_n 0, 1) := by decide +kernel
theorem dX9_listLayouts_14 : decode cX9_listLayouts 14 = .ok (.getfield 43, 3) := by decide +kernel
theorem dX9_listLayouts_17 : decode cX9_listLayouts 17 = .ok (.invokevirtual 77, 3) := by decide +kernel
theorem dX9_listLayouts_20 : decode cX9_listLayouts 20 = .ok (.iconst 1, 1) := by decide +kernel
theorem dX9_listLayouts_21 : decode cX9_listLayouts 21 = .ok (.isub, 1) := by decide +kernel
theorem dX9_listLayouts_22 : decode cX9_listLayouts 22 = .ok (.imul, 1) := by decide +kernel
theorem dX9_listLayouts_23 : decode cX9_listLayouts 23 = .ok (.iconst 2, 1) := by decide +kernel
theorem dX9_listLayouts_24 : decode cX9_listLayouts 24 = .ok (.idiv, 1) := by decide +kernel
theorem dX9_listLayouts_25 : decode cX9_listLayouts 25 = .ok (.putfield 79, 3) := by decide +kernel
theorem dX9_listLayouts_28 : decode cX9_listLayouts 28 = .ok (.aload_n 0, 1) := by decide +kernel
theorem dX9_listLayouts_29 : decode cX9_listLayouts 29 = .ok (.getfield 43, 3) := by decide +kernel
theorem dX9_listLayouts_32 : decode cX9_listLayouts 32 = .ok (.invokevirtual 82, 3) := by decide +kernel
theorem dX9_listLayouts_35 : decode cX9_listLayouts 35 = .ok (.iconst 1, 1) := by decide +kernel
theorem dX9_listLayouts_36 : decode cX9_listLayouts 36 = .ok (.istore_n 1, 1) := by decide +kernel
theorem dX9_listLayouts_37 : decode cX9_listLayouts 37 = .ok (.iload_n 1, 1) := by decide +kernel
theorem dX9_listLayouts_38 : decode cX9_listLayouts 38 = .ok (.ifCond .eq 73, 3) := by decide +kernel
theorem dX9_listLayouts_41 : decode cX9_listLayouts 41 = .ok (.aload_n 0, 1) := by decide +kernel
theorem dX9_listLayouts_42 : decode cX9_listLayouts 42 = .ok (.getfield 74, 3) := by decide +kernel
theorem dX9_listLayouts_45 : decode cX9_listLayouts 45 = .ok (.bipush 120, 2) := by decide +kernel
theorem dX9_listLayouts_47 : decode cX9_listLayouts 47 = .ok (.if_icmp .ge 64, 3) := by decide +kernel
theorem dX9_listLayouts_50 : decode cX9_listLayouts 50 = .ok (.aload_n 0, 1) := by decide +kernel
theorem dX9_listLayouts_51 : decode cX9_listLayouts 51 = .ok (.getfield 9, 3) := by decide +kernel
theorem dX9_listLayouts_54 : decode cX9_listLayouts 54 = .ok (.aload_n 0, 1) := by decide +kernel
theorem dX9_listLayouts_55 : decode cX9_listLayouts 55 = .ok (.getfield 74, 3) := by decide +kernel
theorem dX9_listLayouts_58 : decode cX9_listLayouts 58 = .ok (.aload_n 0, 1) := by decide +kernel
theorem dX9_listLayouts_59 : decode cX9_listLayouts 59 = .ok (.getfield 43, 3) := by decide +kernel
theorem dX9_listLayouts_62 : decode cX9_listLayouts 62 = .ok (.invokevirtual 85, 3) := by decide +kernel
theorem dX9_listLayouts_65 : decode cX9_listLayouts 65 = .ok (.iastore, 1) := by decide +kernel
theorem dX9_listLayouts_66 : decode cX9_listLayouts 66 = .ok (.aload_n 0, 1) := by decide +kernel
theorem dX9_listLayouts_67 : decode cX9_listLayouts 67 = .ok (.getfield 15, 3) := by decide +kernel
theorem dX9_listLayouts_70 : decode cX9_listLayouts 70 = .ok (.aload_n 0, 1) := by decide +kernel
theorem dX9_listLayouts_71 : decode cX9_listLayouts 71 = .ok (.getfield 74, 3) := by decide +kernel
theorem dX9_listLayouts_74 : decode cX9_listLayouts 74 = .ok (.aload_n 0, 1) := by decide +kernel
theorem dX9_listLayouts_75 : decode cX9_listLayouts 75 = .ok (.getfield 43, 3) := by decide +kernel
theorem dX9_listLayouts_78 : decode cX9_listLayouts 78 = .ok (.invokevirtual 87, 3) := by decide +kernel
theorem dX9_listLayouts_81 : decode cX9_listLayouts 81 = .ok (.iastore, 1) := by decide +kernel
theorem dX9_listLayouts_82 : decode cX9_listLayouts 82 = .ok (.aload_n 0, 1) := by decide +kernel
theorem dX9_listLayouts_83 : decode cX9_listLayouts 83 = .ok (.aload_n 0, 1) := by decide +kernel
theorem dX9_listLayouts_84 : decode cX9_listLayouts 84 = .ok (.getfield 74, 3) := by decide +kernel
theorem dX9_listLayouts_87 : decode cX9_listLayouts 87 = .ok (.invokevirtual 90, 3) := by decide +kernel
theorem dX9_listLayouts_90 : decode cX9_listLayouts 90 = .ok (.aload_n 0, 1) := by decide +kernel
theorem dX9_listLayouts_91 : decode cX9_listLayouts 91 = .ok (.dup, 1) := by decide +kernel
theorem dX9_listLayouts_92 : decode cX9_listLayouts 92 = .ok (.getfield 74, 3) := by decide +kernel
theorem dX9_listLayouts_95 : decode cX9_listLayouts 95 = .ok (.iconst 1, 1) := by decide +kernel
theorem dX9_listLayouts_96 : decode cX9_listLayouts 96 = .ok (.iadd, 1) := by decide +kernel
theorem dX9_listLayouts_97 : decode cX9_listLayouts 97 = .ok (.putfield 74, 3) := by decide +kernel
theorem dX9_listLayouts_100 : decode cX9_listLayouts 100 = .ok (.aload_n 0, 1) := by decide +kernel
theorem dX9_listLayouts_101 : decode cX9_listLayouts 101 = .ok (.getfield 43, 3) := by decide +kernel
theorem dX9_listLayouts_104 : decode cX9_listLayouts 104 = .ok (.invokevirtual 93, 3) := by decide +kernel
theorem dX9_listLayouts_107 : decode cX9_listLayouts 107 = .ok (.istore_n 1, 1) := by decide +kernel
theorem dX9_listLayouts_108 : decode cX9_listLayouts 108 = .ok (.goto (-71), 3) := by decide +kernel
theorem dX9_listLayouts_111 : decode cX9_listLayouts 111 = .ok (.return_, 1) := by decide +kernel
theorem dX9_listNeighbours_0 : decode cX9_listNeighbours 0 = .ok (.iload_n 1, 1) := by decide +kernel
theorem dX9_listNeighbours_1 : decode cX9_listNeighbours 1 = .ok (.bipush 10, 2) := by decide +kernel
theorem dX9_listNeighbours_3 : decode cX9_listNeighbours 3 = .ok (.imul, 1) := by decide +kernel
theorem dX9_listNeighbours_4 : decode cX9_listNeighbours 4 = .ok (.istore_n 2, 1) := by decide +kernel
theorem dX9_listNeighbours_5 : decode cX9_listNeighbours 5 = .ok (.iconst 0, 1) := by decide +kernel
theorem dX9_listNeighbours_6 : decode cX9_listNeighbours 6 = .ok (.istore_n 3, 1) := by decide +kernel
theorem dX9_listNeighbours_7 : decode cX9_listNeighbours 7 = .ok (.iload_n 3, 1) := by decide +kernel
theorem dX9_listNeighbours_8 : decode cX9_listNeighbours 8 = .ok (.aload_n 0, 1) := by decide +kernel
theorem dX9_listNeighbours_9 : decode cX9_listNeighbours 9 = .ok (.getfield 43, 3) := by decide +kernel
theorem dX9_listNeighbours_12 : decode cX9_listNeighbours 12 = .ok (.invokevirtual 77, 3) := by decide +kernel
theorem dX9_listNeighbours_15 : decode cX9_listNeighbours 15 = .ok (.if_icmp .ge 68, 3) := by decide +kernel
theorem dX9_listNeighbours_18 : decode cX9_listNeighbours 18 = .ok (.iload_n 3, 1) := by decide +kernel
theorem dX9_listNeighbours_19 : decode cX9_listNeighbours 19 = .ok (.iconst 1, 1) := by decide +kernel
theorem dX9_listNeighbours_20 : decode cX9_listNeighbours 20 = .ok (.iadd, 1) := by decide +kernel
theorem dX9_listNeighbours_21 : decode cX9_listNeighbours 21 = .ok (.istore 4, 2) := by decide +kernel
theorem dX9_listNeighbours_23 : decode cX9_listNeighbours 23 = .ok (.iload 4, 2) := by decide +kernel
theorem dX9_listNeighbours_25 : decode cX9_listNeighbours 25 = .ok (.aload_n 0, 1) := by decide +kernel
theorem dX9_listNeighbours_26 : decode cX9_listNeighbours 26 = .ok (.getfield 43, 3) := by decide +kernel
theorem dX9_listNeighbours_29 : decode cX9_listNeighbours 29 = .ok (.invokevirtual 77, 3) := by decide +kernel
theorem dX9_listNeighbours_32 : decode cX9_listNeighbours 32 = .ok (.if_icmp .ge 45, 3) := by decide +kernel
theorem dX9_listNeighbours_35 : decode cX9_listNeighbours 35 = .ok (.aload_n 0, 1) := by decide +kernel
theorem dX9_listNeighbours_36 : decode cX9_listNeighbours 36 = .ok (.getfield 43, 3) := by decide +kernel
theorem dX9_listNeighbours_39 : decode cX9_listNeighbours 39 = .ok (.iload_n 3, 1) := by decide +kernel
theorem dX9_listNeighbours_40 : decode cX9_listNeighbours 40 = .ok (.iload 4, 2) := by decide +kernel
theorem dX9_listNeighbours_42 : decode cX9_listNeighbours 42 = .ok (.invokevirtual 97, 3) := by decide +kernel
theorem dX9_listNeighbours_45 : decode cX9_listNeighbours 45 = .ok (.aload_n 0, 1) := by decide +kernel
theorem dX9_listNeighbours_46 : decode cX9_listNeighbours 46 = .ok (.getfield 18, 3) := by decide +kernel
theorem dX9_listNeighbours_49 : decode cX9_listNeighbours 49 = .ok (.iload_n 2, 1) := by decide +kernel
theorem dX9_listNeighbours_50 : decode cX9_listNeighbours 50 = .ok (.aload_n 0, 1) := by decide +kernel
theorem dX9_listNeighbours_51 : decode cX9_listNeighbours 51 = .ok (.getfield 43, 3) := by decide +kernel
theorem dX9_listNeighbours_54 : decode cX9_listNeighbours 54 = .ok (.invokevirtual 57, 3) := by decide +kernel
theorem dX9_listNeighbours_57 : decode cX9_listNeighbours 57 = .ok (.iastore, 1) := by decide +kernel
theorem dX9_listNeighbours_58 : decode cX9_listNeighbours 58 = .ok (.iinc 2 1, 3) := by decide +kernel
theorem dX9_listNeighbours_61 : decode cX9_listNeighbours 61 = .ok (.aload_n 0, 1) := by decide +kernel
theorem dX9_listNeighbours_62 : decode cX9_listNeighbours 62 = .ok (.getfield 43, 3) := by decide +kernel
theorem dX9_listNeighbours_65 : decode cX9_listNeighbours 65 = .ok (.iload_n 3, 1) := by decide +kernel
theorem dX9_listNeighbours_66 : decode cX9_listNeighbours 66 = .ok (.iload 4, 2) := by decide +kernel
theorem dX9_listNeighbours_68 : decode cX9_listNeighbours 68 = .ok (.invokevirtual 97, 3) := by decide +kernel
theorem dX9_listNeighbours_71 : decode cX9_listNeighbours 71 = .ok (.iinc 4 1, 3) := by decide +kernel
theorem dX9_listNeighbours_74 : decode cX9_listNeighbours 74 = .ok (.goto (-51), 3) := by decide +kernel
theorem dX9_listNeighbours_77 : decode cX9_listNeighbours 77 = .ok (.iinc 3 1, 3) := by decide +kernel
theorem dX9_listNeighbours_80 : decode cX9_listNeighbours 80 = .ok (.goto (-73), 3) := by decide +kernel
theorem dX9_listNeighbours_83 : decode cX9_listNeighbours 83 = .ok (.return_, 1) := by decide +kernel
theorem dX9_neighbour_0 : decode cX9_neighbour 0 = .ok (.aload_n 0, 1) := by decide +kernel
theorem dX9_neighbour_1 : decode cX9_neighbour 1 = .ok (.getfield 18, 3) := by decide +kernel
theorem dX9_neighbour_4 : decode cX9_neighbour 4 = .ok (.iload_n 1, 1) := by decide +kernel
theorem dX9_neighbour_5 : decode cX9_neighbour 5 = .ok (.bipush 10, 2) := by decide +kernel
theorem dX9_neighbour_7 : decode cX9_neighbour 7 = .ok (.imul, 1) := by decide +kernel
theorem dX9_neighbour_8 : decode cX9_neighbour 8 = .ok (.iload_n 2, 1) := by decide +kernel
theorem dX9_neighbour_9 : decode cX9_neighbour 9 = .ok (.iadd, 1) := by decide +kernel
theorem dX9_neighbour_10 : decode cX9_neighbour 10 = .ok (.iaload, 1) := by decide +kernel
theorem dX9_neighbour_11 : decode cX9_neighbour 11 = .ok (.ireturn, 1) := by decide +kernel
theorem dX9_peakOfWay_0 : decode cX9_peakOfWay 0 = .ok (.iconst 0, 1) := by decide +kernel
theorem dX9_peakOfWay_1 : decode cX9_peakOfWay 1 = .ok (.istore_n 3, 1) := by decide +kernel
theorem dX9_peakOfWay_2 : decode cX9_peakOfWay 2 = .ok (.iload_n 3, 1) := by decide +kernel
theorem dX9_peakOfWay_3 : decode cX9_peakOfWay 3 = .ok (.aload_n 0, 1) := by decide +kernel
theorem dX9_peakOfWay_4 : decode cX9_peakOfWay 4 = .ok (.getfield 74, 3) := by decide +kernel
theorem dX9_peakOfWay_7 : decode cX9_peakOfWay 7 = .ok (.if_icmp .ge 24, 3) := by decide +kernel
theorem dX9_peakOfWay_10 : decode cX9_peakOfWay 10 = .ok (.aload_n 0, 1) := by decide +kernel
theorem dX9_peakOfWay_11 : decode cX9_peakOfWay 11 = .ok (.getfield 21, 3) := by decide +kernel
theorem dX9_peakOfWay_14 : decode cX9_peakOfWay 14 = .ok (.iload_n 3, 1) := by decide +kernel
theorem dX9_peakOfWay_15 : decode cX9_peakOfWay 15 = .ok (.ldc 101, 2) := by decide +kernel
theorem dX9_peakOfWay_17 : decode cX9_peakOfWay 17 = .ok (.iastore, 1) := by decide +kernel
theorem dX9_peakOfWay_18 : decode cX9_peakOfWay 18 = .ok (.aload_n 0, 1) := by decide +kernel
theorem dX9_peakOfWay_19 : decode cX9_peakOfWay 19 = .ok (.getfield 24, 3) := by decide +kernel
theorem dX9_peakOfWay_22 : decode cX9_peakOfWay 22 = .ok (.iload_n 3, 1) := by decide +kernel
theorem dX9_peakOfWay_23 : decode cX9_peakOfWay 23 = .ok (.iconst 0, 1) := by decide +kernel
theorem dX9_peakOfWay_24 : decode cX9_peakOfWay 24 = .ok (.bastore, 1) := by decide +kernel
theorem dX9_peakOfWay_25 : decode cX9_peakOfWay 25 = .ok (.iinc 3 1, 3) := by decide +kernel
theorem dX9_peakOfWay_28 : decode cX9_peakOfWay 28 = .ok (.goto (-26), 3) := by decide +kernel
theorem dX9_peakOfWay_31 : decode cX9_peakOfWay 31 = .ok (.aload_n 0, 1) := by decide +kernel
theorem dX9_peakOfWay_32 : decode cX9_peakOfWay 32 = .ok (.getfield 21, 3) := by decide +kernel
theorem dX9_peakOfWay_35 : decode cX9_peakOfWay 35 = .ok (.iload_n 1, 1) := by decide +kernel
theorem dX9_peakOfWay_36 : decode cX9_peakOfWay 36 = .ok (.aload_n 0, 1) := by decide +kernel
theorem dX9_peakOfWay_37 : decode cX9_peakOfWay 37 = .ok (.getfield 15, 3) := by decide +kernel
theorem dX9_peakOfWay_40 : decode cX9_peakOfWay 40 = .ok (.iload_n 1, 1) := by decide +kernel
theorem dX9_peakOfWay_41 : decode cX9_peakOfWay 41 = .ok (.iaload, 1) := by decide +kernel
theorem dX9_peakOfWay_42 : decode cX9_peakOfWay 42 = .ok (.iastore, 1) := by decide +kernel
theorem dX9_peakOfWay_43 : decode cX9_peakOfWay 43 = .ok (.iconst 0, 1) := by decide +kernel
theorem dX9_peakOfWay_44 : decode cX9_peakOfWay 44 = .ok (.istore_n 3, 1) := by decide +kernel
theorem dX9_peakOfWay_45 : decode cX9_peakOfWay 45 = .ok (.iload_n 3, 1) := by decide +kernel
theorem dX9_peakOfWay_46 : decode cX9_peakOfWay 46 = .ok (.aload_n 0, 1) := by decide +kernel
theorem dX9_peakOfWay_47 : decode cX9_peakOfWay 47 = .ok (.getfield 74, 3) := by decide +kernel
theorem dX9_peakOfWay_50 : decode cX9_peakOfWay 50 = .ok (.if_icmp .ge 94, 3) := by decide +kernel
theorem dX9_peakOfWay_53 : decode cX9_peakOfWay 53 = .ok (.aload_n 0, 1) := by decide +kernel
theorem dX9_peakOfWay_54 : decode cX9_peakOfWay 54 = .ok (.getfield 24, 3) := by decide +kernel
theorem dX9_peakOfWay_57 : decode cX9_peakOfWay 57 = .ok (.iload_n 2, 1) := by decide +kernel
theorem dX9_peakOfWay_58 : decode cX9_peakOfWay 58 = .ok (.baload, 1) := by decide +kernel
theorem dX9_peakOfWay_59 : decode cX9_peakOfWay 59 = .ok (.ifCond .ne 85, 3) := by decide +kernel
theorem dX9_peakOfWay_62 : decode cX9_peakOfWay 62 = .ok (.aload_n 0, 1) := by decide +kernel
theorem dX9_peakOfWay_63 : decode cX9_peakOfWay 63 = .ok (.invokevirtual 102, 3) := by decide +kernel
theorem dX9_peakOfWay_66 : decode cX9_peakOfWay 66 = .ok (.istore 4, 2) := by decide +kernel
theorem dX9_peakOfWay_68 : decode cX9_peakOfWay 68 = .ok (.aload_n 0, 1) := by decide +kernel
theorem dX9_peakOfWay_69 : decode cX9_peakOfWay 69 = .ok (.getfield 24, 3) := by decide +kernel
theorem dX9_peakOfWay_72 : decode cX9_peakOfWay 72 = .ok (.iload 4, 2) := by decide +kernel
theorem dX9_peakOfWay_74 : decode cX9_peakOfWay 74 = .ok (.iconst 1, 1) := by decide +kernel
theorem dX9_peakOfWay_75 : decode cX9_peakOfWay 75 = .ok (.bastore, 1) := by decide +kernel
theorem dX9_peakOfWay_76 : decode cX9_peakOfWay 76 = .ok (.iconst 0, 1) := by decide +kernel
theorem dX9_peakOfWay_77 : decode cX9_peakOfWay 77 = .ok (.istore 5, 2) := by decide +kernel
theorem dX9_peakOfWay_79 : decode cX9_peakOfWay 79 = .ok (.iload 5, 2) := by decide +kernel
theorem dX9_peakOfWay_81 : decode cX9_peakOfWay 81 = .ok (.aload_n 0, 1) := by decide +kernel
theorem dX9_peakOfWay_82 : decode cX9_peakOfWay 82 = .ok (.getfield 79, 3) := by decide +kernel
theorem dX9_peakOfWay_85 : decode cX9_peakOfWay 85 = .ok (.if_icmp .ge 53, 3) := by decide +kernel
theorem dX9_peakOfWay_88 : decode cX9_peakOfWay 88 = .ok (.aload_n 0, 1) := by decide +kernel
theorem dX9_peakOfWay_89 : decode cX9_peakOfWay 89 = .ok (.iload 4, 2) := by decide +kernel
theorem dX9_peakOfWay_91 : decode cX9_peakOfWay 91 = .ok (.iload 5, 2) := by decide +kernel
theorem dX9_peakOfWay_93 : decode cX9_peakOfWay 93 = .ok (.invokevirtual 105, 3) := by decide +kernel
theorem dX9_peakOfWay_96 : decode cX9_peakOfWay 96 = .ok (.istore 6, 2) := by decide +kernel
theorem dX9_peakOfWay_98 : decode cX9_peakOfWay 98 = .ok (.aload_n 0, 1) := by decide +kernel
theorem dX9_peakOfWay_99 : decode cX9_peakOfWay 99 = .ok (.getfield 21, 3) := by decide +kernel
theorem dX9_peakOfWay_102 : decode cX9_peakOfWay 102 = .ok (.iload 6, 2) := by decide +kernel
theorem dX9_peakOfWay_104 : decode cX9_peakOfWay 104 = .ok (.aload_n 0, 1) := by decide +kernel
theorem dX9_peakOfWay_105 : decode cX9_peakOfWay 105 = .ok (.getfield 21, 3) := by decide +kernel
theorem dX9_peakOfWay_108 : decode cX9_peakOfWay 108 = .ok (.iload 6, 2) := by decide +kernel
theorem dX9_peakOfWay_110 : decode cX9_peakOfWay 110 = .ok (.iaload, 1) := by decide +kernel
theorem dX9_peakOfWay_111 : decode cX9_peakOfWay 111 = .ok (.aload_n 0, 1) := by decide +kernel
theorem dX9_peakOfWay_112 : decode cX9_peakOfWay 112 = .ok (.getfield 21, 3) := by decide +kernel
theorem dX9_peakOfWay_115 : decode cX9_peakOfWay 115 = .ok (.iload 4, 2) := by decide +kernel
theorem dX9_peakOfWay_117 : decode cX9_peakOfWay 117 = .ok (.iaload, 1) := by decide +kernel
theorem dX9_peakOfWay_118 : decode cX9_peakOfWay 118 = .ok (.aload_n 0, 1) := by decide +kernel
theorem dX9_peakOfWay_119 : decode cX9_peakOfWay 119 = .ok (.getfield 15, 3) := by decide +kernel
theorem dX9_peakOfWay_122 : decode cX9_peakOfWay 122 = .ok (.iload 6, 2) := by decide +kernel
theorem dX9_peakOfWay_124 : decode cX9_peakOfWay 124 = .ok (.iaload, 1) := by decide +kernel
theorem dX9_peakOfWay_125 : decode cX9_peakOfWay 125 = .ok (.invokestatic 108, 3) := by decide +kernel
theorem dX9_peakOfWay_128 : decode cX9_peakOfWay 128 = .ok (.invokestatic 113, 3) := by decide +kernel
theorem dX9_peakOfWay_131 : decode cX9_peakOfWay 131 = .ok (.iastore, 1) := by decide +kernel
theorem dX9_peakOfWay_132 : decode cX9_peakOfWay 132 = .ok (.iinc 5 1, 3) := by decide +kernel
theorem dX9_peakOfWay_135 : decode cX9_peakOfWay 135 = .ok (.goto (-56), 3) := by decide +kernel
theorem dX9_peakOfWay_138 : decode cX9_peakOfWay 138 = .ok (.iinc 3 1, 3) := by decide +kernel
theorem dX9_peakOfWay_141 : decode cX9_peakOfWay 141 = .ok (.goto (-96), 3) := by decide +kernel
theorem dX9_peakOfWay_144 : decode cX9_peakOfWay 144 = .ok (.aload_n 0, 1) := by decide +kernel
theorem dX9_peakOfWay_145 : decode cX9_peakOfWay 145 = .ok (.getfield 21, 3) := by decide +kernel
theorem dX9_peakOfWay_148 : decode cX9_peakOfWay 148 = .ok (.iload_n 2, 1) := by decide +kernel
theorem dX9_peakOfWay_149 : decode cX9_peakOfWay 149 = .ok (.iaload, 1) := by decide +kernel
theorem dX9_peakOfWay_150 : decode cX9_peakOfWay 150 = .ok (.ireturn, 1) := by decide +kernel
theorem dX9_lowestUnsettled_0 : decode cX9_lowestUnsettled 0 = .ok (.iconst 0, 1) := by decide +kernel
theorem dX9_lowestUnsettled_1 : decode cX9_lowestUnsettled 1 = .ok (.istore_n 1, 1) := by decide +kernel
theorem dX9_lowestUnsettled_2 : decode cX9_lowestUnsettled 2 = .ok (.iconst 1, 1) := by decide +kernel
theorem dX9_lowestUnsettled_3 : decode cX9_lowestUnsettled 3 = .ok (.istore_n 2, 1) := by decide +kernel
theorem dX9_lowestUnsettled_4 : decode cX9_lowestUnsettled 4 = .ok (.iload_n 2, 1) := by decide +kernel
theorem dX9_lowestUnsettled_5 : decode cX9_lowestUnsettled 5 = .ok (.aload_n 0, 1) := by decide +kernel
theorem dX9_lowestUnsettled_6 : decode cX9_lowestUnsettled 6 = .ok (.getfield 74, 3) := by decide +kernel
theorem dX9_lowestUnsettled_9 : decode cX9_lowestUnsettled 9 = .ok (.if_icmp .ge 44, 3) := by decide +kernel
theorem dX9_lowestUnsettled_12 : decode cX9_lowestUnsettled 12 = .ok (.aload_n 0, 1) := by decide +kernel
theorem dX9_lowestUnsettled_13 : decode cX9_lowestUnsettled 13 = .ok (.getfield 24, 3) := by decide +kernel
theorem dX9_lowestUnsettled_16 : decode cX9_lowestUnsettled 16 = .ok (.iload_n 1, 1) := by decide +kernel
theorem dX9_lowestUnsettled_17 : decode cX9_lowestUnsettled 17 = .ok (.baload, 1) := by decide +kernel
theorem dX9_lowestUnsettled_18 : decode cX9_lowestUnsettled 18 = .ok (.ifCond .ne 27, 3) := by decide +kernel
theorem dX9_lowestUnsettled_21 : decode cX9_lowestUnsettled 21 = .ok (.aload_n 0, 1) := by decide +kernel
theorem dX9_lowestUnsettled_22 : decode cX9_lowestUnsettled 22 = .ok (.getfield 24, 3) := by decide +kernel
theorem dX9_lowestUnsettled_25 : decode cX9_lowestUnsettled 25 = .ok (.iload_n 2, 1) := by decide +kernel
theorem dX9_lowestUnsettled_26 : decode cX9_lowestUnsettled 26 = .ok (.baload, 1) := by decide +kernel
theorem dX9_lowestUnsettled_27 : decode cX9_lowestUnsettled 27 = .ok (.ifCond .ne 20, 3) := by decide +kernel
theorem dX9_lowestUnsettled_30 : decode cX9_lowestUnsettled 30 = .ok (.aload_n 0, 1) := by decide +kernel
theorem dX9_lowestUnsettled_31 : decode cX9_lowestUnsettled 31 = .ok (.getfield 21, 3) := by decide +kernel
theorem dX9_lowestUnsettled_34 : decode cX9_lowestUnsettled 34 = .ok (.iload_n 2, 1) := by decide +kernel
theorem dX9_lowestUnsettled_35 : decode cX9_lowestUnsettled 35 = .ok (.iaload, 1) := by decide +kernel
theorem dX9_lowestUnsettled_36 : decode cX9_lowestUnsettled 36 = .ok (.aload_n 0, 1) := by decide +kernel
theorem dX9_lowestUnsettled_37 : decode cX9_lowestUnsettled 37 = .ok (.getfield 21, 3) := by decide +kernel
theorem dX9_lowestUnsettled_40 : decode cX9_lowestUnsettled 40 = .ok (.iload_n 1, 1) := by decide +kernel
theorem dX9_lowestUnsettled_41 : decode cX9_lowestUnsettled 41 = .ok (.iaload, 1) := by decide +kernel
theorem dX9_lowestUnsettled_42 : decode cX9_lowestUnsettled 42 = .ok (.if_icmp .ge 5, 3) := by decide +kernel
theorem dX9_lowestUnsettled_45 : decode cX9_lowestUnsettled 45 = .ok (.iload_n 2, 1) := by decide +kernel
theorem dX9_lowestUnsettled_46 : decode cX9_lowestUnsettled 46 = .ok (.istore_n 1, 1) := by decide +kernel
theorem dX9_lowestUnsettled_47 : decode cX9_lowestUnsettled 47 = .ok (.iinc 2 1, 3) := by decide +kernel
theorem dX9_lowestUnsettled_50 : decode cX9_lowestUnsettled 50 = .ok (.goto (-46), 3) := by decide +kernel
theorem dX9_lowestUnsettled_53 : decode cX9_lowestUnsettled 53 = .ok (.iload_n 1, 1) := by decide +kernel
theorem dX9_lowestUnsettled_54 : decode cX9_lowestUnsettled 54 = .ok (.ireturn, 1) := by decide +kernel
theorem dX9_countSteps_0 : decode cX9_countSteps 0 = .ok (.iconst 0, 1) := by decide +kernel
theorem dX9_countSteps_1 : decode cX9_countSteps 1 = .ok (.istore_n 2, 1) := by decide +kernel
theorem dX9_countSteps_2 : decode cX9_countSteps 2 = .ok (.iload_n 2, 1) := by decide +kernel
theorem dX9_countSteps_3 : decode cX9_countSteps 3 = .ok (.aload_n 0, 1) := by decide +kernel
theorem dX9_countSteps_4 : decode cX9_countSteps 4 = .ok (.getfield 74, 3) := by decide +kernel
theorem dX9_countSteps_7 : decode cX9_countSteps 7 = .ok (.if_icmp .ge 16, 3) := by decide +kernel
theorem dX9_countSteps_10 : decode cX9_countSteps 10 = .ok (.aload_n 0, 1) := by decide +kernel
theorem dX9_countSteps_11 : decode cX9_countSteps 11 = .ok (.getfield 28, 3) := by decide +kernel
theorem dX9_countSteps_14 : decode cX9_countSteps 14 = .ok (.iload_n 2, 1) := by decide +kernel
theorem dX9_countSteps_15 : decode cX9_countSteps 15 = .ok (.iconst (-1), 1) := by decide +kernel
theorem dX9_countSteps_16 : decode cX9_countSteps 16 = .ok (.iastore, 1) := by decide +kernel
theorem dX9_countSteps_17 : decode cX9_countSteps 17 = .ok (.iinc 2 1, 3) := by decide +kernel
theorem dX9_countSteps_20 : decode cX9_countSteps 20 = .ok (.goto (-18), 3) := by decide +kernel
theorem dX9_countSteps_23 : decode cX9_countSteps 23 = .ok (.aload_n 0, 1) := by decide +kernel
theorem dX9_countSteps_24 : decode cX9_countSteps 24 = .ok (.getfield 28, 3) := by decide +kernel
theorem dX9_countSteps_27 : decode cX9_countSteps 27 = .ok (.iload_n 1, 1) := by decide +kernel
theorem dX9_countSteps_28 : decode cX9_countSteps 28 = .ok (.iconst 0, 1) := by decide +kernel
theorem dX9_countSteps_29 : decode cX9_countSteps 29 = .ok (.iastore, 1) := by decide +kernel
theorem dX9_countSteps_30 : decode cX9_countSteps 30 = .ok (.aload_n 0, 1) := by decide +kernel
theorem dX9_countSteps_31 : decode cX9_countSteps 31 = .ok (.getfield 36, 3) := by decide +kernel
theorem dX9_countSteps_34 : decode cX9_countSteps 34 = .ok (.invokevirtual 116, 3) := by decide +kernel
theorem dX9_countSteps_37 : decode cX9_countSteps 37 = .ok (.pop, 1) := by decide +kernel
theorem dX9_countSteps_38 : decode cX9_countSteps 38 = .ok (.aload_n 0, 1) := by decide +kernel
theorem dX9_countSteps_39 : decode cX9_countSteps 39 = .ok (.getfield 36, 3) := by decide +kernel
theorem dX9_countSteps_42 : decode cX9_countSteps 42 = .ok (.iload_n 1, 1) := by decide +kernel
theorem dX9_countSteps_43 : decode cX9_countSteps 43 = .ok (.invokevirtual 119, 3) := by decide +kernel
theorem dX9_countSteps_46 : decode cX9_countSteps 46 = .ok (.iconst 0, 1) := by decide +kernel
theorem dX9_countSteps_47 : decode cX9_countSteps 47 = .ok (.istore_n 2, 1) := by decide +kernel
theorem dX9_countSteps_48 : decode cX9_countSteps 48 = .ok (.iload_n 2, 1) := by decide +kernel
theorem dX9_countSteps_49 : decode cX9_countSteps 49 = .ok (.bipush 120, 2) := by decide +kernel
theorem dX9_countSteps_51 : decode cX9_countSteps 51 = .ok (.if_icmp .ge 105, 3) := by decide +kernel
theorem dX9_countSteps_54 : decode cX9_countSteps 54 = .ok (.iload_n 2, 1) := by decide +kernel
theorem dX9_countSteps_55 : decode cX9_countSteps 55 = .ok (.aload_n 0, 1) := by decide +kernel
theorem dX9_countSteps_56 : decode cX9_countSteps 56 = .ok (.getfield 36, 3) := by decide +kernel
theorem dX9_countSteps_59 : decode cX9_countSteps 59 = .ok (.invokevirtual 122, 3) := by decide +kernel
theorem dX9_countSteps_62 : decode cX9_countSteps 62 = .ok (.if_icmp .ge 94, 3) := by decide +kernel
theorem dX9_countSteps_65 : decode cX9_countSteps 65 = .ok (.aload_n 0, 1) := by decide +kernel
theorem dX9_countSteps_66 : decode cX9_countSteps 66 = .ok (.getfield 36, 3) := by decide +kernel
theorem dX9_countSteps_69 : decode cX9_countSteps 69 = .ok (.iload_n 2, 1) := by decide +kernel
theorem dX9_countSteps_70 : decode cX9_countSteps 70 = .ok (.invokevirtual 123, 3) := by decide +kernel
theorem dX9_countSteps_73 : decode cX9_countSteps 73 = .ok (.istore_n 3, 1) := by decide +kernel
theorem dX9_countSteps_74 : decode cX9_countSteps 74 = .ok (.iconst 0, 1) := by decide +kernel
theorem dX9_countSteps_75 : decode cX9_countSteps 75 = .ok (.istore 4, 2) := by decide +kernel
theorem dX9_countSteps_77 : decode cX9_countSteps 77 = .ok (.iload 4, 2) := by decide +kernel
theorem dX9_countSteps_79 : decode cX9_countSteps 79 = .ok (.aload_n 0, 1) := by decide +kernel
theorem dX9_countSteps_80 : decode cX9_countSteps 80 = .ok (.getfield 79, 3) := by decide +kernel
theorem dX9_countSteps_83 : decode cX9_countSteps 83 = .ok (.if_icmp .ge 67, 3) := by decide +kernel
theorem dX9_countSteps_86 : decode cX9_countSteps 86 = .ok (.aload_n 0, 1) := by decide +kernel
theorem dX9_countSteps_87 : decode cX9_countSteps 87 = .ok (.iload_n 3, 1) := by decide +kernel
theorem dX9_countSteps_88 : decode cX9_countSteps 88 = .ok (.iload 4, 2) := by decide +kernel
theorem dX9_countSteps_90 : decode cX9_countSteps 90 = .ok (.invokevirtual 105, 3) := by decide +kernel
theorem dX9_countSteps_93 : decode cX9_countSteps 93 = .ok (.istore 5, 2) := by decide +kernel
theorem dX9_countSteps_95 : decode cX9_countSteps 95 = .ok (.aload_n 0, 1) := by decide +kernel
theorem dX9_countSteps_96 : decode cX9_countSteps 96 = .ok (.getfield 28, 3) := by decide +kernel
theorem dX9_countSteps_99 : decode cX9_countSteps 99 = .ok (.iload 5, 2) := by decide +kernel
theorem dX9_countSteps_101 : decode cX9_countSteps 101 = .ok (.iaload, 1) := by decide +kernel
theorem dX9_countSteps_102 : decode cX9_countSteps 102 = .ok (.iconst (-1), 1) := by decide +kernel
theorem dX9_countSteps_103 : decode cX9_countSteps 103 = .ok (.if_icmp .ne 41, 3) := by decide +kernel
theorem dX9_countSteps_106 : decode cX9_countSteps 106 = .ok (.aload_n 0, 1) := by decide +kernel
theorem dX9_countSteps_107 : decode cX9_countSteps 107 = .ok (.getfield 15, 3) := by decide +kernel
theorem dX9_countSteps_110 : decode cX9_countSteps 110 = .ok (.iload 5, 2) := by decide +kernel
theorem dX9_countSteps_112 : decode cX9_countSteps 112 = .ok (.iaload, 1) := by decide +kernel
theorem dX9_countSteps_113 : decode cX9_countSteps 113 = .ok (.aload_n 0, 1) := by decide +kernel
theorem dX9_countSteps_114 : decode cX9_countSteps 114 = .ok (.getfield 47, 3) := by decide +kernel
theorem dX9_countSteps_117 : decode cX9_countSteps 117 = .ok (.if_icmp .gt 27, 3) := by decide +kernel
theorem dX9_countSteps_120 : decode cX9_countSteps 120 = .ok (.aload_n 0, 1) := by decide +kernel
theorem dX9_countSteps_121 : decode cX9_countSteps 121 = .ok (.getfield 28, 3) := by decide +kernel
theorem dX9_countSteps_124 : decode cX9_countSteps 124 = .ok (.iload 5, 2) := by decide +kernel
theorem dX9_countSteps_126 : decode cX9_countSteps 126 = .ok (.aload_n 0, 1) := by decide +kernel
theorem dX9_countSteps_127 : decode cX9_countSteps 127 = .ok (.getfield 28, 3) := by decide +kernel
theorem dX9_countSteps_130 : decode cX9_countSteps 130 = .ok (.iload_n 3, 1) := by decide +kernel
theorem dX9_countSteps_131 : decode cX9_countSteps 131 = .ok (.iaload, 1) := by decide +kernel
theorem dX9_countSteps_132 : decode cX9_countSteps 132 = .ok (.iconst 1, 1) := by decide +kernel
theorem dX9_countSteps_133 : decode cX9_countSteps 133 = .ok (.iadd, 1) := by decide +kernel
theorem dX9_countSteps_134 : decode cX9_countSteps 134 = .ok (.iastore, 1) := by decide +kernel
theorem dX9_countSteps_135 : decode cX9_countSteps 135 = .ok (.aload_n 0, 1) := by decide +kernel
theorem dX9_countSteps_136 : decode cX9_countSteps 136 = .ok (.getfield 36, 3) := by decide +kernel
theorem dX9_countSteps_139 : decode cX9_countSteps 139 = .ok (.iload 5, 2) := by decide +kernel
theorem dX9_countSteps_141 : decode cX9_countSteps 141 = .ok (.invokevirtual 119, 3) := by decide +kernel
theorem dX9_countSteps_144 : decode cX9_countSteps 144 = .ok (.iinc 4 1, 3) := by decide +kernel
theorem dX9_countSteps_147 : decode cX9_countSteps 147 = .ok (.goto (-70), 3) := by decide +kernel
theorem dX9_countSteps_150 : decode cX9_countSteps 150 = .ok (.iinc 2 1, 3) := by decide +kernel
theorem dX9_countSteps_153 : decode cX9_countSteps 153 = .ok (.goto (-105), 3) := by decide +kernel
theorem dX9_countSteps_156 : decode cX9_countSteps 156 = .ok (.return_, 1) := by decide +kernel
theorem dX9_walk_0 : decode cX9_walk 0 = .ok (.aload_n 0, 1) := by decide +kernel
theorem dX9_walk_1 : decode cX9_walk 1 = .ok (.getfield 40, 3) := by decide +kernel
theorem dX9_walk_4 : decode cX9_walk 4 = .ok (.invokevirtual 116, 3) := by decide +kernel
theorem dX9_walk_7 : decode cX9_walk 7 = .ok (.pop, 1) := by decide +kernel
theorem dX9_walk_8 : decode cX9_walk 8 = .ok (.aload_n 0, 1) := by decide +kernel
theorem dX9_walk_9 : decode cX9_walk 9 = .ok (.getfield 40, 3) := by decide +kernel
theorem dX9_walk_12 : decode cX9_walk 12 = .ok (.aload_n 0, 1) := by decide +kernel
theorem dX9_walk_13 : decode cX9_walk 13 = .ok (.getfield 9, 3) := by decide +kernel
theorem dX9_walk_16 : decode cX9_walk 16 = .ok (.iload_n 1, 1) := by decide +kernel
theorem dX9_walk_17 : decode cX9_walk 17 = .ok (.iaload, 1) := by decide +kernel
theorem dX9_walk_18 : decode cX9_walk 18 = .ok (.invokevirtual 119, 3) := by decide +kernel
theorem dX9_walk_21 : decode cX9_walk 21 = .ok (.iload_n 1, 1) := by decide +kernel
theorem dX9_walk_22 : decode cX9_walk 22 = .ok (.istore_n 2, 1) := by decide +kernel
theorem dX9_walk_23 : decode cX9_walk 23 = .ok (.aload_n 0, 1) := by decide +kernel
theorem dX9_walk_24 : decode cX9_walk 24 = .ok (.getfield 28, 3) := by decide +kernel
theorem dX9_walk_27 : decode cX9_walk 27 = .ok (.iload_n 1, 1) := by decide +kernel
theorem dX9_walk_28 : decode cX9_walk 28 = .ok (.iaload, 1) := by decide +kernel
theorem dX9_walk_29 : decode cX9_walk 29 = .ok (.iconst 1, 1) := by decide +kernel
theorem dX9_walk_30 : decode cX9_walk 30 = .ok (.isub, 1) := by decide +kernel
theorem dX9_walk_31 : decode cX9_walk 31 = .ok (.istore_n 3, 1) := by decide +kernel
theorem dX9_walk_32 : decode cX9_walk 32 = .ok (.iload_n 3, 1) := by decide +kernel
theorem dX9_walk_33 : decode cX9_walk 33 = .ok (.ifCond .lt 29, 3) := by decide +kernel
theorem dX9_walk_36 : decode cX9_walk 36 = .ok (.aload_n 0, 1) := by decide +kernel
theorem dX9_walk_37 : decode cX9_walk 37 = .ok (.iload_n 3, 1) := by decide +kernel
theorem dX9_walk_38 : decode cX9_walk 38 = .ok (.iload_n 2, 1) := by decide +kernel
theorem dX9_walk_39 : decode cX9_walk 39 = .ok (.invokevirtual 127, 3) := by decide +kernel
theorem dX9_walk_42 : decode cX9_walk 42 = .ok (.istore_n 2, 1) := by decide +kernel
theorem dX9_walk_43 : decode cX9_walk 43 = .ok (.aload_n 0, 1) := by decide +kernel
theorem dX9_walk_44 : decode cX9_walk 44 = .ok (.getfield 40, 3) := by decide +kernel
theorem dX9_walk_47 : decode cX9_walk 47 = .ok (.aload_n 0, 1) := by decide +kernel
theorem dX9_walk_48 : decode cX9_walk 48 = .ok (.getfield 9, 3) := by decide +kernel
theorem dX9_walk_51 : decode cX9_walk 51 = .ok (.iload_n 2, 1) := by decide +kernel
theorem dX9_walk_52 : decode cX9_walk 52 = .ok (.iaload, 1) := by decide +kernel
theorem dX9_walk_53 : decode cX9_walk 53 = .ok (.invokevirtual 119, 3) := by decide +kernel
theorem dX9_walk_56 : decode cX9_walk 56 = .ok (.iinc 3 (-1), 3) := by decide +kernel
theorem dX9_walk_59 : decode cX9_walk 59 = .ok (.goto (-27), 3) := by decide +kernel
theorem dX9_walk_62 : decode cX9_walk 62 = .ok (.return_, 1) := by decide +kernel
theorem dX9_firstWith_0 : decode cX9_firstWith 0 = .ok (.iload_n 2, 1) := by decide +kernel
theorem dX9_firstWith_1 : decode cX9_firstWith 1 = .ok (.istore_n 3, 1) := by decide +kernel
theorem dX9_firstWith_2 : decode cX9_firstWith 2 = .ok (.iconst 0, 1) := by decide +kernel
theorem dX9_firstWith_3 : decode cX9_firstWith 3 = .ok (.istore 4, 2) := by decide +kernel
theorem dX9_firstWith_5 : decode cX9_firstWith 5 = .ok (.iload 4, 2) := by decide +kernel
theorem dX9_firstWith_7 : decode cX9_firstWith 7 = .ok (.aload_n 0, 1) := by decide +kernel
theorem dX9_firstWith_8 : decode cX9_firstWith 8 = .ok (.getfield 79, 3) := by decide +kernel
theorem dX9_firstWith_11 : decode cX9_firstWith 11 = .ok (.if_icmp .ge 43, 3) := by decide +kernel
theorem dX9_firstWith_14 : decode cX9_firstWith 14 = .ok (.aload_n 0, 1) := by decide +kernel
theorem dX9_firstWith_15 : decode cX9_firstWith 15 = .ok (.iload_n 2, 1) := by decide +kernel
theorem dX9_firstWith_16 : decode cX9_firstWith 16 = .ok (.iload 4, 2) := by decide +kernel
theorem dX9_firstWith_18 : decode cX9_firstWith 18 = .ok (.invokevirtual 105, 3) := by decide +kernel
theorem dX9_firstWith_21 : decode cX9_firstWith 21 = .ok (.istore 5, 2) := by decide +kernel
theorem dX9_firstWith_23 : decode cX9_firstWith 23 = .ok (.aload_n 0, 1) := by decide +kernel
theorem dX9_firstWith_24 : decode cX9_firstWith 24 = .ok (.getfield 28, 3) := by decide +kernel
theorem dX9_firstWith_27 : decode cX9_firstWith 27 = .ok (.iload 5, 2) := by decide +kernel
theorem dX9_firstWith_29 : decode cX9_firstWith 29 = .ok (.iaload, 1) := by decide +kernel
theorem dX9_firstWith_30 : decode cX9_firstWith 30 = .ok (.iload_n 1, 1) := by decide +kernel
theorem dX9_firstWith_31 : decode cX9_firstWith 31 = .ok (.if_icmp .ne 17, 3) := by decide +kernel
theorem dX9_firstWith_34 : decode cX9_firstWith 34 = .ok (.iload_n 3, 1) := by decide +kernel
theorem dX9_firstWith_35 : decode cX9_firstWith 35 = .ok (.iload_n 2, 1) := by decide +kernel
theorem dX9_firstWith_36 : decode cX9_firstWith 36 = .ok (.if_icmp .eq 9, 3) := by decide +kernel
theorem dX9_firstWith_39 : decode cX9_firstWith 39 = .ok (.iload 5, 2) := by decide +kernel
theorem dX9_firstWith_41 : decode cX9_firstWith 41 = .ok (.iload_n 3, 1) := by decide +kernel
theorem dX9_firstWith_42 : decode cX9_firstWith 42 = .ok (.if_icmp .ge 6, 3) := by decide +kernel
theorem dX9_firstWith_45 : decode cX9_firstWith 45 = .ok (.iload 5, 2) := by decide +kernel
theorem dX9_firstWith_47 : decode cX9_firstWith 47 = .ok (.istore_n 3, 1) := by decide +kernel
theorem dX9_firstWith_48 : decode cX9_firstWith 48 = .ok (.iinc 4 1, 3) := by decide +kernel
theorem dX9_firstWith_51 : decode cX9_firstWith 51 = .ok (.goto (-46), 3) := by decide +kernel
theorem dX9_firstWith_54 : decode cX9_firstWith 54 = .ok (.iload_n 3, 1) := by decide +kernel
theorem dX9_firstWith_55 : decode cX9_firstWith 55 = .ok (.ireturn, 1) := by decide +kernel
theorem dX10_init_0 : decode cX10_init 0 = .ok (.aload_n 0, 1) := by decide +kernel
theorem dX10_init_1 : decode cX10_init 1 = .ok (.invokespecial 3, 3) := by decide +kernel
theorem dX10_init_4 : decode cX10_init 4 = .ok (.aload_n 0, 1) := by decide +kernel
theorem dX10_init_5 : decode cX10_init 5 = .ok (.new 9, 3) := by decide +kernel
theorem dX10_init_8 : decode cX10_init 8 = .ok (.dup, 1) := by decide +kernel
theorem dX10_init_9 : decode cX10_init 9 = .ok (.bipush 60, 2) := by decide +kernel
theorem dX10_init_11 : decode cX10_init 11 = .ok (.invokespecial 11, 3) := by decide +kernel
theorem dX10_init_14 : decode cX10_init 14 = .ok (.putfield 14, 3) := by decide +kernel
theorem dX10_init_17 : decode cX10_init 17 = .ok (.aload_n 0, 1) := by decide +kernel
theorem dX10_init_18 : decode cX10_init 18 = .ok (.new 9, 3) := by decide +kernel
theorem dX10_init_21 : decode cX10_init 21 = .ok (.dup, 1) := by decide +kernel
theorem dX10_init_22 : decode cX10_init 22 = .ok (.bipush 60, 2) := by decide +kernel
theorem dX10_init_24 : decode cX10_init 24 = .ok (.invokespecial 11, 3) := by decide +kernel
theorem dX10_init_27 : decode cX10_init 27 = .ok (.putfield 20, 3) := by decide +kernel
theorem dX10_init_30 : decode cX10_init 30 = .ok (.aload_n 0, 1) := by decide +kernel
theorem dX10_init_31 : decode cX10_init 31 = .ok (.new 9, 3) := by decide +kernel
theorem dX10_init_34 : decode cX10_init 34 = .ok (.dup, 1) := by decide +kernel
theorem dX10_init_35 : decode cX10_init 35 = .ok (.bipush 60, 2) := by decide +kernel
theorem dX10_init_37 : decode cX10_init 37 = .ok (.invokespecial 11, 3) := by decide +kernel
theorem dX10_init_40 : decode cX10_init 40 = .ok (.putfield 23, 3) := by decide +kernel
theorem dX10_init_43 : decode cX10_init 43 = .ok (.aload_n 0, 1) := by decide +kernel
theorem dX10_init_44 : decode cX10_init 44 = .ok (.bipush 60, 2) := by decide +kernel
theorem dX10_init_46 : decode cX10_init 46 = .ok (.anewarray 9, 3) := by decide +kernel
theorem dX10_init_49 : decode cX10_init 49 = .ok (.putfield 26, 3) := by decide +kernel
theorem dX10_init_52 : decode cX10_init 52 = .ok (.iconst 0, 1) := by decide +kernel
theorem dX10_init_53 : decode cX10_init 53 = .ok (.istore_n 1, 1) := by decide +kernel
theorem dX10_init_54 : decode cX10_init 54 = .ok (.iload_n 1, 1) := by decide +kernel
theorem dX10_init_55 : decode cX10_init 55 = .ok (.bipush 60, 2) := by decide +kernel
theorem dX10_init_57 : decode cX10_init 57 = .ok (.if_icmp .ge 24, 3) := by decide +kernel
theorem dX10_init_60 : decode cX10_init 60 = .ok (.aload_n 0, 1) := by decide +kernel
theorem dX10_init_61 : decode cX10_init 61 = .ok (.getfield 26, 3) := by decide +kernel
theorem dX10_init_64 : decode cX10_init 64 = .ok (.iload_n 1, 1) := by decide +kernel
theorem dX10_init_65 : decode cX10_init 65 = .ok (.new 9, 3) := by decide +kernel
theorem dX10_init_68 : decode cX10_init 68 = .ok (.dup, 1) := by decide +kernel
theorem dX10_init_69 : decode cX10_init 69 = .ok (.bipush 8, 2) := by decide +kernel
theorem dX10_init_71 : decode cX10_init 71 = .ok (.invokespecial 11, 3) := by decide +kernel
theorem dX10_init_74 : decode cX10_init 74 = .ok (.aastore, 1) := by decide +kernel
theorem dX10_init_75 : decode cX10_init 75 = .ok (.iinc 1 1, 3) := by decide +kernel
theorem dX10_init_78 : decode cX10_init 78 = .ok (.goto (-24), 3) := by decide +kernel
theorem dX10_init_81 : decode cX10_init 81 = .ok (.return_, 1) := by decide +kernel
theorem dX10_size_0 : decode cX10_size 0 = .ok (.aload_n 0, 1) := by decide +kernel
theorem dX10_size_1 : decode cX10_size 1 = .ok (.getfield 14, 3) := by decide +kernel
theorem dX10_size_4 : decode cX10_size 4 = .ok (.invokevirtual 30, 3) := by decide +kernel
theorem dX10_size_7 : decode cX10_size 7 = .ok (.ireturn, 1) := by decide +kernel
theorem dX10_isFull_0 : decode cX10_isFull 0 = .ok (.aload_n 0, 1) := by decide +kernel
theorem dX10_isFull_1 : decode cX10_isFull 1 = .ok (.getfield 14, 3) := by decide +kernel
theorem dX10_isFull_4 : decode cX10_isFull 4 = .ok (.invokevirtual 34, 3) := by decide +kernel
theorem dX10_isFull_7 : decode cX10_isFull 7 = .ok (.ireturn, 1) := by decide +kernel
theorem dX10_has_0 : decode cX10_has 0 = .ok (.aload_n 0, 1) := by decide +kernel
theorem dX10_has_1 : decode cX10_has 1 = .ok (.getfield 14, 3) := by decide +kernel
theorem dX10_has_4 : decode cX10_has 4 = .ok (.iload_n 1, 1) := by decide +kernel
theorem dX10_has_5 : decode cX10_has 5 = .ok (.invokevirtual 38, 3) := by decide +kernel
theorem dX10_has_8 : decode cX10_has 8 = .ok (.ireturn, 1) := by decide +kernel
theorem dX10_tongueOf_0 : decode cX10_tongueOf 0 = .ok (.aload_n 0, 1) := by decide +kernel
theorem dX10_tongueOf_1 : decode cX10_tongueOf 1 = .ok (.getfield 14, 3) := by decide +kernel
theorem dX10_tongueOf_4 : decode cX10_tongueOf 4 = .ok (.iload_n 1, 1) := by decide +kernel
theorem dX10_tongueOf_5 : decode cX10_tongueOf 5 = .ok (.invokevirtual 42, 3) := by decide +kernel
theorem dX10_tongueOf_8 : decode cX10_tongueOf 8 = .ok (.ireturn, 1) := by decide +kernel
theorem dX10_signOf_0 : decode cX10_signOf 0 = .ok (.aload_n 0, 1) := by decide +kernel
theorem dX10_signOf_1 : decode cX10_signOf 1 = .ok (.getfield 20, 3) := by decide +kernel
theorem dX10_signOf_4 : decode cX10_signOf 4 = .ok (.iload_n 1, 1) := by decide +kernel
theorem dX10_signOf_5 : decode cX10_signOf 5 = .ok (.invokevirtual 42, 3) := by decide +kernel
theorem dX10_signOf_8 : decode cX10_signOf 8 = .ok (.ireturn, 1) := by decide +kernel
theorem dX10_countOf_0 : decode cX10_countOf 0 = .ok (.aload_n 0, 1) := by decide +kernel
theorem dX10_countOf_1 : decode cX10_countOf 1 = .ok (.getfield 23, 3) := by decide +kernel
theorem dX10_countOf_4 : decode cX10_countOf 4 = .ok (.iload_n 1, 1) := by decide +kernel
theorem dX10_countOf_5 : decode cX10_countOf 5 = .ok (.invokevirtual 42, 3) := by decide +kernel
theorem dX10_countOf_8 : decode cX10_countOf 8 = .ok (.ireturn, 1) := by decide +kernel
theorem dX10_keysOf_0 : decode cX10_keysOf 0 = .ok (.aload_n 0, 1) := by decide +kernel
theorem dX10_keysOf_1 : decode cX10_keysOf 1 = .ok (.getfield 26, 3) := by decide +kernel
theorem dX10_keysOf_4 : decode cX10_keysOf 4 = .ok (.iload_n 1, 1) := by decide +kernel
theorem dX10_keysOf_5 : decode cX10_keysOf 5 = .ok (.aaload, 1) := by decide +kernel
theorem dX10_keysOf_6 : decode cX10_keysOf 6 = .ok (.areturn, 1) := by decide +kernel
theorem dX10_setCount_0 : decode cX10_setCount 0 = .ok (.aload_n 0, 1) := by decide +kernel
theorem dX10_setCount_1 : decode cX10_setCount 1 = .ok (.getfield 23, 3) := by decide +kernel
theorem dX10_setCount_4 : decode cX10_setCount 4 = .ok (.iload_n 1, 1) := by decide +kernel
theorem dX10_setCount_5 : decode cX10_setCount 5 = .ok (.iload_n 2, 1) := by decide +kernel
theorem dX10_setCount_6 : decode cX10_setCount 6 = .ok (.invokevirtual 46, 3) := by decide +kernel
theorem dX10_setCount_9 : decode cX10_setCount 9 = .ok (.ireturn, 1) := by decide +kernel
theorem dX10_addWord_0 : decode cX10_addWord 0 = .ok (.aload_n 0, 1) := by decide +kernel
theorem dX10_addWord_1 : decode cX10_addWord 1 = .ok (.invokevirtual 50, 3) := by decide +kernel
theorem dX10_addWord_4 : decode cX10_addWord 4 = .ok (.ifCond .eq 6, 3) := by decide +kernel
theorem dX10_addWord_7 : decode cX10_addWord 7 = .ok (.bipush (-4), 2) := by decide +kernel
theorem dX10_addWord_9 : decode cX10_addWord 9 = .ok (.ireturn, 1) := by decide +kernel
theorem dX10_addWord_10 : decode cX10_addWord 10 = .ok (.aload_n 0, 1) := by decide +kernel
theorem dX10_addWord_11 : decode cX10_addWord 11 = .ok (.getfield 26, 3) := by decide +kernel
theorem dX10_addWord_14 : decode cX10_addWord 14 = .ok (.aload_n 0, 1) := by decide +kernel
theorem dX10_addWord_15 : decode cX10_addWord 15 = .ok (.invokevirtual 51, 3) := by decide +kernel
theorem dX10_addWord_18 : decode cX10_addWord 18 = .ok (.aaload, 1) := by decide +kernel
theorem dX10_addWord_19 : decode cX10_addWord 19 = .ok (.aload 4, 2) := by decide +kernel
theorem dX10_addWord_21 : decode cX10_addWord 21 = .ok (.invokevirtual 52, 3) := by decide +kernel
theorem dX10_addWord_24 : decode cX10_addWord 24 = .ok (.aload_n 0, 1) := by decide +kernel
theorem dX10_addWord_25 : decode cX10_addWord 25 = .ok (.getfield 14, 3) := by decide +kernel
theorem dX10_addWord_28 : decode cX10_addWord 28 = .ok (.iload_n 1, 1) := by decide +kernel
theorem dX10_addWord_29 : decode cX10_addWord 29 = .ok (.invokevirtual 56, 3) := by decide +kernel
theorem dX10_addWord_32 : decode cX10_addWord 32 = .ok (.aload_n 0, 1) := by decide +kernel
theorem dX10_addWord_33 : decode cX10_addWord 33 = .ok (.getfield 20, 3) := by decide +kernel
theorem dX10_addWord_36 : decode cX10_addWord 36 = .ok (.iload_n 2, 1) := by decide +kernel
theorem dX10_addWord_37 : decode cX10_addWord 37 = .ok (.invokevirtual 56, 3) := by decide +kernel
theorem dX10_addWord_40 : decode cX10_addWord 40 = .ok (.aload_n 0, 1) := by decide +kernel
theorem dX10_addWord_41 : decode cX10_addWord 41 = .ok (.getfield 23, 3) := by decide +kernel
theorem dX10_addWord_44 : decode cX10_addWord 44 = .ok (.iload_n 3, 1) := by decide +kernel
theorem dX10_addWord_45 : decode cX10_addWord 45 = .ok (.invokevirtual 56, 3) := by decide +kernel
theorem dX10_addWord_48 : decode cX10_addWord 48 = .ok (.aload_n 0, 1) := by decide +kernel
theorem dX10_addWord_49 : decode cX10_addWord 49 = .ok (.invokevirtual 51, 3) := by decide +kernel
theorem dX10_addWord_52 : decode cX10_addWord 52 = .ok (.iconst 1, 1) := by decide +kernel
theorem dX10_addWord_53 : decode cX10_addWord 53 = .ok (.isub, 1) := by decide +kernel
theorem dX10_addWord_54 : decode cX10_addWord 54 = .ok (.ireturn, 1) := by decide +kernel
theorem dX10_soundAlike_0 : decode cX10_soundAlike 0 = .ok (.aload_n 0, 1) := by decide +kernel
theorem dX10_soundAlike_1 : decode cX10_soundAlike 1 = .ok (.iload_n 1, 1) := by decide +kernel
theorem dX10_soundAlike_2 : decode cX10_soundAlike 2 = .ok (.invokevirtual 59, 3) := by decide +kernel
theorem dX10_soundAlike_5 : decode cX10_soundAlike 5 = .ok (.aload_n 0, 1) := by decide +kernel
theorem dX10_soundAlike_6 : decode cX10_soundAlike 6 = .ok (.iload_n 2, 1) := by decide +kernel
theorem dX10_soundAlike_7 : decode cX10_soundAlike 7 = .ok (.invokevirtual 59, 3) := by decide +kernel
theorem dX10_soundAlike_10 : decode cX10_soundAlike 10 = .ok (.if_icmp .ne 25, 3) := by decide +kernel
theorem dX10_soundAlike_13 : decode cX10_soundAlike 13 = .ok (.aload_n 0, 1) := by decide +kernel
theorem dX10_soundAlike_14 : decode cX10_soundAlike 14 = .ok (.getfield 26, 3) := by decide +kernel
theorem dX10_soundAlike_17 : decode cX10_soundAlike 17 = .ok (.iload_n 1, 1) := by decide +kernel
theorem dX10_soundAlike_18 : decode cX10_soundAlike 18 = .ok (.aaload, 1) := by decide +kernel
theorem dX10_soundAlike_19 : decode cX10_soundAlike 19 = .ok (.aload_n 0, 1) := by decide +kernel
theorem dX10_soundAlike_20 : decode cX10_soundAlike 20 = .ok (.getfield 26, 3) := by decide +kernel
theorem dX10_soundAlike_23 : decode cX10_soundAlike 23 = .ok (.iload_n 2, 1) := by decide +kernel
theorem dX10_soundAlike_24 : decode cX10_soundAlike 24 = .ok (.aaload, 1) := by decide +kernel
theorem dX10_soundAlike_25 : decode cX10_soundAlike 25 = .ok (.invokevirtual 62, 3) := by decide +kernel
theorem dX10_soundAlike_28 : decode cX10_soundAlike 28 = .ok (.ifCond .eq 7, 3) := by decide +kernel
theorem dX10_soundAlike_31 : decode cX10_soundAlike 31 = .ok (.iconst 1, 1) := by decide +kernel
theorem dX10_soundAlike_32 : decode cX10_soundAlike 32 = .ok (.goto 4, 3) := by decide +kernel
theorem dX10_soundAlike_35 : decode cX10_soundAlike 35 = .ok (.iconst 0, 1) := by decide +kernel
theorem dX10_soundAlike_36 : decode cX10_soundAlike 36 = .ok (.ireturn, 1) := by decide +kernel
theorem dX11_init_0 : decode cX11_init 0 = .ok (.aload_n 0, 1) := by decide +kernel
theorem dX11_init_1 : decode cX11_init 1 = .ok (.invokespecial 1, 3) := by decide +kernel
theorem dX11_init_4 : decode cX11_init 4 = .ok (.aload_n 0, 1) := by decide +kernel
theorem dX11_init_5 : decode cX11_init 5 = .ok (.new 7, 3) := by decide +kernel
theorem dX11_init_8 : decode cX11_init 8 = .ok (.dup, 1) := by decide +kernel
theorem dX11_init_9 : decode cX11_init 9 = .ok (.bipush 16, 2) := by decide +kernel
theorem dX11_init_11 : decode cX11_init 11 = .ok (.invokespecial 11, 3) := by decide +kernel
theorem dX11_init_14 : decode cX11_init 14 = .ok (.putfield 14, 3) := by decide +kernel
theorem dX11_init_17 : decode cX11_init 17 = .ok (.aload_n 0, 1) := by decide +kernel
theorem dX11_init_18 : decode cX11_init 18 = .ok (.new 7, 3) := by decide +kernel
theorem dX11_init_21 : decode cX11_init 21 = .ok (.dup, 1) := by decide +kernel
theorem dX11_init_22 : decode cX11_init 22 = .ok (.iconst 3, 1) := by decide +kernel
theorem dX11_init_23 : decode cX11_init 23 = .ok (.invokespecial 11, 3) := by decide +kernel
theorem dX11_init_26 : decode cX11_init 26 = .ok (.putfield 18, 3) := by decide +kernel
theorem dX11_init_29 : decode cX11_init 29 = .ok (.aload_n 0, 1) := by decide +kernel
theorem dX11_init_30 : decode cX11_init 30 = .ok (.iconst 3, 1) := by decide +kernel
theorem dX11_init_31 : decode cX11_init 31 = .ok (.anewarray 21, 3) := by decide +kernel
theorem dX11_init_34 : decode cX11_init 34 = .ok (.putfield 23, 3) := by decide +kernel
theorem dX11_init_37 : decode cX11_init 37 = .ok (.iconst 0, 1) := by decide +kernel
theorem dX11_init_38 : decode cX11_init 38 = .ok (.istore_n 1, 1) := by decide +kernel
theorem dX11_init_39 : decode cX11_init 39 = .ok (.iload_n 1, 1) := by decide +kernel
theorem dX11_init_40 : decode cX11_init 40 = .ok (.iconst 3, 1) := by decide +kernel
theorem dX11_init_41 : decode cX11_init 41 = .ok (.if_icmp .ge 22, 3) := by decide +kernel
theorem dX11_init_44 : decode cX11_init 44 = .ok (.aload_n 0, 1) := by decide +kernel
theorem dX11_init_45 : decode cX11_init 45 = .ok (.getfield 23, 3) := by decide +kernel
theorem dX11_init_48 : decode cX11_init 48 = .ok (.iload_n 1, 1) := by decide +kernel
theorem dX11_init_49 : decode cX11_init 49 = .ok (.new 21, 3) := by decide +kernel
theorem dX11_init_52 : decode cX11_init 52 = .ok (.dup, 1) := by decide +kernel
theorem dX11_init_53 : decode cX11_init 53 = .ok (.invokespecial 27, 3) := by decide +kernel
theorem dX11_init_56 : decode cX11_init 56 = .ok (.aastore, 1) := by decide +kernel
theorem dX11_init_57 : decode cX11_init 57 = .ok (.iinc 1 1, 3) := by decide +kernel
theorem dX11_init_60 : decode cX11_init 60 = .ok (.goto (-21), 3) := by decide +kernel
theorem dX11_init_63 : decode cX11_init 63 = .ok (.aload_n 0, 1) := by decide +kernel
theorem dX11_init_64 : decode cX11_init 64 = .ok (.new 28, 3) := by decide +kernel
theorem dX11_init_67 : decode cX11_init 67 = .ok (.dup, 1) := by decide +kernel
theorem dX11_init_68 : decode cX11_init 68 = .ok (.invokespecial 30, 3) := by decide +kernel
theorem dX11_init_71 : decode cX11_init 71 = .ok (.putfield 31, 3) := by decide +kernel
theorem dX11_init_74 : decode cX11_init 74 = .ok (.aload_n 0, 1) := by decide +kernel
theorem dX11_init_75 : decode cX11_init 75 = .ok (.new 35, 3) := by decide +kernel
theorem dX11_init_78 : decode cX11_init 78 = .ok (.dup, 1) := by decide +kernel
theorem dX11_init_79 : decode cX11_init 79 = .ok (.invokespecial 37, 3) := by decide +kernel
theorem dX11_init_82 : decode cX11_init 82 = .ok (.putfield 38, 3) := by decide +kernel
theorem dX11_init_85 : decode cX11_init 85 = .ok (.aload_n 0, 1) := by decide +kernel
theorem dX11_init_86 : decode cX11_init 86 = .ok (.new 42, 3) := by decide +kernel
theorem dX11_init_89 : decode cX11_init 89 = .ok (.dup, 1) := by decide +kernel
theorem dX11_init_90 : decode cX11_init 90 = .ok (.invokespecial 44, 3) := by decide +kernel
theorem dX11_init_93 : decode cX11_init 93 = .ok (.putfield 45, 3) := by decide +kernel
theorem dX11_init_96 : decode cX11_init 96 = .ok (.aload_n 0, 1) := by decide +kernel
theorem dX11_init_97 : decode cX11_init 97 = .ok (.new 49, 3) := by decide +kernel
theorem dX11_init_100 : decode cX11_init 100 = .ok (.dup, 1) := by decide +kernel
theorem dX11_init_101 : decode cX11_init 101 = .ok (.invokespecial 51, 3) := by decide +kernel
theorem dX11_init_104 : decode cX11_init 104 = .ok (.putfield 52, 3) := by decide +kernel
theorem dX11_init_107 : decode cX11_init 107 = .ok (.aload_n 0, 1) := by decide +kernel
theorem dX11_init_108 : decode cX11_init 108 = .ok (.new 56, 3) := by decide +kernel
theorem dX11_init_111 : decode cX11_init 111 = .ok (.dup, 1) := by decide +kernel
theorem dX11_init_112 : decode cX11_init 112 = .ok (.aload_n 0, 1) := by decide +kernel
theorem dX11_init_113 : decode cX11_init 113 = .ok (.getfield 38, 3) := by decide +kernel
theorem dX11_init_116 : decode cX11_init 116 = .ok (.aload_n 0, 1) := by decide +kernel
theorem dX11_init_117 : decode cX11_init 117 = .ok (.getfield 45, 3) := by decide +kernel
theorem dX11_init_120 : decode cX11_init 120 = .ok (.invokespecial 58, 3) := by decide +kernel
theorem dX11_init_123 : decode cX11_init 123 = .ok (.putfield 61, 3) := by decide +kernel
theorem dX11_init_126 : decode cX11_init 126 = .ok (.aload_n 0, 1) := by decide +kernel
theorem dX11_init_127 : decode cX11_init 127 = .ok (.new 65, 3) := by decide +kernel
theorem dX11_init_130 : decode cX11_init 130 = .ok (.dup, 1) := by decide +kernel
theorem dX11_init_131 : decode cX11_init 131 = .ok (.aload_n 0, 1) := by decide +kernel
theorem dX11_init_132 : decode cX11_init 132 = .ok (.getfield 38, 3) := by decide +kernel
theorem dX11_init_135 : decode cX11_init 135 = .ok (.invokespecial 67, 3) := by decide +kernel
theorem dX11_init_138 : decode cX11_init 138 = .ok (.putfield 70, 3) := by decide +kernel
theorem dX11_init_141 : decode cX11_init 141 = .ok (.aload_n 0, 1) := by decide +kernel
theorem dX11_init_142 : decode cX11_init 142 = .ok (.new 74, 3) := by decide +kernel
theorem dX11_init_145 : decode cX11_init 145 = .ok (.dup, 1) := by decide +kernel
theorem dX11_init_146 : decode cX11_init 146 = .ok (.invokespecial 76, 3) := by decide +kernel
theorem dX11_init_149 : decode cX11_init 149 = .ok (.putfield 77, 3) := by decide +kernel
theorem dX11_init_152 : decode cX11_init 152 = .ok (.aload_n 0, 1) := by decide +kernel
theorem dX11_init_153 : decode cX11_init 153 = .ok (.new 81, 3) := by decide +kernel
theorem dX11_init_156 : decode cX11_init 156 = .ok (.dup, 1) := by decide +kernel
theorem dX11_init_157 : decode cX11_init 157 = .ok (.invokespecial 83, 3) := by decide +kernel
theorem dX11_init_160 : decode cX11_init 160 = .ok (.putfield 84, 3) := by decide +kernel
theorem dX11_init_163 : decode cX11_init 163 = .ok (.aload_n 0, 1) := by decide +kernel
theorem dX11_init_164 : decode cX11_init 164 = .ok (.new 88, 3) := by decide +kernel
theorem dX11_init_167 : decode cX11_init 167 = .ok (.dup, 1) := by decide +kernel
theorem dX11_init_168 : decode cX11_init 168 = .ok (.aload_n 0, 1) := by decide +kernel
theorem dX11_init_169 : decode cX11_init 169 = .ok (.getfield 84, 3) := by decide +kernel
theorem dX11_init_172 : decode cX11_init 172 = .ok (.invokespecial 90, 3) := by decide +kernel
theorem dX11_init_175 : decode cX11_init 175 = .ok (.putfield 93, 3) := by decide +kernel
theorem dX11_init_178 : decode cX11_init 178 = .ok (.return_, 1) := by decide +kernel
theorem dX11_key_0 : decode cX11_key 0 = .ok (.iload_n 1, 1) := by decide +kernel
theorem dX11_key_1 : decode cX11_key 1 = .ok (.invokestatic 97, 3) := by decide +kernel
theorem dX11_key_4 : decode cX11_key 4 = .ok (.ifCond .ne 6, 3) := by decide +kernel
theorem dX11_key_7 : decode cX11_key 7 = .ok (.bipush (-2), 2) := by decide +kernel
theorem dX11_key_9 : decode cX11_key 9 = .ok (.ireturn, 1) := by decide +kernel
theorem dX11_key_10 : decode cX11_key 10 = .ok (.aload_n 0, 1) := by decide +kernel
theorem dX11_key_11 : decode cX11_key 11 = .ok (.getfield 14, 3) := by decide +kernel
theorem dX11_key_14 : decode cX11_key 14 = .ok (.invokevirtual 101, 3) := by decide +kernel
theorem dX11_key_17 : decode cX11_key 17 = .ok (.ifCond .eq 6, 3) := by decide +kernel
theorem dX11_key_20 : decode cX11_key 20 = .ok (.bipush (-4), 2) := by decide +kernel
theorem dX11_key_22 : decode cX11_key 22 = .ok (.ireturn, 1) := by decide +kernel
theorem dX11_key_23 : decode cX11_key 23 = .ok (.aload_n 0, 1) := by decide +kernel
theorem dX11_key_24 : decode cX11_key 24 = .ok (.getfield 14, 3) := by decide +kernel
theorem dX11_key_27 : decode cX11_key 27 = .ok (.iload_n 1, 1) := by decide +kernel
theorem dX11_key_28 : decode cX11_key 28 = .ok (.invokevirtual 105, 3) := by decide +kernel
theorem dX11_key_31 : decode cX11_key 31 = .ok (.aload_n 0, 1) := by decide +kernel
theorem dX11_key_32 : decode cX11_key 32 = .ok (.getfield 14, 3) := by decide +kernel
theorem dX11_key_35 : decode cX11_key 35 = .ok (.invokevirtual 108, 3) := by decide +kernel
theorem dX11_key_38 : decode cX11_key 38 = .ok (.ireturn, 1) := by decide +kernel
theorem dX11_letter_0 : decode cX11_letter 0 = .ok (.iload_n 1, 1) := by decide +kernel
theorem dX11_letter_1 : decode cX11_letter 1 = .ok (.invokestatic 112, 3) := by decide +kernel
theorem dX11_letter_4 : decode cX11_letter 4 = .ok (.ifCond .ne 6, 3) := by decide +kernel
theorem dX11_letter_7 : decode cX11_letter 7 = .ok (.bipush (-2), 2) := by decide +kernel
theorem dX11_letter_9 : decode cX11_letter 9 = .ok (.ireturn, 1) := by decide +kernel
theorem dX11_letter_10 : decode cX11_letter 10 = .ok (.aload_n 0, 1) := by decide +kernel
theorem dX11_letter_11 : decode cX11_letter 11 = .ok (.getfield 18, 3) := by decide +kernel
theorem dX11_letter_14 : decode cX11_letter 14 = .ok (.invokevirtual 101, 3) := by decide +kernel
theorem dX11_letter_17 : decode cX11_letter 17 = .ok (.ifCond .eq 6, 3) := by decide +kernel
theorem dX11_letter_20 : decode cX11_letter 20 = .ok (.bipush (-4), 2) := by decide +kernel
theorem dX11_letter_22 : decode cX11_letter 22 = .ok (.ireturn, 1) := by decide +kernel
theorem dX11_letter_23 : decode cX11_letter 23 = .ok (.aload_n 0, 1) := by decide +kernel
theorem dX11_letter_24 : decode cX11_letter 24 = .ok (.getfield 18, 3) := by decide +kernel
theorem dX11_letter_27 : decode cX11_letter 27 = .ok (.iload_n 1, 1) := by decide +kernel
theorem dX11_letter_28 : decode cX11_letter 28 = .ok (.invokevirtual 105, 3) := by decide +kernel
theorem dX11_letter_31 : decode cX11_letter 31 = .ok (.aload_n 0, 1) := by decide +kernel
theorem dX11_letter_32 : decode cX11_letter 32 = .ok (.getfield 18, 3) := by decide +kernel
theorem dX11_letter_35 : decode cX11_letter 35 = .ok (.invokevirtual 108, 3) := by decide +kernel
theorem dX11_letter_38 : decode cX11_letter 38 = .ok (.ireturn, 1) := by decide +kernel
theorem dX11_wipe_0 : decode cX11_wipe 0 = .ok (.iload_n 1, 1) := by decide +kernel
theorem dX11_wipe_1 : decode cX11_wipe 1 = .ok (.tableswitch 51 0 2 #[27, 35, 43], 27) := by decide +kernel
theorem dX11_wipe_28 : decode cX11_wipe 28 = .ok (.aload_n 0, 1) := by decide +kernel
theorem dX11_wipe_29 : decode cX11_wipe 29 = .ok (.getfield 14, 3) := by decide +kernel
theorem dX11_wipe_32 : decode cX11_wipe 32 = .ok (.invokevirtual 115, 3) := by decide +kernel
theorem dX11_wipe_35 : decode cX11_wipe 35 = .ok (.ireturn, 1) := by decide +kernel
theorem dX11_wipe_36 : decode cX11_wipe 36 = .ok (.aload_n 0, 1) := by decide +kernel
theorem dX11_wipe_37 : decode cX11_wipe 37 = .ok (.getfield 18, 3) := by decide +kernel
theorem dX11_wipe_40 : decode cX11_wipe 40 = .ok (.invokevirtual 115, 3) := by decide +kernel
theorem dX11_wipe_43 : decode cX11_wipe 43 = .ok (.ireturn, 1) := by decide +kernel
theorem dX11_wipe_44 : decode cX11_wipe 44 = .ok (.aload_n 0, 1) := by decide +kernel
theorem dX11_wipe_45 : decode cX11_wipe 45 = .ok (.getfield 70, 3) := by decide +kernel
theorem dX11_wipe_48 : decode cX11_wipe 48 = .ok (.invokevirtual 118, 3) := by decide +kernel
theorem dX11_wipe_51 : decode cX11_wipe 51 = .ok (.ireturn, 1) := by decide +kernel
theorem dX11_wipe_52 : decode cX11_wipe 52 = .ok (.bipush (-2), 2) := by decide +kernel
theorem dX11_wipe_54 : decode cX11_wipe 54 = .ok (.ireturn, 1) := by decide +kernel
theorem dX11_rule_0 : decode cX11_rule 0 = .ok (.iload_n 1, 1) := by decide +kernel
theorem dX11_rule_1 : decode cX11_rule 1 = .ok (.invokestatic 121, 3) := by decide +kernel
theorem dX11_rule_4 : decode cX11_rule 4 = .ok (.ifCond .ne 5, 3) := by decide +kernel
theorem dX11_rule_7 : decode cX11_rule 7 = .ok (.iconst (-1), 1) := by decide +kernel
theorem dX11_rule_8 : decode cX11_rule 8 = .ok (.ireturn, 1) := by decide +kernel
theorem dX11_rule_9 : decode cX11_rule 9 = .ok (.aload_n 0, 1) := by decide +kernel
theorem dX11_rule_10 : decode cX11_rule 10 = .ok (.getfield 23, 3) := by decide +kernel
theorem dX11_rule_13 : decode cX11_rule 13 = .ok (.iload_n 1, 1) := by decide +kernel
theorem dX11_rule_14 : decode cX11_rule 14 = .ok (.aaload, 1) := by decide +kernel
theorem dX11_rule_15 : decode cX11_rule 15 = .ok (.invokevirtual 124, 3) := by decide +kernel
theorem dX11_rule_18 : decode cX11_rule 18 = .ok (.ifCond .eq 6, 3) := by decide +kernel
theorem dX11_rule_21 : decode cX11_rule 21 = .ok (.bipush (-4), 2) := by decide +kernel
theorem dX11_rule_23 : decode cX11_rule 23 = .ok (.ireturn, 1) := by decide +kernel
theorem dX11_rule_24 : decode cX11_rule 24 = .ok (.aload_n 0, 1) := by decide +kernel
theorem dX11_rule_25 : decode cX11_rule 25 = .ok (.getfield 14, 3) := by decide +kernel
theorem dX11_rule_28 : decode cX11_rule 28 = .ok (.invokevirtual 127, 3) := by decide +kernel
theorem dX11_rule_31 : decode cX11_rule 31 = .ok (.ifCond .ne 24, 3) := by decide +kernel
theorem dX11_rule_34 : decode cX11_rule 34 = .ok (.aload_n 0, 1) := by decide +kernel
theorem dX11_rule_35 : decode cX11_rule 35 = .ok (.getfield 14, 3) := by decide +kernel
theorem dX11_rule_38 : decode cX11_rule 38 = .ok (.invokevirtual 108, 3) := by decide +kernel
theorem dX11_rule_41 : decode cX11_rule 41 = .ok (.iconst 4, 1) := by decide +kernel
theorem dX11_rule_42 : decode cX11_rule 42 = .ok (.if_icmp .gt 13, 3) := by decide +kernel
theorem dX11_rule_45 : decode cX11_rule 45 = .ok (.aload_n 0, 1) := by decide +kernel
theorem dX11_rule_46 : decode cX11_rule 46 = .ok (.getfield 18, 3) := by decide +kernel
theorem dX11_rule_49 : decode cX11_rule 49 = .ok (.invokevirtual 127, 3) := by decide +kernel
theorem dX11_rule_52 : decode cX11_rule 52 = .ok (.ifCond .eq 6, 3) := by decide +kernel
theorem dX11_rule_55 : decode cX11_rule 55 = .ok (.bipush (-5), 2) := by decide +kernel
theorem dX11_rule_57 : decode cX11_rule 57 = .ok (.ireturn, 1) := by decide +kernel
theorem dX11_rule_58 : decode cX11_rule 58 = .ok (.aload_n 0, 1) := by decide +kernel
theorem dX11_rule_59 : decode cX11_rule 59 = .ok (.getfield 23, 3) := by decide +kernel
theorem dX11_rule_62 : decode cX11_rule 62 = .ok (.iload_n 1, 1) := by decide +kernel
theorem dX11_rule_63 : decode cX11_rule 63 = .ok (.aaload, 1) := by decide +kernel
theorem dX11_rule_64 : decode cX11_rule 64 = .ok (.aload_n 0, 1) := by decide +kernel
theorem dX11_rule_65 : decode cX11_rule 65 = .ok (.getfield 14, 3) := by decide +kernel
theorem dX11_rule_68 : decode cX11_rule 68 = .ok (.aload_n 0, 1) := by decide +kernel
theorem dX11_rule_69 : decode cX11_rule 69 = .ok (.getfield 18, 3) := by decide +kernel
theorem dX11_rule_72 : decode cX11_rule 72 = .ok (.invokevirtual 130, 3) := by decide +kernel
theorem dX11_rule_75 : decode cX11_rule 75 = .ok (.istore_n 2, 1) := by decide +kernel
theorem dX11_rule_76 : decode cX11_rule 76 = .ok (.aload_n 0, 1) := by decide +kernel
theorem dX11_rule_77 : decode cX11_rule 77 = .ok (.getfield 14, 3) := by decide +kernel
theorem dX11_rule_80 : decode cX11_rule 80 = .ok (.invokevirtual 115, 3) := by decide +kernel
theorem dX11_rule_83 : decode cX11_rule 83 = .ok (.pop, 1) := by decide +kernel
theorem dX11_rule_84 : decode cX11_rule 84 = .ok (.aload_n 0, 1) := by decide +kernel
theorem dX11_rule_85 : decode cX11_rule 85 = .ok (.getfield 18, 3) := by decide +kernel
theorem dX11_rule_88 : decode cX11_rule 88 = .ok (.invokevirtual 115, 3) := by decide +kernel
theorem dX11_rule_91 : decode cX11_rule 91 = .ok (.pop, 1) := by decide +kernel
theorem dX11_rule_92 : decode cX11_rule 92 = .ok (.iload_n 2, 1) := by decide +kernel
theorem dX11_rule_93 : decode cX11_rule 93 = .ok (.ireturn, 1) := by decide +kernel
theorem dX11_join_0 : decode cX11_join 0 = .ok (.iload_n 1, 1) := by decide +kernel
theorem dX11_join_1 : decode cX11_join 1 = .ok (.invokestatic 121, 3) := by decide +kernel
theorem dX11_join_4 : decode cX11_join 4 = .ok (.ifCond .ne 5, 3) := by decide +kernel
theorem dX11_join_7 : decode cX11_join 7 = .ok (.iconst (-1), 1) := by decide +kernel
theorem dX11_join_8 : decode cX11_join 8 = .ok (.ireturn, 1) := by decide +kernel
theorem dX11_join_9 : decode cX11_join 9 = .ok (.iload_n 2, 1) := by decide +kernel
theorem dX11_join_10 : decode cX11_join 10 = .ok (.invokestatic 112, 3) := by decide +kernel
theorem dX11_join_13 : decode cX11_join 13 = .ok (.ifCond .eq 18, 3) := by decide +kernel
theorem dX11_join_16 : decode cX11_join 16 = .ok (.iload_n 3, 1) := by decide +kernel
theorem dX11_join_17 : decode cX11_join 17 = .ok (.invokestatic 112, 3) := by decide +kernel
theorem dX11_join_20 : decode cX11_join 20 = .ok (.ifCond .eq 11, 3) := by decide +kernel
theorem dX11_join_23 : decode cX11_join 23 = .ok (.iload 4, 2) := by decide +kernel
theorem dX11_join_25 : decode cX11_join 25 = .ok (.invokestatic 112, 3) := by decide +kernel
theorem dX11_join_28 : decode cX11_join 28 = .ok (.ifCond .ne 6, 3) := by decide +kernel
theorem dX11_join_31 : decode cX11_join 31 = .ok (.bipush (-2), 2) := by decide +kernel
theorem dX11_join_33 : decode cX11_join 33 = .ok (.ireturn, 1) := by decide +kernel
theorem dX11_join_34 : decode cX11_join 34 = .ok (.aload_n 0, 1) := by decide +kernel
theorem dX11_join_35 : decode cX11_join 35 = .ok (.getfield 23, 3) := by decide +kernel
theorem dX11_join_38 : decode cX11_join 38 = .ok (.iload_n 1, 1) := by decide +kernel
theorem dX11_join_39 : decode cX11_join 39 = .ok (.aaload, 1) := by decide +kernel
theorem dX11_join_40 : decode cX11_join 40 = .ok (.invokevirtual 134, 3) := by decide +kernel
theorem dX11_join_43 : decode cX11_join 43 = .ok (.ifCond .eq 6, 3) := by decide +kernel
theorem dX11_join_46 : decode cX11_join 46 = .ok (.bipush (-4), 2) := by decide +kernel
theorem dX11_join_48 : decode cX11_join 48 = .ok (.ireturn, 1) := by decide +kernel
theorem dX11_join_49 : decode cX11_join 49 = .ok (.aload_n 0, 1) := by decide +kernel
theorem dX11_join_50 : decode cX11_join 50 = .ok (.getfield 23, 3) := by decide +kernel
theorem dX11_join_53 : decode cX11_join 53 = .ok (.iload_n 1, 1) := by decide +kernel
theorem dX11_join_54 : decode cX11_join 54 = .ok (.aaload, 1) := by decide +kernel
theorem dX11_join_55 : decode cX11_join 55 = .ok (.iload_n 2, 1) := by decide +kernel
theorem dX11_join_56 : decode cX11_join 56 = .ok (.iload_n 3, 1) := by decide +kernel
theorem dX11_join_57 : decode cX11_join 57 = .ok (.iload 4, 2) := by decide +kernel
theorem dX11_join_59 : decode cX11_join 59 = .ok (.invokevirtual 137, 3) := by decide +kernel
theorem dX11_join_62 : decode cX11_join 62 = .ok (.ireturn, 1) := by decide +kernel
theorem dX11_own_0 : decode cX11_own 0 = .ok (.iload_n 1, 1) := by decide +kernel
theorem dX11_own_1 : decode cX11_own 1 = .ok (.invokestatic 121, 3) := by decide +kernel
theorem dX11_own_4 : decode cX11_own 4 = .ok (.ifCond .ne 5, 3) := by decide +kernel
theorem dX11_own_7 : decode cX11_own 7 = .ok (.iconst (-1), 1) := by decide +kernel
theorem dX11_own_8 : decode cX11_own 8 = .ok (.ireturn, 1) := by decide +kernel
theorem dX11_own_9 : decode cX11_own 9 = .ok (.iload_n 2, 1) := by decide +kernel
theorem dX11_own_10 : decode cX11_own 10 = .ok (.invokestatic 112, 3) := by decide +kernel
theorem dX11_own_13 : decode cX11_own 13 = .ok (.ifCond .ne 6, 3) := by decide +kernel
theorem dX11_own_16 : decode cX11_own 16 = .ok (.bipush (-2), 2) := by decide +kernel
theorem dX11_own_18 : decode cX11_own 18 = .ok (.ireturn, 1) := by decide +kernel
theorem dX11_own_19 : decode cX11_own 19 = .ok (.aload_n 0, 1) := by decide +kernel
theorem dX11_own_20 : decode cX11_own 20 = .ok (.getfield 23, 3) := by decide +kernel
theorem dX11_own_23 : decode cX11_own 23 = .ok (.iload_n 1, 1) := by decide +kernel
theorem dX11_own_24 : decode cX11_own 24 = .ok (.aaload, 1) := by decide +kernel
theorem dX11_own_25 : decode cX11_own 25 = .ok (.iload_n 2, 1) := by decide +kernel
theorem dX11_own_26 : decode cX11_own 26 = .ok (.iload_n 3, 1) := by decide +kernel
theorem dX11_own_27 : decode cX11_own 27 = .ok (.invokevirtual 141, 3) := by decide +kernel
theorem dX11_own_30 : decode cX11_own 30 = .ok (.ifCond .eq 7, 3) := by decide +kernel
theorem dX11_own_33 : decode cX11_own 33 = .ok (.iconst 1, 1) := by decide +kernel
theorem dX11_own_34 : decode cX11_own 34 = .ok (.goto 4, 3) := by decide +kernel
theorem dX11_own_37 : decode cX11_own 37 = .ok (.iconst 0, 1) := by decide +kernel
theorem dX11_own_38 : decode cX11_own 38 = .ok (.ireturn, 1) := by decide +kernel
theorem dX11_quarrel_0 : decode cX11_quarrel 0 = .ok (.iload_n 1, 1) := by decide +kernel
theorem dX11_quarrel_1 : decode cX11_quarrel 1 = .ok (.invokestatic 121, 3) := by decide +kernel
theorem dX11_quarrel_4 : decode cX11_quarrel 4 = .ok (.ifCond .eq 16, 3) := by decide +kernel
theorem dX11_quarrel_7 : decode cX11_quarrel 7 = .ok (.aload_n 0, 1) := by decide +kernel
theorem dX11_quarrel_8 : decode cX11_quarrel 8 = .ok (.getfield 23, 3) := by decide +kernel
theorem dX11_quarrel_11 : decode cX11_quarrel 11 = .ok (.iload_n 1, 1) := by decide +kernel
theorem dX11_quarrel_12 : decode cX11_quarrel 12 = .ok (.aaload, 1) := by decide +kernel
theorem dX11_quarrel_13 : decode cX11_quarrel 13 = .ok (.iload_n 2, 1) := by decide +kernel
theorem dX11_quarrel_14 : decode cX11_quarrel 14 = .ok (.invokevirtual 145, 3) := by decide +kernel
theorem dX11_quarrel_17 : decode cX11_quarrel 17 = .ok (.goto 4, 3) := by decide +kernel
theorem dX11_quarrel_20 : decode cX11_quarrel 20 = .ok (.iconst (-1), 1) := by decide +kernel
theorem dX11_quarrel_21 : decode cX11_quarrel 21 = .ok (.ireturn, 1) := by decide +kernel
theorem dX11_idle_0 : decode cX11_idle 0 = .ok (.iload_n 1, 1) := by decide +kernel
theorem dX11_idle_1 : decode cX11_idle 1 = .ok (.invokestatic 121, 3) := by decide +kernel
theorem dX11_idle_4 : decode cX11_idle 4 = .ok (.ifCond .ne 5, 3) := by decide +kernel
theorem dX11_idle_7 : decode cX11_idle 7 = .ok (.iconst (-1), 1) := by decide +kernel
theorem dX11_idle_8 : decode cX11_idle 8 = .ok (.ireturn, 1) := by decide +kernel
theorem dX11_idle_9 : decode cX11_idle 9 = .ok (.iload_n 2, 1) := by decide +kernel
theorem dX11_idle_10 : decode cX11_idle 10 = .ok (.lookupswitch 46 #[(0, 26), (1, 36)], 26) := by decide +kernel
theorem dX11_idle_36 : decode cX11_idle 36 = .ok (.aload_n 0, 1) := by decide +kernel
theorem dX11_idle_37 : decode cX11_idle 37 = .ok (.getfield 23, 3) := by decide +kernel
theorem dX11_idle_40 : decode cX11_idle 40 = .ok (.iload_n 1, 1) := by decide +kernel
theorem dX11_idle_41 : decode cX11_idle 41 = .ok (.aaload, 1) := by decide +kernel
theorem dX11_idle_42 : decode cX11_idle 42 = .ok (.invokevirtual 149, 3) := by decide +kernel
theorem dX11_idle_45 : decode cX11_idle 45 = .ok (.ireturn, 1) := by decide +kernel
theorem dX11_idle_46 : decode cX11_idle 46 = .ok (.aload_n 0, 1) := by decide +kernel
theorem dX11_idle_47 : decode cX11_idle 47 = .ok (.getfield 23, 3) := by decide +kernel
theorem dX11_idle_50 : decode cX11_idle 50 = .ok (.iload_n 1, 1) := by decide +kernel
theorem dX11_idle_51 : decode cX11_idle 51 = .ok (.aaload, 1) := by decide +kernel
theorem dX11_idle_52 : decode cX11_idle 52 = .ok (.invokevirtual 152, 3) := by decide +kernel
theorem dX11_idle_55 : decode cX11_idle 55 = .ok (.ireturn, 1) := by decide +kernel
theorem dX11_idle_56 : decode cX11_idle 56 = .ok (.bipush (-2), 2) := by decide +kernel
theorem dX11_idle_58 : decode cX11_idle 58 = .ok (.ireturn, 1) := by decide +kernel
theorem dX11_missing_0 : decode cX11_missing 0 = .ok (.iload_n 1, 1) := by decide +kernel
theorem dX11_missing_1 : decode cX11_missing 1 = .ok (.invokestatic 121, 3) := by decide +kernel
theorem dX11_missing_4 : decode cX11_missing 4 = .ok (.ifCond .eq 16, 3) := by decide +kernel
theorem dX11_missing_7 : decode cX11_missing 7 = .ok (.aload_n 0, 1) := by decide +kernel
theorem dX11_missing_8 : decode cX11_missing 8 = .ok (.getfield 23, 3) := by decide +kernel
theorem dX11_missing_11 : decode cX11_missing 11 = .ok (.iload_n 1, 1) := by decide +kernel
theorem dX11_missing_12 : decode cX11_missing 12 = .ok (.aaload, 1) := by decide +kernel
theorem dX11_missing_13 : decode cX11_missing 13 = .ok (.iload_n 2, 1) := by decide +kernel
theorem dX11_missing_14 : decode cX11_missing 14 = .ok (.invokevirtual 155, 3) := by decide +kernel
theorem dX11_missing_17 : decode cX11_missing 17 = .ok (.goto 4, 3) := by decide +kernel
theorem dX11_missing_20 : decode cX11_missing 20 = .ok (.iconst (-1), 1) := by decide +kernel
theorem dX11_missing_21 : decode cX11_missing 21 = .ok (.ireturn, 1) := by decide +kernel
theorem dX11_speak_0 : decode cX11_speak 0 = .ok (.iload_n 1, 1) := by decide +kernel
theorem dX11_speak_1 : decode cX11_speak 1 = .ok (.invokestatic 121, 3) := by decide +kernel
theorem dX11_speak_4 : decode cX11_speak 4 = .ok (.ifCond .eq 14, 3) := by decide +kernel
theorem dX11_speak_7 : decode cX11_speak 7 = .ok (.aload_n 0, 1) := by decide +kernel
theorem dX11_speak_8 : decode cX11_speak 8 = .ok (.getfield 31, 3) := by decide +kernel
theorem dX11_speak_11 : decode cX11_speak 11 = .ok (.iload_n 1, 1) := by decide +kernel
theorem dX11_speak_12 : decode cX11_speak 12 = .ok (.invokevirtual 158, 3) := by decide +kernel
theorem dX11_speak_15 : decode cX11_speak 15 = .ok (.goto 4, 3) := by decide +kernel
theorem dX11_speak_18 : decode cX11_speak 18 = .ok (.iconst (-1), 1) := by decide +kernel
theorem dX11_speak_19 : decode cX11_speak 19 = .ok (.ireturn, 1) := by decide +kernel
theorem dX11_strike_0 : decode cX11_strike 0 = .ok (.iload_n 1, 1) := by decide +kernel
theorem dX11_strike_1 : decode cX11_strike 1 = .ok (.iconst 0, 1) := by decide +kernel
theorem dX11_strike_2 : decode cX11_strike 2 = .ok (.aload_n 0, 1) := by decide +kernel
theorem dX11_strike_3 : decode cX11_strike 3 = .ok (.getfield 31, 3) := by decide +kernel
theorem dX11_strike_6 : decode cX11_strike 6 = .ok (.invokevirtual 161, 3) := by decide +kernel
theorem dX11_strike_9 : decode cX11_strike 9 = .ok (.invokevirtual 108, 3) := by decide +kernel
theorem dX11_strike_12 : decode cX11_strike 12 = .ok (.invokestatic 165, 3) := by decide +kernel
theorem dX11_strike_15 : decode cX11_strike 15 = .ok (.ifCond .eq 10, 3) := by decide +kernel
theorem dX11_strike_18 : decode cX11_strike 18 = .ok (.iload_n 2, 1) := by decide +kernel
theorem dX11_strike_19 : decode cX11_strike 19 = .ok (.invokestatic 97, 3) := by decide +kernel
theorem dX11_strike_22 : decode cX11_strike 22 = .ok (.ifCond .ne 6, 3) := by decide +kernel
theorem dX11_strike_25 : decode cX11_strike 25 = .ok (.bipush (-2), 2) := by decide +kernel
theorem dX11_strike_27 : decode cX11_strike 27 = .ok (.ireturn, 1) := by decide +kernel
theorem dX11_strike_28 : decode cX11_strike 28 = .ok (.aload_n 0, 1) := by decide +kernel
theorem dX11_strike_29 : decode cX11_strike 29 = .ok (.getfield 31, 3) := by decide +kernel
theorem dX11_strike_32 : decode cX11_strike 32 = .ok (.invokevirtual 161, 3) := by decide +kernel
theorem dX11_strike_35 : decode cX11_strike 35 = .ok (.invokevirtual 101, 3) := by decide +kernel
theorem dX11_strike_38 : decode cX11_strike 38 = .ok (.ifCond .eq 6, 3) := by decide +kernel
theorem dX11_strike_41 : decode cX11_strike 41 = .ok (.bipush (-4), 2) := by decide +kernel
theorem dX11_strike_43 : decode cX11_strike 43 = .ok (.ireturn, 1) := by decide +kernel
theorem dX11_strike_44 : decode cX11_strike 44 = .ok (.aload_n 0, 1) := by decide +kernel
theorem dX11_strike_45 : decode cX11_strike 45 = .ok (.getfield 31, 3) := by decide +kernel
theorem dX11_strike_48 : decode cX11_strike 48 = .ok (.invokevirtual 161, 3) := by decide +kernel
theorem dX11_strike_51 : decode cX11_strike 51 = .ok (.iload_n 1, 1) := by decide +kernel
theorem dX11_strike_52 : decode cX11_strike 52 = .ok (.iload_n 2, 1) := by decide +kernel
theorem dX11_strike_53 : decode cX11_strike 53 = .ok (.invokevirtual 169, 3) := by decide +kernel
theorem dX11_strike_56 : decode cX11_strike 56 = .ok (.aload_n 0, 1) := by decide +kernel
theorem dX11_strike_57 : decode cX11_strike 57 = .ok (.getfield 31, 3) := by decide +kernel
theorem dX11_strike_60 : decode cX11_strike 60 = .ok (.invokevirtual 161, 3) := by decide +kernel
theorem dX11_strike_63 : decode cX11_strike 63 = .ok (.invokevirtual 108, 3) := by decide +kernel
theorem dX11_strike_66 : decode cX11_strike 66 = .ok (.ireturn, 1) := by decide +kernel
theorem dX11_change_0 : decode cX11_change 0 = .ok (.aload_n 0, 1) := by decide +kernel
theorem dX11_change_1 : decode cX11_change 1 = .ok (.getfield 31, 3) := by decide +kernel
theorem dX11_change_4 : decode cX11_change 4 = .ok (.invokevirtual 161, 3) := by decide +kernel
theorem dX11_change_7 : decode cX11_change 7 = .ok (.iload_n 1, 1) := by decide +kernel
theorem dX11_change_8 : decode cX11_change 8 = .ok (.invokevirtual 173, 3) := by decide +kernel
theorem dX11_change_11 : decode cX11_change 11 = .ok (.ifCond .eq 25, 3) := by decide +kernel
theorem dX11_change_14 : decode cX11_change 14 = .ok (.iload_n 2, 1) := by decide +kernel
theorem dX11_change_15 : decode cX11_change 15 = .ok (.invokestatic 97, 3) := by decide +kernel
theorem dX11_change_18 : decode cX11_change 18 = .ok (.ifCond .eq 18, 3) := by decide +kernel
theorem dX11_change_21 : decode cX11_change 21 = .ok (.aload_n 0, 1) := by decide +kernel
theorem dX11_change_22 : decode cX11_change 22 = .ok (.getfield 31, 3) := by decide +kernel
theorem dX11_change_25 : decode cX11_change 25 = .ok (.invokevirtual 161, 3) := by decide +kernel
theorem dX11_change_28 : decode cX11_change 28 = .ok (.iload_n 1, 1) := by decide +kernel
theorem dX11_change_29 : decode cX11_change 29 = .ok (.iload_n 2, 1) := by decide +kernel
theorem dX11_change_30 : decode cX11_change 30 = .ok (.invokevirtual 176, 3) := by decide +kernel
theorem dX11_change_33 : decode cX11_change 33 = .ok (.goto 5, 3) := by decide +kernel
theorem dX11_change_36 : decode cX11_change 36 = .ok (.bipush (-2), 2) := by decide +kernel
theorem dX11_change_38 : decode cX11_change 38 = .ok (.ireturn, 1) := by decide +kernel
theorem dX11_back_0 : decode cX11_back 0 = .ok (.aload_n 0, 1) := by decide +kernel
theorem dX11_back_1 : decode cX11_back 1 = .ok (.getfield 31, 3) := by decide +kernel
theorem dX11_back_4 : decode cX11_back 4 = .ok (.invokevirtual 161, 3) := by decide +kernel
theorem dX11_back_7 : decode cX11_back 7 = .ok (.iload_n 1, 1) := by decide +kernel
theorem dX11_back_8 : decode cX11_back 8 = .ok (.invokevirtual 173, 3) := by decide +kernel
theorem dX11_back_11 : decode cX11_back 11 = .ok (.ifCond .eq 17, 3) := by decide +kernel
theorem dX11_back_14 : decode cX11_back 14 = .ok (.aload_n 0, 1) := by decide +kernel
theorem dX11_back_15 : decode cX11_back 15 = .ok (.getfield 31, 3) := by decide +kernel
theorem dX11_back_18 : decode cX11_back 18 = .ok (.invokevirtual 161, 3) := by decide +kernel
theorem dX11_back_21 : decode cX11_back 21 = .ok (.iload_n 1, 1) := by decide +kernel
theorem dX11_back_22 : decode cX11_back 22 = .ok (.invokevirtual 180, 3) := by decide +kernel
theorem dX11_back_25 : decode cX11_back 25 = .ok (.goto 5, 3) := by decide +kernel
theorem dX11_back_28 : decode cX11_back 28 = .ok (.bipush (-2), 2) := by decide +kernel
theorem dX11_back_30 : decode cX11_back 30 = .ok (.ireturn, 1) := by decide +kernel
theorem dX11_stands_0 : decode cX11_stands 0 = .ok (.iload_n 1, 1) := by decide +kernel
theorem dX11_stands_1 : decode cX11_stands 1 = .ok (.iconst (-1), 1) := by decide +kernel
theorem dX11_stands_2 : decode cX11_stands 2 = .ok (.if_icmp .ge 7, 3) := by decide +kernel
theorem dX11_stands_5 : decode cX11_stands 5 = .ok (.sipush (-1002), 3) := by decide +kernel
theorem dX11_stands_8 : decode cX11_stands 8 = .ok (.ireturn, 1) := by decide +kernel
theorem dX11_stands_9 : decode cX11_stands 9 = .ok (.aload_n 0, 1) := by decide +kernel
theorem dX11_stands_10 : decode cX11_stands 10 = .ok (.getfield 31, 3) := by decide +kernel
theorem dX11_stands_13 : decode cX11_stands 13 = .ok (.aload_n 0, 1) := by decide +kernel
theorem dX11_stands_14 : decode cX11_stands 14 = .ok (.invokevirtual 183, 3) := by decide +kernel
theorem dX11_stands_17 : decode cX11_stands 17 = .ok (.invokevirtual 187, 3) := by decide +kernel
theorem dX11_stands_20 : decode cX11_stands 20 = .ok (.iload_n 1, 1) := by decide +kernel
theorem dX11_stands_21 : decode cX11_stands 21 = .ok (.iconst (-1), 1) := by decide +kernel
theorem dX11_stands_22 : decode cX11_stands 22 = .ok (.if_icmp .ne 14, 3) := by decide +kernel
theorem dX11_stands_25 : decode cX11_stands 25 = .ok (.aload_n 0, 1) := by decide +kernel
theorem dX11_stands_26 : decode cX11_stands 26 = .ok (.getfield 31, 3) := by decide +kernel
theorem dX11_stands_29 : decode cX11_stands 29 = .ok (.invokevirtual 191, 3) := by decide +kernel
theorem dX11_stands_32 : decode cX11_stands 32 = .ok (.invokevirtual 108, 3) := by decide +kernel
theorem dX11_stands_35 : decode cX11_stands 35 = .ok (.ireturn, 1) := by decide +kernel
theorem dX11_stands_36 : decode cX11_stands 36 = .ok (.aload_n 0, 1) := by decide +kernel
theorem dX11_stands_37 : decode cX11_stands 37 = .ok (.getfield 31, 3) := by decide +kernel
theorem dX11_stands_40 : decode cX11_stands 40 = .ok (.invokevirtual 191, 3) := by decide +kernel
theorem dX11_stands_43 : decode cX11_stands 43 = .ok (.iload_n 1, 1) := by decide +kernel
theorem dX11_stands_44 : decode cX11_stands 44 = .ok (.invokevirtual 173, 3) := by decide +kernel
theorem dX11_stands_47 : decode cX11_stands 47 = .ok (.ifCond .eq 17, 3) := by decide +kernel
theorem dX11_stands_50 : decode cX11_stands 50 = .ok (.aload_n 0, 1) := by decide +kernel
theorem dX11_stands_51 : decode cX11_stands 51 = .ok (.getfield 31, 3) := by decide +kernel
theorem dX11_stands_54 : decode cX11_stands 54 = .ok (.invokevirtual 191, 3) := by decide +kernel
theorem dX11_stands_57 : decode cX11_stands 57 = .ok (.iload_n 1, 1) := by decide +kernel
theorem dX11_stands_58 : decode cX11_stands 58 = .ok (.invokevirtual 194, 3) := by decide +kernel
theorem dX11_stands_61 : decode cX11_stands 61 = .ok (.goto 6, 3) := by decide +kernel
theorem dX11_stands_64 : decode cX11_stands 64 = .ok (.sipush (-1006), 3) := by decide +kernel
theorem dX11_stands_67 : decode cX11_stands 67 = .ok (.ireturn, 1) := by decide +kernel
theorem dX11_piece_0 : decode cX11_piece 0 = .ok (.aload_n 0, 1) := by decide +kernel
theorem dX11_piece_1 : decode cX11_piece 1 = .ok (.getfield 31, 3) := by decide +kernel
theorem dX11_piece_4 : decode cX11_piece 4 = .ok (.aload_n 0, 1) := by decide +kernel
theorem dX11_piece_5 : decode cX11_piece 5 = .ok (.invokevirtual 183, 3) := by decide +kernel
theorem dX11_piece_8 : decode cX11_piece 8 = .ok (.invokevirtual 197, 3) := by decide +kernel
theorem dX11_piece_11 : decode cX11_piece 11 = .ok (.aload_n 0, 1) := by decide +kernel
theorem dX11_piece_12 : decode cX11_piece 12 = .ok (.getfield 31, 3) := by decide +kernel
theorem dX11_piece_15 : decode cX11_piece 15 = .ok (.iload_n 1, 1) := by decide +kernel
theorem dX11_piece_16 : decode cX11_piece 16 = .ok (.invokevirtual 200, 3) := by decide +kernel
theorem dX11_piece_19 : decode cX11_piece 19 = .ok (.ireturn, 1) := by decide +kernel
theorem dX11_could_0 : decode cX11_could 0 = .ok (.aload_n 0, 1) := by decide +kernel
theorem dX11_could_1 : decode cX11_could 1 = .ok (.getfield 31, 3) := by decide +kernel
theorem dX11_could_4 : decode cX11_could 4 = .ok (.aload_n 0, 1) := by decide +kernel
theorem dX11_could_5 : decode cX11_could 5 = .ok (.invokevirtual 183, 3) := by decide +kernel
theorem dX11_could_8 : decode cX11_could 8 = .ok (.invokevirtual 203, 3) := by decide +kernel
theorem dX11_could_11 : decode cX11_could 11 = .ok (.ireturn, 1) := by decide +kernel
theorem dX11_word_0 : decode cX11_word 0 = .ok (.iload_n 1, 1) := by decide +kernel
theorem dX11_word_1 : decode cX11_word 1 = .ok (.invokestatic 121, 3) := by decide +kernel
theorem dX11_word_4 : decode cX11_word 4 = .ok (.ifCond .ne 5, 3) := by decide +kernel
theorem dX11_word_7 : decode cX11_word 7 = .ok (.iconst (-1), 1) := by decide +kernel
theorem dX11_word_8 : decode cX11_word 8 = .ok (.ireturn, 1) := by decide +kernel
theorem dX11_word_9 : decode cX11_word 9 = .ok (.iload_n 2, 1) := by decide +kernel
theorem dX11_word_10 : decode cX11_word 10 = .ok (.iconst 1, 1) := by decide +kernel
theorem dX11_word_11 : decode cX11_word 11 = .ok (.sipush 999, 3) := by decide +kernel
theorem dX11_word_14 : decode cX11_word 14 = .ok (.invokestatic 165, 3) := by decide +kernel
theorem dX11_word_17 : decode cX11_word 17 = .ok (.ifCond .eq 13, 3) := by decide +kernel
theorem dX11_word_20 : decode cX11_word 20 = .ok (.iload_n 3, 1) := by decide +kernel
theorem dX11_word_21 : decode cX11_word 21 = .ok (.iconst 1, 1) := by decide +kernel
theorem dX11_word_22 : decode cX11_word 22 = .ok (.bipush 100, 2) := by decide +kernel
theorem dX11_word_24 : decode cX11_word 24 = .ok (.invokestatic 165, 3) := by decide +kernel
theorem dX11_word_27 : decode cX11_word 27 = .ok (.ifCond .ne 6, 3) := by decide +kernel
theorem dX11_word_30 : decode cX11_word 30 = .ok (.bipush (-2), 2) := by decide +kernel
theorem dX11_word_32 : decode cX11_word 32 = .ok (.ireturn, 1) := by decide +kernel
theorem dX11_word_33 : decode cX11_word 33 = .ok (.aload_n 0, 1) := by decide +kernel
theorem dX11_word_34 : decode cX11_word 34 = .ok (.getfield 38, 3) := by decide +kernel
theorem dX11_word_37 : decode cX11_word 37 = .ok (.invokevirtual 207, 3) := by decide +kernel
theorem dX11_word_40 : decode cX11_word 40 = .ok (.ifCond .eq 6, 3) := by decide +kernel
theorem dX11_word_43 : decode cX11_word 43 = .ok (.bipush (-4), 2) := by decide +kernel
theorem dX11_word_45 : decode cX11_word 45 = .ok (.ireturn, 1) := by decide +kernel
theorem dX11_word_46 : decode cX11_word 46 = .ok (.aload_n 0, 1) := by decide +kernel
theorem dX11_word_47 : decode cX11_word 47 = .ok (.getfield 14, 3) := by decide +kernel
theorem dX11_word_50 : decode cX11_word 50 = .ok (.invokevirtual 127, 3) := by decide +kernel
theorem dX11_word_53 : decode cX11_word 53 = .ok (.ifCond .ne 15, 3) := by decide +kernel
theorem dX11_word_56 : decode cX11_word 56 = .ok (.aload_n 0, 1) := by decide +kernel
theorem dX11_word_57 : decode cX11_word 57 = .ok (.getfield 14, 3) := by decide +kernel
theorem dX11_word_60 : decode cX11_word 60 = .ok (.invokevirtual 108, 3) := by decide +kernel
theorem dX11_word_63 : decode cX11_word 63 = .ok (.bipush 8, 2) := by decide +kernel
theorem dX11_word_65 : decode cX11_word 65 = .ok (.if_icmp .le 6, 3) := by decide +kernel
theorem dX11_word_68 : decode cX11_word 68 = .ok (.bipush (-5), 2) := by decide +kernel
theorem dX11_word_70 : decode cX11_word 70 = .ok (.ireturn, 1) := by decide +kernel
theorem dX11_word_71 : decode cX11_word 71 = .ok (.aload_n 0, 1) := by decide +kernel
theorem dX11_word_72 : decode cX11_word 72 = .ok (.getfield 38, 3) := by decide +kernel
theorem dX11_word_75 : decode cX11_word 75 = .ok (.iload_n 1, 1) := by decide +kernel
theorem dX11_word_76 : decode cX11_word 76 = .ok (.iload_n 2, 1) := by decide +kernel
theorem dX11_word_77 : decode cX11_word 77 = .ok (.iload_n 3, 1) := by decide +kernel
theorem dX11_word_78 : decode cX11_word 78 = .ok (.aload_n 0, 1) := by decide +kernel
theorem dX11_word_79 : decode cX11_word 79 = .ok (.getfield 14, 3) := by decide +kernel
theorem dX11_word_82 : decode cX11_word 82 = .ok (.invokevirtual 208, 3) := by decide +kernel
theorem dX11_word_85 : decode cX11_word 85 = .ok (.istore 4, 2) := by decide +kernel
theorem dX11_word_87 : decode cX11_word 87 = .ok (.aload_n 0, 1) := by decide +kernel
theorem dX11_word_88 : decode cX11_word 88 = .ok (.getfield 14, 3) := by decide +kernel
theorem dX11_word_91 : decode cX11_word 91 = .ok (.invokevirtual 115, 3) := by decide +kernel
theorem dX11_word_94 : decode cX11_word 94 = .ok (.pop, 1) := by decide +kernel
theorem dX11_word_95 : decode cX11_word 95 = .ok (.iload 4, 2) := by decide +kernel
theorem dX11_word_97 : decode cX11_word 97 = .ok (.ireturn, 1) := by decide +kernel
theorem dX11_ofWord_0 : decode cX11_ofWord 0 = .ok (.aload_n 0, 1) := by decide +kernel
theorem dX11_ofWord_1 : decode cX11_ofWord 1 = .ok (.getfield 38, 3) := by decide +kernel
theorem dX11_ofWord_4 : decode cX11_ofWord 4 = .ok (.iload_n 1, 1) := by decide +kernel
theorem dX11_ofWord_5 : decode cX11_ofWord 5 = .ok (.invokevirtual 212, 3) := by decide +kernel
theorem dX11_ofWord_8 : decode cX11_ofWord 8 = .ok (.ifCond .ne 5, 3) := by decide +kernel
theorem dX11_ofWord_11 : decode cX11_ofWord 11 = .ok (.iconst (-1), 1) := by decide +kernel
theorem dX11_ofWord_12 : decode cX11_ofWord 12 = .ok (.ireturn, 1) := by decide +kernel
theorem dX11_ofWord_13 : decode cX11_ofWord 13 = .ok (.iload_n 2, 1) := by decide +kernel
theorem dX11_ofWord_14 : decode cX11_ofWord 14 = .ok (.tableswitch 69 0 3 #[30, 39, 48, 57], 30) := by decide +kernel
theorem dX11_ofWord_44 : decode cX11_ofWord 44 = .ok (.aload_n 0, 1) := by decide +kernel
theorem dX11_ofWord_45 : decode cX11_ofWord 45 = .ok (.getfield 38, 3) := by decide +kernel
theorem dX11_ofWord_48 : decode cX11_ofWord 48 = .ok (.iload_n 1, 1) := by decide +kernel
theorem dX11_ofWord_49 : decode cX11_ofWord 49 = .ok (.invokevirtual 213, 3) := by decide +kernel
theorem dX11_ofWord_52 : decode cX11_ofWord 52 = .ok (.ireturn, 1) := by decide +kernel
theorem dX11_ofWord_53 : decode cX11_ofWord 53 = .ok (.aload_n 0, 1) := by decide +kernel
theorem dX11_ofWord_54 : decode cX11_ofWord 54 = .ok (.getfield 38, 3) := by decide +kernel
theorem dX11_ofWord_57 : decode cX11_ofWord 57 = .ok (.iload_n 1, 1) := by decide +kernel
theorem dX11_ofWord_58 : decode cX11_ofWord 58 = .ok (.invokevirtual 216, 3) := by decide +kernel
theorem dX11_ofWord_61 : decode cX11_ofWord 61 = .ok (.ireturn, 1) := by decide +kernel
theorem dX11_ofWord_62 : decode cX11_ofWord 62 = .ok (.aload_n 0, 1) := by decide +kernel
theorem dX11_ofWord_63 : decode cX11_ofWord 63 = .ok (.getfield 38, 3) := by decide +kernel
theorem dX11_ofWord_66 : decode cX11_ofWord 66 = .ok (.iload_n 1, 1) := by decide +kernel
theorem dX11_ofWord_67 : decode cX11_ofWord 67 = .ok (.invokevirtual 219, 3) := by decide +kernel
theorem dX11_ofWord_70 : decode cX11_ofWord 70 = .ok (.ireturn, 1) := by decide +kernel
theorem dX11_ofWord_71 : decode cX11_ofWord 71 = .ok (.aload_n 0, 1) := by decide +kernel
theorem dX11_ofWord_72 : decode cX11_ofWord 72 = .ok (.getfield 38, 3) := by decide +kernel
theorem dX11_ofWord_75 : decode cX11_ofWord 75 = .ok (.iload_n 1, 1) := by decide +kernel
theorem dX11_ofWord_76 : decode cX11_ofWord 76 = .ok (.invokevirtual 222, 3) := by decide +kernel
theorem dX11_ofWord_79 : decode cX11_ofWord 79 = .ok (.invokevirtual 108, 3) := by decide +kernel
theorem dX11_ofWord_82 : decode cX11_ofWord 82 = .ok (.ireturn, 1) := by decide +kernel
theorem dX11_ofWord_83 : decode cX11_ofWord 83 = .ok (.iload_n 2, 1) := by decide +kernel
theorem dX11_ofWord_84 : decode cX11_ofWord 84 = .ok (.bipush 10, 2) := by decide +kernel
theorem dX11_ofWord_86 : decode cX11_ofWord 86 = .ok (.if_icmp .ge 6, 3) := by decide +kernel
theorem dX11_ofWord_89 : decode cX11_ofWord 89 = .ok (.bipush (-2), 2) := by decide +kernel
theorem dX11_ofWord_91 : decode cX11_ofWord 91 = .ok (.ireturn, 1) := by decide +kernel
theorem dX11_ofWord_92 : decode cX11_ofWord 92 = .ok (.aload_n 0, 1) := by decide +kernel
theorem dX11_ofWord_93 : decode cX11_ofWord 93 = .ok (.getfield 38, 3) := by decide +kernel
theorem dX11_ofWord_96 : decode cX11_ofWord 96 = .ok (.iload_n 1, 1) := by decide +kernel
theorem dX11_ofWord_97 : decode cX11_ofWord 97 = .ok (.invokevirtual 222, 3) := by decide +kernel
theorem dX11_ofWord_100 : decode cX11_ofWord 100 = .ok (.iload_n 2, 1) := by decide +kernel
theorem dX11_ofWord_101 : decode cX11_ofWord 101 = .ok (.bipush 10, 2) := by decide +kernel
theorem dX11_ofWord_103 : decode cX11_ofWord 103 = .ok (.isub, 1) := by decide +kernel
theorem dX11_ofWord_104 : decode cX11_ofWord 104 = .ok (.invokevirtual 173, 3) := by decide +kernel
theorem dX11_ofWord_107 : decode cX11_ofWord 107 = .ok (.ifCond .eq 21, 3) := by decide +kernel
theorem dX11_ofWord_110 : decode cX11_ofWord 110 = .ok (.aload_n 0, 1) := by decide +kernel
theorem dX11_ofWord_111 : decode cX11_ofWord 111 = .ok (.getfield 38, 3) := by decide +kernel
theorem dX11_ofWord_114 : decode cX11_ofWord 114 = .ok (.iload_n 1, 1) := by decide +kernel
theorem dX11_ofWord_115 : decode cX11_ofWord 115 = .ok (.invokevirtual 222, 3) := by decide +kernel
theorem dX11_ofWord_118 : decode cX11_ofWord 118 = .ok (.iload_n 2, 1) := by decide +kernel
theorem dX11_ofWord_119 : decode cX11_ofWord 119 = .ok (.bipush 10, 2) := by decide +kernel
theorem dX11_ofWord_121 : decode cX11_ofWord 121 = .ok (.isub, 1) := by decide +kernel
theorem dX11_ofWord_122 : decode cX11_ofWord 122 = .ok (.invokevirtual 194, 3) := by decide +kernel
theorem dX11_ofWord_125 : decode cX11_ofWord 125 = .ok (.goto 5, 3) := by decide +kernel
theorem dX11_ofWord_128 : decode cX11_ofWord 128 = .ok (.bipush (-6), 2) := by decide +kernel
theorem dX11_ofWord_130 : decode cX11_ofWord 130 = .ok (.ireturn, 1) := by decide +kernel
theorem dX11_count_0 : decode cX11_count 0 = .ok (.aload_n 0, 1) := by decide +kernel
theorem dX11_count_1 : decode cX11_count 1 = .ok (.getfield 38, 3) := by decide +kernel
theorem dX11_count_4 : decode cX11_count 4 = .ok (.iload_n 1, 1) := by decide +kernel
theorem dX11_count_5 : decode cX11_count 5 = .ok (.invokevirtual 212, 3) := by decide +kernel
theorem dX11_count_8 : decode cX11_count 8 = .ok (.ifCond .ne 5, 3) := by decide +kernel
theorem dX11_count_11 : decode cX11_count 11 = .ok (.iconst (-1), 1) := by decide +kernel
theorem dX11_count_12 : decode cX11_count 12 = .ok (.ireturn, 1) := by decide +kernel
theorem dX11_count_13 : decode cX11_count 13 = .ok (.iload_n 2, 1) := by decide +kernel
theorem dX11_count_14 : decode cX11_count 14 = .ok (.iconst 1, 1) := by decide +kernel
theorem dX11_count_15 : decode cX11_count 15 = .ok (.bipush 100, 2) := by decide +kernel
theorem dX11_count_17 : decode cX11_count 17 = .ok (.invokestatic 165, 3) := by decide +kernel
theorem dX11_count_20 : decode cX11_count 20 = .ok (.ifCond .eq 15, 3) := by decide +kernel
theorem dX11_count_23 : decode cX11_count 23 = .ok (.aload_n 0, 1) := by decide +kernel
theorem dX11_count_24 : decode cX11_count 24 = .ok (.getfield 38, 3) := by decide +kernel
theorem dX11_count_27 : decode cX11_count 27 = .ok (.iload_n 1, 1) := by decide +kernel
theorem dX11_count_28 : decode cX11_count 28 = .ok (.iload_n 2, 1) := by decide +kernel
theorem dX11_count_29 : decode cX11_count 29 = .ok (.invokevirtual 226, 3) := by decide +kernel
theorem dX11_count_32 : decode cX11_count 32 = .ok (.goto 5, 3) := by decide +kernel
theorem dX11_count_35 : decode cX11_count 35 = .ok (.bipush (-2), 2) := by decide +kernel
theorem dX11_count_37 : decode cX11_count 37 = .ok (.ireturn, 1) := by decide +kernel
theorem dX11_price_0 : decode cX11_price 0 = .ok (.iload_n 1, 1) := by decide +kernel
theorem dX11_price_1 : decode cX11_price 1 = .ok (.iconst 0, 1) := by decide +kernel
theorem dX11_price_2 : decode cX11_price 2 = .ok (.iconst 5, 1) := by decide +kernel
theorem dX11_price_3 : decode cX11_price 3 = .ok (.invokestatic 165, 3) := by decide +kernel
theorem dX11_price_6 : decode cX11_price 6 = .ok (.ifCond .eq 22, 3) := by decide +kernel
theorem dX11_price_9 : decode cX11_price 9 = .ok (.iload_n 2, 1) := by decide +kernel
theorem dX11_price_10 : decode cX11_price 10 = .ok (.iload_n 1, 1) := by decide +kernel
theorem dX11_price_11 : decode cX11_price 11 = .ok (.iconst 5, 1) := by decide +kernel
theorem dX11_price_12 : decode cX11_price 12 = .ok (.if_icmp .ne 7, 3) := by decide +kernel
theorem dX11_price_15 : decode cX11_price 15 = .ok (.iconst 0, 1) := by decide +kernel
theorem dX11_price_16 : decode cX11_price 16 = .ok (.goto 4, 3) := by decide +kernel
theorem dX11_price_19 : decode cX11_price 19 = .ok (.iconst 1, 1) := by decide +kernel
theorem dX11_price_20 : decode cX11_price 20 = .ok (.bipush 20, 2) := by decide +kernel
theorem dX11_price_22 : decode cX11_price 22 = .ok (.invokestatic 165, 3) := by decide +kernel
theorem dX11_price_25 : decode cX11_price 25 = .ok (.ifCond .ne 6, 3) := by decide +kernel
theorem dX11_price_28 : decode cX11_price 28 = .ok (.bipush (-2), 2) := by decide +kernel
theorem dX11_price_30 : decode cX11_price 30 = .ok (.ireturn, 1) := by decide +kernel
theorem dX11_price_31 : decode cX11_price 31 = .ok (.aload_n 0, 1) := by decide +kernel
theorem dX11_price_32 : decode cX11_price 32 = .ok (.getfield 45, 3) := by decide +kernel
theorem dX11_price_35 : decode cX11_price 35 = .ok (.iload_n 1, 1) := by decide +kernel
theorem dX11_price_36 : decode cX11_price 36 = .ok (.iload_n 2, 1) := by decide +kernel
theorem dX11_price_37 : decode cX11_price 37 = .ok (.invokevirtual 229, 3) := by decide +kernel
theorem dX11_price_40 : decode cX11_price 40 = .ok (.ireturn, 1) := by decide +kernel
theorem dX11_slip_0 : decode cX11_slip 0 = .ok (.aload_n 0, 1) := by decide +kernel
theorem dX11_slip_1 : decode cX11_slip 1 = .ok (.getfield 38, 3) := by decide +kernel
theorem dX11_slip_4 : decode cX11_slip 4 = .ok (.iload_n 1, 1) := by decide +kernel
theorem dX11_slip_5 : decode cX11_slip 5 = .ok (.invokevirtual 212, 3) := by decide +kernel
theorem dX11_slip_8 : decode cX11_slip 8 = .ok (.ifCond .ne 5, 3) := by decide +kernel
theorem dX11_slip_11 : decode cX11_slip 11 = .ok (.iconst (-1), 1) := by decide +kernel
theorem dX11_slip_12 : decode cX11_slip 12 = .ok (.ireturn, 1) := by decide +kernel
theorem dX11_slip_13 : decode cX11_slip 13 = .ok (.aload_n 0, 1) := by decide +kernel
theorem dX11_slip_14 : decode cX11_slip 14 = .ok (.getfield 14, 3) := by decide +kernel
theorem dX11_slip_17 : decode cX11_slip 17 = .ok (.invokevirtual 127, 3) := by decide +kernel
theorem dX11_slip_20 : decode cX11_slip 20 = .ok (.ifCond .eq 8, 3) := by decide +kernel
theorem dX11_slip_23 : decode cX11_slip 23 = .ok (.bipush (-3), 2) := by decide +kernel
theorem dX11_slip_25 : decode cX11_slip 25 = .ok (.goto 22, 3) := by decide +kernel
theorem dX11_slip_28 : decode cX11_slip 28 = .ok (.aload_n 0, 1) := by decide +kernel
theorem dX11_slip_29 : decode cX11_slip 29 = .ok (.getfield 45, 3) := by decide +kernel
theorem dX11_slip_32 : decode cX11_slip 32 = .ok (.aload_n 0, 1) := by decide +kernel
theorem dX11_slip_33 : decode cX11_slip 33 = .ok (.getfield 14, 3) := by decide +kernel
theorem dX11_slip_36 : decode cX11_slip 36 = .ok (.aload_n 0, 1) := by decide +kernel
theorem dX11_slip_37 : decode cX11_slip 37 = .ok (.getfield 38, 3) := by decide +kernel
theorem dX11_slip_40 : decode cX11_slip 40 = .ok (.iload_n 1, 1) := by decide +kernel
theorem dX11_slip_41 : decode cX11_slip 41 = .ok (.invokevirtual 222, 3) := by decide +kernel
theorem dX11_slip_44 : decode cX11_slip 44 = .ok (.invokevirtual 232, 3) := by decide +kernel
theorem dX11_slip_47 : decode cX11_slip 47 = .ok (.ireturn, 1) := by decide +kernel
theorem dX11_guess_0 : decode cX11_guess 0 = .ok (.iload_n 1, 1) := by decide +kernel
theorem dX11_guess_1 : decode cX11_guess 1 = .ok (.iconst 1, 1) := by decide +kernel
theorem dX11_guess_2 : decode cX11_guess 2 = .ok (.bipush 7, 2) := by decide +kernel
theorem dX11_guess_4 : decode cX11_guess 4 = .ok (.invokestatic 165, 3) := by decide +kernel
theorem dX11_guess_7 : decode cX11_guess 7 = .ok (.ifCond .eq 13, 3) := by decide +kernel
theorem dX11_guess_10 : decode cX11_guess 10 = .ok (.iload_n 2, 1) := by decide +kernel
theorem dX11_guess_11 : decode cX11_guess 11 = .ok (.iconst 0, 1) := by decide +kernel
theorem dX11_guess_12 : decode cX11_guess 12 = .ok (.bipush 60, 2) := by decide +kernel
theorem dX11_guess_14 : decode cX11_guess 14 = .ok (.invokestatic 165, 3) := by decide +kernel
theorem dX11_guess_17 : decode cX11_guess 17 = .ok (.ifCond .ne 6, 3) := by decide +kernel
theorem dX11_guess_20 : decode cX11_guess 20 = .ok (.bipush (-2), 2) := by decide +kernel
theorem dX11_guess_22 : decode cX11_guess 22 = .ok (.ireturn, 1) := by decide +kernel
theorem dX11_guess_23 : decode cX11_guess 23 = .ok (.aload_n 0, 1) := by decide +kernel
theorem dX11_guess_24 : decode cX11_guess 24 = .ok (.getfield 14, 3) := by decide +kernel
theorem dX11_guess_27 : decode cX11_guess 27 = .ok (.invokevirtual 127, 3) := by decide +kernel
theorem dX11_guess_30 : decode cX11_guess 30 = .ok (.ifCond .eq 6, 3) := by decide +kernel
theorem dX11_guess_33 : decode cX11_guess 33 = .ok (.bipush (-3), 2) := by decide +kernel
theorem dX11_guess_35 : decode cX11_guess 35 = .ok (.ireturn, 1) := by decide +kernel
theorem dX11_guess_36 : decode cX11_guess 36 = .ok (.aload_n 0, 1) := by decide +kernel
theorem dX11_guess_37 : decode cX11_guess 37 = .ok (.iload_n 1, 1) := by decide +kernel
theorem dX11_guess_38 : decode cX11_guess 38 = .ok (.iload_n 2, 1) := by decide +kernel
theorem dX11_guess_39 : decode cX11_guess 39 = .ok (.iconst (-1), 1) := by decide +kernel
theorem dX11_guess_40 : decode cX11_guess 40 = .ok (.iconst 0, 1) := by decide +kernel
theorem dX11_guess_41 : decode cX11_guess 41 = .ok (.invokevirtual 235, 3) := by decide +kernel
theorem dX11_guess_44 : decode cX11_guess 44 = .ok (.aload_n 0, 1) := by decide +kernel
theorem dX11_guess_45 : decode cX11_guess 45 = .ok (.getfield 52, 3) := by decide +kernel
theorem dX11_guess_48 : decode cX11_guess 48 = .ok (.iload_n 3, 1) := by decide +kernel
theorem dX11_guess_49 : decode cX11_guess 49 = .ok (.invokevirtual 239, 3) := by decide +kernel
theorem dX11_guess_52 : decode cX11_guess 52 = .ok (.ireturn, 1) := by decide +kernel
theorem dX11_part_0 : decode cX11_part 0 = .ok (.aload_n 0, 1) := by decide +kernel
theorem dX11_part_1 : decode cX11_part 1 = .ok (.iload_n 1, 1) := by decide +kernel
theorem dX11_part_2 : decode cX11_part 2 = .ok (.invokevirtual 242, 3) := by decide +kernel
theorem dX11_part_5 : decode cX11_part 5 = .ok (.istore_n 3, 1) := by decide +kernel
theorem dX11_part_6 : decode cX11_part 6 = .ok (.iload_n 3, 1) := by decide +kernel
theorem dX11_part_7 : decode cX11_part 7 = .ok (.ifCond .eq 5, 3) := by decide +kernel
theorem dX11_part_10 : decode cX11_part 10 = .ok (.iload_n 3, 1) := by decide +kernel
theorem dX11_part_11 : decode cX11_part 11 = .ok (.ireturn, 1) := by decide +kernel
theorem dX11_part_12 : decode cX11_part 12 = .ok (.iload_n 2, 1) := by decide +kernel
theorem dX11_part_13 : decode cX11_part 13 = .ok (.lookupswitch 46 #[(-2, 35), (-1, 27)], 27) := by decide +kernel
theorem dX11_part_40 : decode cX11_part 40 = .ok (.aload_n 0, 1) := by decide +kernel
theorem dX11_part_41 : decode cX11_part 41 = .ok (.getfield 61, 3) := by decide +kernel
theorem dX11_part_44 : decode cX11_part 44 = .ok (.invokevirtual 245, 3) := by decide +kernel
theorem dX11_part_47 : decode cX11_part 47 = .ok (.ireturn, 1) := by decide +kernel
theorem dX11_part_48 : decode cX11_part 48 = .ok (.aload_n 0, 1) := by decide +kernel
theorem dX11_part_49 : decode cX11_part 49 = .ok (.getfield 61, 3) := by decide +kernel
theorem dX11_part_52 : decode cX11_part 52 = .ok (.invokevirtual 248, 3) := by decide +kernel
theorem dX11_part_55 : decode cX11_part 55 = .ok (.invokevirtual 108, 3) := by decide +kernel
theorem dX11_part_58 : decode cX11_part 58 = .ok (.ireturn, 1) := by decide +kernel
theorem dX11_part_59 : decode cX11_part 59 = .ok (.aload_n 0, 1) := by decide +kernel
theorem dX11_part_60 : decode cX11_part 60 = .ok (.getfield 61, 3) := by decide +kernel
theorem dX11_part_63 : decode cX11_part 63 = .ok (.invokevirtual 248, 3) := by decide +kernel
theorem dX11_part_66 : decode cX11_part 66 = .ok (.iload_n 2, 1) := by decide +kernel
theorem dX11_part_67 : decode cX11_part 67 = .ok (.invokevirtual 173, 3) := by decide +kernel
theorem dX11_part_70 : decode cX11_part 70 = .ok (.ifCond .eq 17, 3) := by decide +kernel
theorem dX11_part_73 : decode cX11_part 73 = .ok (.aload_n 0, 1) := by decide +kernel
theorem dX11_part_74 : decode cX11_part 74 = .ok (.getfield 61, 3) := by decide +kernel
theorem dX11_part_77 : decode cX11_part 77 = .ok (.invokevirtual 248, 3) := by decide +kernel
theorem dX11_part_80 : decode cX11_part 80 = .ok (.iload_n 2, 1) := by decide +kernel
theorem dX11_part_81 : decode cX11_part 81 = .ok (.invokevirtual 194, 3) := by decide +kernel
theorem dX11_part_84 : decode cX11_part 84 = .ok (.goto 5, 3) := by decide +kernel
theorem dX11_part_87 : decode cX11_part 87 = .ok (.bipush (-6), 2) := by decide +kernel
theorem dX11_part_89 : decode cX11_part 89 = .ok (.ireturn, 1) := by decide +kernel
theorem dX11_pieceOf_0 : decode cX11_pieceOf 0 = .ok (.aload_n 0, 1) := by decide +kernel
theorem dX11_pieceOf_1 : decode cX11_pieceOf 1 = .ok (.iload_n 1, 1) := by decide +kernel
theorem dX11_pieceOf_2 : decode cX11_pieceOf 2 = .ok (.invokevirtual 242, 3) := by decide +kernel
theorem dX11_pieceOf_5 : decode cX11_pieceOf 5 = .ok (.istore_n 3, 1) := by decide +kernel
theorem dX11_pieceOf_6 : decode cX11_pieceOf 6 = .ok (.iload_n 3, 1) := by decide +kernel
theorem dX11_pieceOf_7 : decode cX11_pieceOf 7 = .ok (.ifCond .eq 5, 3) := by decide +kernel
theorem dX11_pieceOf_10 : decode cX11_pieceOf 10 = .ok (.iload_n 3, 1) := by decide +kernel
theorem dX11_pieceOf_11 : decode cX11_pieceOf 11 = .ok (.ireturn, 1) := by decide +kernel
theorem dX11_pieceOf_12 : decode cX11_pieceOf 12 = .ok (.aload_n 0, 1) := by decide +kernel
theorem dX11_pieceOf_13 : decode cX11_pieceOf 13 = .ok (.getfield 61, 3) := by decide +kernel
theorem dX11_pieceOf_16 : decode cX11_pieceOf 16 = .ok (.invokevirtual 250, 3) := by decide +kernel
theorem dX11_pieceOf_19 : decode cX11_pieceOf 19 = .ok (.iload_n 2, 1) := by decide +kernel
theorem dX11_pieceOf_20 : decode cX11_pieceOf 20 = .ok (.invokevirtual 173, 3) := by decide +kernel
theorem dX11_pieceOf_23 : decode cX11_pieceOf 23 = .ok (.ifCond .eq 17, 3) := by decide +kernel
theorem dX11_pieceOf_26 : decode cX11_pieceOf 26 = .ok (.aload_n 0, 1) := by decide +kernel
theorem dX11_pieceOf_27 : decode cX11_pieceOf 27 = .ok (.getfield 61, 3) := by decide +kernel
theorem dX11_pieceOf_30 : decode cX11_pieceOf 30 = .ok (.invokevirtual 250, 3) := by decide +kernel
theorem dX11_pieceOf_33 : decode cX11_pieceOf 33 = .ok (.iload_n 2, 1) := by decide +kernel
theorem dX11_pieceOf_34 : decode cX11_pieceOf 34 = .ok (.invokevirtual 194, 3) := by decide +kernel
theorem dX11_pieceOf_37 : decode cX11_pieceOf 37 = .ok (.goto 5, 3) := by decide +kernel
theorem dX11_pieceOf_40 : decode cX11_pieceOf 40 = .ok (.bipush (-6), 2) := by decide +kernel
theorem dX11_pieceOf_42 : decode cX11_pieceOf 42 = .ok (.ireturn, 1) := by decide +kernel
theorem dX11_both_0 : decode cX11_both 0 = .ok (.aload_n 0, 1) := by decide +kernel
theorem dX11_both_1 : decode cX11_both 1 = .ok (.getfield 38, 3) := by decide +kernel
theorem dX11_both_4 : decode cX11_both 4 = .ok (.iload_n 1, 1) := by decide +kernel
theorem dX11_both_5 : decode cX11_both 5 = .ok (.invokevirtual 212, 3) := by decide +kernel
theorem dX11_both_8 : decode cX11_both 8 = .ok (.ifCond .eq 14, 3) := by decide +kernel
theorem dX11_both_11 : decode cX11_both 11 = .ok (.aload_n 0, 1) := by decide +kernel
theorem dX11_both_12 : decode cX11_both 12 = .ok (.getfield 38, 3) := by decide +kernel
theorem dX11_both_15 : decode cX11_both 15 = .ok (.iload_n 2, 1) := by decide +kernel
theorem dX11_both_16 : decode cX11_both 16 = .ok (.invokevirtual 212, 3) := by decide +kernel
theorem dX11_both_19 : decode cX11_both 19 = .ok (.ifCond .ne 5, 3) := by decide +kernel
theorem dX11_both_22 : decode cX11_both 22 = .ok (.iconst (-1), 1) := by decide +kernel
theorem dX11_both_23 : decode cX11_both 23 = .ok (.ireturn, 1) := by decide +kernel
theorem dX11_both_24 : decode cX11_both 24 = .ok (.iload_n 3, 1) := by decide +kernel
theorem dX11_both_25 : decode cX11_both 25 = .ok (.iconst 0, 1) := by decide +kernel
theorem dX11_both_26 : decode cX11_both 26 = .ok (.bipush 100, 2) := by decide +kernel
theorem dX11_both_28 : decode cX11_both 28 = .ok (.invokestatic 165, 3) := by decide +kernel
theorem dX11_both_31 : decode cX11_both 31 = .ok (.ifCond .ne 6, 3) := by decide +kernel
theorem dX11_both_34 : decode cX11_both 34 = .ok (.bipush (-2), 2) := by decide +kernel
theorem dX11_both_36 : decode cX11_both 36 = .ok (.ireturn, 1) := by decide +kernel
theorem dX11_both_37 : decode cX11_both 37 = .ok (.iload_n 3, 1) := by decide +kernel
theorem dX11_both_38 : decode cX11_both 38 = .ok (.ifCond .le 30, 3) := by decide +kernel
theorem dX11_both_41 : decode cX11_both 41 = .ok (.aload_n 0, 1) := by decide +kernel
theorem dX11_both_42 : decode cX11_both 42 = .ok (.getfield 70, 3) := by decide +kernel
theorem dX11_both_45 : decode cX11_both 45 = .ok (.iload_n 1, 1) := by decide +kernel
theorem dX11_both_46 : decode cX11_both 46 = .ok (.iload_n 2, 1) := by decide +kernel
theorem dX11_both_47 : decode cX11_both 47 = .ok (.invokevirtual 253, 3) := by decide +kernel
theorem dX11_both_50 : decode cX11_both 50 = .ok (.ifCond .ne 18, 3) := by decide +kernel
theorem dX11_both_53 : decode cX11_both 53 = .ok (.aload_n 0, 1) := by decide +kernel
theorem dX11_both_54 : decode cX11_both 54 = .ok (.getfield 70, 3) := by decide +kernel
theorem dX11_both_57 : decode cX11_both 57 = .ok (.invokevirtual 256, 3) := by decide +kernel
theorem dX11_both_60 : decode cX11_both 60 = .ok (.bipush 40, 2) := by decide +kernel
theorem dX11_both_62 : decode cX11_both 62 = .ok (.if_icmp .lt 6, 3) := by decide +kernel
theorem dX11_both_65 : decode cX11_both 65 = .ok (.bipush (-4), 2) := by decide +kernel
theorem dX11_both_67 : decode cX11_both 67 = .ok (.ireturn, 1) := by decide +kernel
theorem dX11_both_68 : decode cX11_both 68 = .ok (.aload_n 0, 1) := by decide +kernel
theorem dX11_both_69 : decode cX11_both 69 = .ok (.getfield 70, 3) := by decide +kernel
theorem dX11_both_72 : decode cX11_both 72 = .ok (.iload_n 1, 1) := by decide +kernel
theorem dX11_both_73 : decode cX11_both 73 = .ok (.iload_n 2, 1) := by decide +kernel
theorem dX11_both_74 : decode cX11_both 74 = .ok (.iload_n 3, 1) := by decide +kernel
theorem dX11_both_75 : decode cX11_both 75 = .ok (.invokevirtual 259, 3) := by decide +kernel
theorem dX11_both_78 : decode cX11_both 78 = .ok (.ireturn, 1) := by decide +kernel
theorem dX11_say_0 : decode cX11_say 0 = .ok (.aload_n 0, 1) := by decide +kernel
theorem dX11_say_1 : decode cX11_say 1 = .ok (.getfield 38, 3) := by decide +kernel
theorem dX11_say_4 : decode cX11_say 4 = .ok (.iload_n 1, 1) := by decide +kernel
theorem dX11_say_5 : decode cX11_say 5 = .ok (.invokevirtual 212, 3) := by decide +kernel
theorem dX11_say_8 : decode cX11_say 8 = .ok (.ifCond .ne 5, 3) := by decide +kernel
theorem dX11_say_11 : decode cX11_say 11 = .ok (.iconst (-1), 1) := by decide +kernel
theorem dX11_say_12 : decode cX11_say 12 = .ok (.ireturn, 1) := by decide +kernel
theorem dX11_say_13 : decode cX11_say 13 = .ok (.aload_n 0, 1) := by decide +kernel
theorem dX11_say_14 : decode cX11_say 14 = .ok (.getfield 70, 3) := by decide +kernel
theorem dX11_say_17 : decode cX11_say 17 = .ok (.invokevirtual 262, 3) := by decide +kernel
theorem dX11_say_20 : decode cX11_say 20 = .ok (.ifCond .eq 8, 3) := by decide +kernel
theorem dX11_say_23 : decode cX11_say 23 = .ok (.bipush (-4), 2) := by decide +kernel
theorem dX11_say_25 : decode cX11_say 25 = .ok (.goto 12, 3) := by decide +kernel
theorem dX11_say_28 : decode cX11_say 28 = .ok (.aload_n 0, 1) := by decide +kernel
theorem dX11_say_29 : decode cX11_say 29 = .ok (.getfield 70, 3) := by decide +kernel
theorem dX11_say_32 : decode cX11_say 32 = .ok (.iload_n 1, 1) := by decide +kernel
theorem dX11_say_33 : decode cX11_say 33 = .ok (.iload_n 2, 1) := by decide +kernel
theorem dX11_say_34 : decode cX11_say 34 = .ok (.invokevirtual 265, 3) := by decide +kernel
theorem dX11_say_37 : decode cX11_say 37 = .ok (.ireturn, 1) := by decide +kernel
theorem dX11_chosen_0 : decode cX11_chosen 0 = .ok (.aload_n 0, 1) := by decide +kernel
theorem dX11_chosen_1 : decode cX11_chosen 1 = .ok (.getfield 70, 3) := by decide +kernel
theorem dX11_chosen_4 : decode cX11_chosen 4 = .ok (.invokevirtual 269, 3) := by decide +kernel
theorem dX11_chosen_7 : decode cX11_chosen 7 = .ok (.pop2, 1) := by decide +kernel
theorem dX11_chosen_8 : decode cX11_chosen 8 = .ok (.aload_n 0, 1) := by decide +kernel
theorem dX11_chosen_9 : decode cX11_chosen 9 = .ok (.getfield 70, 3) := by decide +kernel
theorem dX11_chosen_12 : decode cX11_chosen 12 = .ok (.invokevirtual 273, 3) := by decide +kernel
theorem dX11_chosen_15 : decode cX11_chosen 15 = .ok (.iload_n 1, 1) := by decide +kernel
theorem dX11_chosen_16 : decode cX11_chosen 16 = .ok (.invokevirtual 173, 3) := by decide +kernel
theorem dX11_chosen_19 : decode cX11_chosen 19 = .ok (.ifCond .eq 17, 3) := by decide +kernel
theorem dX11_chosen_22 : decode cX11_chosen 22 = .ok (.aload_n 0, 1) := by decide +kernel
theorem dX11_chosen_23 : decode cX11_chosen 23 = .ok (.getfield 70, 3) := by decide +kernel
theorem dX11_chosen_26 : decode cX11_chosen 26 = .ok (.invokevirtual 273, 3) := by decide +kernel
theorem dX11_chosen_29 : decode cX11_chosen 29 = .ok (.iload_n 1, 1) := by decide +kernel
theorem dX11_chosen_30 : decode cX11_chosen 30 = .ok (.invokevirtual 194, 3) := by decide +kernel
theorem dX11_chosen_33 : decode cX11_chosen 33 = .ok (.goto 5, 3) := by decide +kernel
theorem dX11_chosen_36 : decode cX11_chosen 36 = .ok (.bipush (-6), 2) := by decide +kernel
theorem dX11_chosen_38 : decode cX11_chosen 38 = .ok (.ireturn, 1) := by decide +kernel
theorem dX11_product_0 : decode cX11_product 0 = .ok (.aload_n 0, 1) := by decide +kernel
theorem dX11_product_1 : decode cX11_product 1 = .ok (.getfield 70, 3) := by decide +kernel
theorem dX11_product_4 : decode cX11_product 4 = .ok (.invokevirtual 269, 3) := by decide +kernel
theorem dX11_product_7 : decode cX11_product 7 = .ok (.lreturn, 1) := by decide +kernel
theorem dX11_learn_0 : decode cX11_learn 0 = .ok (.iload_n 1, 1) := by decide +kernel
theorem dX11_learn_1 : decode cX11_learn 1 = .ok (.invokestatic 276, 3) := by decide +kernel
theorem dX11_learn_4 : decode cX11_learn 4 = .ok (.ifCond .eq 14, 3) := by decide +kernel
theorem dX11_learn_7 : decode cX11_learn 7 = .ok (.aload_n 0, 1) := by decide +kernel
theorem dX11_learn_8 : decode cX11_learn 8 = .ok (.getfield 38, 3) := by decide +kernel
theorem dX11_learn_11 : decode cX11_learn 11 = .ok (.iload_n 2, 1) := by decide +kernel
theorem dX11_learn_12 : decode cX11_learn 12 = .ok (.invokevirtual 212, 3) := by decide +kernel
theorem dX11_learn_15 : decode cX11_learn 15 = .ok (.ifCond .ne 5, 3) := by decide +kernel
theorem dX11_learn_18 : decode cX11_learn 18 = .ok (.iconst (-1), 1) := by decide +kernel
theorem dX11_learn_19 : decode cX11_learn 19 = .ok (.ireturn, 1) := by decide +kernel
theorem dX11_learn_20 : decode cX11_learn 20 = .ok (.iload_n 3, 1) := by decide +kernel
theorem dX11_learn_21 : decode cX11_learn 21 = .ok (.invokestatic 279, 3) := by decide +kernel
theorem dX11_learn_24 : decode cX11_learn 24 = .ok (.ifCond .ne 6, 3) := by decide +kernel
theorem dX11_learn_27 : decode cX11_learn 27 = .ok (.bipush (-2), 2) := by decide +kernel
theorem dX11_learn_29 : decode cX11_learn 29 = .ok (.ireturn, 1) := by decide +kernel
theorem dX11_learn_30 : decode cX11_learn 30 = .ok (.aload_n 0, 1) := by decide +kernel
theorem dX11_learn_31 : decode cX11_learn 31 = .ok (.getfield 77, 3) := by decide +kernel
theorem dX11_learn_34 : decode cX11_learn 34 = .ok (.invokevirtual 282, 3) := by decide +kernel
theorem dX11_learn_37 : decode cX11_learn 37 = .ok (.ifCond .eq 6, 3) := by decide +kernel
theorem dX11_learn_40 : decode cX11_learn 40 = .ok (.bipush (-4), 2) := by decide +kernel
theorem dX11_learn_42 : decode cX11_learn 42 = .ok (.ireturn, 1) := by decide +kernel
theorem dX11_learn_43 : decode cX11_learn 43 = .ok (.iload_n 3, 1) := by decide +kernel
theorem dX11_learn_44 : decode cX11_learn 44 = .ok (.aload_n 0, 1) := by decide +kernel
theorem dX11_learn_45 : decode cX11_learn 45 = .ok (.getfield 77, 3) := by decide +kernel
theorem dX11_learn_48 : decode cX11_learn 48 = .ok (.iload_n 1, 1) := by decide +kernel
theorem dX11_learn_49 : decode cX11_learn 49 = .ok (.invokevirtual 283, 3) := by decide +kernel
theorem dX11_learn_52 : decode cX11_learn 52 = .ok (.if_icmp .ge 8, 3) := by decide +kernel
theorem dX11_learn_55 : decode cX11_learn 55 = .ok (.bipush (-5), 2) := by decide +kernel
theorem dX11_learn_57 : decode cX11_learn 57 = .ok (.goto 13, 3) := by decide +kernel
theorem dX11_learn_60 : decode cX11_learn 60 = .ok (.aload_n 0, 1) := by decide +kernel
theorem dX11_learn_61 : decode cX11_learn 61 = .ok (.getfield 77, 3) := by decide +kernel
theorem dX11_learn_64 : decode cX11_learn 64 = .ok (.iload_n 1, 1) := by decide +kernel
theorem dX11_learn_65 : decode cX11_learn 65 = .ok (.iload_n 2, 1) := by decide +kernel
theorem dX11_learn_66 : decode cX11_learn 66 = .ok (.iload_n 3, 1) := by decide +kernel
theorem dX11_learn_67 : decode cX11_learn 67 = .ok (.invokevirtual 286, 3) := by decide +kernel
theorem dX11_learn_70 : decode cX11_learn 70 = .ok (.ireturn, 1) := by decide +kernel
theorem dX11_worth_0 : decode cX11_worth 0 = .ok (.iload_n 1, 1) := by decide +kernel
theorem dX11_worth_1 : decode cX11_worth 1 = .ok (.invokestatic 276, 3) := by decide +kernel
theorem dX11_worth_4 : decode cX11_worth 4 = .ok (.ifCond .eq 14, 3) := by decide +kernel
theorem dX11_worth_7 : decode cX11_worth 7 = .ok (.aload_n 0, 1) := by decide +kernel
theorem dX11_worth_8 : decode cX11_worth 8 = .ok (.getfield 38, 3) := by decide +kernel
theorem dX11_worth_11 : decode cX11_worth 11 = .ok (.iload_n 2, 1) := by decide +kernel
theorem dX11_worth_12 : decode cX11_worth 12 = .ok (.invokevirtual 212, 3) := by decide +kernel
theorem dX11_worth_15 : decode cX11_worth 15 = .ok (.ifCond .ne 5, 3) := by decide +kernel
theorem dX11_worth_18 : decode cX11_worth 18 = .ok (.iconst (-1), 1) := by decide +kernel
theorem dX11_worth_19 : decode cX11_worth 19 = .ok (.ireturn, 1) := by decide +kernel
theorem dX11_worth_20 : decode cX11_worth 20 = .ok (.iload_n 3, 1) := by decide +kernel
theorem dX11_worth_21 : decode cX11_worth 21 = .ok (.invokestatic 279, 3) := by decide +kernel
theorem dX11_worth_24 : decode cX11_worth 24 = .ok (.ifCond .eq 16, 3) := by decide +kernel
theorem dX11_worth_27 : decode cX11_worth 27 = .ok (.aload_n 0, 1) := by decide +kernel
theorem dX11_worth_28 : decode cX11_worth 28 = .ok (.getfield 77, 3) := by decide +kernel
theorem dX11_worth_31 : decode cX11_worth 31 = .ok (.iload_n 1, 1) := by decide +kernel
theorem dX11_worth_32 : decode cX11_worth 32 = .ok (.iload_n 2, 1) := by decide +kernel
theorem dX11_worth_33 : decode cX11_worth 33 = .ok (.iload_n 3, 1) := by decide +kernel
theorem dX11_worth_34 : decode cX11_worth 34 = .ok (.invokevirtual 289, 3) := by decide +kernel
theorem dX11_worth_37 : decode cX11_worth 37 = .ok (.goto 5, 3) := by decide +kernel
theorem dX11_worth_40 : decode cX11_worth 40 = .ok (.bipush (-2), 2) := by decide +kernel
theorem dX11_worth_42 : decode cX11_worth 42 = .ok (.ireturn, 1) := by decide +kernel
theorem dX11_forget_0 : decode cX11_forget 0 = .ok (.iload_n 1, 1) := by decide +kernel
theorem dX11_forget_1 : decode cX11_forget 1 = .ok (.invokestatic 276, 3) := by decide +kernel
theorem dX11_forget_4 : decode cX11_forget 4 = .ok (.ifCond .eq 19, 3) := by decide +kernel
theorem dX11_forget_7 : decode cX11_forget 7 = .ok (.iload_n 2, 1) := by decide +kernel
theorem dX11_forget_8 : decode cX11_forget 8 = .ok (.iconst (-1), 1) := by decide +kernel
theorem dX11_forget_9 : decode cX11_forget 9 = .ok (.if_icmp .eq 16, 3) := by decide +kernel
theorem dX11_forget_12 : decode cX11_forget 12 = .ok (.aload_n 0, 1) := by decide +kernel
theorem dX11_forget_13 : decode cX11_forget 13 = .ok (.getfield 38, 3) := by decide +kernel
theorem dX11_forget_16 : decode cX11_forget 16 = .ok (.iload_n 2, 1) := by decide +kernel
theorem dX11_forget_17 : decode cX11_forget 17 = .ok (.invokevirtual 212, 3) := by decide +kernel
theorem dX11_forget_20 : decode cX11_forget 20 = .ok (.ifCond .ne 5, 3) := by decide +kernel
theorem dX11_forget_23 : decode cX11_forget 23 = .ok (.iconst (-1), 1) := by decide +kernel
theorem dX11_forget_24 : decode cX11_forget 24 = .ok (.ireturn, 1) := by decide +kernel
theorem dX11_forget_25 : decode cX11_forget 25 = .ok (.aload_n 0, 1) := by decide +kernel
theorem dX11_forget_26 : decode cX11_forget 26 = .ok (.getfield 77, 3) := by decide +kernel
theorem dX11_forget_29 : decode cX11_forget 29 = .ok (.iload_n 1, 1) := by decide +kernel
theorem dX11_forget_30 : decode cX11_forget 30 = .ok (.iload_n 2, 1) := by decide +kernel
theorem dX11_forget_31 : decode cX11_forget 31 = .ok (.invokevirtual 292, 3) := by decide +kernel
theorem dX11_forget_34 : decode cX11_forget 34 = .ok (.ireturn, 1) := by decide +kernel
theorem dX11_fade_0 : decode cX11_fade 0 = .ok (.iload_n 1, 1) := by decide +kernel
theorem dX11_fade_1 : decode cX11_fade 1 = .ok (.iconst 0, 1) := by decide +kernel
theorem dX11_fade_2 : decode cX11_fade 2 = .ok (.sipush 1000, 3) := by decide +kernel
theorem dX11_fade_5 : decode cX11_fade 5 = .ok (.invokestatic 165, 3) := by decide +kernel
theorem dX11_fade_8 : decode cX11_fade 8 = .ok (.ifCond .eq 14, 3) := by decide +kernel
theorem dX11_fade_11 : decode cX11_fade 11 = .ok (.aload_n 0, 1) := by decide +kernel
theorem dX11_fade_12 : decode cX11_fade 12 = .ok (.getfield 77, 3) := by decide +kernel
theorem dX11_fade_15 : decode cX11_fade 15 = .ok (.iload_n 1, 1) := by decide +kernel
theorem dX11_fade_16 : decode cX11_fade 16 = .ok (.invokevirtual 295, 3) := by decide +kernel
theorem dX11_fade_19 : decode cX11_fade 19 = .ok (.goto 5, 3) := by decide +kernel
theorem dX11_fade_22 : decode cX11_fade 22 = .ok (.bipush (-2), 2) := by decide +kernel
theorem dX11_fade_24 : decode cX11_fade 24 = .ok (.ireturn, 1) := by decide +kernel
theorem dX11_mine_0 : decode cX11_mine 0 = .ok (.iload_n 1, 1) := by decide +kernel
theorem dX11_mine_1 : decode cX11_mine 1 = .ok (.invokestatic 276, 3) := by decide +kernel
theorem dX11_mine_4 : decode cX11_mine 4 = .ok (.ifCond .ne 5, 3) := by decide +kernel
theorem dX11_mine_7 : decode cX11_mine 7 = .ok (.iconst (-1), 1) := by decide +kernel
theorem dX11_mine_8 : decode cX11_mine 8 = .ok (.ireturn, 1) := by decide +kernel
theorem dX11_mine_9 : decode cX11_mine 9 = .ok (.iload_n 2, 1) := by decide +kernel
theorem dX11_mine_10 : decode cX11_mine 10 = .ok (.invokestatic 279, 3) := by decide +kernel
theorem dX11_mine_13 : decode cX11_mine 13 = .ok (.ifCond .eq 24, 3) := by decide +kernel
theorem dX11_mine_16 : decode cX11_mine 16 = .ok (.iload_n 3, 1) := by decide +kernel
theorem dX11_mine_17 : decode cX11_mine 17 = .ok (.iconst 1, 1) := by decide +kernel
theorem dX11_mine_18 : decode cX11_mine 18 = .ok (.bipush 7, 2) := by decide +kernel
theorem dX11_mine_20 : decode cX11_mine 20 = .ok (.invokestatic 165, 3) := by decide +kernel
theorem dX11_mine_23 : decode cX11_mine 23 = .ok (.ifCond .eq 14, 3) := by decide +kernel
theorem dX11_mine_26 : decode cX11_mine 26 = .ok (.iload 4, 2) := by decide +kernel
theorem dX11_mine_28 : decode cX11_mine 28 = .ok (.iconst 0, 1) := by decide +kernel
theorem dX11_mine_29 : decode cX11_mine 29 = .ok (.bipush 60, 2) := by decide +kernel
theorem dX11_mine_31 : decode cX11_mine 31 = .ok (.invokestatic 165, 3) := by decide +kernel
theorem dX11_mine_34 : decode cX11_mine 34 = .ok (.ifCond .ne 6, 3) := by decide +kernel
theorem dX11_mine_37 : decode cX11_mine 37 = .ok (.bipush (-2), 2) := by decide +kernel
theorem dX11_mine_39 : decode cX11_mine 39 = .ok (.ireturn, 1) := by decide +kernel
theorem dX11_mine_40 : decode cX11_mine 40 = .ok (.aload_n 0, 1) := by decide +kernel
theorem dX11_mine_41 : decode cX11_mine 41 = .ok (.getfield 14, 3) := by decide +kernel
theorem dX11_mine_44 : decode cX11_mine 44 = .ok (.invokevirtual 127, 3) := by decide +kernel
theorem dX11_mine_47 : decode cX11_mine 47 = .ok (.ifCond .eq 6, 3) := by decide +kernel
theorem dX11_mine_50 : decode cX11_mine 50 = .ok (.bipush (-3), 2) := by decide +kernel
theorem dX11_mine_52 : decode cX11_mine 52 = .ok (.ireturn, 1) := by decide +kernel
theorem dX11_mine_53 : decode cX11_mine 53 = .ok (.aload_n 0, 1) := by decide +kernel
theorem dX11_mine_54 : decode cX11_mine 54 = .ok (.iload_n 3, 1) := by decide +kernel
theorem dX11_mine_55 : decode cX11_mine 55 = .ok (.iload 4, 2) := by decide +kernel
theorem dX11_mine_57 : decode cX11_mine 57 = .ok (.iload_n 1, 1) := by decide +kernel
theorem dX11_mine_58 : decode cX11_mine 58 = .ok (.iload_n 2, 1) := by decide +kernel
theorem dX11_mine_59 : decode cX11_mine 59 = .ok (.invokevirtual 235, 3) := by decide +kernel
theorem dX11_mine_62 : decode cX11_mine 62 = .ok (.aload_n 0, 1) := by decide +kernel
theorem dX11_mine_63 : decode cX11_mine 63 = .ok (.getfield 52, 3) := by decide +kernel
theorem dX11_mine_66 : decode cX11_mine 66 = .ok (.iload 5, 2) := by decide +kernel
theorem dX11_mine_68 : decode cX11_mine 68 = .ok (.invokevirtual 239, 3) := by decide +kernel
theorem dX11_mine_71 : decode cX11_mine 71 = .ok (.ireturn, 1) := by decide +kernel
theorem dX11_budget_0 : decode cX11_budget 0 = .ok (.iload_n 1, 1) := by decide +kernel
theorem dX11_budget_1 : decode cX11_budget 1 = .ok (.invokestatic 276, 3) := by decide +kernel
theorem dX11_budget_4 : decode cX11_budget 4 = .ok (.ifCond .ne 5, 3) := by decide +kernel
theorem dX11_budget_7 : decode cX11_budget 7 = .ok (.iconst (-1), 1) := by decide +kernel
theorem dX11_budget_8 : decode cX11_budget 8 = .ok (.ireturn, 1) := by decide +kernel
theorem dX11_budget_9 : decode cX11_budget 9 = .ok (.iload_n 2, 1) := by decide +kernel
theorem dX11_budget_10 : decode cX11_budget 10 = .ok (.iconst 0, 1) := by decide +kernel
theorem dX11_budget_11 : decode cX11_budget 11 = .ok (.sipush 1000, 3) := by decide +kernel
theorem dX11_budget_14 : decode cX11_budget 14 = .ok (.invokestatic 165, 3) := by decide +kernel
theorem dX11_budget_17 : decode cX11_budget 17 = .ok (.ifCond .eq 15, 3) := by decide +kernel
theorem dX11_budget_20 : decode cX11_budget 20 = .ok (.aload_n 0, 1) := by decide +kernel
theorem dX11_budget_21 : decode cX11_budget 21 = .ok (.getfield 77, 3) := by decide +kernel
theorem dX11_budget_24 : decode cX11_budget 24 = .ok (.iload_n 1, 1) := by decide +kernel
theorem dX11_budget_25 : decode cX11_budget 25 = .ok (.iload_n 2, 1) := by decide +kernel
theorem dX11_budget_26 : decode cX11_budget 26 = .ok (.invokevirtual 298, 3) := by decide +kernel
theorem dX11_budget_29 : decode cX11_budget 29 = .ok (.goto 5, 3) := by decide +kernel
theorem dX11_budget_32 : decode cX11_budget 32 = .ok (.bipush (-2), 2) := by decide +kernel
theorem dX11_budget_34 : decode cX11_budget 34 = .ok (.ireturn, 1) := by decide +kernel
theorem dX11_seed_0 : decode cX11_seed 0 = .ok (.iload_n 1, 1) := by decide +kernel
theorem dX11_seed_1 : decode cX11_seed 1 = .ok (.iconst 1, 1) := by decide +kernel
theorem dX11_seed_2 : decode cX11_seed 2 = .ok (.ldc_w 301, 3) := by decide +kernel
theorem dX11_seed_5 : decode cX11_seed 5 = .ok (.invokestatic 165, 3) := by decide +kernel
theorem dX11_seed_8 : decode cX11_seed 8 = .ok (.ifCond .eq 14, 3) := by decide +kernel
theorem dX11_seed_11 : decode cX11_seed 11 = .ok (.aload_n 0, 1) := by decide +kernel
theorem dX11_seed_12 : decode cX11_seed 12 = .ok (.getfield 77, 3) := by decide +kernel
theorem dX11_seed_15 : decode cX11_seed 15 = .ok (.iload_n 1, 1) := by decide +kernel
theorem dX11_seed_16 : decode cX11_seed 16 = .ok (.invokevirtual 302, 3) := by decide +kernel
theorem dX11_seed_19 : decode cX11_seed 19 = .ok (.goto 5, 3) := by decide +kernel
theorem dX11_seed_22 : decode cX11_seed 22 = .ok (.bipush (-2), 2) := by decide +kernel
theorem dX11_seed_24 : decode cX11_seed 24 = .ok (.ireturn, 1) := by decide +kernel
theorem dX11_share_0 : decode cX11_share 0 = .ok (.aload_n 0, 1) := by decide +kernel
theorem dX11_share_1 : decode cX11_share 1 = .ok (.getfield 38, 3) := by decide +kernel
theorem dX11_share_4 : decode cX11_share 4 = .ok (.iload_n 1, 1) := by decide +kernel
theorem dX11_share_5 : decode cX11_share 5 = .ok (.invokevirtual 212, 3) := by decide +kernel
theorem dX11_share_8 : decode cX11_share 8 = .ok (.ifCond .ne 7, 3) := by decide +kernel
theorem dX11_share_11 : decode cX11_share 11 = .ok (.ldc_w 305, 3) := by decide +kernel
theorem dX11_share_14 : decode cX11_share 14 = .ok (.ireturn, 1) := by decide +kernel
theorem dX11_share_15 : decode cX11_share 15 = .ok (.iload_n 2, 1) := by decide +kernel
theorem dX11_share_16 : decode cX11_share 16 = .ok (.iconst 1, 1) := by decide +kernel
theorem dX11_share_17 : decode cX11_share 17 = .ok (.bipush 100, 2) := by decide +kernel
theorem dX11_share_19 : decode cX11_share 19 = .ok (.invokestatic 165, 3) := by decide +kernel
theorem dX11_share_22 : decode cX11_share 22 = .ok (.ifCond .eq 10, 3) := by decide +kernel
theorem dX11_share_25 : decode cX11_share 25 = .ok (.iload_n 3, 1) := by decide +kernel
theorem dX11_share_26 : decode cX11_share 26 = .ok (.invokestatic 279, 3) := by decide +kernel
theorem dX11_share_29 : decode cX11_share 29 = .ok (.ifCond .ne 7, 3) := by decide +kernel
theorem dX11_share_32 : decode cX11_share 32 = .ok (.ldc_w 306, 3) := by decide +kernel
theorem dX11_share_35 : decode cX11_share 35 = .ok (.ireturn, 1) := by decide +kernel
theorem dX11_share_36 : decode cX11_share 36 = .ok (.aload_n 0, 1) := by decide +kernel
theorem dX11_share_37 : decode cX11_share 37 = .ok (.getfield 77, 3) := by decide +kernel
theorem dX11_share_40 : decode cX11_share 40 = .ok (.iload_n 2, 1) := by decide +kernel
theorem dX11_share_41 : decode cX11_share 41 = .ok (.invokevirtual 307, 3) := by decide +kernel
theorem dX11_share_44 : decode cX11_share 44 = .ok (.iconst 2, 1) := by decide +kernel
theorem dX11_share_45 : decode cX11_share 45 = .ok (.if_icmp .ge 9, 3) := by decide +kernel
theorem dX11_share_48 : decode cX11_share 48 = .ok (.ldc_w 310, 3) := by decide +kernel
theorem dX11_share_51 : decode cX11_share 51 = .ok (.goto 13, 3) := by decide +kernel
theorem dX11_share_54 : decode cX11_share 54 = .ok (.aload_n 0, 1) := by decide +kernel
theorem dX11_share_55 : decode cX11_share 55 = .ok (.getfield 77, 3) := by decide +kernel
theorem dX11_share_58 : decode cX11_share 58 = .ok (.iload_n 1, 1) := by decide +kernel
theorem dX11_share_59 : decode cX11_share 59 = .ok (.iload_n 2, 1) := by decide +kernel
theorem dX11_share_60 : decode cX11_share 60 = .ok (.iload_n 3, 1) := by decide +kernel
theorem dX11_share_61 : decode cX11_share 61 = .ok (.invokevirtual 311, 3) := by decide +kernel
theorem dX11_share_64 : decode cX11_share 64 = .ok (.ireturn, 1) := by decide +kernel
theorem dX11_symbols_0 : decode cX11_symbols 0 = .ok (.iload_n 1, 1) := by decide +kernel
theorem dX11_symbols_1 : decode cX11_symbols 1 = .ok (.iconst 2, 1) := by decide +kernel
theorem dX11_symbols_2 : decode cX11_symbols 2 = .ok (.bipush 7, 2) := by decide +kernel
theorem dX11_symbols_4 : decode cX11_symbols 4 = .ok (.invokestatic 165, 3) := by decide +kernel
theorem dX11_symbols_7 : decode cX11_symbols 7 = .ok (.ifCond .eq 14, 3) := by decide +kernel
theorem dX11_symbols_10 : decode cX11_symbols 10 = .ok (.aload_n 0, 1) := by decide +kernel
theorem dX11_symbols_11 : decode cX11_symbols 11 = .ok (.getfield 84, 3) := by decide +kernel
theorem dX11_symbols_14 : decode cX11_symbols 14 = .ok (.iload_n 1, 1) := by decide +kernel
theorem dX11_symbols_15 : decode cX11_symbols 15 = .ok (.invokevirtual 314, 3) := by decide +kernel
theorem dX11_symbols_18 : decode cX11_symbols 18 = .ok (.goto 5, 3) := by decide +kernel
theorem dX11_symbols_21 : decode cX11_symbols 21 = .ok (.bipush (-2), 2) := by decide +kernel
theorem dX11_symbols_23 : decode cX11_symbols 23 = .ok (.ireturn, 1) := by decide +kernel
theorem dX11_set_0 : decode cX11_set 0 = .ok (.aload_n 0, 1) := by decide +kernel
theorem dX11_set_1 : decode cX11_set 1 = .ok (.getfield 84, 3) := by decide +kernel
theorem dX11_set_4 : decode cX11_set 4 = .ok (.iload_n 2, 1) := by decide +kernel
theorem dX11_set_5 : decode cX11_set 5 = .ok (.invokevirtual 317, 3) := by decide +kernel
theorem dX11_set_8 : decode cX11_set 8 = .ok (.ifCond .ne 5, 3) := by decide +kernel
theorem dX11_set_11 : decode cX11_set 11 = .ok (.iconst (-1), 1) := by decide +kernel
theorem dX11_set_12 : decode cX11_set 12 = .ok (.ireturn, 1) := by decide +kernel
theorem dX11_set_13 : decode cX11_set 13 = .ok (.iload_n 1, 1) := by decide +kernel
theorem dX11_set_14 : decode cX11_set 14 = .ok (.tableswitch 100 0 2 #[26, 51, 75], 26) := by decide +kernel
theorem dX11_set_40 : decode cX11_set 40 = .ok (.iload_n 3, 1) := by decide +kernel
theorem dX11_set_41 : decode cX11_set 41 = .ok (.iconst 0, 1) := by decide +kernel
theorem dX11_set_42 : decode cX11_set 42 = .ok (.bipush 20, 2) := by decide +kernel
theorem dX11_set_44 : decode cX11_set 44 = .ok (.invokestatic 165, 3) := by decide +kernel
theorem dX11_set_47 : decode cX11_set 47 = .ok (.ifCond .eq 15, 3) := by decide +kernel
theorem dX11_set_50 : decode cX11_set 50 = .ok (.aload_n 0, 1) := by decide +kernel
theorem dX11_set_51 : decode cX11_set 51 = .ok (.getfield 84, 3) := by decide +kernel
theorem dX11_set_54 : decode cX11_set 54 = .ok (.iload_n 2, 1) := by decide +kernel
theorem dX11_set_55 : decode cX11_set 55 = .ok (.iload_n 3, 1) := by decide +kernel
theorem dX11_set_56 : decode cX11_set 56 = .ok (.invokevirtual 318, 3) := by decide +kernel
theorem dX11_set_59 : decode cX11_set 59 = .ok (.goto 5, 3) := by decide +kernel
theorem dX11_set_62 : decode cX11_set 62 = .ok (.bipush (-2), 2) := by decide +kernel
theorem dX11_set_64 : decode cX11_set 64 = .ok (.ireturn, 1) := by decide +kernel
theorem dX11_set_65 : decode cX11_set 65 = .ok (.iload_n 3, 1) := by decide +kernel
theorem dX11_set_66 : decode cX11_set 66 = .ok (.iconst 0, 1) := by decide +kernel
theorem dX11_set_67 : decode cX11_set 67 = .ok (.iconst 4, 1) := by decide +kernel
theorem dX11_set_68 : decode cX11_set 68 = .ok (.invokestatic 165, 3) := by decide +kernel
theorem dX11_set_71 : decode cX11_set 71 = .ok (.ifCond .eq 15, 3) := by decide +kernel
theorem dX11_set_74 : decode cX11_set 74 = .ok (.aload_n 0, 1) := by decide +kernel
theorem dX11_set_75 : decode cX11_set 75 = .ok (.getfield 84, 3) := by decide +kernel
theorem dX11_set_78 : decode cX11_set 78 = .ok (.iload_n 2, 1) := by decide +kernel
theorem dX11_set_79 : decode cX11_set 79 = .ok (.iload_n 3, 1) := by decide +kernel
theorem dX11_set_80 : decode cX11_set 80 = .ok (.invokevirtual 321, 3) := by decide +kernel
theorem dX11_set_83 : decode cX11_set 83 = .ok (.goto 5, 3) := by decide +kernel
theorem dX11_set_86 : decode cX11_set 86 = .ok (.bipush (-2), 2) := by decide +kernel
theorem dX11_set_88 : decode cX11_set 88 = .ok (.ireturn, 1) := by decide +kernel
theorem dX11_set_89 : decode cX11_set 89 = .ok (.iload_n 3, 1) := by decide +kernel
theorem dX11_set_90 : decode cX11_set 90 = .ok (.iconst 0, 1) := by decide +kernel
theorem dX11_set_91 : decode cX11_set 91 = .ok (.bipush 99, 2) := by decide +kernel
theorem dX11_set_93 : decode cX11_set 93 = .ok (.invokestatic 165, 3) := by decide +kernel
theorem dX11_set_96 : decode cX11_set 96 = .ok (.ifCond .eq 15, 3) := by decide +kernel
theorem dX11_set_99 : decode cX11_set 99 = .ok (.aload_n 0, 1) := by decide +kernel
theorem dX11_set_100 : decode cX11_set 100 = .ok (.getfield 84, 3) := by decide +kernel
theorem dX11_set_103 : decode cX11_set 103 = .ok (.iload_n 2, 1) := by decide +kernel
theorem dX11_set_104 : decode cX11_set 104 = .ok (.iload_n 3, 1) := by decide +kernel
theorem dX11_set_105 : decode cX11_set 105 = .ok (.invokevirtual 324, 3) := by decide +kernel
theorem dX11_set_108 : decode cX11_set 108 = .ok (.goto 5, 3) := by decide +kernel
theorem dX11_set_111 : decode cX11_set 111 = .ok (.bipush (-2), 2) := by decide +kernel
theorem dX11_set_113 : decode cX11_set 113 = .ok (.ireturn, 1) := by decide +kernel
theorem dX11_set_114 : decode cX11_set 114 = .ok (.bipush (-2), 2) := by decide +kernel
theorem dX11_set_116 : decode cX11_set 116 = .ok (.ireturn, 1) := by decide +kernel
theorem dX11_pair_0 : decode cX11_pair 0 = .ok (.aload_n 0, 1) := by decide +kernel
theorem dX11_pair_1 : decode cX11_pair 1 = .ok (.getfield 84, 3) := by decide +kernel
theorem dX11_pair_4 : decode cX11_pair 4 = .ok (.iload_n 1, 1) := by decide +kernel
theorem dX11_pair_5 : decode cX11_pair 5 = .ok (.invokevirtual 317, 3) := by decide +kernel
theorem dX11_pair_8 : decode cX11_pair 8 = .ok (.ifCond .eq 14, 3) := by decide +kernel
theorem dX11_pair_11 : decode cX11_pair 11 = .ok (.aload_n 0, 1) := by decide +kernel
theorem dX11_pair_12 : decode cX11_pair 12 = .ok (.getfield 84, 3) := by decide +kernel
theorem dX11_pair_15 : decode cX11_pair 15 = .ok (.iload_n 2, 1) := by decide +kernel
theorem dX11_pair_16 : decode cX11_pair 16 = .ok (.invokevirtual 317, 3) := by decide +kernel
theorem dX11_pair_19 : decode cX11_pair 19 = .ok (.ifCond .ne 5, 3) := by decide +kernel
theorem dX11_pair_22 : decode cX11_pair 22 = .ok (.iconst (-1), 1) := by decide +kernel
theorem dX11_pair_23 : decode cX11_pair 23 = .ok (.ireturn, 1) := by decide +kernel
theorem dX11_pair_24 : decode cX11_pair 24 = .ok (.iload_n 3, 1) := by decide +kernel
theorem dX11_pair_25 : decode cX11_pair 25 = .ok (.iconst 0, 1) := by decide +kernel
theorem dX11_pair_26 : decode cX11_pair 26 = .ok (.bipush 50, 2) := by decide +kernel
theorem dX11_pair_28 : decode cX11_pair 28 = .ok (.invokestatic 165, 3) := by decide +kernel
theorem dX11_pair_31 : decode cX11_pair 31 = .ok (.ifCond .eq 16, 3) := by decide +kernel
theorem dX11_pair_34 : decode cX11_pair 34 = .ok (.aload_n 0, 1) := by decide +kernel
theorem dX11_pair_35 : decode cX11_pair 35 = .ok (.getfield 84, 3) := by decide +kernel
theorem dX11_pair_38 : decode cX11_pair 38 = .ok (.iload_n 1, 1) := by decide +kernel
theorem dX11_pair_39 : decode cX11_pair 39 = .ok (.iload_n 2, 1) := by decide +kernel
theorem dX11_pair_40 : decode cX11_pair 40 = .ok (.iload_n 3, 1) := by decide +kernel
theorem dX11_pair_41 : decode cX11_pair 41 = .ok (.invokevirtual 327, 3) := by decide +kernel
theorem dX11_pair_44 : decode cX11_pair 44 = .ok (.goto 5, 3) := by decide +kernel
theorem dX11_pair_47 : decode cX11_pair 47 = .ok (.bipush (-2), 2) := by decide +kernel
theorem dX11_pair_49 : decode cX11_pair 49 = .ok (.ireturn, 1) := by decide +kernel
theorem dX11_same_0 : decode cX11_same 0 = .ok (.iload_n 1, 1) := by decide +kernel
theorem dX11_same_1 : decode cX11_same 1 = .ok (.iconst 0, 1) := by decide +kernel
theorem dX11_same_2 : decode cX11_same 2 = .ok (.bipush 20, 2) := by decide +kernel
theorem dX11_same_4 : decode cX11_same 4 = .ok (.invokestatic 165, 3) := by decide +kernel
theorem dX11_same_7 : decode cX11_same 7 = .ok (.ifCond .eq 14, 3) := by decide +kernel
theorem dX11_same_10 : decode cX11_same 10 = .ok (.aload_n 0, 1) := by decide +kernel
theorem dX11_same_11 : decode cX11_same 11 = .ok (.getfield 84, 3) := by decide +kernel
theorem dX11_same_14 : decode cX11_same 14 = .ok (.iload_n 1, 1) := by decide +kernel
theorem dX11_same_15 : decode cX11_same 15 = .ok (.invokevirtual 330, 3) := by decide +kernel
theorem dX11_same_18 : decode cX11_same 18 = .ok (.goto 5, 3) := by decide +kernel
theorem dX11_same_21 : decode cX11_same 21 = .ok (.bipush (-2), 2) := by decide +kernel
theorem dX11_same_23 : decode cX11_same 23 = .ok (.ireturn, 1) := by decide +kernel
theorem dX11_cost_0 : decode cX11_cost 0 = .ok (.aload_n 0, 1) := by decide +kernel
theorem dX11_cost_1 : decode cX11_cost 1 = .ok (.getfield 84, 3) := by decide +kernel
theorem dX11_cost_4 : decode cX11_cost 4 = .ok (.iload_n 1, 1) := by decide +kernel
theorem dX11_cost_5 : decode cX11_cost 5 = .ok (.invokevirtual 333, 3) := by decide +kernel
theorem dX11_cost_8 : decode cX11_cost 8 = .ok (.ifCond .eq 13, 3) := by decide +kernel
theorem dX11_cost_11 : decode cX11_cost 11 = .ok (.aload_n 0, 1) := by decide +kernel
theorem dX11_cost_12 : decode cX11_cost 12 = .ok (.getfield 84, 3) := by decide +kernel
theorem dX11_cost_15 : decode cX11_cost 15 = .ok (.invokevirtual 336, 3) := by decide +kernel
theorem dX11_cost_18 : decode cX11_cost 18 = .ok (.goto 5, 3) := by decide +kernel
theorem dX11_cost_21 : decode cX11_cost 21 = .ok (.bipush (-2), 2) := by decide +kernel
theorem dX11_cost_23 : decode cX11_cost 23 = .ok (.ireturn, 1) := by decide +kernel
theorem dX11_best_0 : decode cX11_best 0 = .ok (.aload_n 0, 1) := by decide +kernel
theorem dX11_best_1 : decode cX11_best 1 = .ok (.getfield 84, 3) := by decide +kernel
theorem dX11_best_4 : decode cX11_best 4 = .ok (.invokevirtual 339, 3) := by decide +kernel
theorem dX11_best_7 : decode cX11_best 7 = .ok (.ireturn, 1) := by decide +kernel
theorem dX11_bound_0 : decode cX11_bound 0 = .ok (.aload_n 0, 1) := by decide +kernel
theorem dX11_bound_1 : decode cX11_bound 1 = .ok (.getfield 84, 3) := by decide +kernel
theorem dX11_bound_4 : decode cX11_bound 4 = .ok (.invokevirtual 342, 3) := by decide +kernel
theorem dX11_bound_7 : decode cX11_bound 7 = .ok (.ireturn, 1) := by decide +kernel
theorem dX11_better_0 : decode cX11_better 0 = .ok (.iload_n 2, 1) := by decide +kernel
theorem dX11_better_1 : decode cX11_better 1 = .ok (.iconst 0, 1) := by decide +kernel
theorem dX11_better_2 : decode cX11_better 2 = .ok (.iconst 1, 1) := by decide +kernel
theorem dX11_better_3 : decode cX11_better 3 = .ok (.invokestatic 165, 3) := by decide +kernel
theorem dX11_better_6 : decode cX11_better 6 = .ok (.ifCond .eq 14, 3) := by decide +kernel
theorem dX11_better_9 : decode cX11_better 9 = .ok (.aload_n 0, 1) := by decide +kernel
theorem dX11_better_10 : decode cX11_better 10 = .ok (.getfield 84, 3) := by decide +kernel
theorem dX11_better_13 : decode cX11_better 13 = .ok (.iload_n 1, 1) := by decide +kernel
theorem dX11_better_14 : decode cX11_better 14 = .ok (.invokevirtual 333, 3) := by decide +kernel
theorem dX11_better_17 : decode cX11_better 17 = .ok (.ifCond .ne 6, 3) := by decide +kernel
theorem dX11_better_20 : decode cX11_better 20 = .ok (.bipush (-2), 2) := by decide +kernel
theorem dX11_better_22 : decode cX11_better 22 = .ok (.ireturn, 1) := by decide +kernel
theorem dX11_better_23 : decode cX11_better 23 = .ok (.aload_n 0, 1) := by decide +kernel
theorem dX11_better_24 : decode cX11_better 24 = .ok (.getfield 84, 3) := by decide +kernel
theorem dX11_better_27 : decode cX11_better 27 = .ok (.invokevirtual 345, 3) := by decide +kernel
theorem dX11_better_30 : decode cX11_better 30 = .ok (.istore_n 3, 1) := by decide +kernel
theorem dX11_better_31 : decode cX11_better 31 = .ok (.iload_n 2, 1) := by decide +kernel
theorem dX11_better_32 : decode cX11_better 32 = .ok (.ifCond .ne 13, 3) := by decide +kernel
theorem dX11_better_35 : decode cX11_better 35 = .ok (.aload_n 0, 1) := by decide +kernel
theorem dX11_better_36 : decode cX11_better 36 = .ok (.getfield 84, 3) := by decide +kernel
theorem dX11_better_39 : decode cX11_better 39 = .ok (.invokevirtual 348, 3) := by decide +kernel
theorem dX11_better_42 : decode cX11_better 42 = .ok (.goto 4, 3) := by decide +kernel
theorem dX11_better_45 : decode cX11_better 45 = .ok (.iload_n 3, 1) := by decide +kernel
theorem dX11_better_46 : decode cX11_better 46 = .ok (.ireturn, 1) := by decide +kernel
theorem dX11_way_0 : decode cX11_way 0 = .ok (.aload_n 0, 1) := by decide +kernel
theorem dX11_way_1 : decode cX11_way 1 = .ok (.getfield 84, 3) := by decide +kernel
theorem dX11_way_4 : decode cX11_way 4 = .ok (.iload_n 1, 1) := by decide +kernel
theorem dX11_way_5 : decode cX11_way 5 = .ok (.invokevirtual 333, 3) := by decide +kernel
theorem dX11_way_8 : decode cX11_way 8 = .ok (.ifCond .eq 14, 3) := by decide +kernel
theorem dX11_way_11 : decode cX11_way 11 = .ok (.aload_n 0, 1) := by decide +kernel
theorem dX11_way_12 : decode cX11_way 12 = .ok (.getfield 84, 3) := by decide +kernel
theorem dX11_way_15 : decode cX11_way 15 = .ok (.iload_n 2, 1) := by decide +kernel
theorem dX11_way_16 : decode cX11_way 16 = .ok (.invokevirtual 333, 3) := by decide +kernel
theorem dX11_way_19 : decode cX11_way 19 = .ok (.ifCond .ne 6, 3) := by decide +kernel
theorem dX11_way_22 : decode cX11_way 22 = .ok (.bipush (-2), 2) := by decide +kernel
theorem dX11_way_24 : decode cX11_way 24 = .ok (.ireturn, 1) := by decide +kernel
theorem dX11_way_25 : decode cX11_way 25 = .ok (.aload_n 0, 1) := by decide +kernel
theorem dX11_way_26 : decode cX11_way 26 = .ok (.getfield 84, 3) := by decide +kernel
theorem dX11_way_29 : decode cX11_way 29 = .ok (.invokevirtual 351, 3) := by decide +kernel
theorem dX11_way_32 : decode cX11_way 32 = .ok (.iconst 5, 1) := by decide +kernel
theorem dX11_way_33 : decode cX11_way 33 = .ok (.if_icmp .le 6, 3) := by decide +kernel
theorem dX11_way_36 : decode cX11_way 36 = .ok (.bipush (-3), 2) := by decide +kernel
theorem dX11_way_38 : decode cX11_way 38 = .ok (.ireturn, 1) := by decide +kernel
theorem dX11_way_39 : decode cX11_way 39 = .ok (.aload_n 0, 1) := by decide +kernel
theorem dX11_way_40 : decode cX11_way 40 = .ok (.getfield 93, 3) := by decide +kernel
theorem dX11_way_43 : decode cX11_way 43 = .ok (.iload_n 1, 1) := by decide +kernel
theorem dX11_way_44 : decode cX11_way 44 = .ok (.iload_n 2, 1) := by decide +kernel
theorem dX11_way_45 : decode cX11_way 45 = .ok (.invokevirtual 352, 3) := by decide +kernel
theorem dX11_way_48 : decode cX11_way 48 = .ok (.iload_n 3, 1) := by decide +kernel
theorem dX11_way_49 : decode cX11_way 49 = .ok (.lookupswitch 48 #[(-2, 35), (-1, 27)], 27) := by decide +kernel
theorem dX11_way_76 : decode cX11_way 76 = .ok (.aload_n 0, 1) := by decide +kernel
theorem dX11_way_77 : decode cX11_way 77 = .ok (.getfield 93, 3) := by decide +kernel
theorem dX11_way_80 : decode cX11_way 80 = .ok (.invokevirtual 355, 3) := by decide +kernel
theorem dX11_way_83 : decode cX11_way 83 = .ok (.ireturn, 1) := by decide +kernel
theorem dX11_way_84 : decode cX11_way 84 = .ok (.aload_n 0, 1) := by decide +kernel
theorem dX11_way_85 : decode cX11_way 85 = .ok (.getfield 93, 3) := by decide +kernel
theorem dX11_way_88 : decode cX11_way 88 = .ok (.invokevirtual 358, 3) := by decide +kernel
theorem dX11_way_91 : decode cX11_way 91 = .ok (.invokevirtual 108, 3) := by decide +kernel
theorem dX11_way_94 : decode cX11_way 94 = .ok (.iconst 1, 1) := by decide +kernel
theorem dX11_way_95 : decode cX11_way 95 = .ok (.isub, 1) := by decide +kernel
theorem dX11_way_96 : decode cX11_way 96 = .ok (.ireturn, 1) := by decide +kernel
theorem dX11_way_97 : decode cX11_way 97 = .ok (.aload_n 0, 1) := by decide +kernel
theorem dX11_way_98 : decode cX11_way 98 = .ok (.getfield 93, 3) := by decide +kernel
theorem dX11_way_101 : decode cX11_way 101 = .ok (.invokevirtual 358, 3) := by decide +kernel
theorem dX11_way_104 : decode cX11_way 104 = .ok (.iload_n 3, 1) := by decide +kernel
theorem dX11_way_105 : decode cX11_way 105 = .ok (.invokevirtual 173, 3) := by decide +kernel
theorem dX11_way_108 : decode cX11_way 108 = .ok (.ifCond .eq 17, 3) := by decide +kernel
theorem dX11_way_111 : decode cX11_way 111 = .ok (.aload_n 0, 1) := by decide +kernel
theorem dX11_way_112 : decode cX11_way 112 = .ok (.getfield 93, 3) := by decide +kernel
theorem dX11_way_115 : decode cX11_way 115 = .ok (.invokevirtual 358, 3) := by decide +kernel
theorem dX11_way_118 : decode cX11_way 118 = .ok (.iload_n 3, 1) := by decide +kernel
theorem dX11_way_119 : decode cX11_way 119 = .ok (.invokevirtual 194, 3) := by decide +kernel
theorem dX11_way_122 : decode cX11_way 122 = .ok (.goto 5, 3) := by decide +kernel
theorem dX11_way_125 : decode cX11_way 125 = .ok (.bipush (-6), 2) := by decide +kernel
theorem dX11_way_127 : decode cX11_way 127 = .ok (.ireturn, 1) := by decide +kernel
theorem dX11_told_0 : decode cX11_told 0 = .ok (.iload_n 1, 1) := by decide +kernel
theorem dX11_told_1 : decode cX11_told 1 = .ok (.tableswitch 126 0 8 #[51, 59, 67, 75, 83, 94, 102, 110, 118], 51) := by decide +kernel
theorem dX11_told_52 : decode cX11_told 52 = .ok (.aload_n 0, 1) := by decide +kernel
theorem dX11_told_53 : decode cX11_told 53 = .ok (.getfield 14, 3) := by decide +kernel
theorem dX11_told_56 : decode cX11_told 56 = .ok (.invokevirtual 108, 3) := by decide +kernel
theorem dX11_told_59 : decode cX11_told 59 = .ok (.ireturn, 1) := by decide +kernel
theorem dX11_told_60 : decode cX11_told 60 = .ok (.aload_n 0, 1) := by decide +kernel
theorem dX11_told_61 : decode cX11_told 61 = .ok (.getfield 18, 3) := by decide +kernel
theorem dX11_told_64 : decode cX11_told 64 = .ok (.invokevirtual 108, 3) := by decide +kernel
theorem dX11_told_67 : decode cX11_told 67 = .ok (.ireturn, 1) := by decide +kernel
theorem dX11_told_68 : decode cX11_told 68 = .ok (.aload_n 0, 1) := by decide +kernel
theorem dX11_told_69 : decode cX11_told 69 = .ok (.getfield 70, 3) := by decide +kernel
theorem dX11_told_72 : decode cX11_told 72 = .ok (.invokevirtual 361, 3) := by decide +kernel
theorem dX11_told_75 : decode cX11_told 75 = .ok (.ireturn, 1) := by decide +kernel
theorem dX11_told_76 : decode cX11_told 76 = .ok (.aload_n 0, 1) := by decide +kernel
theorem dX11_told_77 : decode cX11_told 77 = .ok (.getfield 31, 3) := by decide +kernel
theorem dX11_told_80 : decode cX11_told 80 = .ok (.invokevirtual 364, 3) := by decide +kernel
theorem dX11_told_83 : decode cX11_told 83 = .ok (.ireturn, 1) := by decide +kernel
theorem dX11_told_84 : decode cX11_told 84 = .ok (.aload_n 0, 1) := by decide +kernel
theorem dX11_told_85 : decode cX11_told 85 = .ok (.getfield 31, 3) := by decide +kernel
theorem dX11_told_88 : decode cX11_told 88 = .ok (.invokevirtual 161, 3) := by decide +kernel
theorem dX11_told_91 : decode cX11_told 91 = .ok (.invokevirtual 108, 3) := by decide +kernel
theorem dX11_told_94 : decode cX11_told 94 = .ok (.ireturn, 1) := by decide +kernel
theorem dX11_told_95 : decode cX11_told 95 = .ok (.aload_n 0, 1) := by decide +kernel
theorem dX11_told_96 : decode cX11_told 96 = .ok (.getfield 38, 3) := by decide +kernel
theorem dX11_told_99 : decode cX11_told 99 = .ok (.invokevirtual 367, 3) := by decide +kernel
theorem dX11_told_102 : decode cX11_told 102 = .ok (.ireturn, 1) := by decide +kernel
theorem dX11_told_103 : decode cX11_told 103 = .ok (.aload_n 0, 1) := by decide +kernel
theorem dX11_told_104 : decode cX11_told 104 = .ok (.getfield 70, 3) := by decide +kernel
theorem dX11_told_107 : decode cX11_told 107 = .ok (.invokevirtual 256, 3) := by decide +kernel
theorem dX11_told_110 : decode cX11_told 110 = .ok (.ireturn, 1) := by decide +kernel
theorem dX11_told_111 : decode cX11_told 111 = .ok (.aload_n 0, 1) := by decide +kernel
theorem dX11_told_112 : decode cX11_told 112 = .ok (.getfield 77, 3) := by decide +kernel
theorem dX11_told_115 : decode cX11_told 115 = .ok (.invokevirtual 368, 3) := by decide +kernel
theorem dX11_told_118 : decode cX11_told 118 = .ok (.ireturn, 1) := by decide +kernel
theorem dX11_told_119 : decode cX11_told 119 = .ok (.aload_n 0, 1) := by decide +kernel
theorem dX11_told_120 : decode cX11_told 120 = .ok (.getfield 84, 3) := by decide +kernel
theorem dX11_told_123 : decode cX11_told 123 = .ok (.invokevirtual 351, 3) := by decide +kernel
theorem dX11_told_126 : decode cX11_told 126 = .ok (.ireturn, 1) := by decide +kernel
theorem dX11_told_127 : decode cX11_told 127 = .ok (.aload_n 0, 1) := by decide +kernel
theorem dX11_told_128 : decode cX11_told 128 = .ok (.iload_n 1, 1) := by decide +kernel
theorem dX11_told_129 : decode cX11_told 129 = .ok (.invokevirtual 371, 3) := by decide +kernel
theorem dX11_told_132 : decode cX11_told 132 = .ok (.ireturn, 1) := by decide +kernel
theorem dX11_toldOfOne_0 : decode cX11_toldOfOne 0 = .ok (.iload_n 1, 1) := by decide +kernel
theorem dX11_toldOfOne_1 : decode cX11_toldOfOne 1 = .ok (.bipush 10, 2) := by decide +kernel
theorem dX11_toldOfOne_3 : decode cX11_toldOfOne 3 = .ok (.isub, 1) := by decide +kernel
theorem dX11_toldOfOne_4 : decode cX11_toldOfOne 4 = .ok (.invokestatic 121, 3) := by decide +kernel
theorem dX11_toldOfOne_7 : decode cX11_toldOfOne 7 = .ok (.ifCond .eq 16, 3) := by decide +kernel
theorem dX11_toldOfOne_10 : decode cX11_toldOfOne 10 = .ok (.aload_n 0, 1) := by decide +kernel
theorem dX11_toldOfOne_11 : decode cX11_toldOfOne 11 = .ok (.getfield 23, 3) := by decide +kernel
theorem dX11_toldOfOne_14 : decode cX11_toldOfOne 14 = .ok (.iload_n 1, 1) := by decide +kernel
theorem dX11_toldOfOne_15 : decode cX11_toldOfOne 15 = .ok (.bipush 10, 2) := by decide +kernel
theorem dX11_toldOfOne_17 : decode cX11_toldOfOne 17 = .ok (.isub, 1) := by decide +kernel
theorem dX11_toldOfOne_18 : decode cX11_toldOfOne 18 = .ok (.aaload, 1) := by decide +kernel
theorem dX11_toldOfOne_19 : decode cX11_toldOfOne 19 = .ok (.invokevirtual 374, 3) := by decide +kernel
theorem dX11_toldOfOne_22 : decode cX11_toldOfOne 22 = .ok (.ireturn, 1) := by decide +kernel
theorem dX11_toldOfOne_23 : decode cX11_toldOfOne 23 = .ok (.iload_n 1, 1) := by decide +kernel
theorem dX11_toldOfOne_24 : decode cX11_toldOfOne 24 = .ok (.bipush 20, 2) := by decide +kernel
theorem dX11_toldOfOne_26 : decode cX11_toldOfOne 26 = .ok (.isub, 1) := by decide +kernel
theorem dX11_toldOfOne_27 : decode cX11_toldOfOne 27 = .ok (.invokestatic 121, 3) := by decide +kernel
theorem dX11_toldOfOne_30 : decode cX11_toldOfOne 30 = .ok (.ifCond .eq 16, 3) := by decide +kernel
theorem dX11_toldOfOne_33 : decode cX11_toldOfOne 33 = .ok (.aload_n 0, 1) := by decide +kernel
theorem dX11_toldOfOne_34 : decode cX11_toldOfOne 34 = .ok (.getfield 23, 3) := by decide +kernel
theorem dX11_toldOfOne_37 : decode cX11_toldOfOne 37 = .ok (.iload_n 1, 1) := by decide +kernel
theorem dX11_toldOfOne_38 : decode cX11_toldOfOne 38 = .ok (.bipush 20, 2) := by decide +kernel
theorem dX11_toldOfOne_40 : decode cX11_toldOfOne 40 = .ok (.isub, 1) := by decide +kernel
theorem dX11_toldOfOne_41 : decode cX11_toldOfOne 41 = .ok (.aaload, 1) := by decide +kernel
theorem dX11_toldOfOne_42 : decode cX11_toldOfOne 42 = .ok (.invokevirtual 377, 3) := by decide +kernel
theorem dX11_toldOfOne_45 : decode cX11_toldOfOne 45 = .ok (.ireturn, 1) := by decide +kernel
theorem dX11_toldOfOne_46 : decode cX11_toldOfOne 46 = .ok (.iload_n 1, 1) := by decide +kernel
theorem dX11_toldOfOne_47 : decode cX11_toldOfOne 47 = .ok (.bipush 30, 2) := by decide +kernel
theorem dX11_toldOfOne_49 : decode cX11_toldOfOne 49 = .ok (.isub, 1) := by decide +kernel
theorem dX11_toldOfOne_50 : decode cX11_toldOfOne 50 = .ok (.invokestatic 276, 3) := by decide +kernel
theorem dX11_toldOfOne_53 : decode cX11_toldOfOne 53 = .ok (.ifCond .eq 17, 3) := by decide +kernel
theorem dX11_toldOfOne_56 : decode cX11_toldOfOne 56 = .ok (.aload_n 0, 1) := by decide +kernel
theorem dX11_toldOfOne_57 : decode cX11_toldOfOne 57 = .ok (.getfield 77, 3) := by decide +kernel
theorem dX11_toldOfOne_60 : decode cX11_toldOfOne 60 = .ok (.iload_n 1, 1) := by decide +kernel
theorem dX11_toldOfOne_61 : decode cX11_toldOfOne 61 = .ok (.bipush 30, 2) := by decide +kernel
theorem dX11_toldOfOne_63 : decode cX11_toldOfOne 63 = .ok (.isub, 1) := by decide +kernel
theorem dX11_toldOfOne_64 : decode cX11_toldOfOne 64 = .ok (.invokevirtual 380, 3) := by decide +kernel
theorem dX11_toldOfOne_67 : decode cX11_toldOfOne 67 = .ok (.goto 5, 3) := by decide +kernel
theorem dX11_toldOfOne_70 : decode cX11_toldOfOne 70 = .ok (.bipush (-2), 2) := by decide +kernel
theorem dX11_toldOfOne_72 : decode cX11_toldOfOne 72 = .ok (.ireturn, 1) := by decide +kernel
theorem dX11_within_0 : decode cX11_within 0 = .ok (.iload_n 0, 1) := by decide +kernel
theorem dX11_within_1 : decode cX11_within 1 = .ok (.iload_n 1, 1) := by decide +kernel
theorem dX11_within_2 : decode cX11_within 2 = .ok (.if_icmp .lt 12, 3) := by decide +kernel
theorem dX11_within_5 : decode cX11_within 5 = .ok (.iload_n 0, 1) := by decide +kernel
theorem dX11_within_6 : decode cX11_within 6 = .ok (.iload_n 2, 1) := by decide +kernel
theorem dX11_within_7 : decode cX11_within 7 = .ok (.if_icmp .gt 7, 3) := by decide +kernel
theorem dX11_within_10 : decode cX11_within 10 = .ok (.iconst 1, 1) := by decide +kernel
theorem dX11_within_11 : decode cX11_within 11 = .ok (.goto 4, 3) := by decide +kernel
theorem dX11_within_14 : decode cX11_within 14 = .ok (.iconst 0, 1) := by decide +kernel
theorem dX11_within_15 : decode cX11_within 15 = .ok (.ireturn, 1) := by decide +kernel
theorem dX11_isKey_0 : decode cX11_isKey 0 = .ok (.iload_n 0, 1) := by decide +kernel
theorem dX11_isKey_1 : decode cX11_isKey 1 = .ok (.iconst 0, 1) := by decide +kernel
theorem dX11_isKey_2 : decode cX11_isKey 2 = .ok (.bipush 11, 2) := by decide +kernel
theorem dX11_isKey_4 : decode cX11_isKey 4 = .ok (.invokestatic 165, 3) := by decide +kernel
theorem dX11_isKey_7 : decode cX11_isKey 7 = .ok (.ireturn, 1) := by decide +kernel
theorem dX11_isLetter_0 : decode cX11_isLetter 0 = .ok (.iload_n 0, 1) := by decide +kernel
theorem dX11_isLetter_1 : decode cX11_isLetter 1 = .ok (.iconst 1, 1) := by decide +kernel
theorem dX11_isLetter_2 : decode cX11_isLetter 2 = .ok (.bipush 60, 2) := by decide +kernel
theorem dX11_isLetter_4 : decode cX11_isLetter 4 = .ok (.invokestatic 165, 3) := by decide +kernel
theorem dX11_isLetter_7 : decode cX11_isLetter 7 = .ok (.ireturn, 1) := by decide +kernel
theorem dX11_isTongue_0 : decode cX11_isTongue 0 = .ok (.iload_n 0, 1) := by decide +kernel
theorem dX11_isTongue_1 : decode cX11_isTongue 1 = .ok (.iconst 0, 1) := by decide +kernel
theorem dX11_isTongue_2 : decode cX11_isTongue 2 = .ok (.iconst 2, 1) := by decide +kernel
theorem dX11_isTongue_3 : decode cX11_isTongue 3 = .ok (.invokestatic 165, 3) := by decide +kernel
theorem dX11_isTongue_6 : decode cX11_isTongue 6 = .ok (.ireturn, 1) := by decide +kernel
theorem dX11_isHand_0 : decode cX11_isHand 0 = .ok (.iload_n 0, 1) := by decide +kernel
theorem dX11_isHand_1 : decode cX11_isHand 1 = .ok (.iconst 0, 1) := by decide +kernel
theorem dX11_isHand_2 : decode cX11_isHand 2 = .ok (.iconst 3, 1) := by decide +kernel
theorem dX11_isHand_3 : decode cX11_isHand 3 = .ok (.invokestatic 165, 3) := by decide +kernel
theorem dX11_isHand_6 : decode cX11_isHand 6 = .ok (.ireturn, 1) := by decide +kernel
theorem dX11_isDay_0 : decode cX11_isDay 0 = .ok (.iload_n 0, 1) := by decide +kernel
theorem dX11_isDay_1 : decode cX11_isDay 1 = .ok (.iconst 0, 1) := by decide +kernel
theorem dX11_isDay_2 : decode cX11_isDay 2 = .ok (.sipush 3000, 3) := by decide +kernel
theorem dX11_isDay_5 : decode cX11_isDay 5 = .ok (.invokestatic 165, 3) := by decide +kernel
theorem dX11_isDay_8 : decode cX11_isDay 8 = .ok (.ireturn, 1) := by decide +kernel
theorem dX11_hasBit_0 : decode cX11_hasBit 0 = .ok (.iload_n 0, 1) := by decide +kernel
theorem dX11_hasBit_1 : decode cX11_hasBit 1 = .ok (.iload_n 1, 1) := by decide +kernel
theorem dX11_hasBit_2 : decode cX11_hasBit 2 = .ok (.ishr, 1) := by decide +kernel
theorem dX11_hasBit_3 : decode cX11_hasBit 3 = .ok (.iconst 1, 1) := by decide +kernel
theorem dX11_hasBit_4 : decode cX11_hasBit 4 = .ok (.iand, 1) := by decide +kernel
theorem dX11_hasBit_5 : decode cX11_hasBit 5 = .ok (.iconst 1, 1) := by decide +kernel
theorem dX11_hasBit_6 : decode cX11_hasBit 6 = .ok (.if_icmp .ne 7, 3) := by decide +kernel
theorem dX11_hasBit_9 : decode cX11_hasBit 9 = .ok (.iconst 1, 1) := by decide +kernel
theorem dX11_hasBit_10 : decode cX11_hasBit 10 = .ok (.goto 4, 3) := by decide +kernel
theorem dX11_hasBit_13 : decode cX11_hasBit 13 = .ok (.iconst 0, 1) := by decide +kernel
theorem dX11_hasBit_14 : decode cX11_hasBit 14 = .ok (.ireturn, 1) := by decide +kernel
theorem dX11_tongueOfLine_0 : decode cX11_tongueOfLine 0 = .ok (.aload_n 0, 1) := by decide +kernel
theorem dX11_tongueOfLine_1 : decode cX11_tongueOfLine 1 = .ok (.getfield 23, 3) := by decide +kernel
theorem dX11_tongueOfLine_4 : decode cX11_tongueOfLine 4 = .ok (.aload_n 0, 1) := by decide +kernel
theorem dX11_tongueOfLine_5 : decode cX11_tongueOfLine 5 = .ok (.getfield 31, 3) := by decide +kernel
theorem dX11_tongueOfLine_8 : decode cX11_tongueOfLine 8 = .ok (.invokevirtual 364, 3) := by decide +kernel
theorem dX11_tongueOfLine_11 : decode cX11_tongueOfLine 11 = .ok (.aaload, 1) := by decide +kernel
theorem dX11_tongueOfLine_12 : decode cX11_tongueOfLine 12 = .ok (.areturn, 1) := by decide +kernel
theorem dX11_gather_0 : decode cX11_gather 0 = .ok (.aload_n 0, 1) := by decide +kernel
theorem dX11_gather_1 : decode cX11_gather 1 = .ok (.getfield 52, 3) := by decide +kernel
theorem dX11_gather_4 : decode cX11_gather 4 = .ok (.invokevirtual 383, 3) := by decide +kernel
theorem dX11_gather_7 : decode cX11_gather 7 = .ok (.iconst 0, 1) := by decide +kernel
theorem dX11_gather_8 : decode cX11_gather 8 = .ok (.istore 5, 2) := by decide +kernel
theorem dX11_gather_10 : decode cX11_gather 10 = .ok (.iload 5, 2) := by decide +kernel
theorem dX11_gather_12 : decode cX11_gather 12 = .ok (.aload_n 0, 1) := by decide +kernel
theorem dX11_gather_13 : decode cX11_gather 13 = .ok (.getfield 38, 3) := by decide +kernel
theorem dX11_gather_16 : decode cX11_gather 16 = .ok (.invokevirtual 367, 3) := by decide +kernel
theorem dX11_gather_19 : decode cX11_gather 19 = .ok (.if_icmp .ge 90, 3) := by decide +kernel
theorem dX11_gather_22 : decode cX11_gather 22 = .ok (.iload_n 1, 1) := by decide +kernel
theorem dX11_gather_23 : decode cX11_gather 23 = .ok (.aload_n 0, 1) := by decide +kernel
theorem dX11_gather_24 : decode cX11_gather 24 = .ok (.getfield 38, 3) := by decide +kernel
theorem dX11_gather_27 : decode cX11_gather 27 = .ok (.iload 5, 2) := by decide +kernel
theorem dX11_gather_29 : decode cX11_gather 29 = .ok (.invokevirtual 213, 3) := by decide +kernel
theorem dX11_gather_32 : decode cX11_gather 32 = .ok (.invokestatic 385, 3) := by decide +kernel
theorem dX11_gather_35 : decode cX11_gather 35 = .ok (.ifCond .eq 68, 3) := by decide +kernel
theorem dX11_gather_38 : decode cX11_gather 38 = .ok (.aload_n 0, 1) := by decide +kernel
theorem dX11_gather_39 : decode cX11_gather 39 = .ok (.getfield 45, 3) := by decide +kernel
theorem dX11_gather_42 : decode cX11_gather 42 = .ok (.aload_n 0, 1) := by decide +kernel
theorem dX11_gather_43 : decode cX11_gather 43 = .ok (.getfield 14, 3) := by decide +kernel
theorem dX11_gather_46 : decode cX11_gather 46 = .ok (.aload_n 0, 1) := by decide +kernel
theorem dX11_gather_47 : decode cX11_gather 47 = .ok (.getfield 38, 3) := by decide +kernel
theorem dX11_gather_50 : decode cX11_gather 50 = .ok (.iload 5, 2) := by decide +kernel
theorem dX11_gather_52 : decode cX11_gather 52 = .ok (.invokevirtual 222, 3) := by decide +kernel
theorem dX11_gather_55 : decode cX11_gather 55 = .ok (.invokevirtual 232, 3) := by decide +kernel
theorem dX11_gather_58 : decode cX11_gather 58 = .ok (.istore 6, 2) := by decide +kernel
theorem dX11_gather_60 : decode cX11_gather 60 = .ok (.iload 6, 2) := by decide +kernel
theorem dX11_gather_62 : decode cX11_gather 62 = .ok (.iload_n 2, 1) := by decide +kernel
theorem dX11_gather_63 : decode cX11_gather 63 = .ok (.if_icmp .gt 40, 3) := by decide +kernel
theorem dX11_gather_66 : decode cX11_gather 66 = .ok (.aload_n 0, 1) := by decide +kernel
theorem dX11_gather_67 : decode cX11_gather 67 = .ok (.getfield 52, 3) := by decide +kernel
theorem dX11_gather_70 : decode cX11_gather 70 = .ok (.iload 5, 2) := by decide +kernel
theorem dX11_gather_72 : decode cX11_gather 72 = .ok (.iload 6, 2) := by decide +kernel
theorem dX11_gather_74 : decode cX11_gather 74 = .ok (.sipush 1000, 3) := by decide +kernel
theorem dX11_gather_77 : decode cX11_gather 77 = .ok (.aload_n 0, 1) := by decide +kernel
theorem dX11_gather_78 : decode cX11_gather 78 = .ok (.getfield 38, 3) := by decide +kernel
theorem dX11_gather_81 : decode cX11_gather 81 = .ok (.iload 5, 2) := by decide +kernel
theorem dX11_gather_83 : decode cX11_gather 83 = .ok (.invokevirtual 219, 3) := by decide +kernel
theorem dX11_gather_86 : decode cX11_gather 86 = .ok (.imul, 1) := by decide +kernel
theorem dX11_gather_87 : decode cX11_gather 87 = .ok (.aload_n 0, 1) := by decide +kernel
theorem dX11_gather_88 : decode cX11_gather 88 = .ok (.getfield 77, 3) := by decide +kernel
theorem dX11_gather_91 : decode cX11_gather 91 = .ok (.iload_n 3, 1) := by decide +kernel
theorem dX11_gather_92 : decode cX11_gather 92 = .ok (.iload 5, 2) := by decide +kernel
theorem dX11_gather_94 : decode cX11_gather 94 = .ok (.iload 4, 2) := by decide +kernel
theorem dX11_gather_96 : decode cX11_gather 96 = .ok (.invokevirtual 289, 3) := by decide +kernel
theorem dX11_gather_99 : decode cX11_gather 99 = .ok (.iadd, 1) := by decide +kernel
theorem dX11_gather_100 : decode cX11_gather 100 = .ok (.invokevirtual 389, 3) := by decide +kernel
theorem dX11_gather_103 : decode cX11_gather 103 = .ok (.iinc 5 1, 3) := by decide +kernel
theorem dX11_gather_106 : decode cX11_gather 106 = .ok (.goto (-96), 3) := by decide +kernel
theorem dX11_gather_109 : decode cX11_gather 109 = .ok (.return_, 1) := by decide +kernel
theorem dX11_partPad_0 : decode cX11_partPad 0 = .ok (.iload_n 1, 1) := by decide +kernel
theorem dX11_partPad_1 : decode cX11_partPad 1 = .ok (.iconst 1, 1) := by decide +kernel
theorem dX11_partPad_2 : decode cX11_partPad 2 = .ok (.bipush 7, 2) := by decide +kernel
theorem dX11_partPad_4 : decode cX11_partPad 4 = .ok (.invokestatic 165, 3) := by decide +kernel
theorem dX11_partPad_7 : decode cX11_partPad 7 = .ok (.ifCond .ne 6, 3) := by decide +kernel
theorem dX11_partPad_10 : decode cX11_partPad 10 = .ok (.bipush (-2), 2) := by decide +kernel
theorem dX11_partPad_12 : decode cX11_partPad 12 = .ok (.ireturn, 1) := by decide +kernel
theorem dX11_partPad_13 : decode cX11_partPad 13 = .ok (.aload_n 0, 1) := by decide +kernel
theorem dX11_partPad_14 : decode cX11_partPad 14 = .ok (.getfield 14, 3) := by decide +kernel
theorem dX11_partPad_17 : decode cX11_partPad 17 = .ok (.invokevirtual 127, 3) := by decide +kernel
theorem dX11_partPad_20 : decode cX11_partPad 20 = .ok (.ifCond .eq 6, 3) := by decide +kernel
theorem dX11_partPad_23 : decode cX11_partPad 23 = .ok (.bipush (-3), 2) := by decide +kernel
theorem dX11_partPad_25 : decode cX11_partPad 25 = .ok (.ireturn, 1) := by decide +kernel
theorem dX11_partPad_26 : decode cX11_partPad 26 = .ok (.aload_n 0, 1) := by decide +kernel
theorem dX11_partPad_27 : decode cX11_partPad 27 = .ok (.getfield 61, 3) := by decide +kernel
theorem dX11_partPad_30 : decode cX11_partPad 30 = .ok (.aload_n 0, 1) := by decide +kernel
theorem dX11_partPad_31 : decode cX11_partPad 31 = .ok (.getfield 14, 3) := by decide +kernel
theorem dX11_partPad_34 : decode cX11_partPad 34 = .ok (.iload_n 1, 1) := by decide +kernel
theorem dX11_partPad_35 : decode cX11_partPad 35 = .ok (.invokevirtual 392, 3) := by decide +kernel
theorem dX11_partPad_38 : decode cX11_partPad 38 = .ok (.ifCond .eq 7, 3) := by decide +kernel
theorem dX11_partPad_41 : decode cX11_partPad 41 = .ok (.iconst 0, 1) := by decide +kernel
theorem dX11_partPad_42 : decode cX11_partPad 42 = .ok (.goto 5, 3) := by decide +kernel
theorem dX11_partPad_45 : decode cX11_partPad 45 = .ok (.bipush (-5), 2) := by decide +kernel
theorem dX11_partPad_47 : decode cX11_partPad 47 = .ok (.ireturn, 1) := by decide +kernel
