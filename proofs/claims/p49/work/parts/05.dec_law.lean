theorem dL_cell_0 : decode cL_cell 0 = .ok (.aload_n 0, 1) := by decide +kernel
theorem dL_cell_1 : decode cL_cell 1 = .ok (.arraylength, 1) := by decide +kernel
theorem dL_cell_2 : decode cL_cell 2 = .ok (.ifCond .ne 12, 3) := by decide +kernel
theorem dL_cell_5 : decode cL_cell 5 = .ok (.iload_n 1, 1) := by decide +kernel
theorem dL_cell_6 : decode cL_cell 6 = .ok (.bipush 37, 2) := by decide +kernel
theorem dL_cell_8 : decode cL_cell 8 = .ok (.imul, 1) := by decide +kernel
theorem dL_cell_9 : decode cL_cell 9 = .ok (.iconst 5, 1) := by decide +kernel
theorem dL_cell_10 : decode cL_cell 10 = .ok (.iadd, 1) := by decide +kernel
theorem dL_cell_11 : decode cL_cell 11 = .ok (.goto 17, 3) := by decide +kernel
theorem dL_cell_14 : decode cL_cell 14 = .ok (.aload_n 0, 1) := by decide +kernel
theorem dL_cell_15 : decode cL_cell 15 = .ok (.iload_n 1, 1) := by decide +kernel
theorem dL_cell_16 : decode cL_cell 16 = .ok (.aload_n 0, 1) := by decide +kernel
theorem dL_cell_17 : decode cL_cell 17 = .ok (.arraylength, 1) := by decide +kernel
theorem dL_cell_18 : decode cL_cell 18 = .ok (.irem, 1) := by decide +kernel
theorem dL_cell_19 : decode cL_cell 19 = .ok (.iaload, 1) := by decide +kernel
theorem dL_cell_20 : decode cL_cell 20 = .ok (.iload_n 1, 1) := by decide +kernel
theorem dL_cell_21 : decode cL_cell 21 = .ok (.bipush 7, 2) := by decide +kernel
theorem dL_cell_23 : decode cL_cell 23 = .ok (.irem, 1) := by decide +kernel
theorem dL_cell_24 : decode cL_cell 24 = .ok (.ishr, 1) := by decide +kernel
theorem dL_cell_25 : decode cL_cell 25 = .ok (.ldc 7, 2) := by decide +kernel
theorem dL_cell_27 : decode cL_cell 27 = .ok (.iand, 1) := by decide +kernel
theorem dL_cell_28 : decode cL_cell 28 = .ok (.iload_n 2, 1) := by decide +kernel
theorem dL_cell_29 : decode cL_cell 29 = .ok (.irem, 1) := by decide +kernel
theorem dL_cell_30 : decode cL_cell 30 = .ok (.ireturn, 1) := by decide +kernel
theorem dL_keys_0 : decode cL_keys 0 = .ok (.aload_n 0, 1) := by decide +kernel
theorem dL_keys_1 : decode cL_keys 1 = .ok (.iconst 0, 1) := by decide +kernel
theorem dL_keys_2 : decode cL_keys 2 = .ok (.invokevirtual 8, 3) := by decide +kernel
theorem dL_keys_5 : decode cL_keys 5 = .ok (.istore 5, 2) := by decide +kernel
theorem dL_keys_7 : decode cL_keys 7 = .ok (.iconst 0, 1) := by decide +kernel
theorem dL_keys_8 : decode cL_keys 8 = .ok (.istore 6, 2) := by decide +kernel
theorem dL_keys_10 : decode cL_keys 10 = .ok (.iload 6, 2) := by decide +kernel
theorem dL_keys_12 : decode cL_keys 12 = .ok (.iload_n 3, 1) := by decide +kernel
theorem dL_keys_13 : decode cL_keys 13 = .ok (.if_icmp .ge 25, 3) := by decide +kernel
theorem dL_keys_16 : decode cL_keys 16 = .ok (.aload_n 0, 1) := by decide +kernel
theorem dL_keys_17 : decode cL_keys 17 = .ok (.aload_n 1, 1) := by decide +kernel
theorem dL_keys_18 : decode cL_keys 18 = .ok (.iload_n 2, 1) := by decide +kernel
theorem dL_keys_19 : decode cL_keys 19 = .ok (.iload 6, 2) := by decide +kernel
theorem dL_keys_21 : decode cL_keys 21 = .ok (.iadd, 1) := by decide +kernel
theorem dL_keys_22 : decode cL_keys 22 = .ok (.iload 4, 2) := by decide +kernel
theorem dL_keys_24 : decode cL_keys 24 = .ok (.invokestatic 14, 3) := by decide +kernel
theorem dL_keys_27 : decode cL_keys 27 = .ok (.invokevirtual 20, 3) := by decide +kernel
theorem dL_keys_30 : decode cL_keys 30 = .ok (.istore 5, 2) := by decide +kernel
theorem dL_keys_32 : decode cL_keys 32 = .ok (.iinc 6 1, 3) := by decide +kernel
theorem dL_keys_35 : decode cL_keys 35 = .ok (.goto (-25), 3) := by decide +kernel
theorem dL_keys_38 : decode cL_keys 38 = .ok (.iload 5, 2) := by decide +kernel
theorem dL_keys_40 : decode cL_keys 40 = .ok (.ireturn, 1) := by decide +kernel
theorem dL_words_0 : decode cL_words 0 = .ok (.iconst 0, 1) := by decide +kernel
theorem dL_words_1 : decode cL_words 1 = .ok (.istore 5, 2) := by decide +kernel
theorem dL_words_3 : decode cL_words 3 = .ok (.iload 5, 2) := by decide +kernel
theorem dL_words_5 : decode cL_words 5 = .ok (.iload_n 3, 1) := by decide +kernel
theorem dL_words_6 : decode cL_words 6 = .ok (.if_icmp .ge 111, 3) := by decide +kernel
theorem dL_words_9 : decode cL_words 9 = .ok (.iconst 1, 1) := by decide +kernel
theorem dL_words_10 : decode cL_words 10 = .ok (.aload_n 1, 1) := by decide +kernel
theorem dL_words_11 : decode cL_words 11 = .ok (.iload_n 2, 1) := by decide +kernel
theorem dL_words_12 : decode cL_words 12 = .ok (.bipush 12, 2) := by decide +kernel
theorem dL_words_14 : decode cL_words 14 = .ok (.iload 5, 2) := by decide +kernel
theorem dL_words_16 : decode cL_words 16 = .ok (.imul, 1) := by decide +kernel
theorem dL_words_17 : decode cL_words 17 = .ok (.iadd, 1) := by decide +kernel
theorem dL_words_18 : decode cL_words 18 = .ok (.iconst 4, 1) := by decide +kernel
theorem dL_words_19 : decode cL_words 19 = .ok (.invokestatic 14, 3) := by decide +kernel
theorem dL_words_22 : decode cL_words 22 = .ok (.iadd, 1) := by decide +kernel
theorem dL_words_23 : decode cL_words 23 = .ok (.istore 6, 2) := by decide +kernel
theorem dL_words_25 : decode cL_words 25 = .ok (.aload_n 0, 1) := by decide +kernel
theorem dL_words_26 : decode cL_words 26 = .ok (.aload_n 1, 1) := by decide +kernel
theorem dL_words_27 : decode cL_words 27 = .ok (.iload_n 2, 1) := by decide +kernel
theorem dL_words_28 : decode cL_words 28 = .ok (.bipush 12, 2) := by decide +kernel
theorem dL_words_30 : decode cL_words 30 = .ok (.iload 5, 2) := by decide +kernel
theorem dL_words_32 : decode cL_words 32 = .ok (.imul, 1) := by decide +kernel
theorem dL_words_33 : decode cL_words 33 = .ok (.iadd, 1) := by decide +kernel
theorem dL_words_34 : decode cL_words 34 = .ok (.iconst 1, 1) := by decide +kernel
theorem dL_words_35 : decode cL_words 35 = .ok (.iadd, 1) := by decide +kernel
theorem dL_words_36 : decode cL_words 36 = .ok (.iload 6, 2) := by decide +kernel
theorem dL_words_38 : decode cL_words 38 = .ok (.iload 4, 2) := by decide +kernel
theorem dL_words_40 : decode cL_words 40 = .ok (.invokestatic 23, 3) := by decide +kernel
theorem dL_words_43 : decode cL_words 43 = .ok (.iload 6, 2) := by decide +kernel
theorem dL_words_45 : decode cL_words 45 = .ok (.if_icmp .ne 64, 3) := by decide +kernel
theorem dL_words_48 : decode cL_words 48 = .ok (.aload_n 0, 1) := by decide +kernel
theorem dL_words_49 : decode cL_words 49 = .ok (.aload_n 1, 1) := by decide +kernel
theorem dL_words_50 : decode cL_words 50 = .ok (.iload_n 2, 1) := by decide +kernel
theorem dL_words_51 : decode cL_words 51 = .ok (.bipush 12, 2) := by decide +kernel
theorem dL_words_53 : decode cL_words 53 = .ok (.iload 5, 2) := by decide +kernel
theorem dL_words_55 : decode cL_words 55 = .ok (.imul, 1) := by decide +kernel
theorem dL_words_56 : decode cL_words 56 = .ok (.iadd, 1) := by decide +kernel
theorem dL_words_57 : decode cL_words 57 = .ok (.bipush 9, 2) := by decide +kernel
theorem dL_words_59 : decode cL_words 59 = .ok (.iadd, 1) := by decide +kernel
theorem dL_words_60 : decode cL_words 60 = .ok (.iconst 3, 1) := by decide +kernel
theorem dL_words_61 : decode cL_words 61 = .ok (.invokestatic 14, 3) := by decide +kernel
theorem dL_words_64 : decode cL_words 64 = .ok (.iconst 1, 1) := by decide +kernel
theorem dL_words_65 : decode cL_words 65 = .ok (.aload_n 1, 1) := by decide +kernel
theorem dL_words_66 : decode cL_words 66 = .ok (.iload_n 2, 1) := by decide +kernel
theorem dL_words_67 : decode cL_words 67 = .ok (.bipush 12, 2) := by decide +kernel
theorem dL_words_69 : decode cL_words 69 = .ok (.iload 5, 2) := by decide +kernel
theorem dL_words_71 : decode cL_words 71 = .ok (.imul, 1) := by decide +kernel
theorem dL_words_72 : decode cL_words 72 = .ok (.iadd, 1) := by decide +kernel
theorem dL_words_73 : decode cL_words 73 = .ok (.bipush 10, 2) := by decide +kernel
theorem dL_words_75 : decode cL_words 75 = .ok (.iadd, 1) := by decide +kernel
theorem dL_words_76 : decode cL_words 76 = .ok (.sipush 999, 3) := by decide +kernel
theorem dL_words_79 : decode cL_words 79 = .ok (.invokestatic 14, 3) := by decide +kernel
theorem dL_words_82 : decode cL_words 82 = .ok (.iadd, 1) := by decide +kernel
theorem dL_words_83 : decode cL_words 83 = .ok (.iconst 1, 1) := by decide +kernel
theorem dL_words_84 : decode cL_words 84 = .ok (.aload_n 1, 1) := by decide +kernel
theorem dL_words_85 : decode cL_words 85 = .ok (.iload_n 2, 1) := by decide +kernel
theorem dL_words_86 : decode cL_words 86 = .ok (.bipush 12, 2) := by decide +kernel
theorem dL_words_88 : decode cL_words 88 = .ok (.iload 5, 2) := by decide +kernel
theorem dL_words_90 : decode cL_words 90 = .ok (.imul, 1) := by decide +kernel
theorem dL_words_91 : decode cL_words 91 = .ok (.iadd, 1) := by decide +kernel
theorem dL_words_92 : decode cL_words 92 = .ok (.bipush 11, 2) := by decide +kernel
theorem dL_words_94 : decode cL_words 94 = .ok (.iadd, 1) := by decide +kernel
theorem dL_words_95 : decode cL_words 95 = .ok (.bipush 20, 2) := by decide +kernel
theorem dL_words_97 : decode cL_words 97 = .ok (.invokestatic 14, 3) := by decide +kernel
theorem dL_words_100 : decode cL_words 100 = .ok (.iadd, 1) := by decide +kernel
theorem dL_words_101 : decode cL_words 101 = .ok (.invokevirtual 27, 3) := by decide +kernel
theorem dL_words_104 : decode cL_words 104 = .ok (.iload 5, 2) := by decide +kernel
theorem dL_words_106 : decode cL_words 106 = .ok (.if_icmp .eq 5, 3) := by decide +kernel
theorem dL_words_109 : decode cL_words 109 = .ok (.iconst 0, 1) := by decide +kernel
theorem dL_words_110 : decode cL_words 110 = .ok (.ireturn, 1) := by decide +kernel
theorem dL_words_111 : decode cL_words 111 = .ok (.iinc 5 1, 3) := by decide +kernel
theorem dL_words_114 : decode cL_words 114 = .ok (.goto (-111), 3) := by decide +kernel
theorem dL_words_117 : decode cL_words 117 = .ok (.iconst 1, 1) := by decide +kernel
theorem dL_words_118 : decode cL_words 118 = .ok (.ireturn, 1) := by decide +kernel
theorem dL_law_0 : decode cL_law 0 = .ok (.new 9, 3) := by decide +kernel
theorem dL_law_3 : decode cL_law 3 = .ok (.dup, 1) := by decide +kernel
theorem dL_law_4 : decode cL_law 4 = .ok (.invokespecial 31, 3) := by decide +kernel
theorem dL_law_7 : decode cL_law 7 = .ok (.astore_n 1, 1) := by decide +kernel
theorem dL_law_8 : decode cL_law 8 = .ok (.new 9, 3) := by decide +kernel
theorem dL_law_11 : decode cL_law 11 = .ok (.dup, 1) := by decide +kernel
theorem dL_law_12 : decode cL_law 12 = .ok (.invokespecial 31, 3) := by decide +kernel
theorem dL_law_15 : decode cL_law 15 = .ok (.astore_n 2, 1) := by decide +kernel
theorem dL_law_16 : decode cL_law 16 = .ok (.iconst 2, 1) := by decide +kernel
theorem dL_law_17 : decode cL_law 17 = .ok (.aload_n 0, 1) := by decide +kernel
theorem dL_law_18 : decode cL_law 18 = .ok (.iconst 0, 1) := by decide +kernel
theorem dL_law_19 : decode cL_law 19 = .ok (.iconst 5, 1) := by decide +kernel
theorem dL_law_20 : decode cL_law 20 = .ok (.invokestatic 14, 3) := by decide +kernel
theorem dL_law_23 : decode cL_law 23 = .ok (.iadd, 1) := by decide +kernel
theorem dL_law_24 : decode cL_law 24 = .ok (.istore_n 3, 1) := by decide +kernel
theorem dL_law_25 : decode cL_law 25 = .ok (.aload_n 1, 1) := by decide +kernel
theorem dL_law_26 : decode cL_law 26 = .ok (.aload_n 0, 1) := by decide +kernel
theorem dL_law_27 : decode cL_law 27 = .ok (.iconst 1, 1) := by decide +kernel
theorem dL_law_28 : decode cL_law 28 = .ok (.iload_n 3, 1) := by decide +kernel
theorem dL_law_29 : decode cL_law 29 = .ok (.iconst 4, 1) := by decide +kernel
theorem dL_law_30 : decode cL_law 30 = .ok (.invokestatic 32, 3) := by decide +kernel
theorem dL_law_33 : decode cL_law 33 = .ok (.ifCond .eq 14, 3) := by decide +kernel
theorem dL_law_36 : decode cL_law 36 = .ok (.aload_n 2, 1) := by decide +kernel
theorem dL_law_37 : decode cL_law 37 = .ok (.aload_n 0, 1) := by decide +kernel
theorem dL_law_38 : decode cL_law 38 = .ok (.iconst 1, 1) := by decide +kernel
theorem dL_law_39 : decode cL_law 39 = .ok (.iload_n 3, 1) := by decide +kernel
theorem dL_law_40 : decode cL_law 40 = .ok (.iconst 4, 1) := by decide +kernel
theorem dL_law_41 : decode cL_law 41 = .ok (.invokestatic 32, 3) := by decide +kernel
theorem dL_law_44 : decode cL_law 44 = .ok (.ifCond .ne 5, 3) := by decide +kernel
theorem dL_law_47 : decode cL_law 47 = .ok (.iconst 0, 1) := by decide +kernel
theorem dL_law_48 : decode cL_law 48 = .ok (.ireturn, 1) := by decide +kernel
theorem dL_law_49 : decode cL_law 49 = .ok (.aload_n 0, 1) := by decide +kernel
theorem dL_law_50 : decode cL_law 50 = .ok (.bipush 100, 2) := by decide +kernel
theorem dL_law_52 : decode cL_law 52 = .ok (.iconst 3, 1) := by decide +kernel
theorem dL_law_53 : decode cL_law 53 = .ok (.invokestatic 14, 3) := by decide +kernel
theorem dL_law_56 : decode cL_law 56 = .ok (.ifCond .ne 9, 3) := by decide +kernel
theorem dL_law_59 : decode cL_law 59 = .ok (.sipush 1000, 3) := by decide +kernel
theorem dL_law_62 : decode cL_law 62 = .ok (.goto 12, 3) := by decide +kernel
theorem dL_law_65 : decode cL_law 65 = .ok (.aload_n 0, 1) := by decide +kernel
theorem dL_law_66 : decode cL_law 66 = .ok (.bipush 101, 2) := by decide +kernel
theorem dL_law_68 : decode cL_law 68 = .ok (.sipush 1001, 3) := by decide +kernel
theorem dL_law_71 : decode cL_law 71 = .ok (.invokestatic 14, 3) := by decide +kernel
theorem dL_law_74 : decode cL_law 74 = .ok (.istore 4, 2) := by decide +kernel
theorem dL_law_76 : decode cL_law 76 = .ok (.aload_n 1, 1) := by decide +kernel
theorem dL_law_77 : decode cL_law 77 = .ok (.iload 4, 2) := by decide +kernel
theorem dL_law_79 : decode cL_law 79 = .ok (.invokevirtual 36, 3) := by decide +kernel
theorem dL_law_82 : decode cL_law 82 = .ok (.sipush 900, 3) := by decide +kernel
theorem dL_law_85 : decode cL_law 85 = .ok (.if_icmp .ne 15, 3) := by decide +kernel
theorem dL_law_88 : decode cL_law 88 = .ok (.aload_n 2, 1) := by decide +kernel
theorem dL_law_89 : decode cL_law 89 = .ok (.iload 4, 2) := by decide +kernel
theorem dL_law_91 : decode cL_law 91 = .ok (.invokevirtual 36, 3) := by decide +kernel
theorem dL_law_94 : decode cL_law 94 = .ok (.sipush 900, 3) := by decide +kernel
theorem dL_law_97 : decode cL_law 97 = .ok (.if_icmp .eq 5, 3) := by decide +kernel
theorem dL_law_100 : decode cL_law 100 = .ok (.iconst 0, 1) := by decide +kernel
theorem dL_law_101 : decode cL_law 101 = .ok (.ireturn, 1) := by decide +kernel
theorem dL_law_102 : decode cL_law 102 = .ok (.aload_n 0, 1) := by decide +kernel
theorem dL_law_103 : decode cL_law 103 = .ok (.bipush 102, 2) := by decide +kernel
theorem dL_law_105 : decode cL_law 105 = .ok (.bipush 16, 2) := by decide +kernel
theorem dL_law_107 : decode cL_law 107 = .ok (.invokestatic 14, 3) := by decide +kernel
theorem dL_law_110 : decode cL_law 110 = .ok (.istore 5, 2) := by decide +kernel
theorem dL_law_112 : decode cL_law 112 = .ok (.bipush 16, 2) := by decide +kernel
theorem dL_law_114 : decode cL_law 114 = .ok (.newarray .int, 2) := by decide +kernel
theorem dL_law_116 : decode cL_law 116 = .ok (.astore 6, 2) := by decide +kernel
theorem dL_law_118 : decode cL_law 118 = .ok (.bipush 16, 2) := by decide +kernel
theorem dL_law_120 : decode cL_law 120 = .ok (.newarray .int, 2) := by decide +kernel
theorem dL_law_122 : decode cL_law 122 = .ok (.astore 7, 2) := by decide +kernel
theorem dL_law_124 : decode cL_law 124 = .ok (.bipush 16, 2) := by decide +kernel
theorem dL_law_126 : decode cL_law 126 = .ok (.newarray .int, 2) := by decide +kernel
theorem dL_law_128 : decode cL_law 128 = .ok (.astore 8, 2) := by decide +kernel
theorem dL_law_130 : decode cL_law 130 = .ok (.iconst 4, 1) := by decide +kernel
theorem dL_law_131 : decode cL_law 131 = .ok (.newarray .int, 2) := by decide +kernel
theorem dL_law_133 : decode cL_law 133 = .ok (.astore 9, 2) := by decide +kernel
theorem dL_law_135 : decode cL_law 135 = .ok (.aload_n 0, 1) := by decide +kernel
theorem dL_law_136 : decode cL_law 136 = .ok (.bipush 103, 2) := by decide +kernel
theorem dL_law_138 : decode cL_law 138 = .ok (.iload_n 3, 1) := by decide +kernel
theorem dL_law_139 : decode cL_law 139 = .ok (.invokestatic 14, 3) := by decide +kernel
theorem dL_law_142 : decode cL_law 142 = .ok (.istore 10, 2) := by decide +kernel
theorem dL_law_144 : decode cL_law 144 = .ok (.iconst 0, 1) := by decide +kernel
theorem dL_law_145 : decode cL_law 145 = .ok (.istore 11, 2) := by decide +kernel
theorem dL_law_147 : decode cL_law 147 = .ok (.iconst 0, 1) := by decide +kernel
theorem dL_law_148 : decode cL_law 148 = .ok (.istore 12, 2) := by decide +kernel
theorem dL_law_150 : decode cL_law 150 = .ok (.iload 12, 2) := by decide +kernel
theorem dL_law_152 : decode cL_law 152 = .ok (.iload 5, 2) := by decide +kernel
theorem dL_law_154 : decode cL_law 154 = .ok (.if_icmp .ge 189, 3) := by decide +kernel
theorem dL_law_157 : decode cL_law 157 = .ok (.aload 6, 2) := by decide +kernel
theorem dL_law_159 : decode cL_law 159 = .ok (.iload 12, 2) := by decide +kernel
theorem dL_law_161 : decode cL_law 161 = .ok (.aload_n 0, 1) := by decide +kernel
theorem dL_law_162 : decode cL_law 162 = .ok (.iconst 3, 1) := by decide +kernel
theorem dL_law_163 : decode cL_law 163 = .ok (.iload 12, 2) := by decide +kernel
theorem dL_law_165 : decode cL_law 165 = .ok (.imul, 1) := by decide +kernel
theorem dL_law_166 : decode cL_law 166 = .ok (.bipush 104, 2) := by decide +kernel
theorem dL_law_168 : decode cL_law 168 = .ok (.iadd, 1) := by decide +kernel
theorem dL_law_169 : decode cL_law 169 = .ok (.iconst 4, 1) := by decide +kernel
theorem dL_law_170 : decode cL_law 170 = .ok (.invokestatic 14, 3) := by decide +kernel
theorem dL_law_173 : decode cL_law 173 = .ok (.iastore, 1) := by decide +kernel
theorem dL_law_174 : decode cL_law 174 = .ok (.aload 7, 2) := by decide +kernel
theorem dL_law_176 : decode cL_law 176 = .ok (.iload 12, 2) := by decide +kernel
theorem dL_law_178 : decode cL_law 178 = .ok (.aload_n 0, 1) := by decide +kernel
theorem dL_law_179 : decode cL_law 179 = .ok (.iconst 3, 1) := by decide +kernel
theorem dL_law_180 : decode cL_law 180 = .ok (.iload 12, 2) := by decide +kernel
theorem dL_law_182 : decode cL_law 182 = .ok (.imul, 1) := by decide +kernel
theorem dL_law_183 : decode cL_law 183 = .ok (.bipush 105, 2) := by decide +kernel
theorem dL_law_185 : decode cL_law 185 = .ok (.iadd, 1) := by decide +kernel
theorem dL_law_186 : decode cL_law 186 = .ok (.iload_n 3, 1) := by decide +kernel
theorem dL_law_187 : decode cL_law 187 = .ok (.invokestatic 14, 3) := by decide +kernel
theorem dL_law_190 : decode cL_law 190 = .ok (.iastore, 1) := by decide +kernel
theorem dL_law_191 : decode cL_law 191 = .ok (.aload 9, 2) := by decide +kernel
theorem dL_law_193 : decode cL_law 193 = .ok (.aload 6, 2) := by decide +kernel
theorem dL_law_195 : decode cL_law 195 = .ok (.iload 12, 2) := by decide +kernel
theorem dL_law_197 : decode cL_law 197 = .ok (.iaload, 1) := by decide +kernel
theorem dL_law_198 : decode cL_law 198 = .ok (.dup2, 1) := by decide +kernel
theorem dL_law_199 : decode cL_law 199 = .ok (.iaload, 1) := by decide +kernel
theorem dL_law_200 : decode cL_law 200 = .ok (.aload_n 0, 1) := by decide +kernel
theorem dL_law_201 : decode cL_law 201 = .ok (.iconst 3, 1) := by decide +kernel
theorem dL_law_202 : decode cL_law 202 = .ok (.iload 12, 2) := by decide +kernel
theorem dL_law_204 : decode cL_law 204 = .ok (.imul, 1) := by decide +kernel
theorem dL_law_205 : decode cL_law 205 = .ok (.bipush 106, 2) := by decide +kernel
theorem dL_law_207 : decode cL_law 207 = .ok (.iadd, 1) := by decide +kernel
theorem dL_law_208 : decode cL_law 208 = .ok (.bipush 6, 2) := by decide +kernel
theorem dL_law_210 : decode cL_law 210 = .ok (.invokestatic 14, 3) := by decide +kernel
theorem dL_law_213 : decode cL_law 213 = .ok (.iadd, 1) := by decide +kernel
theorem dL_law_214 : decode cL_law 214 = .ok (.iastore, 1) := by decide +kernel
theorem dL_law_215 : decode cL_law 215 = .ok (.aload 8, 2) := by decide +kernel
theorem dL_law_217 : decode cL_law 217 = .ok (.iload 12, 2) := by decide +kernel
theorem dL_law_219 : decode cL_law 219 = .ok (.aload 9, 2) := by decide +kernel
theorem dL_law_221 : decode cL_law 221 = .ok (.aload 6, 2) := by decide +kernel
theorem dL_law_223 : decode cL_law 223 = .ok (.iload 12, 2) := by decide +kernel
theorem dL_law_225 : decode cL_law 225 = .ok (.iaload, 1) := by decide +kernel
theorem dL_law_226 : decode cL_law 226 = .ok (.iaload, 1) := by decide +kernel
theorem dL_law_227 : decode cL_law 227 = .ok (.iastore, 1) := by decide +kernel
theorem dL_law_228 : decode cL_law 228 = .ok (.aload_n 1, 1) := by decide +kernel
theorem dL_law_229 : decode cL_law 229 = .ok (.aload 6, 2) := by decide +kernel
theorem dL_law_231 : decode cL_law 231 = .ok (.iload 12, 2) := by decide +kernel
theorem dL_law_233 : decode cL_law 233 = .ok (.iaload, 1) := by decide +kernel
theorem dL_law_234 : decode cL_law 234 = .ok (.aload 7, 2) := by decide +kernel
theorem dL_law_236 : decode cL_law 236 = .ok (.iload 12, 2) := by decide +kernel
theorem dL_law_238 : decode cL_law 238 = .ok (.iaload, 1) := by decide +kernel
theorem dL_law_239 : decode cL_law 239 = .ok (.aload 8, 2) := by decide +kernel
theorem dL_law_241 : decode cL_law 241 = .ok (.iload 12, 2) := by decide +kernel
theorem dL_law_243 : decode cL_law 243 = .ok (.iaload, 1) := by decide +kernel
theorem dL_law_244 : decode cL_law 244 = .ok (.invokevirtual 39, 3) := by decide +kernel
theorem dL_law_247 : decode cL_law 247 = .ok (.iload 12, 2) := by decide +kernel
theorem dL_law_249 : decode cL_law 249 = .ok (.iconst 1, 1) := by decide +kernel
theorem dL_law_250 : decode cL_law 250 = .ok (.iadd, 1) := by decide +kernel
theorem dL_law_251 : decode cL_law 251 = .ok (.if_icmp .ne 37, 3) := by decide +kernel
theorem dL_law_254 : decode cL_law 254 = .ok (.aload 8, 2) := by decide +kernel
theorem dL_law_256 : decode cL_law 256 = .ok (.iload 12, 2) := by decide +kernel
theorem dL_law_258 : decode cL_law 258 = .ok (.iaload, 1) := by decide +kernel
theorem dL_law_259 : decode cL_law 259 = .ok (.ifCond .le 31, 3) := by decide +kernel
theorem dL_law_262 : decode cL_law 262 = .ok (.aload_n 1, 1) := by decide +kernel
theorem dL_law_263 : decode cL_law 263 = .ok (.aload 6, 2) := by decide +kernel
theorem dL_law_265 : decode cL_law 265 = .ok (.iload 12, 2) := by decide +kernel
theorem dL_law_267 : decode cL_law 267 = .ok (.iaload, 1) := by decide +kernel
theorem dL_law_268 : decode cL_law 268 = .ok (.aload 7, 2) := by decide +kernel
theorem dL_law_270 : decode cL_law 270 = .ok (.iload 12, 2) := by decide +kernel
theorem dL_law_272 : decode cL_law 272 = .ok (.iaload, 1) := by decide +kernel
theorem dL_law_273 : decode cL_law 273 = .ok (.aload 8, 2) := by decide +kernel
theorem dL_law_275 : decode cL_law 275 = .ok (.iload 12, 2) := by decide +kernel
theorem dL_law_277 : decode cL_law 277 = .ok (.iaload, 1) := by decide +kernel
theorem dL_law_278 : decode cL_law 278 = .ok (.iconst 1, 1) := by decide +kernel
theorem dL_law_279 : decode cL_law 279 = .ok (.isub, 1) := by decide +kernel
theorem dL_law_280 : decode cL_law 280 = .ok (.invokevirtual 39, 3) := by decide +kernel
theorem dL_law_283 : decode cL_law 283 = .ok (.bipush (-5), 2) := by decide +kernel
theorem dL_law_285 : decode cL_law 285 = .ok (.if_icmp .eq 5, 3) := by decide +kernel
theorem dL_law_288 : decode cL_law 288 = .ok (.iconst 0, 1) := by decide +kernel
theorem dL_law_289 : decode cL_law 289 = .ok (.ireturn, 1) := by decide +kernel
theorem dL_law_290 : decode cL_law 290 = .ok (.aload 6, 2) := by decide +kernel
theorem dL_law_292 : decode cL_law 292 = .ok (.iload 12, 2) := by decide +kernel
theorem dL_law_294 : decode cL_law 294 = .ok (.iaload, 1) := by decide +kernel
theorem dL_law_295 : decode cL_law 295 = .ok (.ifCond .ne 13, 3) := by decide +kernel
theorem dL_law_298 : decode cL_law 298 = .ok (.aload 7, 2) := by decide +kernel
theorem dL_law_300 : decode cL_law 300 = .ok (.iload 12, 2) := by decide +kernel
theorem dL_law_302 : decode cL_law 302 = .ok (.iaload, 1) := by decide +kernel
theorem dL_law_303 : decode cL_law 303 = .ok (.iload 10, 2) := by decide +kernel
theorem dL_law_305 : decode cL_law 305 = .ok (.if_icmp .eq 32, 3) := by decide +kernel
theorem dL_law_308 : decode cL_law 308 = .ok (.iinc 11 1, 3) := by decide +kernel
theorem dL_law_311 : decode cL_law 311 = .ok (.aload_n 2, 1) := by decide +kernel
theorem dL_law_312 : decode cL_law 312 = .ok (.aload 6, 2) := by decide +kernel
theorem dL_law_314 : decode cL_law 314 = .ok (.iload 12, 2) := by decide +kernel
theorem dL_law_316 : decode cL_law 316 = .ok (.iaload, 1) := by decide +kernel
theorem dL_law_317 : decode cL_law 317 = .ok (.aload 7, 2) := by decide +kernel
theorem dL_law_319 : decode cL_law 319 = .ok (.iload 12, 2) := by decide +kernel
theorem dL_law_321 : decode cL_law 321 = .ok (.iaload, 1) := by decide +kernel
theorem dL_law_322 : decode cL_law 322 = .ok (.aload 8, 2) := by decide +kernel
theorem dL_law_324 : decode cL_law 324 = .ok (.iload 12, 2) := by decide +kernel
theorem dL_law_326 : decode cL_law 326 = .ok (.iaload, 1) := by decide +kernel
theorem dL_law_327 : decode cL_law 327 = .ok (.invokevirtual 39, 3) := by decide +kernel
theorem dL_law_330 : decode cL_law 330 = .ok (.iload 11, 2) := by decide +kernel
theorem dL_law_332 : decode cL_law 332 = .ok (.if_icmp .eq 5, 3) := by decide +kernel
theorem dL_law_335 : decode cL_law 335 = .ok (.iconst 0, 1) := by decide +kernel
theorem dL_law_336 : decode cL_law 336 = .ok (.ireturn, 1) := by decide +kernel
theorem dL_law_337 : decode cL_law 337 = .ok (.iinc 12 1, 3) := by decide +kernel
theorem dL_law_340 : decode cL_law 340 = .ok (.goto (-190), 3) := by decide +kernel
theorem dL_law_343 : decode cL_law 343 = .ok (.aload_n 0, 1) := by decide +kernel
theorem dL_law_344 : decode cL_law 344 = .ok (.sipush 160, 3) := by decide +kernel
theorem dL_law_347 : decode cL_law 347 = .ok (.bipush 60, 2) := by decide +kernel
theorem dL_law_349 : decode cL_law 349 = .ok (.invokestatic 14, 3) := by decide +kernel
theorem dL_law_352 : decode cL_law 352 = .ok (.istore 12, 2) := by decide +kernel
theorem dL_law_354 : decode cL_law 354 = .ok (.bipush 32, 2) := by decide +kernel
theorem dL_law_356 : decode cL_law 356 = .ok (.newarray .int, 2) := by decide +kernel
theorem dL_law_358 : decode cL_law 358 = .ok (.astore 13, 2) := by decide +kernel
theorem dL_law_360 : decode cL_law 360 = .ok (.iconst 0, 1) := by decide +kernel
theorem dL_law_361 : decode cL_law 361 = .ok (.istore 14, 2) := by decide +kernel
theorem dL_law_363 : decode cL_law 363 = .ok (.iload 14, 2) := by decide +kernel
theorem dL_law_365 : decode cL_law 365 = .ok (.iconst 4, 1) := by decide +kernel
theorem dL_law_366 : decode cL_law 366 = .ok (.if_icmp .ge 150, 3) := by decide +kernel
theorem dL_law_369 : decode cL_law 369 = .ok (.iconst 0, 1) := by decide +kernel
theorem dL_law_370 : decode cL_law 370 = .ok (.istore 15, 2) := by decide +kernel
theorem dL_law_372 : decode cL_law 372 = .ok (.iload 15, 2) := by decide +kernel
theorem dL_law_374 : decode cL_law 374 = .ok (.iload_n 3, 1) := by decide +kernel
theorem dL_law_375 : decode cL_law 375 = .ok (.if_icmp .ge 135, 3) := by decide +kernel
theorem dL_law_378 : decode cL_law 378 = .ok (.iconst 0, 1) := by decide +kernel
theorem dL_law_379 : decode cL_law 379 = .ok (.istore 16, 2) := by decide +kernel
theorem dL_law_381 : decode cL_law 381 = .ok (.iconst 0, 1) := by decide +kernel
theorem dL_law_382 : decode cL_law 382 = .ok (.istore 17, 2) := by decide +kernel
theorem dL_law_384 : decode cL_law 384 = .ok (.iload 17, 2) := by decide +kernel
theorem dL_law_386 : decode cL_law 386 = .ok (.iload 5, 2) := by decide +kernel
theorem dL_law_388 : decode cL_law 388 = .ok (.if_icmp .ge 86, 3) := by decide +kernel
theorem dL_law_391 : decode cL_law 391 = .ok (.sipush 1000, 3) := by decide +kernel
theorem dL_law_394 : decode cL_law 394 = .ok (.istore 18, 2) := by decide +kernel
theorem dL_law_396 : decode cL_law 396 = .ok (.aload 8, 2) := by decide +kernel
theorem dL_law_398 : decode cL_law 398 = .ok (.iload 17, 2) := by decide +kernel
theorem dL_law_400 : decode cL_law 400 = .ok (.iaload, 1) := by decide +kernel
theorem dL_law_401 : decode cL_law 401 = .ok (.istore 19, 2) := by decide +kernel
theorem dL_law_403 : decode cL_law 403 = .ok (.iload 19, 2) := by decide +kernel
theorem dL_law_405 : decode cL_law 405 = .ok (.iload 12, 2) := by decide +kernel
theorem dL_law_407 : decode cL_law 407 = .ok (.if_icmp .ge 20, 3) := by decide +kernel
theorem dL_law_410 : decode cL_law 410 = .ok (.iload 18, 2) := by decide +kernel
theorem dL_law_412 : decode cL_law 412 = .ok (.iload 4, 2) := by decide +kernel
theorem dL_law_414 : decode cL_law 414 = .ok (.imul, 1) := by decide +kernel
theorem dL_law_415 : decode cL_law 415 = .ok (.sipush 1000, 3) := by decide +kernel
theorem dL_law_418 : decode cL_law 418 = .ok (.idiv, 1) := by decide +kernel
theorem dL_law_419 : decode cL_law 419 = .ok (.istore 18, 2) := by decide +kernel
theorem dL_law_421 : decode cL_law 421 = .ok (.iinc 19 1, 3) := by decide +kernel
theorem dL_law_424 : decode cL_law 424 = .ok (.goto (-21), 3) := by decide +kernel
theorem dL_law_427 : decode cL_law 427 = .ok (.iload 16, 2) := by decide +kernel
theorem dL_law_429 : decode cL_law 429 = .ok (.aload 6, 2) := by decide +kernel
theorem dL_law_431 : decode cL_law 431 = .ok (.iload 17, 2) := by decide +kernel
theorem dL_law_433 : decode cL_law 433 = .ok (.iaload, 1) := by decide +kernel
theorem dL_law_434 : decode cL_law 434 = .ok (.iload 14, 2) := by decide +kernel
theorem dL_law_436 : decode cL_law 436 = .ok (.if_icmp .ne 28, 3) := by decide +kernel
theorem dL_law_439 : decode cL_law 439 = .ok (.aload 7, 2) := by decide +kernel
theorem dL_law_441 : decode cL_law 441 = .ok (.iload 17, 2) := by decide +kernel
theorem dL_law_443 : decode cL_law 443 = .ok (.iaload, 1) := by decide +kernel
theorem dL_law_444 : decode cL_law 444 = .ok (.iload 15, 2) := by decide +kernel
theorem dL_law_446 : decode cL_law 446 = .ok (.if_icmp .ne 18, 3) := by decide +kernel
theorem dL_law_449 : decode cL_law 449 = .ok (.aload 8, 2) := by decide +kernel
theorem dL_law_451 : decode cL_law 451 = .ok (.iload 17, 2) := by decide +kernel
theorem dL_law_453 : decode cL_law 453 = .ok (.iaload, 1) := by decide +kernel
theorem dL_law_454 : decode cL_law 454 = .ok (.iload 12, 2) := by decide +kernel
theorem dL_law_456 : decode cL_law 456 = .ok (.if_icmp .gt 8, 3) := by decide +kernel
theorem dL_law_459 : decode cL_law 459 = .ok (.iload 18, 2) := by decide +kernel
theorem dL_law_461 : decode cL_law 461 = .ok (.goto 4, 3) := by decide +kernel
theorem dL_law_464 : decode cL_law 464 = .ok (.iconst 0, 1) := by decide +kernel
theorem dL_law_465 : decode cL_law 465 = .ok (.iadd, 1) := by decide +kernel
theorem dL_law_466 : decode cL_law 466 = .ok (.istore 16, 2) := by decide +kernel
theorem dL_law_468 : decode cL_law 468 = .ok (.iinc 17 1, 3) := by decide +kernel
theorem dL_law_471 : decode cL_law 471 = .ok (.goto (-87), 3) := by decide +kernel
theorem dL_law_474 : decode cL_law 474 = .ok (.aload 13, 2) := by decide +kernel
theorem dL_law_476 : decode cL_law 476 = .ok (.bipush 8, 2) := by decide +kernel
theorem dL_law_478 : decode cL_law 478 = .ok (.iload 14, 2) := by decide +kernel
theorem dL_law_480 : decode cL_law 480 = .ok (.imul, 1) := by decide +kernel
theorem dL_law_481 : decode cL_law 481 = .ok (.iload 15, 2) := by decide +kernel
theorem dL_law_483 : decode cL_law 483 = .ok (.iadd, 1) := by decide +kernel
theorem dL_law_484 : decode cL_law 484 = .ok (.iload 16, 2) := by decide +kernel
theorem dL_law_486 : decode cL_law 486 = .ok (.iastore, 1) := by decide +kernel
theorem dL_law_487 : decode cL_law 487 = .ok (.aload_n 1, 1) := by decide +kernel
theorem dL_law_488 : decode cL_law 488 = .ok (.iload 14, 2) := by decide +kernel
theorem dL_law_490 : decode cL_law 490 = .ok (.iload 15, 2) := by decide +kernel
theorem dL_law_492 : decode cL_law 492 = .ok (.iload 12, 2) := by decide +kernel
theorem dL_law_494 : decode cL_law 494 = .ok (.invokevirtual 42, 3) := by decide +kernel
theorem dL_law_497 : decode cL_law 497 = .ok (.iload 16, 2) := by decide +kernel
theorem dL_law_499 : decode cL_law 499 = .ok (.if_icmp .eq 5, 3) := by decide +kernel
theorem dL_law_502 : decode cL_law 502 = .ok (.iconst 0, 1) := by decide +kernel
theorem dL_law_503 : decode cL_law 503 = .ok (.ireturn, 1) := by decide +kernel
theorem dL_law_504 : decode cL_law 504 = .ok (.iinc 15 1, 3) := by decide +kernel
theorem dL_law_507 : decode cL_law 507 = .ok (.goto (-135), 3) := by decide +kernel
theorem dL_law_510 : decode cL_law 510 = .ok (.iinc 14 1, 3) := by decide +kernel
theorem dL_law_513 : decode cL_law 513 = .ok (.goto (-150), 3) := by decide +kernel
theorem dL_law_516 : decode cL_law 516 = .ok (.aload_n 1, 1) := by decide +kernel
theorem dL_law_517 : decode cL_law 517 = .ok (.aload_n 0, 1) := by decide +kernel
theorem dL_law_518 : decode cL_law 518 = .ok (.sipush 170, 3) := by decide +kernel
theorem dL_law_521 : decode cL_law 521 = .ok (.iconst 1, 1) := by decide +kernel
theorem dL_law_522 : decode cL_law 522 = .ok (.aload_n 0, 1) := by decide +kernel
theorem dL_law_523 : decode cL_law 523 = .ok (.sipush 169, 3) := by decide +kernel
theorem dL_law_526 : decode cL_law 526 = .ok (.iconst 4, 1) := by decide +kernel
theorem dL_law_527 : decode cL_law 527 = .ok (.invokestatic 14, 3) := by decide +kernel
theorem dL_law_530 : decode cL_law 530 = .ok (.iadd, 1) := by decide +kernel
theorem dL_law_531 : decode cL_law 531 = .ok (.iconst 4, 1) := by decide +kernel
theorem dL_law_532 : decode cL_law 532 = .ok (.invokestatic 23, 3) := by decide +kernel
theorem dL_law_535 : decode cL_law 535 = .ok (.istore 14, 2) := by decide +kernel
theorem dL_law_537 : decode cL_law 537 = .ok (.aload_n 0, 1) := by decide +kernel
theorem dL_law_538 : decode cL_law 538 = .ok (.sipush 175, 3) := by decide +kernel
theorem dL_law_541 : decode cL_law 541 = .ok (.iconst 4, 1) := by decide +kernel
theorem dL_law_542 : decode cL_law 542 = .ok (.invokestatic 14, 3) := by decide +kernel
theorem dL_law_545 : decode cL_law 545 = .ok (.istore 15, 2) := by decide +kernel
theorem dL_law_547 : decode cL_law 547 = .ok (.aload_n 1, 1) := by decide +kernel
theorem dL_law_548 : decode cL_law 548 = .ok (.iload 15, 2) := by decide +kernel
theorem dL_law_550 : decode cL_law 550 = .ok (.iload 12, 2) := by decide +kernel
theorem dL_law_552 : decode cL_law 552 = .ok (.bipush 7, 2) := by decide +kernel
theorem dL_law_554 : decode cL_law 554 = .ok (.bipush 60, 2) := by decide +kernel
theorem dL_law_556 : decode cL_law 556 = .ok (.iconst (-1), 1) := by decide +kernel
theorem dL_law_557 : decode cL_law 557 = .ok (.invokevirtual 45, 3) := by decide +kernel
theorem dL_law_560 : decode cL_law 560 = .ok (.istore 16, 2) := by decide +kernel
theorem dL_law_562 : decode cL_law 562 = .ok (.iconst 0, 1) := by decide +kernel
theorem dL_law_563 : decode cL_law 563 = .ok (.istore 17, 2) := by decide +kernel
theorem dL_law_565 : decode cL_law 565 = .ok (.iload 17, 2) := by decide +kernel
theorem dL_law_567 : decode cL_law 567 = .ok (.iconst 1, 1) := by decide +kernel
theorem dL_law_568 : decode cL_law 568 = .ok (.iadd, 1) := by decide +kernel
theorem dL_law_569 : decode cL_law 569 = .ok (.iload 16, 2) := by decide +kernel
theorem dL_law_571 : decode cL_law 571 = .ok (.if_icmp .ge 158, 3) := by decide +kernel
theorem dL_law_574 : decode cL_law 574 = .ok (.aload_n 1, 1) := by decide +kernel
theorem dL_law_575 : decode cL_law 575 = .ok (.iload 15, 2) := by decide +kernel
theorem dL_law_577 : decode cL_law 577 = .ok (.iload 12, 2) := by decide +kernel
theorem dL_law_579 : decode cL_law 579 = .ok (.bipush 7, 2) := by decide +kernel
theorem dL_law_581 : decode cL_law 581 = .ok (.bipush 60, 2) := by decide +kernel
theorem dL_law_583 : decode cL_law 583 = .ok (.iload 17, 2) := by decide +kernel
theorem dL_law_585 : decode cL_law 585 = .ok (.invokevirtual 45, 3) := by decide +kernel
theorem dL_law_588 : decode cL_law 588 = .ok (.istore 18, 2) := by decide +kernel
theorem dL_law_590 : decode cL_law 590 = .ok (.aload_n 1, 1) := by decide +kernel
theorem dL_law_591 : decode cL_law 591 = .ok (.iload 15, 2) := by decide +kernel
theorem dL_law_593 : decode cL_law 593 = .ok (.iload 12, 2) := by decide +kernel
theorem dL_law_595 : decode cL_law 595 = .ok (.bipush 7, 2) := by decide +kernel
theorem dL_law_597 : decode cL_law 597 = .ok (.bipush 60, 2) := by decide +kernel
theorem dL_law_599 : decode cL_law 599 = .ok (.iload 17, 2) := by decide +kernel
theorem dL_law_601 : decode cL_law 601 = .ok (.iconst 1, 1) := by decide +kernel
theorem dL_law_602 : decode cL_law 602 = .ok (.iadd, 1) := by decide +kernel
theorem dL_law_603 : decode cL_law 603 = .ok (.invokevirtual 45, 3) := by decide +kernel
theorem dL_law_606 : decode cL_law 606 = .ok (.istore 19, 2) := by decide +kernel
theorem dL_law_608 : decode cL_law 608 = .ok (.sipush 1000, 3) := by decide +kernel
theorem dL_law_611 : decode cL_law 611 = .ok (.aload_n 1, 1) := by decide +kernel
theorem dL_law_612 : decode cL_law 612 = .ok (.iload 18, 2) := by decide +kernel
theorem dL_law_614 : decode cL_law 614 = .ok (.iconst 2, 1) := by decide +kernel
theorem dL_law_615 : decode cL_law 615 = .ok (.invokevirtual 49, 3) := by decide +kernel
theorem dL_law_618 : decode cL_law 618 = .ok (.imul, 1) := by decide +kernel
theorem dL_law_619 : decode cL_law 619 = .ok (.aload 13, 2) := by decide +kernel
theorem dL_law_621 : decode cL_law 621 = .ok (.bipush 8, 2) := by decide +kernel
theorem dL_law_623 : decode cL_law 623 = .ok (.iload 15, 2) := by decide +kernel
theorem dL_law_625 : decode cL_law 625 = .ok (.imul, 1) := by decide +kernel
theorem dL_law_626 : decode cL_law 626 = .ok (.iload 18, 2) := by decide +kernel
theorem dL_law_628 : decode cL_law 628 = .ok (.iadd, 1) := by decide +kernel
theorem dL_law_629 : decode cL_law 629 = .ok (.iaload, 1) := by decide +kernel
theorem dL_law_630 : decode cL_law 630 = .ok (.iadd, 1) := by decide +kernel
theorem dL_law_631 : decode cL_law 631 = .ok (.istore 20, 2) := by decide +kernel
theorem dL_law_633 : decode cL_law 633 = .ok (.sipush 1000, 3) := by decide +kernel
theorem dL_law_636 : decode cL_law 636 = .ok (.aload_n 1, 1) := by decide +kernel
theorem dL_law_637 : decode cL_law 637 = .ok (.iload 19, 2) := by decide +kernel
theorem dL_law_639 : decode cL_law 639 = .ok (.iconst 2, 1) := by decide +kernel
theorem dL_law_640 : decode cL_law 640 = .ok (.invokevirtual 49, 3) := by decide +kernel
theorem dL_law_643 : decode cL_law 643 = .ok (.imul, 1) := by decide +kernel
theorem dL_law_644 : decode cL_law 644 = .ok (.aload 13, 2) := by decide +kernel
theorem dL_law_646 : decode cL_law 646 = .ok (.bipush 8, 2) := by decide +kernel
theorem dL_law_648 : decode cL_law 648 = .ok (.iload 15, 2) := by decide +kernel
theorem dL_law_650 : decode cL_law 650 = .ok (.imul, 1) := by decide +kernel
theorem dL_law_651 : decode cL_law 651 = .ok (.iload 19, 2) := by decide +kernel
theorem dL_law_653 : decode cL_law 653 = .ok (.iadd, 1) := by decide +kernel
theorem dL_law_654 : decode cL_law 654 = .ok (.iaload, 1) := by decide +kernel
theorem dL_law_655 : decode cL_law 655 = .ok (.iadd, 1) := by decide +kernel
theorem dL_law_656 : decode cL_law 656 = .ok (.istore 21, 2) := by decide +kernel
theorem dL_law_658 : decode cL_law 658 = .ok (.aload_n 1, 1) := by decide +kernel
theorem dL_law_659 : decode cL_law 659 = .ok (.iload 18, 2) := by decide +kernel
theorem dL_law_661 : decode cL_law 661 = .ok (.invokevirtual 53, 3) := by decide +kernel
theorem dL_law_664 : decode cL_law 664 = .ok (.aload_n 1, 1) := by decide +kernel
theorem dL_law_665 : decode cL_law 665 = .ok (.iload 19, 2) := by decide +kernel
theorem dL_law_667 : decode cL_law 667 = .ok (.invokevirtual 53, 3) := by decide +kernel
theorem dL_law_670 : decode cL_law 670 = .ok (.if_icmp .lt 39, 3) := by decide +kernel
theorem dL_law_673 : decode cL_law 673 = .ok (.aload_n 1, 1) := by decide +kernel
theorem dL_law_674 : decode cL_law 674 = .ok (.iload 18, 2) := by decide +kernel
theorem dL_law_676 : decode cL_law 676 = .ok (.invokevirtual 53, 3) := by decide +kernel
theorem dL_law_679 : decode cL_law 679 = .ok (.aload_n 1, 1) := by decide +kernel
theorem dL_law_680 : decode cL_law 680 = .ok (.iload 19, 2) := by decide +kernel
theorem dL_law_682 : decode cL_law 682 = .ok (.invokevirtual 53, 3) := by decide +kernel
theorem dL_law_685 : decode cL_law 685 = .ok (.if_icmp .ne 28, 3) := by decide +kernel
theorem dL_law_688 : decode cL_law 688 = .ok (.iload 20, 2) := by decide +kernel
theorem dL_law_690 : decode cL_law 690 = .ok (.iload 21, 2) := by decide +kernel
theorem dL_law_692 : decode cL_law 692 = .ok (.if_icmp .gt 17, 3) := by decide +kernel
theorem dL_law_695 : decode cL_law 695 = .ok (.iload 20, 2) := by decide +kernel
theorem dL_law_697 : decode cL_law 697 = .ok (.iload 21, 2) := by decide +kernel
theorem dL_law_699 : decode cL_law 699 = .ok (.if_icmp .ne 14, 3) := by decide +kernel
theorem dL_law_702 : decode cL_law 702 = .ok (.iload 18, 2) := by decide +kernel
theorem dL_law_704 : decode cL_law 704 = .ok (.iload 19, 2) := by decide +kernel
theorem dL_law_706 : decode cL_law 706 = .ok (.if_icmp .ge 7, 3) := by decide +kernel
theorem dL_law_709 : decode cL_law 709 = .ok (.iconst 1, 1) := by decide +kernel
theorem dL_law_710 : decode cL_law 710 = .ok (.goto 4, 3) := by decide +kernel
theorem dL_law_713 : decode cL_law 713 = .ok (.iconst 0, 1) := by decide +kernel
theorem dL_law_714 : decode cL_law 714 = .ok (.istore 22, 2) := by decide +kernel
theorem dL_law_716 : decode cL_law 716 = .ok (.iload 22, 2) := by decide +kernel
theorem dL_law_718 : decode cL_law 718 = .ok (.ifCond .ne 5, 3) := by decide +kernel
theorem dL_law_721 : decode cL_law 721 = .ok (.iconst 0, 1) := by decide +kernel
theorem dL_law_722 : decode cL_law 722 = .ok (.ireturn, 1) := by decide +kernel
theorem dL_law_723 : decode cL_law 723 = .ok (.iinc 17 1, 3) := by decide +kernel
theorem dL_law_726 : decode cL_law 726 = .ok (.goto (-161), 3) := by decide +kernel
theorem dL_law_729 : decode cL_law 729 = .ok (.iload 16, 2) := by decide +kernel
theorem dL_law_731 : decode cL_law 731 = .ok (.aload_n 1, 1) := by decide +kernel
theorem dL_law_732 : decode cL_law 732 = .ok (.bipush 7, 2) := by decide +kernel
theorem dL_law_734 : decode cL_law 734 = .ok (.bipush 60, 2) := by decide +kernel
theorem dL_law_736 : decode cL_law 736 = .ok (.iconst (-1), 1) := by decide +kernel
theorem dL_law_737 : decode cL_law 737 = .ok (.invokevirtual 56, 3) := by decide +kernel
theorem dL_law_740 : decode cL_law 740 = .ok (.if_icmp .ne 9, 3) := by decide +kernel
theorem dL_law_743 : decode cL_law 743 = .ok (.iload 14, 2) := by decide +kernel
theorem dL_law_745 : decode cL_law 745 = .ok (.iconst 1, 1) := by decide +kernel
theorem dL_law_746 : decode cL_law 746 = .ok (.if_icmp .ge 5, 3) := by decide +kernel
theorem dL_law_749 : decode cL_law 749 = .ok (.iconst 0, 1) := by decide +kernel
theorem dL_law_750 : decode cL_law 750 = .ok (.ireturn, 1) := by decide +kernel
theorem dL_law_751 : decode cL_law 751 = .ok (.iconst 1, 1) := by decide +kernel
theorem dL_law_752 : decode cL_law 752 = .ok (.aload_n 0, 1) := by decide +kernel
theorem dL_law_753 : decode cL_law 753 = .ok (.sipush 180, 3) := by decide +kernel
theorem dL_law_756 : decode cL_law 756 = .ok (.ldc 59, 2) := by decide +kernel
theorem dL_law_758 : decode cL_law 758 = .ok (.invokestatic 14, 3) := by decide +kernel
theorem dL_law_761 : decode cL_law 761 = .ok (.iadd, 1) := by decide +kernel
theorem dL_law_762 : decode cL_law 762 = .ok (.istore 17, 2) := by decide +kernel
theorem dL_law_764 : decode cL_law 764 = .ok (.aload_n 1, 1) := by decide +kernel
theorem dL_law_765 : decode cL_law 765 = .ok (.iload 17, 2) := by decide +kernel
theorem dL_law_767 : decode cL_law 767 = .ok (.invokevirtual 60, 3) := by decide +kernel
theorem dL_law_770 : decode cL_law 770 = .ok (.iconst 1, 1) := by decide +kernel
theorem dL_law_771 : decode cL_law 771 = .ok (.if_icmp .eq 5, 3) := by decide +kernel
theorem dL_law_774 : decode cL_law 774 = .ok (.iconst 0, 1) := by decide +kernel
theorem dL_law_775 : decode cL_law 775 = .ok (.ireturn, 1) := by decide +kernel
theorem dL_law_776 : decode cL_law 776 = .ok (.iconst 4, 1) := by decide +kernel
theorem dL_law_777 : decode cL_law 777 = .ok (.newarray .int, 2) := by decide +kernel
theorem dL_law_779 : decode cL_law 779 = .ok (.astore 18, 2) := by decide +kernel
theorem dL_law_781 : decode cL_law 781 = .ok (.iconst 0, 1) := by decide +kernel
theorem dL_law_782 : decode cL_law 782 = .ok (.istore 19, 2) := by decide +kernel
theorem dL_law_784 : decode cL_law 784 = .ok (.iload 19, 2) := by decide +kernel
theorem dL_law_786 : decode cL_law 786 = .ok (.iconst 4, 1) := by decide +kernel
theorem dL_law_787 : decode cL_law 787 = .ok (.if_icmp .ge 45, 3) := by decide +kernel
theorem dL_law_790 : decode cL_law 790 = .ok (.aload 18, 2) := by decide +kernel
theorem dL_law_792 : decode cL_law 792 = .ok (.iload 19, 2) := by decide +kernel
theorem dL_law_794 : decode cL_law 794 = .ok (.aload_n 0, 1) := by decide +kernel
theorem dL_law_795 : decode cL_law 795 = .ok (.iload 19, 2) := by decide +kernel
theorem dL_law_797 : decode cL_law 797 = .ok (.sipush 181, 3) := by decide +kernel
theorem dL_law_800 : decode cL_law 800 = .ok (.iadd, 1) := by decide +kernel
theorem dL_law_801 : decode cL_law 801 = .ok (.sipush 200, 3) := by decide +kernel
theorem dL_law_804 : decode cL_law 804 = .ok (.invokestatic 14, 3) := by decide +kernel
theorem dL_law_807 : decode cL_law 807 = .ok (.iastore, 1) := by decide +kernel
theorem dL_law_808 : decode cL_law 808 = .ok (.aload_n 1, 1) := by decide +kernel
theorem dL_law_809 : decode cL_law 809 = .ok (.iload 19, 2) := by decide +kernel
theorem dL_law_811 : decode cL_law 811 = .ok (.aload 18, 2) := by decide +kernel
theorem dL_law_813 : decode cL_law 813 = .ok (.iload 19, 2) := by decide +kernel
theorem dL_law_815 : decode cL_law 815 = .ok (.iaload, 1) := by decide +kernel
theorem dL_law_816 : decode cL_law 816 = .ok (.invokevirtual 63, 3) := by decide +kernel
theorem dL_law_819 : decode cL_law 819 = .ok (.bipush 100, 2) := by decide +kernel
theorem dL_law_821 : decode cL_law 821 = .ok (.if_icmp .eq 5, 3) := by decide +kernel
theorem dL_law_824 : decode cL_law 824 = .ok (.iconst 0, 1) := by decide +kernel
theorem dL_law_825 : decode cL_law 825 = .ok (.ireturn, 1) := by decide +kernel
theorem dL_law_826 : decode cL_law 826 = .ok (.iinc 19 1, 3) := by decide +kernel
theorem dL_law_829 : decode cL_law 829 = .ok (.goto (-45), 3) := by decide +kernel
theorem dL_law_832 : decode cL_law 832 = .ok (.iload 17, 2) := by decide +kernel
theorem dL_law_834 : decode cL_law 834 = .ok (.i2l, 1) := by decide +kernel
theorem dL_law_835 : decode cL_law 835 = .ok (.lstore 19, 2) := by decide +kernel
theorem dL_law_837 : decode cL_law 837 = .ok (.iconst 0, 1) := by decide +kernel
theorem dL_law_838 : decode cL_law 838 = .ok (.istore 21, 2) := by decide +kernel
theorem dL_law_840 : decode cL_law 840 = .ok (.iload 21, 2) := by decide +kernel
theorem dL_law_842 : decode cL_law 842 = .ok (.bipush 6, 2) := by decide +kernel
theorem dL_law_844 : decode cL_law 844 = .ok (.if_icmp .ge 275, 3) := by decide +kernel
theorem dL_law_847 : decode cL_law 847 = .ok (.iconst 1, 1) := by decide +kernel
theorem dL_law_848 : decode cL_law 848 = .ok (.aload_n 0, 1) := by decide +kernel
theorem dL_law_849 : decode cL_law 849 = .ok (.iconst 2, 1) := by decide +kernel
theorem dL_law_850 : decode cL_law 850 = .ok (.iload 21, 2) := by decide +kernel
theorem dL_law_852 : decode cL_law 852 = .ok (.imul, 1) := by decide +kernel
theorem dL_law_853 : decode cL_law 853 = .ok (.sipush 190, 3) := by decide +kernel
theorem dL_law_856 : decode cL_law 856 = .ok (.iadd, 1) := by decide +kernel
theorem dL_law_857 : decode cL_law 857 = .ok (.bipush 100, 2) := by decide +kernel
theorem dL_law_859 : decode cL_law 859 = .ok (.invokestatic 14, 3) := by decide +kernel
theorem dL_law_862 : decode cL_law 862 = .ok (.iadd, 1) := by decide +kernel
theorem dL_law_863 : decode cL_law 863 = .ok (.istore 22, 2) := by decide +kernel
theorem dL_law_865 : decode cL_law 865 = .ok (.aload_n 0, 1) := by decide +kernel
theorem dL_law_866 : decode cL_law 866 = .ok (.iconst 2, 1) := by decide +kernel
theorem dL_law_867 : decode cL_law 867 = .ok (.iload 21, 2) := by decide +kernel
theorem dL_law_869 : decode cL_law 869 = .ok (.imul, 1) := by decide +kernel
theorem dL_law_870 : decode cL_law 870 = .ok (.sipush 191, 3) := by decide +kernel
theorem dL_law_873 : decode cL_law 873 = .ok (.iadd, 1) := by decide +kernel
theorem dL_law_874 : decode cL_law 874 = .ok (.iload_n 3, 1) := by decide +kernel
theorem dL_law_875 : decode cL_law 875 = .ok (.invokestatic 14, 3) := by decide +kernel
theorem dL_law_878 : decode cL_law 878 = .ok (.istore 23, 2) := by decide +kernel
theorem dL_law_880 : decode cL_law 880 = .ok (.iconst 0, 1) := by decide +kernel
theorem dL_law_881 : decode cL_law 881 = .ok (.istore 24, 2) := by decide +kernel
theorem dL_law_883 : decode cL_law 883 = .ok (.iconst 0, 1) := by decide +kernel
theorem dL_law_884 : decode cL_law 884 = .ok (.istore 25, 2) := by decide +kernel
theorem dL_law_886 : decode cL_law 886 = .ok (.iconst 0, 1) := by decide +kernel
theorem dL_law_887 : decode cL_law 887 = .ok (.istore 26, 2) := by decide +kernel
theorem dL_law_889 : decode cL_law 889 = .ok (.iload 26, 2) := by decide +kernel
theorem dL_law_891 : decode cL_law 891 = .ok (.iconst 4, 1) := by decide +kernel
theorem dL_law_892 : decode cL_law 892 = .ok (.if_icmp .ge 93, 3) := by decide +kernel
theorem dL_law_895 : decode cL_law 895 = .ok (.aload 18, 2) := by decide +kernel
theorem dL_law_897 : decode cL_law 897 = .ok (.iload 26, 2) := by decide +kernel
theorem dL_law_899 : decode cL_law 899 = .ok (.iaload, 1) := by decide +kernel
theorem dL_law_900 : decode cL_law 900 = .ok (.iload 22, 2) := by decide +kernel
theorem dL_law_902 : decode cL_law 902 = .ok (.if_icmp .lt 7, 3) := by decide +kernel
theorem dL_law_905 : decode cL_law 905 = .ok (.iconst 1, 1) := by decide +kernel
theorem dL_law_906 : decode cL_law 906 = .ok (.goto 4, 3) := by decide +kernel
theorem dL_law_909 : decode cL_law 909 = .ok (.iconst 0, 1) := by decide +kernel
theorem dL_law_910 : decode cL_law 910 = .ok (.istore 27, 2) := by decide +kernel
theorem dL_law_912 : decode cL_law 912 = .ok (.iload 24, 2) := by decide +kernel
theorem dL_law_914 : decode cL_law 914 = .ok (.iload 27, 2) := by decide +kernel
theorem dL_law_916 : decode cL_law 916 = .ok (.ifCond .eq 7, 3) := by decide +kernel
theorem dL_law_919 : decode cL_law 919 = .ok (.iconst 1, 1) := by decide +kernel
theorem dL_law_920 : decode cL_law 920 = .ok (.goto 4, 3) := by decide +kernel
theorem dL_law_923 : decode cL_law 923 = .ok (.iconst 0, 1) := by decide +kernel
theorem dL_law_924 : decode cL_law 924 = .ok (.iadd, 1) := by decide +kernel
theorem dL_law_925 : decode cL_law 925 = .ok (.istore 24, 2) := by decide +kernel
theorem dL_law_927 : decode cL_law 927 = .ok (.aload 13, 2) := by decide +kernel
theorem dL_law_929 : decode cL_law 929 = .ok (.bipush 8, 2) := by decide +kernel
theorem dL_law_931 : decode cL_law 931 = .ok (.iload 26, 2) := by decide +kernel
theorem dL_law_933 : decode cL_law 933 = .ok (.imul, 1) := by decide +kernel
theorem dL_law_934 : decode cL_law 934 = .ok (.iload 23, 2) := by decide +kernel
theorem dL_law_936 : decode cL_law 936 = .ok (.iadd, 1) := by decide +kernel
theorem dL_law_937 : decode cL_law 937 = .ok (.iaload, 1) := by decide +kernel
theorem dL_law_938 : decode cL_law 938 = .ok (.sipush 5000, 3) := by decide +kernel
theorem dL_law_941 : decode cL_law 941 = .ok (.if_icmp .le 9, 3) := by decide +kernel
theorem dL_law_944 : decode cL_law 944 = .ok (.sipush 5000, 3) := by decide +kernel
theorem dL_law_947 : decode cL_law 947 = .ok (.goto 14, 3) := by decide +kernel
theorem dL_law_950 : decode cL_law 950 = .ok (.aload 13, 2) := by decide +kernel
theorem dL_law_952 : decode cL_law 952 = .ok (.bipush 8, 2) := by decide +kernel
theorem dL_law_954 : decode cL_law 954 = .ok (.iload 26, 2) := by decide +kernel
theorem dL_law_956 : decode cL_law 956 = .ok (.imul, 1) := by decide +kernel
theorem dL_law_957 : decode cL_law 957 = .ok (.iload 23, 2) := by decide +kernel
theorem dL_law_959 : decode cL_law 959 = .ok (.iadd, 1) := by decide +kernel
theorem dL_law_960 : decode cL_law 960 = .ok (.iaload, 1) := by decide +kernel
theorem dL_law_961 : decode cL_law 961 = .ok (.istore 28, 2) := by decide +kernel
theorem dL_law_963 : decode cL_law 963 = .ok (.iload 25, 2) := by decide +kernel
theorem dL_law_965 : decode cL_law 965 = .ok (.iload 27, 2) := by decide +kernel
theorem dL_law_967 : decode cL_law 967 = .ok (.ifCond .eq 8, 3) := by decide +kernel
theorem dL_law_970 : decode cL_law 970 = .ok (.iload 28, 2) := by decide +kernel
theorem dL_law_972 : decode cL_law 972 = .ok (.goto 4, 3) := by decide +kernel
theorem dL_law_975 : decode cL_law 975 = .ok (.iconst 0, 1) := by decide +kernel
theorem dL_law_976 : decode cL_law 976 = .ok (.iadd, 1) := by decide +kernel
theorem dL_law_977 : decode cL_law 977 = .ok (.istore 25, 2) := by decide +kernel
theorem dL_law_979 : decode cL_law 979 = .ok (.iinc 26 1, 3) := by decide +kernel
theorem dL_law_982 : decode cL_law 982 = .ok (.goto (-93), 3) := by decide +kernel
theorem dL_law_985 : decode cL_law 985 = .ok (.aload_n 1, 1) := by decide +kernel
theorem dL_law_986 : decode cL_law 986 = .ok (.iload 23, 2) := by decide +kernel
theorem dL_law_988 : decode cL_law 988 = .ok (.iload 22, 2) := by decide +kernel
theorem dL_law_990 : decode cL_law 990 = .ok (.iload 12, 2) := by decide +kernel
theorem dL_law_992 : decode cL_law 992 = .ok (.invokevirtual 66, 3) := by decide +kernel
theorem dL_law_995 : decode cL_law 995 = .ok (.istore 26, 2) := by decide +kernel
theorem dL_law_997 : decode cL_law 997 = .ok (.iload 24, 2) := by decide +kernel
theorem dL_law_999 : decode cL_law 999 = .ok (.iconst 2, 1) := by decide +kernel
theorem dL_law_1000 : decode cL_law 1000 = .ok (.if_icmp .ge 12, 3) := by decide +kernel
theorem dL_law_1003 : decode cL_law 1003 = .ok (.iload 26, 2) := by decide +kernel
theorem dL_law_1005 : decode cL_law 1005 = .ok (.ldc 69, 2) := by decide +kernel
theorem dL_law_1007 : decode cL_law 1007 = .ok (.if_icmp .eq 106, 3) := by decide +kernel
theorem dL_law_1010 : decode cL_law 1010 = .ok (.iconst 0, 1) := by decide +kernel
theorem dL_law_1011 : decode cL_law 1011 = .ok (.ireturn, 1) := by decide +kernel
theorem dL_law_1012 : decode cL_law 1012 = .ok (.lload 19, 2) := by decide +kernel
theorem dL_law_1014 : decode cL_law 1014 = .ok (.ldc2_w 70, 3) := by decide +kernel
theorem dL_law_1017 : decode cL_law 1017 = .ok (.lmul, 1) := by decide +kernel
theorem dL_law_1018 : decode cL_law 1018 = .ok (.ldc2_w 72, 3) := by decide +kernel
theorem dL_law_1021 : decode cL_law 1021 = .ok (.lrem, 1) := by decide +kernel
theorem dL_law_1022 : decode cL_law 1022 = .ok (.lstore 19, 2) := by decide +kernel
theorem dL_law_1024 : decode cL_law 1024 = .ok (.lload 19, 2) := by decide +kernel
theorem dL_law_1026 : decode cL_law 1026 = .ok (.ldc2_w 74, 3) := by decide +kernel
theorem dL_law_1029 : decode cL_law 1029 = .ok (.lrem, 1) := by decide +kernel
theorem dL_law_1030 : decode cL_law 1030 = .ok (.l2i, 1) := by decide +kernel
theorem dL_law_1031 : decode cL_law 1031 = .ok (.sipush 1000, 3) := by decide +kernel
theorem dL_law_1034 : decode cL_law 1034 = .ok (.isub, 1) := by decide +kernel
theorem dL_law_1035 : decode cL_law 1035 = .ok (.istore 27, 2) := by decide +kernel
theorem dL_law_1037 : decode cL_law 1037 = .ok (.iload 26, 2) := by decide +kernel
theorem dL_law_1039 : decode cL_law 1039 = .ok (.iload 25, 2) := by decide +kernel
theorem dL_law_1041 : decode cL_law 1041 = .ok (.iload 27, 2) := by decide +kernel
theorem dL_law_1043 : decode cL_law 1043 = .ok (.bipush 100, 2) := by decide +kernel
theorem dL_law_1045 : decode cL_law 1045 = .ok (.imul, 1) := by decide +kernel
theorem dL_law_1046 : decode cL_law 1046 = .ok (.iload 22, 2) := by decide +kernel
theorem dL_law_1048 : decode cL_law 1048 = .ok (.idiv, 1) := by decide +kernel
theorem dL_law_1049 : decode cL_law 1049 = .ok (.iadd, 1) := by decide +kernel
theorem dL_law_1050 : decode cL_law 1050 = .ok (.if_icmp .eq 5, 3) := by decide +kernel
theorem dL_law_1053 : decode cL_law 1053 = .ok (.iconst 0, 1) := by decide +kernel
theorem dL_law_1054 : decode cL_law 1054 = .ok (.ireturn, 1) := by decide +kernel
theorem dL_law_1055 : decode cL_law 1055 = .ok (.iconst 0, 1) := by decide +kernel
theorem dL_law_1056 : decode cL_law 1056 = .ok (.istore 28, 2) := by decide +kernel
theorem dL_law_1058 : decode cL_law 1058 = .ok (.iload 28, 2) := by decide +kernel
theorem dL_law_1060 : decode cL_law 1060 = .ok (.iconst 4, 1) := by decide +kernel
theorem dL_law_1061 : decode cL_law 1061 = .ok (.if_icmp .ge 52, 3) := by decide +kernel
theorem dL_law_1064 : decode cL_law 1064 = .ok (.aload 18, 2) := by decide +kernel
theorem dL_law_1066 : decode cL_law 1066 = .ok (.iload 28, 2) := by decide +kernel
theorem dL_law_1068 : decode cL_law 1068 = .ok (.dup2, 1) := by decide +kernel
theorem dL_law_1069 : decode cL_law 1069 = .ok (.iaload, 1) := by decide +kernel
theorem dL_law_1070 : decode cL_law 1070 = .ok (.aload 18, 2) := by decide +kernel
theorem dL_law_1072 : decode cL_law 1072 = .ok (.iload 28, 2) := by decide +kernel
theorem dL_law_1074 : decode cL_law 1074 = .ok (.iaload, 1) := by decide +kernel
theorem dL_law_1075 : decode cL_law 1075 = .ok (.iload 22, 2) := by decide +kernel
theorem dL_law_1077 : decode cL_law 1077 = .ok (.if_icmp .lt 8, 3) := by decide +kernel
theorem dL_law_1080 : decode cL_law 1080 = .ok (.iload 22, 2) := by decide +kernel
theorem dL_law_1082 : decode cL_law 1082 = .ok (.goto 4, 3) := by decide +kernel
theorem dL_law_1085 : decode cL_law 1085 = .ok (.iconst 0, 1) := by decide +kernel
theorem dL_law_1086 : decode cL_law 1086 = .ok (.isub, 1) := by decide +kernel
theorem dL_law_1087 : decode cL_law 1087 = .ok (.iastore, 1) := by decide +kernel
theorem dL_law_1088 : decode cL_law 1088 = .ok (.aload_n 1, 1) := by decide +kernel
theorem dL_law_1089 : decode cL_law 1089 = .ok (.bipush 30, 2) := by decide +kernel
theorem dL_law_1091 : decode cL_law 1091 = .ok (.iload 28, 2) := by decide +kernel
theorem dL_law_1093 : decode cL_law 1093 = .ok (.iadd, 1) := by decide +kernel
theorem dL_law_1094 : decode cL_law 1094 = .ok (.invokevirtual 8, 3) := by decide +kernel
theorem dL_law_1097 : decode cL_law 1097 = .ok (.aload 18, 2) := by decide +kernel
theorem dL_law_1099 : decode cL_law 1099 = .ok (.iload 28, 2) := by decide +kernel
theorem dL_law_1101 : decode cL_law 1101 = .ok (.iaload, 1) := by decide +kernel
theorem dL_law_1102 : decode cL_law 1102 = .ok (.if_icmp .eq 5, 3) := by decide +kernel
theorem dL_law_1105 : decode cL_law 1105 = .ok (.iconst 0, 1) := by decide +kernel
theorem dL_law_1106 : decode cL_law 1106 = .ok (.ireturn, 1) := by decide +kernel
theorem dL_law_1107 : decode cL_law 1107 = .ok (.iinc 28 1, 3) := by decide +kernel
theorem dL_law_1110 : decode cL_law 1110 = .ok (.goto (-52), 3) := by decide +kernel
theorem dL_law_1113 : decode cL_law 1113 = .ok (.iinc 21 1, 3) := by decide +kernel
theorem dL_law_1116 : decode cL_law 1116 = .ok (.goto (-276), 3) := by decide +kernel
theorem dL_law_1119 : decode cL_law 1119 = .ok (.aload_n 1, 1) := by decide +kernel
theorem dL_law_1120 : decode cL_law 1120 = .ok (.iconst 0, 1) := by decide +kernel
theorem dL_law_1121 : decode cL_law 1121 = .ok (.iload 10, 2) := by decide +kernel
theorem dL_law_1123 : decode cL_law 1123 = .ok (.invokevirtual 76, 3) := by decide +kernel
theorem dL_law_1126 : decode cL_law 1126 = .ok (.iload 5, 2) := by decide +kernel
theorem dL_law_1128 : decode cL_law 1128 = .ok (.iload 11, 2) := by decide +kernel
theorem dL_law_1130 : decode cL_law 1130 = .ok (.isub, 1) := by decide +kernel
theorem dL_law_1131 : decode cL_law 1131 = .ok (.if_icmp .ne 28, 3) := by decide +kernel
theorem dL_law_1134 : decode cL_law 1134 = .ok (.aload_n 1, 1) := by decide +kernel
theorem dL_law_1135 : decode cL_law 1135 = .ok (.bipush 7, 2) := by decide +kernel
theorem dL_law_1137 : decode cL_law 1137 = .ok (.invokevirtual 8, 3) := by decide +kernel
theorem dL_law_1140 : decode cL_law 1140 = .ok (.aload_n 2, 1) := by decide +kernel
theorem dL_law_1141 : decode cL_law 1141 = .ok (.bipush 7, 2) := by decide +kernel
theorem dL_law_1143 : decode cL_law 1143 = .ok (.invokevirtual 8, 3) := by decide +kernel
theorem dL_law_1146 : decode cL_law 1146 = .ok (.if_icmp .ne 13, 3) := by decide +kernel
theorem dL_law_1149 : decode cL_law 1149 = .ok (.aload_n 1, 1) := by decide +kernel
theorem dL_law_1150 : decode cL_law 1150 = .ok (.iconst 0, 1) := by decide +kernel
theorem dL_law_1151 : decode cL_law 1151 = .ok (.iload 10, 2) := by decide +kernel
theorem dL_law_1153 : decode cL_law 1153 = .ok (.invokevirtual 76, 3) := by decide +kernel
theorem dL_law_1156 : decode cL_law 1156 = .ok (.ifCond .eq 5, 3) := by decide +kernel
theorem dL_law_1159 : decode cL_law 1159 = .ok (.iconst 0, 1) := by decide +kernel
theorem dL_law_1160 : decode cL_law 1160 = .ok (.ireturn, 1) := by decide +kernel
theorem dL_law_1161 : decode cL_law 1161 = .ok (.iconst 0, 1) := by decide +kernel
theorem dL_law_1162 : decode cL_law 1162 = .ok (.istore 21, 2) := by decide +kernel
theorem dL_law_1164 : decode cL_law 1164 = .ok (.iload 21, 2) := by decide +kernel
theorem dL_law_1166 : decode cL_law 1166 = .ok (.iconst 4, 1) := by decide +kernel
theorem dL_law_1167 : decode cL_law 1167 = .ok (.if_icmp .ge 49, 3) := by decide +kernel
theorem dL_law_1170 : decode cL_law 1170 = .ok (.iconst 0, 1) := by decide +kernel
theorem dL_law_1171 : decode cL_law 1171 = .ok (.istore 22, 2) := by decide +kernel
theorem dL_law_1173 : decode cL_law 1173 = .ok (.iload 22, 2) := by decide +kernel
theorem dL_law_1175 : decode cL_law 1175 = .ok (.iload_n 3, 1) := by decide +kernel
theorem dL_law_1176 : decode cL_law 1176 = .ok (.if_icmp .ge 34, 3) := by decide +kernel
theorem dL_law_1179 : decode cL_law 1179 = .ok (.aload_n 1, 1) := by decide +kernel
theorem dL_law_1180 : decode cL_law 1180 = .ok (.iload 21, 2) := by decide +kernel
theorem dL_law_1182 : decode cL_law 1182 = .ok (.iload 22, 2) := by decide +kernel
theorem dL_law_1184 : decode cL_law 1184 = .ok (.iload 12, 2) := by decide +kernel
theorem dL_law_1186 : decode cL_law 1186 = .ok (.invokevirtual 42, 3) := by decide +kernel
theorem dL_law_1189 : decode cL_law 1189 = .ok (.aload_n 2, 1) := by decide +kernel
theorem dL_law_1190 : decode cL_law 1190 = .ok (.iload 21, 2) := by decide +kernel
theorem dL_law_1192 : decode cL_law 1192 = .ok (.iload 22, 2) := by decide +kernel
theorem dL_law_1194 : decode cL_law 1194 = .ok (.iload 12, 2) := by decide +kernel
theorem dL_law_1196 : decode cL_law 1196 = .ok (.invokevirtual 42, 3) := by decide +kernel
theorem dL_law_1199 : decode cL_law 1199 = .ok (.if_icmp .eq 5, 3) := by decide +kernel
theorem dL_law_1202 : decode cL_law 1202 = .ok (.iconst 0, 1) := by decide +kernel
theorem dL_law_1203 : decode cL_law 1203 = .ok (.ireturn, 1) := by decide +kernel
theorem dL_law_1204 : decode cL_law 1204 = .ok (.iinc 22 1, 3) := by decide +kernel
theorem dL_law_1207 : decode cL_law 1207 = .ok (.goto (-34), 3) := by decide +kernel
theorem dL_law_1210 : decode cL_law 1210 = .ok (.iinc 21 1, 3) := by decide +kernel
theorem dL_law_1213 : decode cL_law 1213 = .ok (.goto (-49), 3) := by decide +kernel
theorem dL_law_1216 : decode cL_law 1216 = .ok (.aload_n 1, 1) := by decide +kernel
theorem dL_law_1217 : decode cL_law 1217 = .ok (.iconst 1, 1) := by decide +kernel
theorem dL_law_1218 : decode cL_law 1218 = .ok (.iconst (-1), 1) := by decide +kernel
theorem dL_law_1219 : decode cL_law 1219 = .ok (.invokevirtual 76, 3) := by decide +kernel
theorem dL_law_1222 : decode cL_law 1222 = .ok (.aload_n 2, 1) := by decide +kernel
theorem dL_law_1223 : decode cL_law 1223 = .ok (.iconst 1, 1) := by decide +kernel
theorem dL_law_1224 : decode cL_law 1224 = .ok (.iconst (-1), 1) := by decide +kernel
theorem dL_law_1225 : decode cL_law 1225 = .ok (.invokevirtual 76, 3) := by decide +kernel
theorem dL_law_1228 : decode cL_law 1228 = .ok (.if_icmp .ne 7, 3) := by decide +kernel
theorem dL_law_1231 : decode cL_law 1231 = .ok (.iconst 1, 1) := by decide +kernel
theorem dL_law_1232 : decode cL_law 1232 = .ok (.goto 4, 3) := by decide +kernel
theorem dL_law_1235 : decode cL_law 1235 = .ok (.iconst 0, 1) := by decide +kernel
theorem dL_law_1236 : decode cL_law 1236 = .ok (.ireturn, 1) := by decide +kernel
