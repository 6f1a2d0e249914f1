theorem dL_fractions_299 : decode cL_fractions 299 = .ok (.lconst 1, 1) := by decide +kernel
theorem dL_fractions_300 : decode cL_fractions 300 = .ok (.invokestatic 201, 3) := by decide +kernel
theorem dL_fractions_303 : decode cL_fractions 303 = .ok (.ifCond .eq 62, 3) := by decide +kernel
theorem dL_fractions_306 : decode cL_fractions 306 = .ok (.aload_n 0, 1) := by decide +kernel
theorem dL_fractions_307 : decode cL_fractions 307 = .ok (.iconst (-1), 1) := by decide +kernel
theorem dL_fractions_308 : decode cL_fractions 308 = .ok (.iconst 3, 1) := by decide +kernel
theorem dL_fractions_309 : decode cL_fractions 309 = .ok (.iconst (-1), 1) := by decide +kernel
theorem dL_fractions_310 : decode cL_fractions 310 = .ok (.iconst 2, 1) := by decide +kernel
theorem dL_fractions_311 : decode cL_fractions 311 = .ok (.ldc2_w 190, 3) := by decide +kernel
theorem dL_fractions_314 : decode cL_fractions 314 = .ok (.ldc2_w 204, 3) := by decide +kernel
theorem dL_fractions_317 : decode cL_fractions 317 = .ok (.invokestatic 201, 3) := by decide +kernel
theorem dL_fractions_320 : decode cL_fractions 320 = .ok (.ifCond .eq 45, 3) := by decide +kernel
theorem dL_fractions_323 : decode cL_fractions 323 = .ok (.aload_n 0, 1) := by decide +kernel
theorem dL_fractions_324 : decode cL_fractions 324 = .ok (.bipush 7, 2) := by decide +kernel
theorem dL_fractions_326 : decode cL_fractions 326 = .ok (.bipush 10, 2) := by decide +kernel
theorem dL_fractions_328 : decode cL_fractions 328 = .ok (.iconst 5, 1) := by decide +kernel
theorem dL_fractions_329 : decode cL_fractions 329 = .ok (.bipush 7, 2) := by decide +kernel
theorem dL_fractions_331 : decode cL_fractions 331 = .ok (.ldc2_w 218, 3) := by decide +kernel
theorem dL_fractions_334 : decode cL_fractions 334 = .ok (.ldc2_w 220, 3) := by decide +kernel
theorem dL_fractions_337 : decode cL_fractions 337 = .ok (.invokestatic 201, 3) := by decide +kernel
theorem dL_fractions_340 : decode cL_fractions 340 = .ok (.ifCond .eq 25, 3) := by decide +kernel
theorem dL_fractions_343 : decode cL_fractions 343 = .ok (.aload_n 0, 1) := by decide +kernel
theorem dL_fractions_344 : decode cL_fractions 344 = .ok (.iconst (-1), 1) := by decide +kernel
theorem dL_fractions_345 : decode cL_fractions 345 = .ok (.ldc 164, 2) := by decide +kernel
theorem dL_fractions_347 : decode cL_fractions 347 = .ok (.iconst 0, 1) := by decide +kernel
theorem dL_fractions_348 : decode cL_fractions 348 = .ok (.iconst 1, 1) := by decide +kernel
theorem dL_fractions_349 : decode cL_fractions 349 = .ok (.ldc2_w 166, 3) := by decide +kernel
theorem dL_fractions_352 : decode cL_fractions 352 = .ok (.ldc2_w 214, 3) := by decide +kernel
theorem dL_fractions_355 : decode cL_fractions 355 = .ok (.invokestatic 201, 3) := by decide +kernel
theorem dL_fractions_358 : decode cL_fractions 358 = .ok (.ifCond .eq 7, 3) := by decide +kernel
theorem dL_fractions_361 : decode cL_fractions 361 = .ok (.iconst 1, 1) := by decide +kernel
theorem dL_fractions_362 : decode cL_fractions 362 = .ok (.goto 4, 3) := by decide +kernel
theorem dL_fractions_365 : decode cL_fractions 365 = .ok (.iconst 0, 1) := by decide +kernel
theorem dL_fractions_366 : decode cL_fractions 366 = .ok (.ireturn, 1) := by decide +kernel
theorem dL_word_0 : decode cL_word 0 = .ok (.aload_n 0, 1) := by decide +kernel
theorem dL_word_1 : decode cL_word 1 = .ok (.iconst 0, 1) := by decide +kernel
theorem dL_word_2 : decode cL_word 2 = .ok (.invokevirtual 80, 3) := by decide +kernel
theorem dL_word_5 : decode cL_word 5 = .ok (.iload_n 1, 1) := by decide +kernel
theorem dL_word_6 : decode cL_word 6 = .ok (.if_icmp .ne 45, 3) := by decide +kernel
theorem dL_word_9 : decode cL_word 9 = .ok (.aload_n 0, 1) := by decide +kernel
theorem dL_word_10 : decode cL_word 10 = .ok (.iconst 1, 1) := by decide +kernel
theorem dL_word_11 : decode cL_word 11 = .ok (.invokevirtual 80, 3) := by decide +kernel
theorem dL_word_14 : decode cL_word 14 = .ok (.iload_n 2, 1) := by decide +kernel
theorem dL_word_15 : decode cL_word 15 = .ok (.if_icmp .ne 36, 3) := by decide +kernel
theorem dL_word_18 : decode cL_word 18 = .ok (.aload_n 0, 1) := by decide +kernel
theorem dL_word_19 : decode cL_word 19 = .ok (.iconst 2, 1) := by decide +kernel
theorem dL_word_20 : decode cL_word 20 = .ok (.invokevirtual 80, 3) := by decide +kernel
theorem dL_word_23 : decode cL_word 23 = .ok (.iload_n 3, 1) := by decide +kernel
theorem dL_word_24 : decode cL_word 24 = .ok (.if_icmp .ne 27, 3) := by decide +kernel
theorem dL_word_27 : decode cL_word 27 = .ok (.aload_n 0, 1) := by decide +kernel
theorem dL_word_28 : decode cL_word 28 = .ok (.iconst 3, 1) := by decide +kernel
theorem dL_word_29 : decode cL_word 29 = .ok (.invokevirtual 80, 3) := by decide +kernel
theorem dL_word_32 : decode cL_word 32 = .ok (.iload 4, 2) := by decide +kernel
theorem dL_word_34 : decode cL_word 34 = .ok (.if_icmp .ne 17, 3) := by decide +kernel
theorem dL_word_37 : decode cL_word 37 = .ok (.aload_n 0, 1) := by decide +kernel
theorem dL_word_38 : decode cL_word 38 = .ok (.iconst 4, 1) := by decide +kernel
theorem dL_word_39 : decode cL_word 39 = .ok (.invokevirtual 80, 3) := by decide +kernel
theorem dL_word_42 : decode cL_word 42 = .ok (.iload 5, 2) := by decide +kernel
theorem dL_word_44 : decode cL_word 44 = .ok (.if_icmp .ne 7, 3) := by decide +kernel
theorem dL_word_47 : decode cL_word 47 = .ok (.iconst 1, 1) := by decide +kernel
theorem dL_word_48 : decode cL_word 48 = .ok (.goto 4, 3) := by decide +kernel
theorem dL_word_51 : decode cL_word 51 = .ok (.iconst 0, 1) := by decide +kernel
theorem dL_word_52 : decode cL_word 52 = .ok (.ireturn, 1) := by decide +kernel
theorem dL_image_0 : decode cL_image 0 = .ok (.aload_n 0, 1) := by decide +kernel
theorem dL_image_1 : decode cL_image 1 = .ok (.iload_n 1, 1) := by decide +kernel
theorem dL_image_2 : decode cL_image 2 = .ok (.iload_n 2, 1) := by decide +kernel
theorem dL_image_3 : decode cL_image 3 = .ok (.iconst 1, 1) := by decide +kernel
theorem dL_image_4 : decode cL_image 4 = .ok (.invokevirtual 83, 3) := by decide +kernel
theorem dL_image_7 : decode cL_image 7 = .ok (.lload_n 3, 1) := by decide +kernel
theorem dL_image_8 : decode cL_image 8 = .ok (.lcmp, 1) := by decide +kernel
theorem dL_image_9 : decode cL_image 9 = .ok (.ifCond .ne 20, 3) := by decide +kernel
theorem dL_image_12 : decode cL_image 12 = .ok (.aload_n 0, 1) := by decide +kernel
theorem dL_image_13 : decode cL_image 13 = .ok (.iload_n 1, 1) := by decide +kernel
theorem dL_image_14 : decode cL_image 14 = .ok (.iload_n 2, 1) := by decide +kernel
theorem dL_image_15 : decode cL_image 15 = .ok (.iconst 0, 1) := by decide +kernel
theorem dL_image_16 : decode cL_image 16 = .ok (.invokevirtual 83, 3) := by decide +kernel
theorem dL_image_19 : decode cL_image 19 = .ok (.lload 5, 2) := by decide +kernel
theorem dL_image_21 : decode cL_image 21 = .ok (.lcmp, 1) := by decide +kernel
theorem dL_image_22 : decode cL_image 22 = .ok (.ifCond .ne 7, 3) := by decide +kernel
theorem dL_image_25 : decode cL_image 25 = .ok (.iconst 1, 1) := by decide +kernel
theorem dL_image_26 : decode cL_image 26 = .ok (.goto 4, 3) := by decide +kernel
theorem dL_image_29 : decode cL_image 29 = .ok (.iconst 0, 1) := by decide +kernel
theorem dL_image_30 : decode cL_image 30 = .ok (.ireturn, 1) := by decide +kernel
theorem dL_words_0 : decode cL_words 0 = .ok (.new 8, 3) := by decide +kernel
theorem dL_words_3 : decode cL_words 3 = .ok (.dup, 1) := by decide +kernel
theorem dL_words_4 : decode cL_words 4 = .ok (.invokespecial 126, 3) := by decide +kernel
theorem dL_words_7 : decode cL_words 7 = .ok (.astore_n 0, 1) := by decide +kernel
theorem dL_words_8 : decode cL_words 8 = .ok (.aload_n 0, 1) := by decide +kernel
theorem dL_words_9 : decode cL_words 9 = .ok (.iconst 1, 1) := by decide +kernel
theorem dL_words_10 : decode cL_words 10 = .ok (.iconst 0, 1) := by decide +kernel
theorem dL_words_11 : decode cL_words 11 = .ok (.iconst 0, 1) := by decide +kernel
theorem dL_words_12 : decode cL_words 12 = .ok (.iconst 1, 1) := by decide +kernel
theorem dL_words_13 : decode cL_words 13 = .ok (.iconst 0, 1) := by decide +kernel
theorem dL_words_14 : decode cL_words 14 = .ok (.invokestatic 222, 3) := by decide +kernel
theorem dL_words_17 : decode cL_words 17 = .ok (.ifCond .eq 247, 3) := by decide +kernel
theorem dL_words_20 : decode cL_words 20 = .ok (.aload_n 0, 1) := by decide +kernel
theorem dL_words_21 : decode cL_words 21 = .ok (.bipush (-7), 2) := by decide +kernel
theorem dL_words_23 : decode cL_words 23 = .ok (.iconst 3, 1) := by decide +kernel
theorem dL_words_24 : decode cL_words 24 = .ok (.ldc2_w 224, 3) := by decide +kernel
theorem dL_words_27 : decode cL_words 27 = .ok (.ldc2_w 170, 3) := by decide +kernel
theorem dL_words_30 : decode cL_words 30 = .ok (.invokestatic 226, 3) := by decide +kernel
theorem dL_words_33 : decode cL_words 33 = .ok (.ifCond .eq 231, 3) := by decide +kernel
theorem dL_words_36 : decode cL_words 36 = .ok (.aload_n 0, 1) := by decide +kernel
theorem dL_words_37 : decode cL_words 37 = .ok (.iconst 1, 1) := by decide +kernel
theorem dL_words_38 : decode cL_words 38 = .ok (.iconst 0, 1) := by decide +kernel
theorem dL_words_39 : decode cL_words 39 = .ok (.lconst 1, 1) := by decide +kernel
theorem dL_words_40 : decode cL_words 40 = .ok (.lconst 0, 1) := by decide +kernel
theorem dL_words_41 : decode cL_words 41 = .ok (.invokestatic 226, 3) := by decide +kernel
theorem dL_words_44 : decode cL_words 44 = .ok (.ifCond .eq 220, 3) := by decide +kernel
theorem dL_words_47 : decode cL_words 47 = .ok (.aload_n 0, 1) := by decide +kernel
theorem dL_words_48 : decode cL_words 48 = .ok (.iconst 1, 1) := by decide +kernel
theorem dL_words_49 : decode cL_words 49 = .ok (.iconst 2, 1) := by decide +kernel
theorem dL_words_50 : decode cL_words 50 = .ok (.iconst 0, 1) := by decide +kernel
theorem dL_words_51 : decode cL_words 51 = .ok (.iconst 1, 1) := by decide +kernel
theorem dL_words_52 : decode cL_words 52 = .ok (.invokevirtual 73, 3) := by decide +kernel
theorem dL_words_55 : decode cL_words 55 = .ok (.ifCond .ne 209, 3) := by decide +kernel
theorem dL_words_58 : decode cL_words 58 = .ok (.aload_n 0, 1) := by decide +kernel
theorem dL_words_59 : decode cL_words 59 = .ok (.iconst 1, 1) := by decide +kernel
theorem dL_words_60 : decode cL_words 60 = .ok (.iconst 0, 1) := by decide +kernel
theorem dL_words_61 : decode cL_words 61 = .ok (.iconst 2, 1) := by decide +kernel
theorem dL_words_62 : decode cL_words 62 = .ok (.iconst 1, 1) := by decide +kernel
theorem dL_words_63 : decode cL_words 63 = .ok (.invokevirtual 73, 3) := by decide +kernel
theorem dL_words_66 : decode cL_words 66 = .ok (.iconst 1, 1) := by decide +kernel
theorem dL_words_67 : decode cL_words 67 = .ok (.if_icmp .ne 197, 3) := by decide +kernel
theorem dL_words_70 : decode cL_words 70 = .ok (.aload_n 0, 1) := by decide +kernel
theorem dL_words_71 : decode cL_words 71 = .ok (.iconst 0, 1) := by decide +kernel
theorem dL_words_72 : decode cL_words 72 = .ok (.iconst 0, 1) := by decide +kernel
theorem dL_words_73 : decode cL_words 73 = .ok (.invokevirtual 76, 3) := by decide +kernel
theorem dL_words_76 : decode cL_words 76 = .ok (.iconst 2, 1) := by decide +kernel
theorem dL_words_77 : decode cL_words 77 = .ok (.if_icmp .ne 187, 3) := by decide +kernel
theorem dL_words_80 : decode cL_words 80 = .ok (.aload_n 0, 1) := by decide +kernel
theorem dL_words_81 : decode cL_words 81 = .ok (.iconst 1, 1) := by decide +kernel
theorem dL_words_82 : decode cL_words 82 = .ok (.iconst 2, 1) := by decide +kernel
theorem dL_words_83 : decode cL_words 83 = .ok (.iconst 0, 1) := by decide +kernel
theorem dL_words_84 : decode cL_words 84 = .ok (.iconst 1, 1) := by decide +kernel
theorem dL_words_85 : decode cL_words 85 = .ok (.iconst 2, 1) := by decide +kernel
theorem dL_words_86 : decode cL_words 86 = .ok (.invokestatic 222, 3) := by decide +kernel
theorem dL_words_89 : decode cL_words 89 = .ok (.ifCond .eq 175, 3) := by decide +kernel
theorem dL_words_92 : decode cL_words 92 = .ok (.aload_n 0, 1) := by decide +kernel
theorem dL_words_93 : decode cL_words 93 = .ok (.iconst 1, 1) := by decide +kernel
theorem dL_words_94 : decode cL_words 94 = .ok (.iconst 0, 1) := by decide +kernel
theorem dL_words_95 : decode cL_words 95 = .ok (.lconst 1, 1) := by decide +kernel
theorem dL_words_96 : decode cL_words 96 = .ok (.lconst 0, 1) := by decide +kernel
theorem dL_words_97 : decode cL_words 97 = .ok (.invokestatic 226, 3) := by decide +kernel
theorem dL_words_100 : decode cL_words 100 = .ok (.ifCond .eq 164, 3) := by decide +kernel
theorem dL_words_103 : decode cL_words 103 = .ok (.aload_n 0, 1) := by decide +kernel
theorem dL_words_104 : decode cL_words 104 = .ok (.bipush (-5), 2) := by decide +kernel
theorem dL_words_106 : decode cL_words 106 = .ok (.iconst 2, 1) := by decide +kernel
theorem dL_words_107 : decode cL_words 107 = .ok (.ldc2_w 166, 3) := by decide +kernel
theorem dL_words_110 : decode cL_words 110 = .ok (.ldc2_w 168, 3) := by decide +kernel
theorem dL_words_113 : decode cL_words 113 = .ok (.invokestatic 226, 3) := by decide +kernel
theorem dL_words_116 : decode cL_words 116 = .ok (.ifCond .eq 148, 3) := by decide +kernel
theorem dL_words_119 : decode cL_words 119 = .ok (.aload_n 0, 1) := by decide +kernel
theorem dL_words_120 : decode cL_words 120 = .ok (.iconst 1, 1) := by decide +kernel
theorem dL_words_121 : decode cL_words 121 = .ok (.iconst 0, 1) := by decide +kernel
theorem dL_words_122 : decode cL_words 122 = .ok (.invokevirtual 76, 3) := by decide +kernel
theorem dL_words_125 : decode cL_words 125 = .ok (.bipush 6, 2) := by decide +kernel
theorem dL_words_127 : decode cL_words 127 = .ok (.if_icmp .ne 137, 3) := by decide +kernel
theorem dL_words_130 : decode cL_words 130 = .ok (.aload_n 0, 1) := by decide +kernel
theorem dL_words_131 : decode cL_words 131 = .ok (.iconst 5, 1) := by decide +kernel
theorem dL_words_132 : decode cL_words 132 = .ok (.iconst 2, 1) := by decide +kernel
theorem dL_words_133 : decode cL_words 133 = .ok (.iconst 2, 1) := by decide +kernel
theorem dL_words_134 : decode cL_words 134 = .ok (.iconst 1, 1) := by decide +kernel
theorem dL_words_135 : decode cL_words 135 = .ok (.iconst 3, 1) := by decide +kernel
theorem dL_words_136 : decode cL_words 136 = .ok (.invokestatic 222, 3) := by decide +kernel
theorem dL_words_139 : decode cL_words 139 = .ok (.ifCond .eq 125, 3) := by decide +kernel
theorem dL_words_142 : decode cL_words 142 = .ok (.aload_n 0, 1) := by decide +kernel
theorem dL_words_143 : decode cL_words 143 = .ok (.iconst 0, 1) := by decide +kernel
theorem dL_words_144 : decode cL_words 144 = .ok (.iconst 1, 1) := by decide +kernel
theorem dL_words_145 : decode cL_words 145 = .ok (.ldc2_w 168, 3) := by decide +kernel
theorem dL_words_148 : decode cL_words 148 = .ok (.lconst 1, 1) := by decide +kernel
theorem dL_words_149 : decode cL_words 149 = .ok (.invokestatic 226, 3) := by decide +kernel
theorem dL_words_152 : decode cL_words 152 = .ok (.ifCond .eq 112, 3) := by decide +kernel
theorem dL_words_155 : decode cL_words 155 = .ok (.aload_n 0, 1) := by decide +kernel
theorem dL_words_156 : decode cL_words 156 = .ok (.iconst 1, 1) := by decide +kernel
theorem dL_words_157 : decode cL_words 157 = .ok (.iconst 0, 1) := by decide +kernel
theorem dL_words_158 : decode cL_words 158 = .ok (.ldc2_w 204, 3) := by decide +kernel
theorem dL_words_161 : decode cL_words 161 = .ok (.ldc2_w 168, 3) := by decide +kernel
theorem dL_words_164 : decode cL_words 164 = .ok (.invokestatic 226, 3) := by decide +kernel
theorem dL_words_167 : decode cL_words 167 = .ok (.ifCond .eq 97, 3) := by decide +kernel
theorem dL_words_170 : decode cL_words 170 = .ok (.aload_n 0, 1) := by decide +kernel
theorem dL_words_171 : decode cL_words 171 = .ok (.iconst (-1), 1) := by decide +kernel
theorem dL_words_172 : decode cL_words 172 = .ok (.iconst 2, 1) := by decide +kernel
theorem dL_words_173 : decode cL_words 173 = .ok (.lconst 1, 1) := by decide +kernel
theorem dL_words_174 : decode cL_words 174 = .ok (.lconst 0, 1) := by decide +kernel
theorem dL_words_175 : decode cL_words 175 = .ok (.invokestatic 226, 3) := by decide +kernel
theorem dL_words_178 : decode cL_words 178 = .ok (.ifCond .eq 86, 3) := by decide +kernel
theorem dL_words_181 : decode cL_words 181 = .ok (.aload_n 0, 1) := by decide +kernel
theorem dL_words_182 : decode cL_words 182 = .ok (.iconst (-1), 1) := by decide +kernel
theorem dL_words_183 : decode cL_words 183 = .ok (.iconst 3, 1) := by decide +kernel
theorem dL_words_184 : decode cL_words 184 = .ok (.lconst 1, 1) := by decide +kernel
theorem dL_words_185 : decode cL_words 185 = .ok (.lconst 1, 1) := by decide +kernel
theorem dL_words_186 : decode cL_words 186 = .ok (.invokestatic 226, 3) := by decide +kernel
theorem dL_words_189 : decode cL_words 189 = .ok (.ifCond .eq 75, 3) := by decide +kernel
theorem dL_words_192 : decode cL_words 192 = .ok (.aload_n 0, 1) := by decide +kernel
theorem dL_words_193 : decode cL_words 193 = .ok (.iconst (-1), 1) := by decide +kernel
theorem dL_words_194 : decode cL_words 194 = .ok (.iconst 1, 1) := by decide +kernel
theorem dL_words_195 : decode cL_words 195 = .ok (.ldc2_w 170, 3) := by decide +kernel
theorem dL_words_198 : decode cL_words 198 = .ok (.lconst 1, 1) := by decide +kernel
theorem dL_words_199 : decode cL_words 199 = .ok (.invokestatic 226, 3) := by decide +kernel
theorem dL_words_202 : decode cL_words 202 = .ok (.ifCond .eq 62, 3) := by decide +kernel
theorem dL_words_205 : decode cL_words 205 = .ok (.aload_n 0, 1) := by decide +kernel
theorem dL_words_206 : decode cL_words 206 = .ok (.ldc 164, 2) := by decide +kernel
theorem dL_words_208 : decode cL_words 208 = .ok (.ldc 200, 2) := by decide +kernel
theorem dL_words_210 : decode cL_words 210 = .ok (.ldc2_w 229, 3) := by decide +kernel
theorem dL_words_213 : decode cL_words 213 = .ok (.ldc2_w 231, 3) := by decide +kernel
theorem dL_words_216 : decode cL_words 216 = .ok (.invokestatic 226, 3) := by decide +kernel
theorem dL_words_219 : decode cL_words 219 = .ok (.ifCond .eq 45, 3) := by decide +kernel
theorem dL_words_222 : decode cL_words 222 = .ok (.aload_n 0, 1) := by decide +kernel
theorem dL_words_223 : decode cL_words 223 = .ok (.iconst 1, 1) := by decide +kernel
theorem dL_words_224 : decode cL_words 224 = .ok (.iconst 1, 1) := by decide +kernel
theorem dL_words_225 : decode cL_words 225 = .ok (.invokevirtual 76, 3) := by decide +kernel
theorem dL_words_228 : decode cL_words 228 = .ok (.iconst 2, 1) := by decide +kernel
theorem dL_words_229 : decode cL_words 229 = .ok (.if_icmp .ne 35, 3) := by decide +kernel
theorem dL_words_232 : decode cL_words 232 = .ok (.aload_n 0, 1) := by decide +kernel
theorem dL_words_233 : decode cL_words 233 = .ok (.iconst 1, 1) := by decide +kernel
theorem dL_words_234 : decode cL_words 234 = .ok (.iconst 2, 1) := by decide +kernel
theorem dL_words_235 : decode cL_words 235 = .ok (.iconst 0, 1) := by decide +kernel
theorem dL_words_236 : decode cL_words 236 = .ok (.iconst 1, 1) := by decide +kernel
theorem dL_words_237 : decode cL_words 237 = .ok (.iconst 2, 1) := by decide +kernel
theorem dL_words_238 : decode cL_words 238 = .ok (.invokestatic 222, 3) := by decide +kernel
theorem dL_words_241 : decode cL_words 241 = .ok (.ifCond .eq 23, 3) := by decide +kernel
theorem dL_words_244 : decode cL_words 244 = .ok (.aload_n 0, 1) := by decide +kernel
theorem dL_words_245 : decode cL_words 245 = .ok (.invokevirtual 233, 3) := by decide +kernel
theorem dL_words_248 : decode cL_words 248 = .ok (.iconst 2, 1) := by decide +kernel
theorem dL_words_249 : decode cL_words 249 = .ok (.if_icmp .ne 15, 3) := by decide +kernel
theorem dL_words_252 : decode cL_words 252 = .ok (.aload_n 0, 1) := by decide +kernel
theorem dL_words_253 : decode cL_words 253 = .ok (.iconst 1, 1) := by decide +kernel
theorem dL_words_254 : decode cL_words 254 = .ok (.iconst 0, 1) := by decide +kernel
theorem dL_words_255 : decode cL_words 255 = .ok (.iconst 0, 1) := by decide +kernel
theorem dL_words_256 : decode cL_words 256 = .ok (.iconst 1, 1) := by decide +kernel
theorem dL_words_257 : decode cL_words 257 = .ok (.iconst 0, 1) := by decide +kernel
theorem dL_words_258 : decode cL_words 258 = .ok (.invokestatic 222, 3) := by decide +kernel
theorem dL_words_261 : decode cL_words 261 = .ok (.ifCond .ne 5, 3) := by decide +kernel
theorem dL_words_264 : decode cL_words 264 = .ok (.iconst 0, 1) := by decide +kernel
theorem dL_words_265 : decode cL_words 265 = .ok (.ireturn, 1) := by decide +kernel
theorem dL_words_266 : decode cL_words 266 = .ok (.aload_n 0, 1) := by decide +kernel
theorem dL_words_267 : decode cL_words 267 = .ok (.iconst 0, 1) := by decide +kernel
theorem dL_words_268 : decode cL_words 268 = .ok (.iconst (-1), 1) := by decide +kernel
theorem dL_words_269 : decode cL_words 269 = .ok (.iconst 1, 1) := by decide +kernel
theorem dL_words_270 : decode cL_words 270 = .ok (.iconst 0, 1) := by decide +kernel
theorem dL_words_271 : decode cL_words 271 = .ok (.invokevirtual 73, 3) := by decide +kernel
theorem dL_words_274 : decode cL_words 274 = .ok (.iconst 2, 1) := by decide +kernel
theorem dL_words_275 : decode cL_words 275 = .ok (.if_icmp .ne 213, 3) := by decide +kernel
theorem dL_words_278 : decode cL_words 278 = .ok (.aload_n 0, 1) := by decide +kernel
theorem dL_words_279 : decode cL_words 279 = .ok (.iconst 2, 1) := by decide +kernel
theorem dL_words_280 : decode cL_words 280 = .ok (.iconst 0, 1) := by decide +kernel
theorem dL_words_281 : decode cL_words 281 = .ok (.invokevirtual 76, 3) := by decide +kernel
theorem dL_words_284 : decode cL_words 284 = .ok (.ifCond .ne 204, 3) := by decide +kernel
theorem dL_words_287 : decode cL_words 287 = .ok (.aload_n 0, 1) := by decide +kernel
theorem dL_words_288 : decode cL_words 288 = .ok (.iconst 0, 1) := by decide +kernel
theorem dL_words_289 : decode cL_words 289 = .ok (.iconst (-1), 1) := by decide +kernel
theorem dL_words_290 : decode cL_words 290 = .ok (.iconst 1, 1) := by decide +kernel
theorem dL_words_291 : decode cL_words 291 = .ok (.iconst 0, 1) := by decide +kernel
theorem dL_words_292 : decode cL_words 292 = .ok (.iconst 1, 1) := by decide +kernel
theorem dL_words_293 : decode cL_words 293 = .ok (.invokestatic 222, 3) := by decide +kernel
theorem dL_words_296 : decode cL_words 296 = .ok (.ifCond .eq 192, 3) := by decide +kernel
theorem dL_words_299 : decode cL_words 299 = .ok (.aload_n 0, 1) := by decide +kernel
theorem dL_words_300 : decode cL_words 300 = .ok (.iconst 1, 1) := by decide +kernel
theorem dL_words_301 : decode cL_words 301 = .ok (.iconst 2, 1) := by decide +kernel
theorem dL_words_302 : decode cL_words 302 = .ok (.ldc2_w 190, 3) := by decide +kernel
theorem dL_words_305 : decode cL_words 305 = .ok (.lconst 1, 1) := by decide +kernel
theorem dL_words_306 : decode cL_words 306 = .ok (.invokestatic 226, 3) := by decide +kernel
theorem dL_words_309 : decode cL_words 309 = .ok (.ifCond .eq 179, 3) := by decide +kernel
theorem dL_words_312 : decode cL_words 312 = .ok (.aload_n 0, 1) := by decide +kernel
theorem dL_words_313 : decode cL_words 313 = .ok (.iconst 0, 1) := by decide +kernel
theorem dL_words_314 : decode cL_words 314 = .ok (.iconst 1, 1) := by decide +kernel
theorem dL_words_315 : decode cL_words 315 = .ok (.lconst 1, 1) := by decide +kernel
theorem dL_words_316 : decode cL_words 316 = .ok (.lconst 0, 1) := by decide +kernel
theorem dL_words_317 : decode cL_words 317 = .ok (.invokestatic 226, 3) := by decide +kernel
theorem dL_words_320 : decode cL_words 320 = .ok (.ifCond .eq 168, 3) := by decide +kernel
theorem dL_words_323 : decode cL_words 323 = .ok (.aload_n 0, 1) := by decide +kernel
theorem dL_words_324 : decode cL_words 324 = .ok (.bipush (-3), 2) := by decide +kernel
theorem dL_words_326 : decode cL_words 326 = .ok (.iconst 2, 1) := by decide +kernel
theorem dL_words_327 : decode cL_words 327 = .ok (.ldc2_w 168, 3) := by decide +kernel
theorem dL_words_330 : decode cL_words 330 = .ok (.ldc2_w 170, 3) := by decide +kernel
theorem dL_words_333 : decode cL_words 333 = .ok (.invokestatic 226, 3) := by decide +kernel
theorem dL_words_336 : decode cL_words 336 = .ok (.ifCond .eq 152, 3) := by decide +kernel
theorem dL_words_339 : decode cL_words 339 = .ok (.aload_n 0, 1) := by decide +kernel
theorem dL_words_340 : decode cL_words 340 = .ok (.iconst 2, 1) := by decide +kernel
