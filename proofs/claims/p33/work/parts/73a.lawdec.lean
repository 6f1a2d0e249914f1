theorem dL_act_0 : decode cL_act 0 = .ok (.iload_n 1, 1) := by decide +kernel
theorem dL_act_1 : decode cL_act 1 = .ok (.ifCond .ne 12, 3) := by decide +kernel
theorem dL_act_4 : decode cL_act 4 = .ok (.aload_n 0, 1) := by decide +kernel
theorem dL_act_5 : decode cL_act 5 = .ok (.iload_n 2, 1) := by decide +kernel
theorem dL_act_6 : decode cL_act 6 = .ok (.invokevirtual 7, 3) := by decide +kernel
theorem dL_act_9 : decode cL_act 9 = .ok (.i2l, 1) := by decide +kernel
theorem dL_act_10 : decode cL_act 10 = .ok (.goto 425, 3) := by decide +kernel
theorem dL_act_13 : decode cL_act 13 = .ok (.iload_n 1, 1) := by decide +kernel
theorem dL_act_14 : decode cL_act 14 = .ok (.iconst 1, 1) := by decide +kernel
theorem dL_act_15 : decode cL_act 15 = .ok (.if_icmp .ne 13, 3) := by decide +kernel
theorem dL_act_18 : decode cL_act 18 = .ok (.aload_n 0, 1) := by decide +kernel
theorem dL_act_19 : decode cL_act 19 = .ok (.iload_n 2, 1) := by decide +kernel
theorem dL_act_20 : decode cL_act 20 = .ok (.iload_n 3, 1) := by decide +kernel
theorem dL_act_21 : decode cL_act 21 = .ok (.invokevirtual 13, 3) := by decide +kernel
theorem dL_act_24 : decode cL_act 24 = .ok (.i2l, 1) := by decide +kernel
theorem dL_act_25 : decode cL_act 25 = .ok (.goto 410, 3) := by decide +kernel
theorem dL_act_28 : decode cL_act 28 = .ok (.iload_n 1, 1) := by decide +kernel
theorem dL_act_29 : decode cL_act 29 = .ok (.iconst 2, 1) := by decide +kernel
theorem dL_act_30 : decode cL_act 30 = .ok (.if_icmp .ne 13, 3) := by decide +kernel
theorem dL_act_33 : decode cL_act 33 = .ok (.aload_n 0, 1) := by decide +kernel
theorem dL_act_34 : decode cL_act 34 = .ok (.iload_n 2, 1) := by decide +kernel
theorem dL_act_35 : decode cL_act 35 = .ok (.iload_n 3, 1) := by decide +kernel
theorem dL_act_36 : decode cL_act 36 = .ok (.invokevirtual 17, 3) := by decide +kernel
theorem dL_act_39 : decode cL_act 39 = .ok (.i2l, 1) := by decide +kernel
theorem dL_act_40 : decode cL_act 40 = .ok (.goto 395, 3) := by decide +kernel
theorem dL_act_43 : decode cL_act 43 = .ok (.iload_n 1, 1) := by decide +kernel
theorem dL_act_44 : decode cL_act 44 = .ok (.iconst 3, 1) := by decide +kernel
theorem dL_act_45 : decode cL_act 45 = .ok (.if_icmp .ne 13, 3) := by decide +kernel
theorem dL_act_48 : decode cL_act 48 = .ok (.aload_n 0, 1) := by decide +kernel
theorem dL_act_49 : decode cL_act 49 = .ok (.iload_n 2, 1) := by decide +kernel
theorem dL_act_50 : decode cL_act 50 = .ok (.iload_n 3, 1) := by decide +kernel
theorem dL_act_51 : decode cL_act 51 = .ok (.invokevirtual 20, 3) := by decide +kernel
theorem dL_act_54 : decode cL_act 54 = .ok (.i2l, 1) := by decide +kernel
theorem dL_act_55 : decode cL_act 55 = .ok (.goto 380, 3) := by decide +kernel
theorem dL_act_58 : decode cL_act 58 = .ok (.iload_n 1, 1) := by decide +kernel
theorem dL_act_59 : decode cL_act 59 = .ok (.iconst 4, 1) := by decide +kernel
theorem dL_act_60 : decode cL_act 60 = .ok (.if_icmp .ne 12, 3) := by decide +kernel
theorem dL_act_63 : decode cL_act 63 = .ok (.aload_n 0, 1) := by decide +kernel
theorem dL_act_64 : decode cL_act 64 = .ok (.iload_n 2, 1) := by decide +kernel
theorem dL_act_65 : decode cL_act 65 = .ok (.invokevirtual 23, 3) := by decide +kernel
theorem dL_act_68 : decode cL_act 68 = .ok (.i2l, 1) := by decide +kernel
theorem dL_act_69 : decode cL_act 69 = .ok (.goto 366, 3) := by decide +kernel
theorem dL_act_72 : decode cL_act 72 = .ok (.iload_n 1, 1) := by decide +kernel
theorem dL_act_73 : decode cL_act 73 = .ok (.iconst 5, 1) := by decide +kernel
theorem dL_act_74 : decode cL_act 74 = .ok (.if_icmp .ne 15, 3) := by decide +kernel
theorem dL_act_77 : decode cL_act 77 = .ok (.aload_n 0, 1) := by decide +kernel
theorem dL_act_78 : decode cL_act 78 = .ok (.iload_n 2, 1) := by decide +kernel
theorem dL_act_79 : decode cL_act 79 = .ok (.iload_n 3, 1) := by decide +kernel
theorem dL_act_80 : decode cL_act 80 = .ok (.iload 4, 2) := by decide +kernel
theorem dL_act_82 : decode cL_act 82 = .ok (.invokevirtual 26, 3) := by decide +kernel
theorem dL_act_85 : decode cL_act 85 = .ok (.i2l, 1) := by decide +kernel
theorem dL_act_86 : decode cL_act 86 = .ok (.goto 349, 3) := by decide +kernel
theorem dL_act_89 : decode cL_act 89 = .ok (.iload_n 1, 1) := by decide +kernel
theorem dL_act_90 : decode cL_act 90 = .ok (.bipush 6, 2) := by decide +kernel
theorem dL_act_92 : decode cL_act 92 = .ok (.if_icmp .ne 17, 3) := by decide +kernel
theorem dL_act_95 : decode cL_act 95 = .ok (.aload_n 0, 1) := by decide +kernel
theorem dL_act_96 : decode cL_act 96 = .ok (.iload_n 2, 1) := by decide +kernel
theorem dL_act_97 : decode cL_act 97 = .ok (.iload_n 3, 1) := by decide +kernel
theorem dL_act_98 : decode cL_act 98 = .ok (.iload 4, 2) := by decide +kernel
theorem dL_act_100 : decode cL_act 100 = .ok (.iload 5, 2) := by decide +kernel
theorem dL_act_102 : decode cL_act 102 = .ok (.invokevirtual 30, 3) := by decide +kernel
theorem dL_act_105 : decode cL_act 105 = .ok (.i2l, 1) := by decide +kernel
theorem dL_act_106 : decode cL_act 106 = .ok (.goto 329, 3) := by decide +kernel
theorem dL_act_109 : decode cL_act 109 = .ok (.iload_n 1, 1) := by decide +kernel
theorem dL_act_110 : decode cL_act 110 = .ok (.bipush 7, 2) := by decide +kernel
theorem dL_act_112 : decode cL_act 112 = .ok (.if_icmp .ne 13, 3) := by decide +kernel
theorem dL_act_115 : decode cL_act 115 = .ok (.aload_n 0, 1) := by decide +kernel
theorem dL_act_116 : decode cL_act 116 = .ok (.iload_n 2, 1) := by decide +kernel
theorem dL_act_117 : decode cL_act 117 = .ok (.iload_n 3, 1) := by decide +kernel
theorem dL_act_118 : decode cL_act 118 = .ok (.invokevirtual 34, 3) := by decide +kernel
theorem dL_act_121 : decode cL_act 121 = .ok (.i2l, 1) := by decide +kernel
theorem dL_act_122 : decode cL_act 122 = .ok (.goto 313, 3) := by decide +kernel
theorem dL_act_125 : decode cL_act 125 = .ok (.iload_n 1, 1) := by decide +kernel
theorem dL_act_126 : decode cL_act 126 = .ok (.bipush 8, 2) := by decide +kernel
theorem dL_act_128 : decode cL_act 128 = .ok (.if_icmp .ne 12, 3) := by decide +kernel
theorem dL_act_131 : decode cL_act 131 = .ok (.aload_n 0, 1) := by decide +kernel
theorem dL_act_132 : decode cL_act 132 = .ok (.iload_n 2, 1) := by decide +kernel
theorem dL_act_133 : decode cL_act 133 = .ok (.invokevirtual 37, 3) := by decide +kernel
theorem dL_act_136 : decode cL_act 136 = .ok (.i2l, 1) := by decide +kernel
theorem dL_act_137 : decode cL_act 137 = .ok (.goto 298, 3) := by decide +kernel
theorem dL_act_140 : decode cL_act 140 = .ok (.iload_n 1, 1) := by decide +kernel
theorem dL_act_141 : decode cL_act 141 = .ok (.bipush 9, 2) := by decide +kernel
theorem dL_act_143 : decode cL_act 143 = .ok (.if_icmp .ne 17, 3) := by decide +kernel
theorem dL_act_146 : decode cL_act 146 = .ok (.aload_n 0, 1) := by decide +kernel
theorem dL_act_147 : decode cL_act 147 = .ok (.iload_n 2, 1) := by decide +kernel
theorem dL_act_148 : decode cL_act 148 = .ok (.iload_n 3, 1) := by decide +kernel
theorem dL_act_149 : decode cL_act 149 = .ok (.iload 4, 2) := by decide +kernel
theorem dL_act_151 : decode cL_act 151 = .ok (.iload 5, 2) := by decide +kernel
theorem dL_act_153 : decode cL_act 153 = .ok (.invokevirtual 40, 3) := by decide +kernel
theorem dL_act_156 : decode cL_act 156 = .ok (.i2l, 1) := by decide +kernel
theorem dL_act_157 : decode cL_act 157 = .ok (.goto 278, 3) := by decide +kernel
theorem dL_act_160 : decode cL_act 160 = .ok (.iload_n 1, 1) := by decide +kernel
theorem dL_act_161 : decode cL_act 161 = .ok (.bipush 10, 2) := by decide +kernel
theorem dL_act_163 : decode cL_act 163 = .ok (.if_icmp .ne 12, 3) := by decide +kernel
theorem dL_act_166 : decode cL_act 166 = .ok (.aload_n 0, 1) := by decide +kernel
theorem dL_act_167 : decode cL_act 167 = .ok (.iload_n 2, 1) := by decide +kernel
theorem dL_act_168 : decode cL_act 168 = .ok (.iload_n 3, 1) := by decide +kernel
theorem dL_act_169 : decode cL_act 169 = .ok (.invokevirtual 43, 3) := by decide +kernel
theorem dL_act_172 : decode cL_act 172 = .ok (.goto 263, 3) := by decide +kernel
theorem dL_act_175 : decode cL_act 175 = .ok (.iload_n 1, 1) := by decide +kernel
theorem dL_act_176 : decode cL_act 176 = .ok (.bipush 11, 2) := by decide +kernel
theorem dL_act_178 : decode cL_act 178 = .ok (.if_icmp .ne 12, 3) := by decide +kernel
theorem dL_act_181 : decode cL_act 181 = .ok (.aload_n 0, 1) := by decide +kernel
theorem dL_act_182 : decode cL_act 182 = .ok (.iload_n 2, 1) := by decide +kernel
theorem dL_act_183 : decode cL_act 183 = .ok (.iload_n 3, 1) := by decide +kernel
theorem dL_act_184 : decode cL_act 184 = .ok (.invokevirtual 47, 3) := by decide +kernel
theorem dL_act_187 : decode cL_act 187 = .ok (.goto 248, 3) := by decide +kernel
theorem dL_act_190 : decode cL_act 190 = .ok (.iload_n 1, 1) := by decide +kernel
theorem dL_act_191 : decode cL_act 191 = .ok (.bipush 12, 2) := by decide +kernel
theorem dL_act_193 : decode cL_act 193 = .ok (.if_icmp .ne 13, 3) := by decide +kernel
theorem dL_act_196 : decode cL_act 196 = .ok (.aload_n 0, 1) := by decide +kernel
theorem dL_act_197 : decode cL_act 197 = .ok (.iload_n 2, 1) := by decide +kernel
theorem dL_act_198 : decode cL_act 198 = .ok (.iload_n 3, 1) := by decide +kernel
theorem dL_act_199 : decode cL_act 199 = .ok (.invokevirtual 50, 3) := by decide +kernel
theorem dL_act_202 : decode cL_act 202 = .ok (.f2l, 1) := by decide +kernel
theorem dL_act_203 : decode cL_act 203 = .ok (.goto 232, 3) := by decide +kernel
theorem dL_act_206 : decode cL_act 206 = .ok (.iload_n 1, 1) := by decide +kernel
theorem dL_act_207 : decode cL_act 207 = .ok (.bipush 13, 2) := by decide +kernel
theorem dL_act_209 : decode cL_act 209 = .ok (.if_icmp .ne 12, 3) := by decide +kernel
theorem dL_act_212 : decode cL_act 212 = .ok (.aload_n 0, 1) := by decide +kernel
theorem dL_act_213 : decode cL_act 213 = .ok (.iload_n 2, 1) := by decide +kernel
theorem dL_act_214 : decode cL_act 214 = .ok (.iload_n 3, 1) := by decide +kernel
theorem dL_act_215 : decode cL_act 215 = .ok (.invokevirtual 54, 3) := by decide +kernel
theorem dL_act_218 : decode cL_act 218 = .ok (.goto 217, 3) := by decide +kernel
theorem dL_act_221 : decode cL_act 221 = .ok (.iload_n 1, 1) := by decide +kernel
theorem dL_act_222 : decode cL_act 222 = .ok (.bipush 14, 2) := by decide +kernel
theorem dL_act_224 : decode cL_act 224 = .ok (.if_icmp .ne 13, 3) := by decide +kernel
theorem dL_act_227 : decode cL_act 227 = .ok (.aload_n 0, 1) := by decide +kernel
theorem dL_act_228 : decode cL_act 228 = .ok (.iload_n 2, 1) := by decide +kernel
theorem dL_act_229 : decode cL_act 229 = .ok (.iload_n 3, 1) := by decide +kernel
theorem dL_act_230 : decode cL_act 230 = .ok (.invokevirtual 57, 3) := by decide +kernel
theorem dL_act_233 : decode cL_act 233 = .ok (.i2l, 1) := by decide +kernel
theorem dL_act_234 : decode cL_act 234 = .ok (.goto 201, 3) := by decide +kernel
theorem dL_act_237 : decode cL_act 237 = .ok (.iload_n 1, 1) := by decide +kernel
theorem dL_act_238 : decode cL_act 238 = .ok (.bipush 15, 2) := by decide +kernel
theorem dL_act_240 : decode cL_act 240 = .ok (.if_icmp .ne 13, 3) := by decide +kernel
theorem dL_act_243 : decode cL_act 243 = .ok (.aload_n 0, 1) := by decide +kernel
theorem dL_act_244 : decode cL_act 244 = .ok (.iload_n 2, 1) := by decide +kernel
theorem dL_act_245 : decode cL_act 245 = .ok (.iload_n 3, 1) := by decide +kernel
theorem dL_act_246 : decode cL_act 246 = .ok (.invokevirtual 60, 3) := by decide +kernel
theorem dL_act_249 : decode cL_act 249 = .ok (.i2l, 1) := by decide +kernel
theorem dL_act_250 : decode cL_act 250 = .ok (.goto 185, 3) := by decide +kernel
theorem dL_act_253 : decode cL_act 253 = .ok (.iload_n 1, 1) := by decide +kernel
theorem dL_act_254 : decode cL_act 254 = .ok (.bipush 16, 2) := by decide +kernel
theorem dL_act_256 : decode cL_act 256 = .ok (.if_icmp .ne 13, 3) := by decide +kernel
theorem dL_act_259 : decode cL_act 259 = .ok (.aload_n 0, 1) := by decide +kernel
theorem dL_act_260 : decode cL_act 260 = .ok (.iload_n 2, 1) := by decide +kernel
theorem dL_act_261 : decode cL_act 261 = .ok (.iload_n 3, 1) := by decide +kernel
theorem dL_act_262 : decode cL_act 262 = .ok (.invokevirtual 63, 3) := by decide +kernel
theorem dL_act_265 : decode cL_act 265 = .ok (.i2l, 1) := by decide +kernel
theorem dL_act_266 : decode cL_act 266 = .ok (.goto 169, 3) := by decide +kernel
theorem dL_act_269 : decode cL_act 269 = .ok (.iload_n 1, 1) := by decide +kernel
theorem dL_act_270 : decode cL_act 270 = .ok (.bipush 17, 2) := by decide +kernel
theorem dL_act_272 : decode cL_act 272 = .ok (.if_icmp .ne 17, 3) := by decide +kernel
theorem dL_act_275 : decode cL_act 275 = .ok (.aload_n 0, 1) := by decide +kernel
theorem dL_act_276 : decode cL_act 276 = .ok (.iload_n 2, 1) := by decide +kernel
theorem dL_act_277 : decode cL_act 277 = .ok (.iload_n 3, 1) := by decide +kernel
theorem dL_act_278 : decode cL_act 278 = .ok (.iload 4, 2) := by decide +kernel
theorem dL_act_280 : decode cL_act 280 = .ok (.iload 5, 2) := by decide +kernel
theorem dL_act_282 : decode cL_act 282 = .ok (.invokevirtual 66, 3) := by decide +kernel
theorem dL_act_285 : decode cL_act 285 = .ok (.i2l, 1) := by decide +kernel
theorem dL_act_286 : decode cL_act 286 = .ok (.goto 149, 3) := by decide +kernel
theorem dL_act_289 : decode cL_act 289 = .ok (.iload_n 1, 1) := by decide +kernel
theorem dL_act_290 : decode cL_act 290 = .ok (.bipush 18, 2) := by decide +kernel
theorem dL_act_292 : decode cL_act 292 = .ok (.if_icmp .ne 17, 3) := by decide +kernel
theorem dL_act_295 : decode cL_act 295 = .ok (.aload_n 0, 1) := by decide +kernel
theorem dL_act_296 : decode cL_act 296 = .ok (.iload_n 2, 1) := by decide +kernel
theorem dL_act_297 : decode cL_act 297 = .ok (.iload_n 3, 1) := by decide +kernel
theorem dL_act_298 : decode cL_act 298 = .ok (.iload 4, 2) := by decide +kernel
theorem dL_act_300 : decode cL_act 300 = .ok (.iload 5, 2) := by decide +kernel
theorem dL_act_302 : decode cL_act 302 = .ok (.iconst 1, 1) := by decide +kernel
theorem dL_act_303 : decode cL_act 303 = .ok (.invokevirtual 69, 3) := by decide +kernel
theorem dL_act_306 : decode cL_act 306 = .ok (.goto 129, 3) := by decide +kernel
theorem dL_act_309 : decode cL_act 309 = .ok (.iload_n 1, 1) := by decide +kernel
theorem dL_act_310 : decode cL_act 310 = .ok (.bipush 19, 2) := by decide +kernel
theorem dL_act_312 : decode cL_act 312 = .ok (.if_icmp .ne 17, 3) := by decide +kernel
theorem dL_act_315 : decode cL_act 315 = .ok (.aload_n 0, 1) := by decide +kernel
theorem dL_act_316 : decode cL_act 316 = .ok (.iload_n 2, 1) := by decide +kernel
theorem dL_act_317 : decode cL_act 317 = .ok (.iload_n 3, 1) := by decide +kernel
theorem dL_act_318 : decode cL_act 318 = .ok (.iload 4, 2) := by decide +kernel
theorem dL_act_320 : decode cL_act 320 = .ok (.iload 5, 2) := by decide +kernel
theorem dL_act_322 : decode cL_act 322 = .ok (.invokevirtual 73, 3) := by decide +kernel
theorem dL_act_325 : decode cL_act 325 = .ok (.i2l, 1) := by decide +kernel
theorem dL_act_326 : decode cL_act 326 = .ok (.goto 109, 3) := by decide +kernel
theorem dL_act_329 : decode cL_act 329 = .ok (.iload_n 1, 1) := by decide +kernel
theorem dL_act_330 : decode cL_act 330 = .ok (.bipush 20, 2) := by decide +kernel
theorem dL_act_332 : decode cL_act 332 = .ok (.if_icmp .ne 22, 3) := by decide +kernel
theorem dL_act_335 : decode cL_act 335 = .ok (.aload_n 0, 1) := by decide +kernel
theorem dL_act_336 : decode cL_act 336 = .ok (.iload_n 2, 1) := by decide +kernel
theorem dL_act_337 : decode cL_act 337 = .ok (.iload_n 3, 1) := by decide +kernel
theorem dL_act_338 : decode cL_act 338 = .ok (.iconst 1, 1) := by decide +kernel
theorem dL_act_339 : decode cL_act 339 = .ok (.if_icmp .ne 7, 3) := by decide +kernel
theorem dL_act_342 : decode cL_act 342 = .ok (.iconst 1, 1) := by decide +kernel
theorem dL_act_343 : decode cL_act 343 = .ok (.goto 4, 3) := by decide +kernel
theorem dL_act_346 : decode cL_act 346 = .ok (.iconst 0, 1) := by decide +kernel
theorem dL_act_347 : decode cL_act 347 = .ok (.invokevirtual 76, 3) := by decide +kernel
theorem dL_act_350 : decode cL_act 350 = .ok (.i2l, 1) := by decide +kernel
theorem dL_act_351 : decode cL_act 351 = .ok (.goto 84, 3) := by decide +kernel
theorem dL_act_354 : decode cL_act 354 = .ok (.iload_n 1, 1) := by decide +kernel
theorem dL_act_355 : decode cL_act 355 = .ok (.bipush 21, 2) := by decide +kernel
theorem dL_act_357 : decode cL_act 357 = .ok (.if_icmp .ne 12, 3) := by decide +kernel
theorem dL_act_360 : decode cL_act 360 = .ok (.aload_n 0, 1) := by decide +kernel
theorem dL_act_361 : decode cL_act 361 = .ok (.iload_n 2, 1) := by decide +kernel
theorem dL_act_362 : decode cL_act 362 = .ok (.invokevirtual 80, 3) := by decide +kernel
theorem dL_act_365 : decode cL_act 365 = .ok (.i2l, 1) := by decide +kernel
theorem dL_act_366 : decode cL_act 366 = .ok (.goto 69, 3) := by decide +kernel
theorem dL_act_369 : decode cL_act 369 = .ok (.iload_n 1, 1) := by decide +kernel
theorem dL_act_370 : decode cL_act 370 = .ok (.bipush 22, 2) := by decide +kernel
theorem dL_act_372 : decode cL_act 372 = .ok (.if_icmp .ne 23, 3) := by decide +kernel
theorem dL_act_375 : decode cL_act 375 = .ok (.aload_n 0, 1) := by decide +kernel
theorem dL_act_376 : decode cL_act 376 = .ok (.iload_n 2, 1) := by decide +kernel
theorem dL_act_377 : decode cL_act 377 = .ok (.iload_n 3, 1) := by decide +kernel
theorem dL_act_378 : decode cL_act 378 = .ok (.iload 4, 2) := by decide +kernel
theorem dL_act_380 : decode cL_act 380 = .ok (.iconst 1, 1) := by decide +kernel
theorem dL_act_381 : decode cL_act 381 = .ok (.if_icmp .ne 7, 3) := by decide +kernel
theorem dL_act_384 : decode cL_act 384 = .ok (.iconst 1, 1) := by decide +kernel
theorem dL_act_385 : decode cL_act 385 = .ok (.goto 4, 3) := by decide +kernel
theorem dL_act_388 : decode cL_act 388 = .ok (.iconst 0, 1) := by decide +kernel
theorem dL_act_389 : decode cL_act 389 = .ok (.invokevirtual 83, 3) := by decide +kernel
theorem dL_act_392 : decode cL_act 392 = .ok (.goto 43, 3) := by decide +kernel
theorem dL_act_395 : decode cL_act 395 = .ok (.iload_n 1, 1) := by decide +kernel
theorem dL_act_396 : decode cL_act 396 = .ok (.bipush 23, 2) := by decide +kernel
theorem dL_act_398 : decode cL_act 398 = .ok (.if_icmp .ne 12, 3) := by decide +kernel
theorem dL_act_401 : decode cL_act 401 = .ok (.aload_n 0, 1) := by decide +kernel
theorem dL_act_402 : decode cL_act 402 = .ok (.iload_n 2, 1) := by decide +kernel
theorem dL_act_403 : decode cL_act 403 = .ok (.invokevirtual 87, 3) := by decide +kernel
theorem dL_act_406 : decode cL_act 406 = .ok (.i2l, 1) := by decide +kernel
theorem dL_act_407 : decode cL_act 407 = .ok (.goto 28, 3) := by decide +kernel
theorem dL_act_410 : decode cL_act 410 = .ok (.iload_n 1, 1) := by decide +kernel
theorem dL_act_411 : decode cL_act 411 = .ok (.bipush 24, 2) := by decide +kernel
theorem dL_act_413 : decode cL_act 413 = .ok (.if_icmp .ne 13, 3) := by decide +kernel
theorem dL_act_416 : decode cL_act 416 = .ok (.aload_n 0, 1) := by decide +kernel
theorem dL_act_417 : decode cL_act 417 = .ok (.iload_n 2, 1) := by decide +kernel
theorem dL_act_418 : decode cL_act 418 = .ok (.iload_n 3, 1) := by decide +kernel
theorem dL_act_419 : decode cL_act 419 = .ok (.invokevirtual 90, 3) := by decide +kernel
theorem dL_act_422 : decode cL_act 422 = .ok (.i2l, 1) := by decide +kernel
theorem dL_act_423 : decode cL_act 423 = .ok (.goto 12, 3) := by decide +kernel
theorem dL_act_426 : decode cL_act 426 = .ok (.aload_n 0, 1) := by decide +kernel
theorem dL_act_427 : decode cL_act 427 = .ok (.iload_n 2, 1) := by decide +kernel
theorem dL_act_428 : decode cL_act 428 = .ok (.iload_n 3, 1) := by decide +kernel
theorem dL_act_429 : decode cL_act 429 = .ok (.iload 4, 2) := by decide +kernel
theorem dL_act_431 : decode cL_act 431 = .ok (.invokevirtual 93, 3) := by decide +kernel
theorem dL_act_434 : decode cL_act 434 = .ok (.i2l, 1) := by decide +kernel
theorem dL_act_435 : decode cL_act 435 = .ok (.lreturn, 1) := by decide +kernel
theorem dL_act_436 : decode cL_act 436 = .ok (.astore 6, 2) := by decide +kernel
theorem dL_act_438 : decode cL_act 438 = .ok (.ldc2_w 98, 3) := by decide +kernel
theorem dL_act_441 : decode cL_act 441 = .ok (.lreturn, 1) := by decide +kernel
theorem dL_act_442 : decode cL_act 442 = .ok (.astore 6, 2) := by decide +kernel
theorem dL_act_444 : decode cL_act 444 = .ok (.ldc2_w 102, 3) := by decide +kernel
theorem dL_act_447 : decode cL_act 447 = .ok (.lreturn, 1) := by decide +kernel
theorem dL_act_448 : decode cL_act 448 = .ok (.astore 6, 2) := by decide +kernel
theorem dL_act_450 : decode cL_act 450 = .ok (.ldc2_w 106, 3) := by decide +kernel
theorem dL_act_453 : decode cL_act 453 = .ok (.lreturn, 1) := by decide +kernel
theorem dL_refuses_0 : decode cL_refuses 0 = .ok (.ldc 108, 2) := by decide +kernel
theorem dL_refuses_2 : decode cL_refuses 2 = .ok (.istore 6, 2) := by decide +kernel
theorem dL_refuses_4 : decode cL_refuses 4 = .ok (.aload_n 0, 1) := by decide +kernel
theorem dL_refuses_5 : decode cL_refuses 5 = .ok (.iconst 0, 1) := by decide +kernel
theorem dL_refuses_6 : decode cL_refuses 6 = .ok (.invokevirtual 23, 3) := by decide +kernel
theorem dL_refuses_9 : decode cL_refuses 9 = .ok (.istore 7, 2) := by decide +kernel
theorem dL_refuses_11 : decode cL_refuses 11 = .ok (.aload_n 0, 1) := by decide +kernel
theorem dL_refuses_12 : decode cL_refuses 12 = .ok (.iconst 2, 1) := by decide +kernel
theorem dL_refuses_13 : decode cL_refuses 13 = .ok (.invokevirtual 23, 3) := by decide +kernel
theorem dL_refuses_16 : decode cL_refuses 16 = .ok (.istore 8, 2) := by decide +kernel
theorem dL_refuses_18 : decode cL_refuses 18 = .ok (.aload_n 0, 1) := by decide +kernel
theorem dL_refuses_19 : decode cL_refuses 19 = .ok (.invokevirtual 109, 3) := by decide +kernel
theorem dL_refuses_22 : decode cL_refuses 22 = .ok (.istore 9, 2) := by decide +kernel
theorem dL_refuses_24 : decode cL_refuses 24 = .ok (.aload_n 0, 1) := by decide +kernel
theorem dL_refuses_25 : decode cL_refuses 25 = .ok (.iconst 0, 1) := by decide +kernel
theorem dL_refuses_26 : decode cL_refuses 26 = .ok (.invokevirtual 80, 3) := by decide +kernel
theorem dL_refuses_29 : decode cL_refuses 29 = .ok (.istore 10, 2) := by decide +kernel
theorem dL_refuses_31 : decode cL_refuses 31 = .ok (.iconst 0, 1) := by decide +kernel
theorem dL_refuses_32 : decode cL_refuses 32 = .ok (.istore 11, 2) := by decide +kernel
theorem dL_refuses_34 : decode cL_refuses 34 = .ok (.iload 11, 2) := by decide +kernel
theorem dL_refuses_36 : decode cL_refuses 36 = .ok (.iconst 4, 1) := by decide +kernel
theorem dL_refuses_37 : decode cL_refuses 37 = .ok (.if_icmp .ge 1384, 3) := by decide +kernel
theorem dL_refuses_40 : decode cL_refuses 40 = .ok (.iload 11, 2) := by decide +kernel
theorem dL_refuses_42 : decode cL_refuses 42 = .ok (.ifCond .ne 7, 3) := by decide +kernel
theorem dL_refuses_45 : decode cL_refuses 45 = .ok (.iconst (-1), 1) := by decide +kernel
theorem dL_refuses_46 : decode cL_refuses 46 = .ok (.goto 19, 3) := by decide +kernel
theorem dL_refuses_49 : decode cL_refuses 49 = .ok (.iload 11, 2) := by decide +kernel
