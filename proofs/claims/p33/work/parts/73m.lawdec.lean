theorem dL_law_56 : decode cL_law 56 = .ok (.arraylength, 1) := by decide +kernel
theorem dL_law_57 : decode cL_law 57 = .ok (.irem, 1) := by decide +kernel
theorem dL_law_58 : decode cL_law 58 = .ok (.iaload, 1) := by decide +kernel
theorem dL_law_59 : decode cL_law 59 = .ok (.bipush 8, 2) := by decide +kernel
theorem dL_law_61 : decode cL_law 61 = .ok (.iushr, 1) := by decide +kernel
theorem dL_law_62 : decode cL_law 62 = .ok (.istore 8, 2) := by decide +kernel
theorem dL_law_64 : decode cL_law 64 = .ok (.iload 8, 2) := by decide +kernel
theorem dL_law_66 : decode cL_law 66 = .ok (.bipush 13, 2) := by decide +kernel
theorem dL_law_68 : decode cL_law 68 = .ok (.irem, 1) := by decide +kernel
theorem dL_law_69 : decode cL_law 69 = .ok (.istore 9, 2) := by decide +kernel
theorem dL_law_71 : decode cL_law 71 = .ok (.iload 8, 2) := by decide +kernel
theorem dL_law_73 : decode cL_law 73 = .ok (.bipush 13, 2) := by decide +kernel
theorem dL_law_75 : decode cL_law 75 = .ok (.idiv, 1) := by decide +kernel
theorem dL_law_76 : decode cL_law 76 = .ok (.istore 10, 2) := by decide +kernel
theorem dL_law_78 : decode cL_law 78 = .ok (.iload 10, 2) := by decide +kernel
theorem dL_law_80 : decode cL_law 80 = .ok (.bipush 40, 2) := by decide +kernel
theorem dL_law_82 : decode cL_law 82 = .ok (.idiv, 1) := by decide +kernel
theorem dL_law_83 : decode cL_law 83 = .ok (.istore 11, 2) := by decide +kernel
theorem dL_law_85 : decode cL_law 85 = .ok (.iload 9, 2) := by decide +kernel
theorem dL_law_87 : decode cL_law 87 = .ok (.iconst 2, 1) := by decide +kernel
theorem dL_law_88 : decode cL_law 88 = .ok (.if_icmp .ge 50, 3) := by decide +kernel
theorem dL_law_91 : decode cL_law 91 = .ok (.aload_n 1, 1) := by decide +kernel
theorem dL_law_92 : decode cL_law 92 = .ok (.iconst 0, 1) := by decide +kernel
theorem dL_law_93 : decode cL_law 93 = .ok (.invokevirtual 23, 3) := by decide +kernel
theorem dL_law_96 : decode cL_law 96 = .ok (.istore 12, 2) := by decide +kernel
theorem dL_law_98 : decode cL_law 98 = .ok (.aload_n 1, 1) := by decide +kernel
theorem dL_law_99 : decode cL_law 99 = .ok (.iconst 0, 1) := by decide +kernel
theorem dL_law_100 : decode cL_law 100 = .ok (.iload 10, 2) := by decide +kernel
theorem dL_law_102 : decode cL_law 102 = .ok (.aload_n 1, 1) := by decide +kernel
theorem dL_law_103 : decode cL_law 103 = .ok (.iconst 2, 1) := by decide +kernel
theorem dL_law_104 : decode cL_law 104 = .ok (.invokevirtual 23, 3) := by decide +kernel
theorem dL_law_107 : decode cL_law 107 = .ok (.irem, 1) := by decide +kernel
theorem dL_law_108 : decode cL_law 108 = .ok (.iconst 0, 1) := by decide +kernel
theorem dL_law_109 : decode cL_law 109 = .ok (.iconst 0, 1) := by decide +kernel
theorem dL_law_110 : decode cL_law 110 = .ok (.iconst 0, 1) := by decide +kernel
theorem dL_law_111 : decode cL_law 111 = .ok (.invokestatic 117, 3) := by decide +kernel
theorem dL_law_114 : decode cL_law 114 = .ok (.iload 12, 2) := by decide +kernel
theorem dL_law_116 : decode cL_law 116 = .ok (.bipush 16, 2) := by decide +kernel
theorem dL_law_118 : decode cL_law 118 = .ok (.if_icmp .ge 8, 3) := by decide +kernel
theorem dL_law_121 : decode cL_law 121 = .ok (.iload 12, 2) := by decide +kernel
theorem dL_law_123 : decode cL_law 123 = .ok (.goto 5, 3) := by decide +kernel
theorem dL_law_126 : decode cL_law 126 = .ok (.ldc 140, 2) := by decide +kernel
theorem dL_law_128 : decode cL_law 128 = .ok (.i2l, 1) := by decide +kernel
theorem dL_law_129 : decode cL_law 129 = .ok (.lcmp, 1) := by decide +kernel
theorem dL_law_130 : decode cL_law 130 = .ok (.ifCond .eq 5, 3) := by decide +kernel
theorem dL_law_133 : decode cL_law 133 = .ok (.iconst 0, 1) := by decide +kernel
theorem dL_law_134 : decode cL_law 134 = .ok (.ireturn, 1) := by decide +kernel
theorem dL_law_135 : decode cL_law 135 = .ok (.goto 1072, 3) := by decide +kernel
theorem dL_law_138 : decode cL_law 138 = .ok (.iload 9, 2) := by decide +kernel
theorem dL_law_140 : decode cL_law 140 = .ok (.iconst 4, 1) := by decide +kernel
theorem dL_law_141 : decode cL_law 141 = .ok (.if_icmp .ge 163, 3) := by decide +kernel
theorem dL_law_144 : decode cL_law 144 = .ok (.iload 10, 2) := by decide +kernel
theorem dL_law_146 : decode cL_law 146 = .ok (.aload_n 1, 1) := by decide +kernel
theorem dL_law_147 : decode cL_law 147 = .ok (.iconst 0, 1) := by decide +kernel
theorem dL_law_148 : decode cL_law 148 = .ok (.invokevirtual 23, 3) := by decide +kernel
theorem dL_law_151 : decode cL_law 151 = .ok (.irem, 1) := by decide +kernel
theorem dL_law_152 : decode cL_law 152 = .ok (.istore 12, 2) := by decide +kernel
theorem dL_law_154 : decode cL_law 154 = .ok (.aload_n 1, 1) := by decide +kernel
theorem dL_law_155 : decode cL_law 155 = .ok (.iload 12, 2) := by decide +kernel
theorem dL_law_157 : decode cL_law 157 = .ok (.iload 11, 2) := by decide +kernel
theorem dL_law_159 : decode cL_law 159 = .ok (.iconst 3, 1) := by decide +kernel
theorem dL_law_160 : decode cL_law 160 = .ok (.irem, 1) := by decide +kernel
theorem dL_law_161 : decode cL_law 161 = .ok (.invokevirtual 20, 3) := by decide +kernel
theorem dL_law_164 : decode cL_law 164 = .ok (.istore 13, 2) := by decide +kernel
theorem dL_law_166 : decode cL_law 166 = .ok (.aload_n 1, 1) := by decide +kernel
theorem dL_law_167 : decode cL_law 167 = .ok (.iconst 3, 1) := by decide +kernel
theorem dL_law_168 : decode cL_law 168 = .ok (.invokevirtual 23, 3) := by decide +kernel
theorem dL_law_171 : decode cL_law 171 = .ok (.istore 14, 2) := by decide +kernel
theorem dL_law_173 : decode cL_law 173 = .ok (.aload_n 1, 1) := by decide +kernel
theorem dL_law_174 : decode cL_law 174 = .ok (.iconst 1, 1) := by decide +kernel
theorem dL_law_175 : decode cL_law 175 = .ok (.iload 12, 2) := by decide +kernel
theorem dL_law_177 : decode cL_law 177 = .ok (.iload 13, 2) := by decide +kernel
theorem dL_law_179 : decode cL_law 179 = .ok (.iconst 0, 1) := by decide +kernel
theorem dL_law_180 : decode cL_law 180 = .ok (.iconst 0, 1) := by decide +kernel
theorem dL_law_181 : decode cL_law 181 = .ok (.invokestatic 117, 3) := by decide +kernel
theorem dL_law_184 : decode cL_law 184 = .ok (.lstore 15, 2) := by decide +kernel
theorem dL_law_186 : decode cL_law 186 = .ok (.lload 15, 2) := by decide +kernel
theorem dL_law_188 : decode cL_law 188 = .ok (.ldc2_w 106, 3) := by decide +kernel
theorem dL_law_191 : decode cL_law 191 = .ok (.lcmp, 1) := by decide +kernel
theorem dL_law_192 : decode cL_law 192 = .ok (.ifCond .eq 81, 3) := by decide +kernel
theorem dL_law_195 : decode cL_law 195 = .ok (.lload 15, 2) := by decide +kernel
theorem dL_law_197 : decode cL_law 197 = .ok (.ldc2_w 251, 3) := by decide +kernel
theorem dL_law_200 : decode cL_law 200 = .ok (.ldiv, 1) := by decide +kernel
theorem dL_law_201 : decode cL_law 201 = .ok (.lload 15, 2) := by decide +kernel
theorem dL_law_203 : decode cL_law 203 = .ok (.ldc2_w 251, 3) := by decide +kernel
theorem dL_law_206 : decode cL_law 206 = .ok (.lrem, 1) := by decide +kernel
theorem dL_law_207 : decode cL_law 207 = .ok (.lcmp, 1) := by decide +kernel
theorem dL_law_208 : decode cL_law 208 = .ok (.ifCond .ge 63, 3) := by decide +kernel
theorem dL_law_211 : decode cL_law 211 = .ok (.aload_n 1, 1) := by decide +kernel
theorem dL_law_212 : decode cL_law 212 = .ok (.iconst 1, 1) := by decide +kernel
theorem dL_law_213 : decode cL_law 213 = .ok (.lload 15, 2) := by decide +kernel
theorem dL_law_215 : decode cL_law 215 = .ok (.l2i, 1) := by decide +kernel
theorem dL_law_216 : decode cL_law 216 = .ok (.bipush 100, 2) := by decide +kernel
theorem dL_law_218 : decode cL_law 218 = .ok (.idiv, 1) := by decide +kernel
theorem dL_law_219 : decode cL_law 219 = .ok (.lload 15, 2) := by decide +kernel
theorem dL_law_221 : decode cL_law 221 = .ok (.l2i, 1) := by decide +kernel
theorem dL_law_222 : decode cL_law 222 = .ok (.bipush 100, 2) := by decide +kernel
theorem dL_law_224 : decode cL_law 224 = .ok (.irem, 1) := by decide +kernel
theorem dL_law_225 : decode cL_law 225 = .ok (.iconst 0, 1) := by decide +kernel
theorem dL_law_226 : decode cL_law 226 = .ok (.iconst 0, 1) := by decide +kernel
theorem dL_law_227 : decode cL_law 227 = .ok (.invokestatic 117, 3) := by decide +kernel
theorem dL_law_230 : decode cL_law 230 = .ok (.iload 12, 2) := by decide +kernel
theorem dL_law_232 : decode cL_law 232 = .ok (.iload 13, 2) := by decide +kernel
theorem dL_law_234 : decode cL_law 234 = .ok (.if_icmp .ge 14, 3) := by decide +kernel
theorem dL_law_237 : decode cL_law 237 = .ok (.bipush 100, 2) := by decide +kernel
theorem dL_law_239 : decode cL_law 239 = .ok (.iload 12, 2) := by decide +kernel
theorem dL_law_241 : decode cL_law 241 = .ok (.imul, 1) := by decide +kernel
theorem dL_law_242 : decode cL_law 242 = .ok (.iload 13, 2) := by decide +kernel
theorem dL_law_244 : decode cL_law 244 = .ok (.iadd, 1) := by decide +kernel
theorem dL_law_245 : decode cL_law 245 = .ok (.goto 11, 3) := by decide +kernel
theorem dL_law_248 : decode cL_law 248 = .ok (.bipush 100, 2) := by decide +kernel
theorem dL_law_250 : decode cL_law 250 = .ok (.iload 13, 2) := by decide +kernel
theorem dL_law_252 : decode cL_law 252 = .ok (.imul, 1) := by decide +kernel
theorem dL_law_253 : decode cL_law 253 = .ok (.iload 12, 2) := by decide +kernel
theorem dL_law_255 : decode cL_law 255 = .ok (.iadd, 1) := by decide +kernel
theorem dL_law_256 : decode cL_law 256 = .ok (.i2l, 1) := by decide +kernel
theorem dL_law_257 : decode cL_law 257 = .ok (.lcmp, 1) := by decide +kernel
theorem dL_law_258 : decode cL_law 258 = .ok (.ifCond .ne 13, 3) := by decide +kernel
theorem dL_law_261 : decode cL_law 261 = .ok (.aload_n 1, 1) := by decide +kernel
theorem dL_law_262 : decode cL_law 262 = .ok (.iconst 3, 1) := by decide +kernel
theorem dL_law_263 : decode cL_law 263 = .ok (.invokevirtual 23, 3) := by decide +kernel
theorem dL_law_266 : decode cL_law 266 = .ok (.iload 14, 2) := by decide +kernel
theorem dL_law_268 : decode cL_law 268 = .ok (.if_icmp .eq 5, 3) := by decide +kernel
theorem dL_law_271 : decode cL_law 271 = .ok (.iconst 0, 1) := by decide +kernel
theorem dL_law_272 : decode cL_law 272 = .ok (.ireturn, 1) := by decide +kernel
theorem dL_law_273 : decode cL_law 273 = .ok (.lload 15, 2) := by decide +kernel
theorem dL_law_275 : decode cL_law 275 = .ok (.ldc2_w 106, 3) := by decide +kernel
theorem dL_law_278 : decode cL_law 278 = .ok (.lcmp, 1) := by decide +kernel
theorem dL_law_279 : decode cL_law 279 = .ok (.ifCond .eq 22, 3) := by decide +kernel
theorem dL_law_282 : decode cL_law 282 = .ok (.aload_n 1, 1) := by decide +kernel
theorem dL_law_283 : decode cL_law 283 = .ok (.iconst 1, 1) := by decide +kernel
theorem dL_law_284 : decode cL_law 284 = .ok (.iload 13, 2) := by decide +kernel
theorem dL_law_286 : decode cL_law 286 = .ok (.iload 12, 2) := by decide +kernel
theorem dL_law_288 : decode cL_law 288 = .ok (.iconst 0, 1) := by decide +kernel
theorem dL_law_289 : decode cL_law 289 = .ok (.iconst 0, 1) := by decide +kernel
theorem dL_law_290 : decode cL_law 290 = .ok (.invokestatic 117, 3) := by decide +kernel
theorem dL_law_293 : decode cL_law 293 = .ok (.lload 15, 2) := by decide +kernel
theorem dL_law_295 : decode cL_law 295 = .ok (.lcmp, 1) := by decide +kernel
theorem dL_law_296 : decode cL_law 296 = .ok (.ifCond .eq 5, 3) := by decide +kernel
theorem dL_law_299 : decode cL_law 299 = .ok (.iconst 0, 1) := by decide +kernel
theorem dL_law_300 : decode cL_law 300 = .ok (.ireturn, 1) := by decide +kernel
theorem dL_law_301 : decode cL_law 301 = .ok (.goto 906, 3) := by decide +kernel
theorem dL_law_304 : decode cL_law 304 = .ok (.iload 9, 2) := by decide +kernel
theorem dL_law_306 : decode cL_law 306 = .ok (.bipush 6, 2) := by decide +kernel
theorem dL_law_308 : decode cL_law 308 = .ok (.if_icmp .ge 185, 3) := by decide +kernel
theorem dL_law_311 : decode cL_law 311 = .ok (.iload 9, 2) := by decide +kernel
theorem dL_law_313 : decode cL_law 313 = .ok (.iconst 4, 1) := by decide +kernel
theorem dL_law_314 : decode cL_law 314 = .ok (.if_icmp .eq 7, 3) := by decide +kernel
theorem dL_law_317 : decode cL_law 317 = .ok (.iload_n 2, 1) := by decide +kernel
theorem dL_law_318 : decode cL_law 318 = .ok (.ifCond .ne 29, 3) := by decide +kernel
theorem dL_law_321 : decode cL_law 321 = .ok (.aload_n 1, 1) := by decide +kernel
theorem dL_law_322 : decode cL_law 322 = .ok (.iconst 5, 1) := by decide +kernel
theorem dL_law_323 : decode cL_law 323 = .ok (.iload 10, 2) := by decide +kernel
theorem dL_law_325 : decode cL_law 325 = .ok (.bipush 40, 2) := by decide +kernel
theorem dL_law_327 : decode cL_law 327 = .ok (.irem, 1) := by decide +kernel
theorem dL_law_328 : decode cL_law 328 = .ok (.iload 11, 2) := by decide +kernel
theorem dL_law_330 : decode cL_law 330 = .ok (.bipush 40, 2) := by decide +kernel
theorem dL_law_332 : decode cL_law 332 = .ok (.irem, 1) := by decide +kernel
theorem dL_law_333 : decode cL_law 333 = .ok (.iconst 1, 1) := by decide +kernel
theorem dL_law_334 : decode cL_law 334 = .ok (.iload 8, 2) := by decide +kernel
theorem dL_law_336 : decode cL_law 336 = .ok (.bipush 9, 2) := by decide +kernel
theorem dL_law_338 : decode cL_law 338 = .ok (.irem, 1) := by decide +kernel
theorem dL_law_339 : decode cL_law 339 = .ok (.iadd, 1) := by decide +kernel
theorem dL_law_340 : decode cL_law 340 = .ok (.iconst 0, 1) := by decide +kernel
theorem dL_law_341 : decode cL_law 341 = .ok (.invokestatic 117, 3) := by decide +kernel
theorem dL_law_344 : decode cL_law 344 = .ok (.goto 30, 3) := by decide +kernel
theorem dL_law_347 : decode cL_law 347 = .ok (.aload_n 1, 1) := by decide +kernel
theorem dL_law_348 : decode cL_law 348 = .ok (.bipush 6, 2) := by decide +kernel
theorem dL_law_350 : decode cL_law 350 = .ok (.iload 10, 2) := by decide +kernel
theorem dL_law_352 : decode cL_law 352 = .ok (.iload_n 2, 1) := by decide +kernel
theorem dL_law_353 : decode cL_law 353 = .ok (.irem, 1) := by decide +kernel
theorem dL_law_354 : decode cL_law 354 = .ok (.iload 8, 2) := by decide +kernel
theorem dL_law_356 : decode cL_law 356 = .ok (.bipush 40, 2) := by decide +kernel
theorem dL_law_358 : decode cL_law 358 = .ok (.irem, 1) := by decide +kernel
theorem dL_law_359 : decode cL_law 359 = .ok (.iload 11, 2) := by decide +kernel
theorem dL_law_361 : decode cL_law 361 = .ok (.bipush 40, 2) := by decide +kernel
theorem dL_law_363 : decode cL_law 363 = .ok (.irem, 1) := by decide +kernel
theorem dL_law_364 : decode cL_law 364 = .ok (.iconst 1, 1) := by decide +kernel
theorem dL_law_365 : decode cL_law 365 = .ok (.iload 10, 2) := by decide +kernel
theorem dL_law_367 : decode cL_law 367 = .ok (.bipush 9, 2) := by decide +kernel
theorem dL_law_369 : decode cL_law 369 = .ok (.irem, 1) := by decide +kernel
theorem dL_law_370 : decode cL_law 370 = .ok (.iadd, 1) := by decide +kernel
theorem dL_law_371 : decode cL_law 371 = .ok (.invokestatic 117, 3) := by decide +kernel
theorem dL_law_374 : decode cL_law 374 = .ok (.lstore 12, 2) := by decide +kernel
theorem dL_law_376 : decode cL_law 376 = .ok (.iload 9, 2) := by decide +kernel
theorem dL_law_378 : decode cL_law 378 = .ok (.iconst 4, 1) := by decide +kernel
theorem dL_law_379 : decode cL_law 379 = .ok (.if_icmp .eq 7, 3) := by decide +kernel
theorem dL_law_382 : decode cL_law 382 = .ok (.iload_n 2, 1) := by decide +kernel
theorem dL_law_383 : decode cL_law 383 = .ok (.ifCond .ne 25, 3) := by decide +kernel
theorem dL_law_386 : decode cL_law 386 = .ok (.lload 12, 2) := by decide +kernel
theorem dL_law_388 : decode cL_law 388 = .ok (.iload_n 2, 1) := by decide +kernel
theorem dL_law_389 : decode cL_law 389 = .ok (.bipush 16, 2) := by decide +kernel
theorem dL_law_391 : decode cL_law 391 = .ok (.if_icmp .ge 7, 3) := by decide +kernel
theorem dL_law_394 : decode cL_law 394 = .ok (.iload_n 2, 1) := by decide +kernel
theorem dL_law_395 : decode cL_law 395 = .ok (.goto 5, 3) := by decide +kernel
theorem dL_law_398 : decode cL_law 398 = .ok (.ldc 140, 2) := by decide +kernel
theorem dL_law_400 : decode cL_law 400 = .ok (.i2l, 1) := by decide +kernel
theorem dL_law_401 : decode cL_law 401 = .ok (.lcmp, 1) := by decide +kernel
theorem dL_law_402 : decode cL_law 402 = .ok (.ifCond .eq 15, 3) := by decide +kernel
theorem dL_law_405 : decode cL_law 405 = .ok (.goto 10, 3) := by decide +kernel
theorem dL_law_408 : decode cL_law 408 = .ok (.lload 12, 2) := by decide +kernel
theorem dL_law_410 : decode cL_law 410 = .ok (.lconst 1, 1) := by decide +kernel
theorem dL_law_411 : decode cL_law 411 = .ok (.lcmp, 1) := by decide +kernel
theorem dL_law_412 : decode cL_law 412 = .ok (.ifCond .ge 5, 3) := by decide +kernel
theorem dL_law_415 : decode cL_law 415 = .ok (.iconst 0, 1) := by decide +kernel
theorem dL_law_416 : decode cL_law 416 = .ok (.ireturn, 1) := by decide +kernel
theorem dL_law_417 : decode cL_law 417 = .ok (.iload_n 2, 1) := by decide +kernel
theorem dL_law_418 : decode cL_law 418 = .ok (.iload 9, 2) := by decide +kernel
theorem dL_law_420 : decode cL_law 420 = .ok (.iconst 4, 1) := by decide +kernel
theorem dL_law_421 : decode cL_law 421 = .ok (.if_icmp .eq 7, 3) := by decide +kernel
theorem dL_law_424 : decode cL_law 424 = .ok (.iload_n 2, 1) := by decide +kernel
theorem dL_law_425 : decode cL_law 425 = .ok (.ifCond .ne 13, 3) := by decide +kernel
theorem dL_law_428 : decode cL_law 428 = .ok (.iload_n 2, 1) := by decide +kernel
theorem dL_law_429 : decode cL_law 429 = .ok (.bipush 16, 2) := by decide +kernel
theorem dL_law_431 : decode cL_law 431 = .ok (.if_icmp .ge 7, 3) := by decide +kernel
theorem dL_law_434 : decode cL_law 434 = .ok (.iconst 1, 1) := by decide +kernel
theorem dL_law_435 : decode cL_law 435 = .ok (.goto 4, 3) := by decide +kernel
theorem dL_law_438 : decode cL_law 438 = .ok (.iconst 0, 1) := by decide +kernel
theorem dL_law_439 : decode cL_law 439 = .ok (.iadd, 1) := by decide +kernel
theorem dL_law_440 : decode cL_law 440 = .ok (.istore_n 2, 1) := by decide +kernel
theorem dL_law_441 : decode cL_law 441 = .ok (.aload_n 1, 1) := by decide +kernel
theorem dL_law_442 : decode cL_law 442 = .ok (.iconst 0, 1) := by decide +kernel
theorem dL_law_443 : decode cL_law 443 = .ok (.invokevirtual 37, 3) := by decide +kernel
theorem dL_law_446 : decode cL_law 446 = .ok (.aload_n 1, 1) := by decide +kernel
theorem dL_law_447 : decode cL_law 447 = .ok (.iconst 1, 1) := by decide +kernel
theorem dL_law_448 : decode cL_law 448 = .ok (.invokevirtual 37, 3) := by decide +kernel
theorem dL_law_451 : decode cL_law 451 = .ok (.iadd, 1) := by decide +kernel
theorem dL_law_452 : decode cL_law 452 = .ok (.aload_n 1, 1) := by decide +kernel
theorem dL_law_453 : decode cL_law 453 = .ok (.iconst 2, 1) := by decide +kernel
theorem dL_law_454 : decode cL_law 454 = .ok (.invokevirtual 37, 3) := by decide +kernel
theorem dL_law_457 : decode cL_law 457 = .ok (.iadd, 1) := by decide +kernel
theorem dL_law_458 : decode cL_law 458 = .ok (.iload_n 2, 1) := by decide +kernel
theorem dL_law_459 : decode cL_law 459 = .ok (.iload_n 2, 1) := by decide +kernel
theorem dL_law_460 : decode cL_law 460 = .ok (.iconst 1, 1) := by decide +kernel
theorem dL_law_461 : decode cL_law 461 = .ok (.isub, 1) := by decide +kernel
theorem dL_law_462 : decode cL_law 462 = .ok (.imul, 1) := by decide +kernel
theorem dL_law_463 : decode cL_law 463 = .ok (.iconst 2, 1) := by decide +kernel
theorem dL_law_464 : decode cL_law 464 = .ok (.idiv, 1) := by decide +kernel
theorem dL_law_465 : decode cL_law 465 = .ok (.if_icmp .ne 23, 3) := by decide +kernel
theorem dL_law_468 : decode cL_law 468 = .ok (.aload_n 1, 1) := by decide +kernel
theorem dL_law_469 : decode cL_law 469 = .ok (.invokevirtual 160, 3) := by decide +kernel
theorem dL_law_472 : decode cL_law 472 = .ok (.ifCond .eq 18, 3) := by decide +kernel
theorem dL_law_475 : decode cL_law 475 = .ok (.aload_n 1, 1) := by decide +kernel
theorem dL_law_476 : decode cL_law 476 = .ok (.iconst 1, 1) := by decide +kernel
theorem dL_law_477 : decode cL_law 477 = .ok (.invokevirtual 37, 3) := by decide +kernel
theorem dL_law_480 : decode cL_law 480 = .ok (.aload_n 1, 1) := by decide +kernel
theorem dL_law_481 : decode cL_law 481 = .ok (.iconst 1, 1) := by decide +kernel
theorem dL_law_482 : decode cL_law 482 = .ok (.invokevirtual 23, 3) := by decide +kernel
theorem dL_law_485 : decode cL_law 485 = .ok (.if_icmp .eq 5, 3) := by decide +kernel
theorem dL_law_488 : decode cL_law 488 = .ok (.iconst 0, 1) := by decide +kernel
theorem dL_law_489 : decode cL_law 489 = .ok (.ireturn, 1) := by decide +kernel
theorem dL_law_490 : decode cL_law 490 = .ok (.goto 717, 3) := by decide +kernel
theorem dL_law_493 : decode cL_law 493 = .ok (.iload 9, 2) := by decide +kernel
theorem dL_law_495 : decode cL_law 495 = .ok (.bipush 6, 2) := by decide +kernel
theorem dL_law_497 : decode cL_law 497 = .ok (.if_icmp .ne 187, 3) := by decide +kernel
theorem dL_law_500 : decode cL_law 500 = .ok (.iconst 1, 1) := by decide +kernel
theorem dL_law_501 : decode cL_law 501 = .ok (.iload 10, 2) := by decide +kernel
theorem dL_law_503 : decode cL_law 503 = .ok (.bipush 6, 2) := by decide +kernel
theorem dL_law_505 : decode cL_law 505 = .ok (.irem, 1) := by decide +kernel
theorem dL_law_506 : decode cL_law 506 = .ok (.iadd, 1) := by decide +kernel
theorem dL_law_507 : decode cL_law 507 = .ok (.istore 12, 2) := by decide +kernel
theorem dL_law_509 : decode cL_law 509 = .ok (.iconst 1, 1) := by decide +kernel
theorem dL_law_510 : decode cL_law 510 = .ok (.iload 11, 2) := by decide +kernel
theorem dL_law_512 : decode cL_law 512 = .ok (.bipush 6, 2) := by decide +kernel
theorem dL_law_514 : decode cL_law 514 = .ok (.irem, 1) := by decide +kernel
theorem dL_law_515 : decode cL_law 515 = .ok (.iadd, 1) := by decide +kernel
theorem dL_law_516 : decode cL_law 516 = .ok (.istore 13, 2) := by decide +kernel
theorem dL_law_518 : decode cL_law 518 = .ok (.iload 12, 2) := by decide +kernel
theorem dL_law_520 : decode cL_law 520 = .ok (.iload 12, 2) := by decide +kernel
theorem dL_law_522 : decode cL_law 522 = .ok (.imul, 1) := by decide +kernel
theorem dL_law_523 : decode cL_law 523 = .ok (.iload 13, 2) := by decide +kernel
theorem dL_law_525 : decode cL_law 525 = .ok (.irem, 1) := by decide +kernel
theorem dL_law_526 : decode cL_law 526 = .ok (.ifCond .ne 7, 3) := by decide +kernel
theorem dL_law_529 : decode cL_law 529 = .ok (.iconst 1, 1) := by decide +kernel
theorem dL_law_530 : decode cL_law 530 = .ok (.goto 4, 3) := by decide +kernel
theorem dL_law_533 : decode cL_law 533 = .ok (.iconst 0, 1) := by decide +kernel
theorem dL_law_534 : decode cL_law 534 = .ok (.istore 14, 2) := by decide +kernel
theorem dL_law_536 : decode cL_law 536 = .ok (.iload 12, 2) := by decide +kernel
theorem dL_law_538 : decode cL_law 538 = .ok (.iload 12, 2) := by decide +kernel
theorem dL_law_540 : decode cL_law 540 = .ok (.imul, 1) := by decide +kernel
