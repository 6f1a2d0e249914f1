theorem dL_refuses_51 : decode cL_refuses 51 = .ok (.iconst 2, 1) := by decide +kernel
theorem dL_refuses_52 : decode cL_refuses 52 = .ok (.if_icmp .ne 8, 3) := by decide +kernel
theorem dL_refuses_55 : decode cL_refuses 55 = .ok (.iload 6, 2) := by decide +kernel
theorem dL_refuses_57 : decode cL_refuses 57 = .ok (.goto 8, 3) := by decide +kernel
theorem dL_refuses_60 : decode cL_refuses 60 = .ok (.iload 6, 2) := by decide +kernel
theorem dL_refuses_62 : decode cL_refuses 62 = .ok (.ineg, 1) := by decide +kernel
theorem dL_refuses_63 : decode cL_refuses 63 = .ok (.iconst 1, 1) := by decide +kernel
theorem dL_refuses_64 : decode cL_refuses 64 = .ok (.isub, 1) := by decide +kernel
theorem dL_refuses_65 : decode cL_refuses 65 = .ok (.istore 12, 2) := by decide +kernel
theorem dL_refuses_67 : decode cL_refuses 67 = .ok (.iload 11, 2) := by decide +kernel
theorem dL_refuses_69 : decode cL_refuses 69 = .ok (.iconst 1, 1) := by decide +kernel
theorem dL_refuses_70 : decode cL_refuses 70 = .ok (.if_icmp .ne 8, 3) := by decide +kernel
theorem dL_refuses_73 : decode cL_refuses 73 = .ok (.iload 8, 2) := by decide +kernel
theorem dL_refuses_75 : decode cL_refuses 75 = .ok (.goto 5, 3) := by decide +kernel
theorem dL_refuses_78 : decode cL_refuses 78 = .ok (.iload 12, 2) := by decide +kernel
theorem dL_refuses_80 : decode cL_refuses 80 = .ok (.istore 13, 2) := by decide +kernel
theorem dL_refuses_82 : decode cL_refuses 82 = .ok (.iload 11, 2) := by decide +kernel
theorem dL_refuses_84 : decode cL_refuses 84 = .ok (.iconst 1, 1) := by decide +kernel
theorem dL_refuses_85 : decode cL_refuses 85 = .ok (.if_icmp .ne 8, 3) := by decide +kernel
theorem dL_refuses_88 : decode cL_refuses 88 = .ok (.iload 7, 2) := by decide +kernel
theorem dL_refuses_90 : decode cL_refuses 90 = .ok (.goto 5, 3) := by decide +kernel
theorem dL_refuses_93 : decode cL_refuses 93 = .ok (.iload 12, 2) := by decide +kernel
theorem dL_refuses_95 : decode cL_refuses 95 = .ok (.istore 14, 2) := by decide +kernel
theorem dL_refuses_97 : decode cL_refuses 97 = .ok (.iload 11, 2) := by decide +kernel
theorem dL_refuses_99 : decode cL_refuses 99 = .ok (.iconst 1, 1) := by decide +kernel
theorem dL_refuses_100 : decode cL_refuses 100 = .ok (.if_icmp .ne 7, 3) := by decide +kernel
theorem dL_refuses_103 : decode cL_refuses 103 = .ok (.iload_n 1, 1) := by decide +kernel
theorem dL_refuses_104 : decode cL_refuses 104 = .ok (.goto 5, 3) := by decide +kernel
theorem dL_refuses_107 : decode cL_refuses 107 = .ok (.iload 12, 2) := by decide +kernel
theorem dL_refuses_109 : decode cL_refuses 109 = .ok (.istore 15, 2) := by decide +kernel
theorem dL_refuses_111 : decode cL_refuses 111 = .ok (.iload 11, 2) := by decide +kernel
theorem dL_refuses_113 : decode cL_refuses 113 = .ok (.iconst 1, 1) := by decide +kernel
theorem dL_refuses_114 : decode cL_refuses 114 = .ok (.if_icmp .ne 7, 3) := by decide +kernel
theorem dL_refuses_117 : decode cL_refuses 117 = .ok (.iload_n 2, 1) := by decide +kernel
theorem dL_refuses_118 : decode cL_refuses 118 = .ok (.goto 5, 3) := by decide +kernel
theorem dL_refuses_121 : decode cL_refuses 121 = .ok (.iload 12, 2) := by decide +kernel
theorem dL_refuses_123 : decode cL_refuses 123 = .ok (.istore 16, 2) := by decide +kernel
theorem dL_refuses_125 : decode cL_refuses 125 = .ok (.iload 11, 2) := by decide +kernel
theorem dL_refuses_127 : decode cL_refuses 127 = .ok (.iconst 1, 1) := by decide +kernel
theorem dL_refuses_128 : decode cL_refuses 128 = .ok (.if_icmp .ne 7, 3) := by decide +kernel
theorem dL_refuses_131 : decode cL_refuses 131 = .ok (.iconst 4, 1) := by decide +kernel
theorem dL_refuses_132 : decode cL_refuses 132 = .ok (.goto 5, 3) := by decide +kernel
theorem dL_refuses_135 : decode cL_refuses 135 = .ok (.iload 12, 2) := by decide +kernel
theorem dL_refuses_137 : decode cL_refuses 137 = .ok (.istore 17, 2) := by decide +kernel
theorem dL_refuses_139 : decode cL_refuses 139 = .ok (.iload 11, 2) := by decide +kernel
theorem dL_refuses_141 : decode cL_refuses 141 = .ok (.iconst 1, 1) := by decide +kernel
theorem dL_refuses_142 : decode cL_refuses 142 = .ok (.if_icmp .ne 8, 3) := by decide +kernel
theorem dL_refuses_145 : decode cL_refuses 145 = .ok (.iload 4, 2) := by decide +kernel
theorem dL_refuses_147 : decode cL_refuses 147 = .ok (.goto 5, 3) := by decide +kernel
theorem dL_refuses_150 : decode cL_refuses 150 = .ok (.iload 12, 2) := by decide +kernel
theorem dL_refuses_152 : decode cL_refuses 152 = .ok (.istore 18, 2) := by decide +kernel
theorem dL_refuses_154 : decode cL_refuses 154 = .ok (.iload 11, 2) := by decide +kernel
theorem dL_refuses_156 : decode cL_refuses 156 = .ok (.ifCond .ne 8, 3) := by decide +kernel
theorem dL_refuses_159 : decode cL_refuses 159 = .ok (.ldc 113, 2) := by decide +kernel
theorem dL_refuses_161 : decode cL_refuses 161 = .ok (.goto 16, 3) := by decide +kernel
theorem dL_refuses_164 : decode cL_refuses 164 = .ok (.iload 11, 2) := by decide +kernel
theorem dL_refuses_166 : decode cL_refuses 166 = .ok (.iconst 1, 1) := by decide +kernel
theorem dL_refuses_167 : decode cL_refuses 167 = .ok (.if_icmp .ne 8, 3) := by decide +kernel
theorem dL_refuses_170 : decode cL_refuses 170 = .ok (.ldc 114, 2) := by decide +kernel
theorem dL_refuses_172 : decode cL_refuses 172 = .ok (.goto 5, 3) := by decide +kernel
theorem dL_refuses_175 : decode cL_refuses 175 = .ok (.iload 12, 2) := by decide +kernel
theorem dL_refuses_177 : decode cL_refuses 177 = .ok (.istore 19, 2) := by decide +kernel
theorem dL_refuses_179 : decode cL_refuses 179 = .ok (.iload 11, 2) := by decide +kernel
theorem dL_refuses_181 : decode cL_refuses 181 = .ok (.ifCond .ne 8, 3) := by decide +kernel
theorem dL_refuses_184 : decode cL_refuses 184 = .ok (.ldc 115, 2) := by decide +kernel
theorem dL_refuses_186 : decode cL_refuses 186 = .ok (.goto 16, 3) := by decide +kernel
theorem dL_refuses_189 : decode cL_refuses 189 = .ok (.iload 11, 2) := by decide +kernel
theorem dL_refuses_191 : decode cL_refuses 191 = .ok (.iconst 1, 1) := by decide +kernel
theorem dL_refuses_192 : decode cL_refuses 192 = .ok (.if_icmp .ne 8, 3) := by decide +kernel
theorem dL_refuses_195 : decode cL_refuses 195 = .ok (.ldc 116, 2) := by decide +kernel
theorem dL_refuses_197 : decode cL_refuses 197 = .ok (.goto 5, 3) := by decide +kernel
theorem dL_refuses_200 : decode cL_refuses 200 = .ok (.iload 12, 2) := by decide +kernel
theorem dL_refuses_202 : decode cL_refuses 202 = .ok (.istore 20, 2) := by decide +kernel
theorem dL_refuses_204 : decode cL_refuses 204 = .ok (.iload 11, 2) := by decide +kernel
theorem dL_refuses_206 : decode cL_refuses 206 = .ok (.iconst 2, 1) := by decide +kernel
theorem dL_refuses_207 : decode cL_refuses 207 = .ok (.if_icmp .ne 7, 3) := by decide +kernel
theorem dL_refuses_210 : decode cL_refuses 210 = .ok (.iconst (-1), 1) := by decide +kernel
theorem dL_refuses_211 : decode cL_refuses 211 = .ok (.goto 19, 3) := by decide +kernel
theorem dL_refuses_214 : decode cL_refuses 214 = .ok (.iload 11, 2) := by decide +kernel
theorem dL_refuses_216 : decode cL_refuses 216 = .ok (.iconst 1, 1) := by decide +kernel
theorem dL_refuses_217 : decode cL_refuses 217 = .ok (.if_icmp .ne 8, 3) := by decide +kernel
theorem dL_refuses_220 : decode cL_refuses 220 = .ok (.bipush (-2), 2) := by decide +kernel
theorem dL_refuses_222 : decode cL_refuses 222 = .ok (.goto 8, 3) := by decide +kernel
theorem dL_refuses_225 : decode cL_refuses 225 = .ok (.iload 6, 2) := by decide +kernel
theorem dL_refuses_227 : decode cL_refuses 227 = .ok (.ineg, 1) := by decide +kernel
theorem dL_refuses_228 : decode cL_refuses 228 = .ok (.iconst 1, 1) := by decide +kernel
theorem dL_refuses_229 : decode cL_refuses 229 = .ok (.isub, 1) := by decide +kernel
theorem dL_refuses_230 : decode cL_refuses 230 = .ok (.istore 21, 2) := by decide +kernel
theorem dL_refuses_232 : decode cL_refuses 232 = .ok (.aload_n 0, 1) := by decide +kernel
theorem dL_refuses_233 : decode cL_refuses 233 = .ok (.iconst 0, 1) := by decide +kernel
theorem dL_refuses_234 : decode cL_refuses 234 = .ok (.iload 13, 2) := by decide +kernel
theorem dL_refuses_236 : decode cL_refuses 236 = .ok (.iconst 0, 1) := by decide +kernel
theorem dL_refuses_237 : decode cL_refuses 237 = .ok (.iconst 0, 1) := by decide +kernel
theorem dL_refuses_238 : decode cL_refuses 238 = .ok (.iconst 0, 1) := by decide +kernel
theorem dL_refuses_239 : decode cL_refuses 239 = .ok (.invokestatic 117, 3) := by decide +kernel
theorem dL_refuses_242 : decode cL_refuses 242 = .ok (.ldc2_w 98, 3) := by decide +kernel
theorem dL_refuses_245 : decode cL_refuses 245 = .ok (.lcmp, 1) := by decide +kernel
theorem dL_refuses_246 : decode cL_refuses 246 = .ok (.ifCond .ne 361, 3) := by decide +kernel
theorem dL_refuses_249 : decode cL_refuses 249 = .ok (.aload_n 0, 1) := by decide +kernel
theorem dL_refuses_250 : decode cL_refuses 250 = .ok (.iconst 1, 1) := by decide +kernel
theorem dL_refuses_251 : decode cL_refuses 251 = .ok (.iload 14, 2) := by decide +kernel
theorem dL_refuses_253 : decode cL_refuses 253 = .ok (.iconst 0, 1) := by decide +kernel
theorem dL_refuses_254 : decode cL_refuses 254 = .ok (.iconst 0, 1) := by decide +kernel
theorem dL_refuses_255 : decode cL_refuses 255 = .ok (.iconst 0, 1) := by decide +kernel
theorem dL_refuses_256 : decode cL_refuses 256 = .ok (.invokestatic 117, 3) := by decide +kernel
theorem dL_refuses_259 : decode cL_refuses 259 = .ok (.ldc2_w 98, 3) := by decide +kernel
theorem dL_refuses_262 : decode cL_refuses 262 = .ok (.lcmp, 1) := by decide +kernel
theorem dL_refuses_263 : decode cL_refuses 263 = .ok (.ifCond .ne 344, 3) := by decide +kernel
theorem dL_refuses_266 : decode cL_refuses 266 = .ok (.aload_n 0, 1) := by decide +kernel
theorem dL_refuses_267 : decode cL_refuses 267 = .ok (.iconst 1, 1) := by decide +kernel
theorem dL_refuses_268 : decode cL_refuses 268 = .ok (.iconst 0, 1) := by decide +kernel
theorem dL_refuses_269 : decode cL_refuses 269 = .ok (.iload 14, 2) := by decide +kernel
theorem dL_refuses_271 : decode cL_refuses 271 = .ok (.iconst 0, 1) := by decide +kernel
theorem dL_refuses_272 : decode cL_refuses 272 = .ok (.iconst 0, 1) := by decide +kernel
theorem dL_refuses_273 : decode cL_refuses 273 = .ok (.invokestatic 117, 3) := by decide +kernel
theorem dL_refuses_276 : decode cL_refuses 276 = .ok (.ldc2_w 98, 3) := by decide +kernel
theorem dL_refuses_279 : decode cL_refuses 279 = .ok (.lcmp, 1) := by decide +kernel
theorem dL_refuses_280 : decode cL_refuses 280 = .ok (.ifCond .ne 327, 3) := by decide +kernel
theorem dL_refuses_283 : decode cL_refuses 283 = .ok (.aload_n 0, 1) := by decide +kernel
theorem dL_refuses_284 : decode cL_refuses 284 = .ok (.iconst 1, 1) := by decide +kernel
theorem dL_refuses_285 : decode cL_refuses 285 = .ok (.iconst 2, 1) := by decide +kernel
theorem dL_refuses_286 : decode cL_refuses 286 = .ok (.iconst 2, 1) := by decide +kernel
theorem dL_refuses_287 : decode cL_refuses 287 = .ok (.iconst 0, 1) := by decide +kernel
theorem dL_refuses_288 : decode cL_refuses 288 = .ok (.iconst 0, 1) := by decide +kernel
theorem dL_refuses_289 : decode cL_refuses 289 = .ok (.invokestatic 117, 3) := by decide +kernel
theorem dL_refuses_292 : decode cL_refuses 292 = .ok (.ldc2_w 106, 3) := by decide +kernel
theorem dL_refuses_295 : decode cL_refuses 295 = .ok (.lcmp, 1) := by decide +kernel
theorem dL_refuses_296 : decode cL_refuses 296 = .ok (.ifCond .ne 311, 3) := by decide +kernel
theorem dL_refuses_299 : decode cL_refuses 299 = .ok (.aload_n 0, 1) := by decide +kernel
theorem dL_refuses_300 : decode cL_refuses 300 = .ok (.iconst 2, 1) := by decide +kernel
theorem dL_refuses_301 : decode cL_refuses 301 = .ok (.iload 13, 2) := by decide +kernel
theorem dL_refuses_303 : decode cL_refuses 303 = .ok (.iconst 0, 1) := by decide +kernel
theorem dL_refuses_304 : decode cL_refuses 304 = .ok (.iconst 0, 1) := by decide +kernel
theorem dL_refuses_305 : decode cL_refuses 305 = .ok (.iconst 0, 1) := by decide +kernel
theorem dL_refuses_306 : decode cL_refuses 306 = .ok (.invokestatic 117, 3) := by decide +kernel
theorem dL_refuses_309 : decode cL_refuses 309 = .ok (.ldc2_w 98, 3) := by decide +kernel
theorem dL_refuses_312 : decode cL_refuses 312 = .ok (.lcmp, 1) := by decide +kernel
theorem dL_refuses_313 : decode cL_refuses 313 = .ok (.ifCond .ne 294, 3) := by decide +kernel
theorem dL_refuses_316 : decode cL_refuses 316 = .ok (.aload_n 0, 1) := by decide +kernel
theorem dL_refuses_317 : decode cL_refuses 317 = .ok (.iconst 2, 1) := by decide +kernel
theorem dL_refuses_318 : decode cL_refuses 318 = .ok (.iconst 0, 1) := by decide +kernel
theorem dL_refuses_319 : decode cL_refuses 319 = .ok (.iload 11, 2) := by decide +kernel
theorem dL_refuses_321 : decode cL_refuses 321 = .ok (.iconst 1, 1) := by decide +kernel
theorem dL_refuses_322 : decode cL_refuses 322 = .ok (.if_icmp .ne 7, 3) := by decide +kernel
theorem dL_refuses_325 : decode cL_refuses 325 = .ok (.iconst 3, 1) := by decide +kernel
theorem dL_refuses_326 : decode cL_refuses 326 = .ok (.goto 5, 3) := by decide +kernel
theorem dL_refuses_329 : decode cL_refuses 329 = .ok (.iload 12, 2) := by decide +kernel
theorem dL_refuses_331 : decode cL_refuses 331 = .ok (.iconst 0, 1) := by decide +kernel
theorem dL_refuses_332 : decode cL_refuses 332 = .ok (.iconst 0, 1) := by decide +kernel
theorem dL_refuses_333 : decode cL_refuses 333 = .ok (.invokestatic 117, 3) := by decide +kernel
theorem dL_refuses_336 : decode cL_refuses 336 = .ok (.ldc2_w 98, 3) := by decide +kernel
theorem dL_refuses_339 : decode cL_refuses 339 = .ok (.lcmp, 1) := by decide +kernel
theorem dL_refuses_340 : decode cL_refuses 340 = .ok (.ifCond .ne 267, 3) := by decide +kernel
theorem dL_refuses_343 : decode cL_refuses 343 = .ok (.aload_n 0, 1) := by decide +kernel
theorem dL_refuses_344 : decode cL_refuses 344 = .ok (.iconst 3, 1) := by decide +kernel
theorem dL_refuses_345 : decode cL_refuses 345 = .ok (.iload 14, 2) := by decide +kernel
theorem dL_refuses_347 : decode cL_refuses 347 = .ok (.iconst 0, 1) := by decide +kernel
theorem dL_refuses_348 : decode cL_refuses 348 = .ok (.iconst 0, 1) := by decide +kernel
theorem dL_refuses_349 : decode cL_refuses 349 = .ok (.iconst 0, 1) := by decide +kernel
theorem dL_refuses_350 : decode cL_refuses 350 = .ok (.invokestatic 117, 3) := by decide +kernel
theorem dL_refuses_353 : decode cL_refuses 353 = .ok (.ldc2_w 98, 3) := by decide +kernel
theorem dL_refuses_356 : decode cL_refuses 356 = .ok (.lcmp, 1) := by decide +kernel
theorem dL_refuses_357 : decode cL_refuses 357 = .ok (.ifCond .ne 250, 3) := by decide +kernel
theorem dL_refuses_360 : decode cL_refuses 360 = .ok (.aload_n 0, 1) := by decide +kernel
theorem dL_refuses_361 : decode cL_refuses 361 = .ok (.iconst 3, 1) := by decide +kernel
theorem dL_refuses_362 : decode cL_refuses 362 = .ok (.iconst 0, 1) := by decide +kernel
theorem dL_refuses_363 : decode cL_refuses 363 = .ok (.iload 21, 2) := by decide +kernel
theorem dL_refuses_365 : decode cL_refuses 365 = .ok (.iconst 0, 1) := by decide +kernel
theorem dL_refuses_366 : decode cL_refuses 366 = .ok (.iconst 0, 1) := by decide +kernel
theorem dL_refuses_367 : decode cL_refuses 367 = .ok (.invokestatic 117, 3) := by decide +kernel
theorem dL_refuses_370 : decode cL_refuses 370 = .ok (.ldc2_w 98, 3) := by decide +kernel
theorem dL_refuses_373 : decode cL_refuses 373 = .ok (.lcmp, 1) := by decide +kernel
theorem dL_refuses_374 : decode cL_refuses 374 = .ok (.ifCond .ne 233, 3) := by decide +kernel
theorem dL_refuses_377 : decode cL_refuses 377 = .ok (.aload_n 0, 1) := by decide +kernel
theorem dL_refuses_378 : decode cL_refuses 378 = .ok (.iconst 4, 1) := by decide +kernel
theorem dL_refuses_379 : decode cL_refuses 379 = .ok (.iload 11, 2) := by decide +kernel
theorem dL_refuses_381 : decode cL_refuses 381 = .ok (.iconst 1, 1) := by decide +kernel
theorem dL_refuses_382 : decode cL_refuses 382 = .ok (.if_icmp .ne 7, 3) := by decide +kernel
theorem dL_refuses_385 : decode cL_refuses 385 = .ok (.iconst 5, 1) := by decide +kernel
theorem dL_refuses_386 : decode cL_refuses 386 = .ok (.goto 5, 3) := by decide +kernel
theorem dL_refuses_389 : decode cL_refuses 389 = .ok (.iload 12, 2) := by decide +kernel
theorem dL_refuses_391 : decode cL_refuses 391 = .ok (.iconst 0, 1) := by decide +kernel
theorem dL_refuses_392 : decode cL_refuses 392 = .ok (.iconst 0, 1) := by decide +kernel
theorem dL_refuses_393 : decode cL_refuses 393 = .ok (.iconst 0, 1) := by decide +kernel
theorem dL_refuses_394 : decode cL_refuses 394 = .ok (.invokestatic 117, 3) := by decide +kernel
theorem dL_refuses_397 : decode cL_refuses 397 = .ok (.ldc2_w 98, 3) := by decide +kernel
theorem dL_refuses_400 : decode cL_refuses 400 = .ok (.lcmp, 1) := by decide +kernel
theorem dL_refuses_401 : decode cL_refuses 401 = .ok (.ifCond .ne 206, 3) := by decide +kernel
theorem dL_refuses_404 : decode cL_refuses 404 = .ok (.aload_n 0, 1) := by decide +kernel
theorem dL_refuses_405 : decode cL_refuses 405 = .ok (.iconst 5, 1) := by decide +kernel
theorem dL_refuses_406 : decode cL_refuses 406 = .ok (.iload 19, 2) := by decide +kernel
theorem dL_refuses_408 : decode cL_refuses 408 = .ok (.iconst 0, 1) := by decide +kernel
theorem dL_refuses_409 : decode cL_refuses 409 = .ok (.iconst 1, 1) := by decide +kernel
theorem dL_refuses_410 : decode cL_refuses 410 = .ok (.iconst 0, 1) := by decide +kernel
theorem dL_refuses_411 : decode cL_refuses 411 = .ok (.invokestatic 117, 3) := by decide +kernel
theorem dL_refuses_414 : decode cL_refuses 414 = .ok (.ldc2_w 102, 3) := by decide +kernel
theorem dL_refuses_417 : decode cL_refuses 417 = .ok (.lcmp, 1) := by decide +kernel
theorem dL_refuses_418 : decode cL_refuses 418 = .ok (.ifCond .ne 189, 3) := by decide +kernel
theorem dL_refuses_421 : decode cL_refuses 421 = .ok (.aload_n 0, 1) := by decide +kernel
theorem dL_refuses_422 : decode cL_refuses 422 = .ok (.iconst 5, 1) := by decide +kernel
theorem dL_refuses_423 : decode cL_refuses 423 = .ok (.iconst 0, 1) := by decide +kernel
theorem dL_refuses_424 : decode cL_refuses 424 = .ok (.iload 19, 2) := by decide +kernel
theorem dL_refuses_426 : decode cL_refuses 426 = .ok (.iconst 1, 1) := by decide +kernel
theorem dL_refuses_427 : decode cL_refuses 427 = .ok (.iconst 0, 1) := by decide +kernel
theorem dL_refuses_428 : decode cL_refuses 428 = .ok (.invokestatic 117, 3) := by decide +kernel
theorem dL_refuses_431 : decode cL_refuses 431 = .ok (.ldc2_w 102, 3) := by decide +kernel
theorem dL_refuses_434 : decode cL_refuses 434 = .ok (.lcmp, 1) := by decide +kernel
theorem dL_refuses_435 : decode cL_refuses 435 = .ok (.ifCond .ne 172, 3) := by decide +kernel
theorem dL_refuses_438 : decode cL_refuses 438 = .ok (.aload_n 0, 1) := by decide +kernel
theorem dL_refuses_439 : decode cL_refuses 439 = .ok (.iconst 5, 1) := by decide +kernel
theorem dL_refuses_440 : decode cL_refuses 440 = .ok (.iconst 0, 1) := by decide +kernel
theorem dL_refuses_441 : decode cL_refuses 441 = .ok (.iconst 0, 1) := by decide +kernel
theorem dL_refuses_442 : decode cL_refuses 442 = .ok (.iload 11, 2) := by decide +kernel
theorem dL_refuses_444 : decode cL_refuses 444 = .ok (.ifCond .ne 7, 3) := by decide +kernel
theorem dL_refuses_447 : decode cL_refuses 447 = .ok (.iconst 0, 1) := by decide +kernel
theorem dL_refuses_448 : decode cL_refuses 448 = .ok (.goto 5, 3) := by decide +kernel
theorem dL_refuses_451 : decode cL_refuses 451 = .ok (.iload 19, 2) := by decide +kernel
theorem dL_refuses_453 : decode cL_refuses 453 = .ok (.iconst 0, 1) := by decide +kernel
theorem dL_refuses_454 : decode cL_refuses 454 = .ok (.invokestatic 117, 3) := by decide +kernel
theorem dL_refuses_457 : decode cL_refuses 457 = .ok (.ldc2_w 102, 3) := by decide +kernel
theorem dL_refuses_460 : decode cL_refuses 460 = .ok (.lcmp, 1) := by decide +kernel
theorem dL_refuses_461 : decode cL_refuses 461 = .ok (.ifCond .ne 146, 3) := by decide +kernel
theorem dL_refuses_464 : decode cL_refuses 464 = .ok (.aload_n 0, 1) := by decide +kernel
theorem dL_refuses_465 : decode cL_refuses 465 = .ok (.bipush 6, 2) := by decide +kernel
theorem dL_refuses_467 : decode cL_refuses 467 = .ok (.iload 15, 2) := by decide +kernel
theorem dL_refuses_469 : decode cL_refuses 469 = .ok (.iconst 0, 1) := by decide +kernel
theorem dL_refuses_470 : decode cL_refuses 470 = .ok (.iconst 0, 1) := by decide +kernel
theorem dL_refuses_471 : decode cL_refuses 471 = .ok (.iconst 0, 1) := by decide +kernel
theorem dL_refuses_472 : decode cL_refuses 472 = .ok (.invokestatic 117, 3) := by decide +kernel
theorem dL_refuses_475 : decode cL_refuses 475 = .ok (.ldc2_w 98, 3) := by decide +kernel
theorem dL_refuses_478 : decode cL_refuses 478 = .ok (.lcmp, 1) := by decide +kernel
theorem dL_refuses_479 : decode cL_refuses 479 = .ok (.ifCond .ne 128, 3) := by decide +kernel
theorem dL_refuses_482 : decode cL_refuses 482 = .ok (.aload_n 0, 1) := by decide +kernel
theorem dL_refuses_483 : decode cL_refuses 483 = .ok (.bipush 7, 2) := by decide +kernel
theorem dL_refuses_485 : decode cL_refuses 485 = .ok (.iload 15, 2) := by decide +kernel
theorem dL_refuses_487 : decode cL_refuses 487 = .ok (.iconst 0, 1) := by decide +kernel
theorem dL_refuses_488 : decode cL_refuses 488 = .ok (.iconst 0, 1) := by decide +kernel
theorem dL_refuses_489 : decode cL_refuses 489 = .ok (.iconst 0, 1) := by decide +kernel
theorem dL_refuses_490 : decode cL_refuses 490 = .ok (.invokestatic 117, 3) := by decide +kernel
theorem dL_refuses_493 : decode cL_refuses 493 = .ok (.ldc2_w 98, 3) := by decide +kernel
theorem dL_refuses_496 : decode cL_refuses 496 = .ok (.lcmp, 1) := by decide +kernel
theorem dL_refuses_497 : decode cL_refuses 497 = .ok (.ifCond .ne 110, 3) := by decide +kernel
theorem dL_refuses_500 : decode cL_refuses 500 = .ok (.aload_n 0, 1) := by decide +kernel
theorem dL_refuses_501 : decode cL_refuses 501 = .ok (.bipush 7, 2) := by decide +kernel
theorem dL_refuses_503 : decode cL_refuses 503 = .ok (.iconst 0, 1) := by decide +kernel
theorem dL_refuses_504 : decode cL_refuses 504 = .ok (.iload 15, 2) := by decide +kernel
theorem dL_refuses_506 : decode cL_refuses 506 = .ok (.iconst 0, 1) := by decide +kernel
theorem dL_refuses_507 : decode cL_refuses 507 = .ok (.iconst 0, 1) := by decide +kernel
theorem dL_refuses_508 : decode cL_refuses 508 = .ok (.invokestatic 117, 3) := by decide +kernel
theorem dL_refuses_511 : decode cL_refuses 511 = .ok (.ldc2_w 98, 3) := by decide +kernel
theorem dL_refuses_514 : decode cL_refuses 514 = .ok (.lcmp, 1) := by decide +kernel
theorem dL_refuses_515 : decode cL_refuses 515 = .ok (.ifCond .ne 92, 3) := by decide +kernel
theorem dL_refuses_518 : decode cL_refuses 518 = .ok (.aload_n 0, 1) := by decide +kernel
theorem dL_refuses_519 : decode cL_refuses 519 = .ok (.bipush 8, 2) := by decide +kernel
theorem dL_refuses_521 : decode cL_refuses 521 = .ok (.iload 11, 2) := by decide +kernel
theorem dL_refuses_523 : decode cL_refuses 523 = .ok (.iconst 1, 1) := by decide +kernel
theorem dL_refuses_524 : decode cL_refuses 524 = .ok (.if_icmp .ne 7, 3) := by decide +kernel
theorem dL_refuses_527 : decode cL_refuses 527 = .ok (.iconst 3, 1) := by decide +kernel
theorem dL_refuses_528 : decode cL_refuses 528 = .ok (.goto 5, 3) := by decide +kernel
theorem dL_refuses_531 : decode cL_refuses 531 = .ok (.iload 12, 2) := by decide +kernel
theorem dL_refuses_533 : decode cL_refuses 533 = .ok (.iconst 0, 1) := by decide +kernel
theorem dL_refuses_534 : decode cL_refuses 534 = .ok (.iconst 0, 1) := by decide +kernel
theorem dL_refuses_535 : decode cL_refuses 535 = .ok (.iconst 0, 1) := by decide +kernel
theorem dL_refuses_536 : decode cL_refuses 536 = .ok (.invokestatic 117, 3) := by decide +kernel
theorem dL_refuses_539 : decode cL_refuses 539 = .ok (.ldc2_w 102, 3) := by decide +kernel
theorem dL_refuses_542 : decode cL_refuses 542 = .ok (.lcmp, 1) := by decide +kernel
theorem dL_refuses_543 : decode cL_refuses 543 = .ok (.ifCond .ne 64, 3) := by decide +kernel
theorem dL_refuses_546 : decode cL_refuses 546 = .ok (.aload_n 0, 1) := by decide +kernel
theorem dL_refuses_547 : decode cL_refuses 547 = .ok (.bipush 9, 2) := by decide +kernel
theorem dL_refuses_549 : decode cL_refuses 549 = .ok (.iload 20, 2) := by decide +kernel
theorem dL_refuses_551 : decode cL_refuses 551 = .ok (.iconst 0, 1) := by decide +kernel
theorem dL_refuses_552 : decode cL_refuses 552 = .ok (.iconst 0, 1) := by decide +kernel
theorem dL_refuses_553 : decode cL_refuses 553 = .ok (.iconst 0, 1) := by decide +kernel
theorem dL_refuses_554 : decode cL_refuses 554 = .ok (.invokestatic 117, 3) := by decide +kernel
theorem dL_refuses_557 : decode cL_refuses 557 = .ok (.ldc2_w 102, 3) := by decide +kernel
theorem dL_refuses_560 : decode cL_refuses 560 = .ok (.lcmp, 1) := by decide +kernel
theorem dL_refuses_561 : decode cL_refuses 561 = .ok (.ifCond .ne 46, 3) := by decide +kernel
theorem dL_refuses_564 : decode cL_refuses 564 = .ok (.aload_n 0, 1) := by decide +kernel
theorem dL_refuses_565 : decode cL_refuses 565 = .ok (.bipush 9, 2) := by decide +kernel
theorem dL_refuses_567 : decode cL_refuses 567 = .ok (.iconst 2, 1) := by decide +kernel
