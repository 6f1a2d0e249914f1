theorem dL_refuses_150 : decode cL_refuses 150 = .ok (.iload 12, 2) := by decide +kernel
theorem dL_refuses_152 : decode cL_refuses 152 = .ok (.istore 18, 2) := by decide +kernel
theorem dL_refuses_154 : decode cL_refuses 154 = .ok (.iload 11, 2) := by decide +kernel
theorem dL_refuses_156 : decode cL_refuses 156 = .ok (.ifCond .ne 8, 3) := by decide +kernel
theorem dL_refuses_159 : decode cL_refuses 159 = .ok (.ldc 113, 2) := by decide +kernel
theorem dL_refuses_161 : decode cL_refuses 161 = .ok (.goto 16, 3) := by decide +kernel
theorem dL_refuses_164 : decode cL_refuses 164 = .ok (.iload 11, 2) := by decide +kernel
theorem dL_refuses_166 : decode cL_refuses 166 = .ok (.iconst 1, 1) := by decide +kernel
theorem dL_refuses_167 : decode cL_refuses 167 = .ok (.if_icmp .ne 8, 3) := by decide +kernel
theorem dL_refuses_170 : decode cL_refuses 170 = .ok (.ldc 114, 2) := by decide +kernel
theorem dL_refuses_172 : decode cL_refuses 172 = .ok (.goto 5, 3) := by decide +kernel
theorem dL_refuses_175 : decode cL_refuses 175 = .ok (.iload 12, 2) := by decide +kernel
theorem dL_refuses_177 : decode cL_refuses 177 = .ok (.istore 19, 2) := by decide +kernel
theorem dL_refuses_179 : decode cL_refuses 179 = .ok (.iload 11, 2) := by decide +kernel
theorem dL_refuses_181 : decode cL_refuses 181 = .ok (.ifCond .ne 8, 3) := by decide +kernel
theorem dL_refuses_184 : decode cL_refuses 184 = .ok (.ldc 115, 2) := by decide +kernel
theorem dL_refuses_186 : decode cL_refuses 186 = .ok (.goto 16, 3) := by decide +kernel
theorem dL_refuses_189 : decode cL_refuses 189 = .ok (.iload 11, 2) := by decide +kernel
theorem dL_refuses_191 : decode cL_refuses 191 = .ok (.iconst 1, 1) := by decide +kernel
theorem dL_refuses_192 : decode cL_refuses 192 = .ok (.if_icmp .ne 8, 3) := by decide +kernel
theorem dL_refuses_195 : decode cL_refuses 195 = .ok (.ldc 116, 2) := by decide +kernel
theorem dL_refuses_197 : decode cL_refuses 197 = .ok (.goto 5, 3) := by decide +kernel
theorem dL_refuses_200 : decode cL_refuses 200 = .ok (.iload 12, 2) := by decide +kernel
theorem dL_refuses_202 : decode cL_refuses 202 = .ok (.istore 20, 2) := by decide +kernel
theorem dL_refuses_204 : decode cL_refuses 204 = .ok (.iload 11, 2) := by decide +kernel
theorem dL_refuses_206 : decode cL_refuses 206 = .ok (.iconst 2, 1) := by decide +kernel
theorem dL_refuses_207 : decode cL_refuses 207 = .ok (.if_icmp .ne 7, 3) := by decide +kernel
theorem dL_refuses_210 : decode cL_refuses 210 = .ok (.iconst (-1), 1) := by decide +kernel
theorem dL_refuses_211 : decode cL_refuses 211 = .ok (.goto 19, 3) := by decide +kernel
theorem dL_refuses_214 : decode cL_refuses 214 = .ok (.iload 11, 2) := by decide +kernel
theorem dL_refuses_216 : decode cL_refuses 216 = .ok (.iconst 1, 1) := by decide +kernel
theorem dL_refuses_217 : decode cL_refuses 217 = .ok (.if_icmp .ne 8, 3) := by decide +kernel
theorem dL_refuses_220 : decode cL_refuses 220 = .ok (.bipush (-2), 2) := by decide +kernel
theorem dL_refuses_222 : decode cL_refuses 222 = .ok (.goto 8, 3) := by decide +kernel
theorem dL_refuses_225 : decode cL_refuses 225 = .ok (.iload 6, 2) := by decide +kernel
theorem dL_refuses_227 : decode cL_refuses 227 = .ok (.ineg, 1) := by decide +kernel
theorem dL_refuses_228 : decode cL_refuses 228 = .ok (.iconst 1, 1) := by decide +kernel
theorem dL_refuses_229 : decode cL_refuses 229 = .ok (.isub, 1) := by decide +kernel
theorem dL_refuses_230 : decode cL_refuses 230 = .ok (.istore 21, 2) := by decide +kernel
theorem dL_refuses_232 : decode cL_refuses 232 = .ok (.aload_n 0, 1) := by decide +kernel
theorem dL_refuses_233 : decode cL_refuses 233 = .ok (.iconst 0, 1) := by decide +kernel
theorem dL_refuses_234 : decode cL_refuses 234 = .ok (.iload 13, 2) := by decide +kernel
theorem dL_refuses_236 : decode cL_refuses 236 = .ok (.iconst 0, 1) := by decide +kernel
theorem dL_refuses_237 : decode cL_refuses 237 = .ok (.iconst 0, 1) := by decide +kernel
theorem dL_refuses_238 : decode cL_refuses 238 = .ok (.iconst 0, 1) := by decide +kernel
theorem dL_refuses_239 : decode cL_refuses 239 = .ok (.invokestatic 117, 3) := by decide +kernel
theorem dL_refuses_242 : decode cL_refuses 242 = .ok (.ldc2_w 98, 3) := by decide +kernel
theorem dL_refuses_245 : decode cL_refuses 245 = .ok (.lcmp, 1) := by decide +kernel
theorem dL_refuses_246 : decode cL_refuses 246 = .ok (.ifCond .ne 361, 3) := by decide +kernel
theorem dL_refuses_249 : decode cL_refuses 249 = .ok (.aload_n 0, 1) := by decide +kernel
theorem dL_refuses_250 : decode cL_refuses 250 = .ok (.iconst 1, 1) := by decide +kernel
theorem dL_refuses_251 : decode cL_refuses 251 = .ok (.iload 14, 2) := by decide +kernel
theorem dL_refuses_253 : decode cL_refuses 253 = .ok (.iconst 0, 1) := by decide +kernel
theorem dL_refuses_254 : decode cL_refuses 254 = .ok (.iconst 0, 1) := by decide +kernel
theorem dL_refuses_255 : decode cL_refuses 255 = .ok (.iconst 0, 1) := by decide +kernel
theorem dL_refuses_256 : decode cL_refuses 256 = .ok (.invokestatic 117, 3) := by decide +kernel
theorem dL_refuses_259 : decode cL_refuses 259 = .ok (.ldc2_w 98, 3) := by decide +kernel
theorem dL_refuses_262 : decode cL_refuses 262 = .ok (.lcmp, 1) := by decide +kernel
theorem dL_refuses_263 : decode cL_refuses 263 = .ok (.ifCond .ne 344, 3) := by decide +kernel
theorem dL_refuses_266 : decode cL_refuses 266 = .ok (.aload_n 0, 1) := by decide +kernel
theorem dL_refuses_267 : decode cL_refuses 267 = .ok (.iconst 1, 1) := by decide +kernel
theorem dL_refuses_268 : decode cL_refuses 268 = .ok (.iconst 0, 1) := by decide +kernel
theorem dL_refuses_269 : decode cL_refuses 269 = .ok (.iload 14, 2) := by decide +kernel
theorem dL_refuses_271 : decode cL_refuses 271 = .ok (.iconst 0, 1) := by decide +kernel
theorem dL_refuses_272 : decode cL_refuses 272 = .ok (.iconst 0, 1) := by decide +kernel
theorem dL_refuses_273 : decode cL_refuses 273 = .ok (.invokestatic 117, 3) := by decide +kernel
theorem dL_refuses_276 : decode cL_refuses 276 = .ok (.ldc2_w 98, 3) := by decide +kernel
theorem dL_refuses_279 : decode cL_refuses 279 = .ok (.lcmp, 1) := by decide +kernel
theorem dL_refuses_280 : decode cL_refuses 280 = .ok (.ifCond .ne 327, 3) := by decide +kernel
theorem dL_refuses_283 : decode cL_refuses 283 = .ok (.aload_n 0, 1) := by decide +kernel
theorem dL_refuses_284 : decode cL_refuses 284 = .ok (.iconst 1, 1) := by decide +kernel
theorem dL_refuses_285 : decode cL_refuses 285 = .ok (.iconst 2, 1) := by decide +kernel
theorem dL_refuses_286 : decode cL_refuses 286 = .ok (.iconst 2, 1) := by decide +kernel
theorem dL_refuses_287 : decode cL_refuses 287 = .ok (.iconst 0, 1) := by decide +kernel
theorem dL_refuses_288 : decode cL_refuses 288 = .ok (.iconst 0, 1) := by decide +kernel
theorem dL_refuses_289 : decode cL_refuses 289 = .ok (.invokestatic 117, 3) := by decide +kernel
theorem dL_refuses_292 : decode cL_refuses 292 = .ok (.ldc2_w 106, 3) := by decide +kernel
theorem dL_refuses_295 : decode cL_refuses 295 = .ok (.lcmp, 1) := by decide +kernel
theorem dL_refuses_296 : decode cL_refuses 296 = .ok (.ifCond .ne 311, 3) := by decide +kernel
theorem dL_refuses_299 : decode cL_refuses 299 = .ok (.aload_n 0, 1) := by decide +kernel
theorem dL_refuses_300 : decode cL_refuses 300 = .ok (.iconst 2, 1) := by decide +kernel
theorem dL_refuses_301 : decode cL_refuses 301 = .ok (.iload 13, 2) := by decide +kernel
theorem dL_refuses_303 : decode cL_refuses 303 = .ok (.iconst 0, 1) := by decide +kernel
theorem dL_refuses_304 : decode cL_refuses 304 = .ok (.iconst 0, 1) := by decide +kernel
theorem dL_refuses_305 : decode cL_refuses 305 = .ok (.iconst 0, 1) := by decide +kernel
theorem dL_refuses_306 : decode cL_refuses 306 = .ok (.invokestatic 117, 3) := by decide +kernel
theorem dL_refuses_309 : decode cL_refuses 309 = .ok (.ldc2_w 98, 3) := by decide +kernel
theorem dL_refuses_312 : decode cL_refuses 312 = .ok (.lcmp, 1) := by decide +kernel
theorem dL_refuses_313 : decode cL_refuses 313 = .ok (.ifCond .ne 294, 3) := by decide +kernel
theorem dL_refuses_316 : decode cL_refuses 316 = .ok (.aload_n 0, 1) := by decide +kernel
theorem dL_refuses_317 : decode cL_refuses 317 = .ok (.iconst 2, 1) := by decide +kernel
theorem dL_refuses_318 : decode cL_refuses 318 = .ok (.iconst 0, 1) := by decide +kernel
theorem dL_refuses_319 : decode cL_refuses 319 = .ok (.iload 11, 2) := by decide +kernel
theorem dL_refuses_321 : decode cL_refuses 321 = .ok (.iconst 1, 1) := by decide +kernel
theorem dL_refuses_322 : decode cL_refuses 322 = .ok (.if_icmp .ne 7, 3) := by decide +kernel
theorem dL_refuses_325 : decode cL_refuses 325 = .ok (.iconst 3, 1) := by decide +kernel
theorem dL_refuses_326 : decode cL_refuses 326 = .ok (.goto 5, 3) := by decide +kernel
theorem dL_refuses_329 : decode cL_refuses 329 = .ok (.iload 12, 2) := by decide +kernel
theorem dL_refuses_331 : decode cL_refuses 331 = .ok (.iconst 0, 1) := by decide +kernel
theorem dL_refuses_332 : decode cL_refuses 332 = .ok (.iconst 0, 1) := by decide +kernel
theorem dL_refuses_333 : decode cL_refuses 333 = .ok (.invokestatic 117, 3) := by decide +kernel
theorem dL_refuses_336 : decode cL_refuses 336 = .ok (.ldc2_w 98, 3) := by decide +kernel
theorem dL_refuses_339 : decode cL_refuses 339 = .ok (.lcmp, 1) := by decide +kernel
theorem dL_refuses_340 : decode cL_refuses 340 = .ok (.ifCond .ne 267, 3) := by decide +kernel
theorem dL_refuses_343 : decode cL_refuses 343 = .ok (.aload_n 0, 1) := by decide +kernel
theorem dL_refuses_344 : decode cL_refuses 344 = .ok (.iconst 3, 1) := by decide +kernel
theorem dL_refuses_345 : decode cL_refuses 345 = .ok (.iload 14, 2) := by decide +kernel
theorem dL_refuses_347 : decode cL_refuses 347 = .ok (.iconst 0, 1) := by decide +kernel
theorem dL_refuses_348 : decode cL_refuses 348 = .ok (.iconst 0, 1) := by decide +kernel
theorem dL_refuses_349 : decode cL_refuses 349 = .ok (.iconst 0, 1) := by decide +kernel
theorem dL_refuses_350 : decode cL_refuses 350 = .ok (.invokestatic 117, 3) := by decide +kernel
theorem dL_refuses_353 : decode cL_refuses 353 = .ok (.ldc2_w 98, 3) := by decide +kernel
theorem dL_refuses_356 : decode cL_refuses 356 = .ok (.lcmp, 1) := by decide +kernel
theorem dL_refuses_357 : decode cL_refuses 357 = .ok (.ifCond .ne 250, 3) := by decide +kernel
theorem dL_refuses_360 : decode cL_refuses 360 = .ok (.aload_n 0, 1) := by decide +kernel
theorem dL_refuses_361 : decode cL_refuses 361 = .ok (.iconst 3, 1) := by decide +kernel
theorem dL_refuses_362 : decode cL_refuses 362 = .ok (.iconst 0, 1) := by decide +kernel
theorem dL_refuses_363 : decode cL_refuses 363 = .ok (.iload 21, 2) := by decide +kernel
theorem dL_refuses_365 : decode cL_refuses 365 = .ok (.iconst 0, 1) := by decide +kernel
theorem dL_refuses_366 : decode cL_refuses 366 = .ok (.iconst 0, 1) := by decide +kernel
theorem dL_refuses_367 : decode cL_refuses 367 = .ok (.invokestatic 117, 3) := by decide +kernel
theorem dL_refuses_370 : decode cL_refuses 370 = .ok (.ldc2_w 98, 3) := by decide +kernel
theorem dL_refuses_373 : decode cL_refuses 373 = .ok (.lcmp, 1) := by decide +kernel
theorem dL_refuses_374 : decode cL_refuses 374 = .ok (.ifCond .ne 233, 3) := by decide +kernel
theorem dL_refuses_377 : decode cL_refuses 377 = .ok (.aload_n 0, 1) := by decide +kernel
theorem dL_refuses_378 : decode cL_refuses 378 = .ok (.iconst 4, 1) := by decide +kernel
theorem dL_refuses_379 : decode cL_refuses 379 = .ok (.iload 11, 2) := by decide +kernel
theorem dL_refuses_381 : decode cL_refuses 381 = .ok (.iconst 1, 1) := by decide +kernel
theorem dL_refuses_382 : decode cL_refuses 382 = .ok (.if_icmp .ne 7, 3) := by decide +kernel
theorem dL_refuses_385 : decode cL_refuses 385 = .ok (.iconst 5, 1) := by decide +kernel
theorem dL_refuses_386 : decode cL_refuses 386 = .ok (.goto 5, 3) := by decide +kernel
theorem dL_refuses_389 : decode cL_refuses 389 = .ok (.iload 12, 2) := by decide +kernel
theorem dL_refuses_391 : decode cL_refuses 391 = .ok (.iconst 0, 1) := by decide +kernel
theorem dL_refuses_392 : decode cL_refuses 392 = .ok (.iconst 0, 1) := by decide +kernel
theorem dL_refuses_393 : decode cL_refuses 393 = .ok (.iconst 0, 1) := by decide +kernel
theorem dL_refuses_394 : decode cL_refuses 394 = .ok (.invokestatic 117, 3) := by decide +kernel
theorem dL_refuses_397 : decode cL_refuses 397 = .ok (.ldc2_w 98, 3) := by decide +kernel
theorem dL_refuses_400 : decode cL_refuses 400 = .ok (.lcmp, 1) := by decide +kernel
theorem dL_refuses_401 : decode cL_refuses 401 = .ok (.ifCond .ne 206, 3) := by decide +kernel
theorem dL_refuses_404 : decode cL_refuses 404 = .ok (.aload_n 0, 1) := by decide +kernel
theorem dL_refuses_405 : decode cL_refuses 405 = .ok (.iconst 5, 1) := by decide +kernel
theorem dL_refuses_406 : decode cL_refuses 406 = .ok (.iload 19, 2) := by decide +kernel
theorem dL_refuses_408 : decode cL_refuses 408 = .ok (.iconst 0, 1) := by decide +kernel
theorem dL_refuses_409 : decode cL_refuses 409 = .ok (.iconst 1, 1) := by decide +kernel
theorem dL_refuses_410 : decode cL_refuses 410 = .ok (.iconst 0, 1) := by decide +kernel
theorem dL_refuses_411 : decode cL_refuses 411 = .ok (.invokestatic 117, 3) := by decide +kernel
theorem dL_refuses_414 : decode cL_refuses 414 = .ok (.ldc2_w 102, 3) := by decide +kernel
theorem dL_refuses_417 : decode cL_refuses 417 = .ok (.lcmp, 1) := by decide +kernel
theorem dL_refuses_418 : decode cL_refuses 418 = .ok (.ifCond .ne 189, 3) := by decide +kernel
theorem dL_refuses_421 : decode cL_refuses 421 = .ok (.aload_n 0, 1) := by decide +kernel
theorem dL_refuses_422 : decode cL_refuses 422 = .ok (.iconst 5, 1) := by decide +kernel
theorem dL_refuses_423 : decode cL_refuses 423 = .ok (.iconst 0, 1) := by decide +kernel
theorem dL_refuses_424 : decode cL_refuses 424 = .ok (.iload 19, 2) := by decide +kernel
theorem dL_refuses_426 : decode cL_refuses 426 = .ok (.iconst 1, 1) := by decide +kernel
theorem dL_refuses_427 : decode cL_refuses 427 = .ok (.iconst 0, 1) := by decide +kernel
theorem dL_refuses_428 : decode cL_refuses 428 = .ok (.invokestatic 117, 3) := by decide +kernel
theorem dL_refuses_431 : decode cL_refuses 431 = .ok (.ldc2_w 102, 3) := by decide +kernel
theorem dL_refuses_434 : decode cL_refuses 434 = .ok (.lcmp, 1) := by decide +kernel
theorem dL_refuses_435 : decode cL_refuses 435 = .ok (.ifCond .ne 172, 3) := by decide +kernel
theorem dL_refuses_438 : decode cL_refuses 438 = .ok (.aload_n 0, 1) := by decide +kernel
theorem dL_refuses_439 : decode cL_refuses 439 = .ok (.iconst 5, 1) := by decide +kernel
theorem dL_refuses_440 : decode cL_refuses 440 = .ok (.iconst 0, 1) := by decide +kernel
theorem dL_refuses_441 : decode cL_refuses 441 = .ok (.iconst 0, 1) := by decide +kernel
theorem dL_refuses_442 : decode cL_refuses 442 = .ok (.iload 11, 2) := by decide +kernel
theorem dL_refuses_444 : decode cL_refuses 444 = .ok (.ifCond .ne 7, 3) := by decide +kernel
theorem dL_refuses_447 : decode cL_refuses 447 = .ok (.iconst 0, 1) := by decide +kernel
theorem dL_refuses_448 : decode cL_refuses 448 = .ok (.goto 5, 3) := by decide +kernel
theorem dL_refuses_451 : decode cL_refuses 451 = .ok (.iload 19, 2) := by decide +kernel
theorem dL_refuses_453 : decode cL_refuses 453 = .ok (.iconst 0, 1) := by decide +kernel
theorem dL_refuses_454 : decode cL_refuses 454 = .ok (.invokestatic 117, 3) := by decide +kernel
theorem dL_refuses_457 : decode cL_refuses 457 = .ok (.ldc2_w 102, 3) := by decide +kernel
theorem dL_refuses_460 : decode cL_refuses 460 = .ok (.lcmp, 1) := by decide +kernel
theorem dL_refuses_461 : decode cL_refuses 461 = .ok (.ifCond .ne 146, 3) := by decide +kernel
theorem dL_refuses_464 : decode cL_refuses 464 = .ok (.aload_n 0, 1) := by decide +kernel
theorem dL_refuses_465 : decode cL_refuses 465 = .ok (.bipush 6, 2) := by decide +kernel
theorem dL_refuses_467 : decode cL_refuses 467 = .ok (.iload 15, 2) := by decide +kernel
theorem dL_refuses_469 : decode cL_refuses 469 = .ok (.iconst 0, 1) := by decide +kernel
theorem dL_refuses_470 : decode cL_refuses 470 = .ok (.iconst 0, 1) := by decide +kernel
theorem dL_refuses_471 : decode cL_refuses 471 = .ok (.iconst 0, 1) := by decide +kernel
theorem dL_refuses_472 : decode cL_refuses 472 = .ok (.invokestatic 117, 3) := by decide +kernel
theorem dL_refuses_475 : decode cL_refuses 475 = .ok (.ldc2_w 98, 3) := by decide +kernel
theorem dL_refuses_478 : decode cL_refuses 478 = .ok (.lcmp, 1) := by decide +kernel
theorem dL_refuses_479 : decode cL_refuses 479 = .ok (.ifCond .ne 128, 3) := by decide +kernel
theorem dL_refuses_482 : decode cL_refuses 482 = .ok (.aload_n 0, 1) := by decide +kernel
theorem dL_refuses_483 : decode cL_refuses 483 = .ok (.bipush 7, 2) := by decide +kernel
theorem dL_refuses_485 : decode cL_refuses 485 = .ok (.iload 15, 2) := by decide +kernel
theorem dL_refuses_487 : decode cL_refuses 487 = .ok (.iconst 0, 1) := by decide +kernel
theorem dL_refuses_488 : decode cL_refuses 488 = .ok (.iconst 0, 1) := by decide +kernel
theorem dL_refuses_489 : decode cL_refuses 489 = .ok (.iconst 0, 1) := by decide +kernel
theorem dL_refuses_490 : decode cL_refuses 490 = .ok (.invokestatic 117, 3) := by decide +kernel
theorem dL_refuses_493 : decode cL_refuses 493 = .ok (.ldc2_w 98, 3) := by decide +kernel
theorem dL_refuses_496 : decode cL_refuses 496 = .ok (.lcmp, 1) := by decide +kernel
theorem dL_refuses_497 : decode cL_refuses 497 = .ok (.ifCond .ne 110, 3) := by decide +kernel
theorem dL_refuses_500 : decode cL_refuses 500 = .ok (.aload_n 0, 1) := by decide +kernel
theorem dL_refuses_501 : decode cL_refuses 501 = .ok (.bipush 7, 2) := by decide +kernel
theorem dL_refuses_503 : decode cL_refuses 503 = .ok (.iconst 0, 1) := by decide +kernel
theorem dL_refuses_504 : decode cL_refuses 504 = .ok (.iload 15, 2) := by decide +kernel
theorem dL_refuses_506 : decode cL_refuses 506 = .ok (.iconst 0, 1) := by decide +kernel
theorem dL_refuses_507 : decode cL_refuses 507 = .ok (.iconst 0, 1) := by decide +kernel
theorem dL_refuses_508 : decode cL_refuses 508 = .ok (.invokestatic 117, 3) := by decide +kernel
theorem dL_refuses_511 : decode cL_refuses 511 = .ok (.ldc2_w 98, 3) := by decide +kernel
theorem dL_refuses_514 : decode cL_refuses 514 = .ok (.lcmp, 1) := by decide +kernel
theorem dL_refuses_515 : decode cL_refuses 515 = .ok (.ifCond .ne 92, 3) := by decide +kernel
theorem dL_refuses_518 : decode cL_refuses 518 = .ok (.aload_n 0, 1) := by decide +kernel
theorem dL_refuses_519 : decode cL_refuses 519 = .ok (.bipush 8, 2) := by decide +kernel
theorem dL_refuses_521 : decode cL_refuses 521 = .ok (.iload 11, 2) := by decide +kernel
theorem dL_refuses_523 : decode cL_refuses 523 = .ok (.iconst 1, 1) := by decide +kernel
theorem dL_refuses_524 : decode cL_refuses 524 = .ok (.if_icmp .ne 7, 3) := by decide +kernel
theorem dL_refuses_527 : decode cL_refuses 527 = .ok (.iconst 3, 1) := by decide +kernel
theorem dL_refuses_528 : decode cL_refuses 528 = .ok (.goto 5, 3) := by decide +kernel
theorem dL_refuses_531 : decode cL_refuses 531 = .ok (.iload 12, 2) := by decide +kernel
theorem dL_refuses_533 : decode cL_refuses 533 = .ok (.iconst 0, 1) := by decide +kernel
theorem dL_refuses_534 : decode cL_refuses 534 = .ok (.iconst 0, 1) := by decide +kernel
theorem dL_refuses_535 : decode cL_refuses 535 = .ok (.iconst 0, 1) := by decide +kernel
theorem dL_refuses_536 : decode cL_refuses 536 = .ok (.invokestatic 117, 3) := by decide +kernel
theorem dL_refuses_539 : decode cL_refuses 539 = .ok (.ldc2_w 102, 3) := by decide +kernel
theorem dL_refuses_542 : decode cL_refuses 542 = .ok (.lcmp, 1) := by decide +kernel
theorem dL_refuses_543 : decode cL_refuses 543 = .ok (.ifCond .ne 64, 3) := by decide +kernel
theorem dL_refuses_546 : decode cL_refuses 546 = .ok (.aload_n 0, 1) := by decide +kernel
theorem dL_refuses_547 : decode cL_refuses 547 = .ok (.bipush 9, 2) := by decide +kernel
theorem dL_refuses_549 : decode cL_refuses 549 = .ok (.iload 20, 2) := by decide +kernel
theorem dL_refuses_551 : decode cL_refuses 551 = .ok (.iconst 0, 1) := by decide +kernel
theorem dL_refuses_552 : decode cL_refuses 552 = .ok (.iconst 0, 1) := by decide +kernel
theorem dL_refuses_553 : decode cL_refuses 553 = .ok (.iconst 0, 1) := by decide +kernel
theorem dL_refuses_554 : decode cL_refuses 554 = .ok (.invokestatic 117, 3) := by decide +kernel
theorem dL_refuses_557 : decode cL_refuses 557 = .ok (.ldc2_w 102, 3) := by decide +kernel
theorem dL_refuses_560 : decode cL_refuses 560 = .ok (.lcmp, 1) := by decide +kernel
theorem dL_refuses_561 : decode cL_refuses 561 = .ok (.ifCond .ne 46, 3) := by decide +kernel
theorem dL_refuses_564 : decode cL_refuses 564 = .ok (.aload_n 0, 1) := by decide +kernel
theorem dL_refuses_565 : decode cL_refuses 565 = .ok (.bipush 9, 2) := by decide +kernel
theorem dL_refuses_567 : decode cL_refuses 567 = .ok (.iconst 2, 1) := by decide +kernel
theorem dL_refuses_568 : decode cL_refuses 568 = .ok (.iconst 2, 1) := by decide +kernel
theorem dL_refuses_569 : decode cL_refuses 569 = .ok (.iconst 3, 1) := by decide +kernel
theorem dL_refuses_570 : decode cL_refuses 570 = .ok (.iload 20, 2) := by decide +kernel
theorem dL_refuses_572 : decode cL_refuses 572 = .ok (.invokestatic 117, 3) := by decide +kernel
theorem dL_refuses_575 : decode cL_refuses 575 = .ok (.ldc2_w 102, 3) := by decide +kernel
theorem dL_refuses_578 : decode cL_refuses 578 = .ok (.lcmp, 1) := by decide +kernel
theorem dL_refuses_579 : decode cL_refuses 579 = .ok (.ifCond .ne 28, 3) := by decide +kernel
theorem dL_refuses_582 : decode cL_refuses 582 = .ok (.aload_n 0, 1) := by decide +kernel
theorem dL_refuses_583 : decode cL_refuses 583 = .ok (.bipush 9, 2) := by decide +kernel
theorem dL_refuses_585 : decode cL_refuses 585 = .ok (.iconst 1, 1) := by decide +kernel
theorem dL_refuses_586 : decode cL_refuses 586 = .ok (.iload 11, 2) := by decide +kernel
theorem dL_refuses_588 : decode cL_refuses 588 = .ok (.iconst 1, 1) := by decide +kernel
theorem dL_refuses_589 : decode cL_refuses 589 = .ok (.iconst 1, 1) := by decide +kernel
theorem dL_refuses_590 : decode cL_refuses 590 = .ok (.iload 11, 2) := by decide +kernel
theorem dL_refuses_592 : decode cL_refuses 592 = .ok (.isub, 1) := by decide +kernel
theorem dL_refuses_593 : decode cL_refuses 593 = .ok (.invokestatic 117, 3) := by decide +kernel
theorem dL_refuses_596 : decode cL_refuses 596 = .ok (.ldc2_w 102, 3) := by decide +kernel
theorem dL_refuses_599 : decode cL_refuses 599 = .ok (.lcmp, 1) := by decide +kernel
theorem dL_refuses_600 : decode cL_refuses 600 = .ok (.ifCond .ne 7, 3) := by decide +kernel
theorem dL_refuses_603 : decode cL_refuses 603 = .ok (.iconst 1, 1) := by decide +kernel
theorem dL_refuses_604 : decode cL_refuses 604 = .ok (.goto 4, 3) := by decide +kernel
theorem dL_refuses_607 : decode cL_refuses 607 = .ok (.iconst 0, 1) := by decide +kernel
theorem dL_refuses_608 : decode cL_refuses 608 = .ok (.istore 22, 2) := by decide +kernel
theorem dL_refuses_610 : decode cL_refuses 610 = .ok (.bipush 10, 2) := by decide +kernel
theorem dL_refuses_612 : decode cL_refuses 612 = .ok (.istore 23, 2) := by decide +kernel
theorem dL_refuses_614 : decode cL_refuses 614 = .ok (.iload 23, 2) := by decide +kernel
theorem dL_refuses_616 : decode cL_refuses 616 = .ok (.bipush 14, 2) := by decide +kernel
theorem dL_refuses_618 : decode cL_refuses 618 = .ok (.if_icmp .ge 57, 3) := by decide +kernel
theorem dL_refuses_621 : decode cL_refuses 621 = .ok (.iload 22, 2) := by decide +kernel
theorem dL_refuses_623 : decode cL_refuses 623 = .ok (.ifCond .eq 43, 3) := by decide +kernel
theorem dL_refuses_626 : decode cL_refuses 626 = .ok (.aload_n 0, 1) := by decide +kernel
theorem dL_refuses_627 : decode cL_refuses 627 = .ok (.iload 23, 2) := by decide +kernel
theorem dL_refuses_629 : decode cL_refuses 629 = .ok (.iload 16, 2) := by decide +kernel
theorem dL_refuses_631 : decode cL_refuses 631 = .ok (.iconst 0, 1) := by decide +kernel
theorem dL_refuses_632 : decode cL_refuses 632 = .ok (.iconst 0, 1) := by decide +kernel
theorem dL_refuses_633 : decode cL_refuses 633 = .ok (.iconst 0, 1) := by decide +kernel
theorem dL_refuses_634 : decode cL_refuses 634 = .ok (.invokestatic 117, 3) := by decide +kernel
theorem dL_refuses_637 : decode cL_refuses 637 = .ok (.ldc2_w 98, 3) := by decide +kernel
theorem dL_refuses_640 : decode cL_refuses 640 = .ok (.lcmp, 1) := by decide +kernel
theorem dL_refuses_641 : decode cL_refuses 641 = .ok (.ifCond .ne 25, 3) := by decide +kernel
theorem dL_refuses_644 : decode cL_refuses 644 = .ok (.aload_n 0, 1) := by decide +kernel
theorem dL_refuses_645 : decode cL_refuses 645 = .ok (.iload 23, 2) := by decide +kernel
theorem dL_refuses_647 : decode cL_refuses 647 = .ok (.iconst 0, 1) := by decide +kernel
theorem dL_refuses_648 : decode cL_refuses 648 = .ok (.iload 17, 2) := by decide +kernel
theorem dL_refuses_650 : decode cL_refuses 650 = .ok (.iconst 0, 1) := by decide +kernel
theorem dL_refuses_651 : decode cL_refuses 651 = .ok (.iconst 0, 1) := by decide +kernel
theorem dL_refuses_652 : decode cL_refuses 652 = .ok (.invokestatic 117, 3) := by decide +kernel
theorem dL_refuses_655 : decode cL_refuses 655 = .ok (.ldc2_w 98, 3) := by decide +kernel
theorem dL_refuses_658 : decode cL_refuses 658 = .ok (.lcmp, 1) := by decide +kernel
theorem dL_refuses_659 : decode cL_refuses 659 = .ok (.ifCond .ne 7, 3) := by decide +kernel
theorem dL_refuses_662 : decode cL_refuses 662 = .ok (.iconst 1, 1) := by decide +kernel
theorem dL_refuses_663 : decode cL_refuses 663 = .ok (.goto 4, 3) := by decide +kernel
theorem dL_refuses_666 : decode cL_refuses 666 = .ok (.iconst 0, 1) := by decide +kernel
theorem dL_refuses_667 : decode cL_refuses 667 = .ok (.istore 22, 2) := by decide +kernel
theorem dL_refuses_669 : decode cL_refuses 669 = .ok (.iinc 23 1, 3) := by decide +kernel
theorem dL_refuses_672 : decode cL_refuses 672 = .ok (.goto (-58), 3) := by decide +kernel
theorem dL_refuses_675 : decode cL_refuses 675 = .ok (.bipush 14, 2) := by decide +kernel
theorem dL_refuses_677 : decode cL_refuses 677 = .ok (.istore 23, 2) := by decide +kernel
theorem dL_refuses_679 : decode cL_refuses 679 = .ok (.iload 23, 2) := by decide +kernel
theorem dL_refuses_681 : decode cL_refuses 681 = .ok (.bipush 17, 2) := by decide +kernel
theorem dL_refuses_683 : decode cL_refuses 683 = .ok (.if_icmp .ge 82, 3) := by decide +kernel
theorem dL_refuses_686 : decode cL_refuses 686 = .ok (.iload 22, 2) := by decide +kernel
theorem dL_refuses_688 : decode cL_refuses 688 = .ok (.ifCond .eq 68, 3) := by decide +kernel
theorem dL_refuses_691 : decode cL_refuses 691 = .ok (.aload_n 0, 1) := by decide +kernel
theorem dL_refuses_692 : decode cL_refuses 692 = .ok (.iload 23, 2) := by decide +kernel
theorem dL_refuses_694 : decode cL_refuses 694 = .ok (.iload 16, 2) := by decide +kernel
theorem dL_refuses_696 : decode cL_refuses 696 = .ok (.iconst 0, 1) := by decide +kernel
theorem dL_refuses_697 : decode cL_refuses 697 = .ok (.iconst 0, 1) := by decide +kernel
theorem dL_refuses_698 : decode cL_refuses 698 = .ok (.iconst 0, 1) := by decide +kernel
theorem dL_refuses_699 : decode cL_refuses 699 = .ok (.invokestatic 117, 3) := by decide +kernel
theorem dL_refuses_702 : decode cL_refuses 702 = .ok (.ldc2_w 98, 3) := by decide +kernel
theorem dL_refuses_705 : decode cL_refuses 705 = .ok (.lcmp, 1) := by decide +kernel
theorem dL_refuses_706 : decode cL_refuses 706 = .ok (.ifCond .ne 50, 3) := by decide +kernel
theorem dL_refuses_709 : decode cL_refuses 709 = .ok (.iload_n 2, 1) := by decide +kernel
theorem dL_refuses_710 : decode cL_refuses 710 = .ok (.ifCond .eq 42, 3) := by decide +kernel
theorem dL_refuses_713 : decode cL_refuses 713 = .ok (.aload_n 0, 1) := by decide +kernel
theorem dL_refuses_714 : decode cL_refuses 714 = .ok (.iload 23, 2) := by decide +kernel
theorem dL_refuses_716 : decode cL_refuses 716 = .ok (.iconst 0, 1) := by decide +kernel
theorem dL_refuses_717 : decode cL_refuses 717 = .ok (.iload 11, 2) := by decide +kernel
theorem dL_refuses_719 : decode cL_refuses 719 = .ok (.ifCond .ne 7, 3) := by decide +kernel
theorem dL_refuses_722 : decode cL_refuses 722 = .ok (.iconst 0, 1) := by decide +kernel
theorem dL_refuses_723 : decode cL_refuses 723 = .ok (.goto 17, 3) := by decide +kernel
theorem dL_refuses_726 : decode cL_refuses 726 = .ok (.iload 11, 2) := by decide +kernel
theorem dL_refuses_728 : decode cL_refuses 728 = .ok (.iconst 1, 1) := by decide +kernel
theorem dL_refuses_729 : decode cL_refuses 729 = .ok (.if_icmp .ne 9, 3) := by decide +kernel
theorem dL_refuses_732 : decode cL_refuses 732 = .ok (.sipush 1001, 3) := by decide +kernel
theorem dL_refuses_735 : decode cL_refuses 735 = .ok (.goto 5, 3) := by decide +kernel
theorem dL_refuses_738 : decode cL_refuses 738 = .ok (.iload 12, 2) := by decide +kernel
theorem dL_refuses_740 : decode cL_refuses 740 = .ok (.iconst 0, 1) := by decide +kernel
theorem dL_refuses_741 : decode cL_refuses 741 = .ok (.iconst 0, 1) := by decide +kernel
theorem dL_refuses_742 : decode cL_refuses 742 = .ok (.invokestatic 117, 3) := by decide +kernel
theorem dL_refuses_745 : decode cL_refuses 745 = .ok (.ldc2_w 102, 3) := by decide +kernel
theorem dL_refuses_748 : decode cL_refuses 748 = .ok (.lcmp, 1) := by decide +kernel
theorem dL_refuses_749 : decode cL_refuses 749 = .ok (.ifCond .ne 7, 3) := by decide +kernel
theorem dL_refuses_752 : decode cL_refuses 752 = .ok (.iconst 1, 1) := by decide +kernel
theorem dL_refuses_753 : decode cL_refuses 753 = .ok (.goto 4, 3) := by decide +kernel
theorem dL_refuses_756 : decode cL_refuses 756 = .ok (.iconst 0, 1) := by decide +kernel
theorem dL_refuses_757 : decode cL_refuses 757 = .ok (.istore 22, 2) := by decide +kernel
theorem dL_refuses_759 : decode cL_refuses 759 = .ok (.iinc 23 1, 3) := by decide +kernel
theorem dL_refuses_762 : decode cL_refuses 762 = .ok (.goto (-83), 3) := by decide +kernel
theorem dL_refuses_765 : decode cL_refuses 765 = .ok (.iload 22, 2) := by decide +kernel
theorem dL_refuses_767 : decode cL_refuses 767 = .ok (.ifCond .eq 560, 3) := by decide +kernel
theorem dL_refuses_770 : decode cL_refuses 770 = .ok (.iload_n 2, 1) := by decide +kernel
theorem dL_refuses_771 : decode cL_refuses 771 = .ok (.ifCond .eq 30, 3) := by decide +kernel
theorem dL_refuses_774 : decode cL_refuses 774 = .ok (.aload_n 0, 1) := by decide +kernel
theorem dL_refuses_775 : decode cL_refuses 775 = .ok (.bipush 16, 2) := by decide +kernel
theorem dL_refuses_777 : decode cL_refuses 777 = .ok (.iconst 0, 1) := by decide +kernel
theorem dL_refuses_778 : decode cL_refuses 778 = .ok (.iload 11, 2) := by decide +kernel
theorem dL_refuses_780 : decode cL_refuses 780 = .ok (.ifCond .ne 7, 3) := by decide +kernel
theorem dL_refuses_783 : decode cL_refuses 783 = .ok (.iconst 1, 1) := by decide +kernel
theorem dL_refuses_784 : decode cL_refuses 784 = .ok (.goto 5, 3) := by decide +kernel
theorem dL_refuses_787 : decode cL_refuses 787 = .ok (.bipush 9, 2) := by decide +kernel
theorem dL_refuses_789 : decode cL_refuses 789 = .ok (.iconst 0, 1) := by decide +kernel
theorem dL_refuses_790 : decode cL_refuses 790 = .ok (.iconst 0, 1) := by decide +kernel
theorem dL_refuses_791 : decode cL_refuses 791 = .ok (.invokestatic 117, 3) := by decide +kernel
theorem dL_refuses_794 : decode cL_refuses 794 = .ok (.ldc2_w 102, 3) := by decide +kernel
theorem dL_refuses_797 : decode cL_refuses 797 = .ok (.lcmp, 1) := by decide +kernel
theorem dL_refuses_798 : decode cL_refuses 798 = .ok (.ifCond .ne 529, 3) := by decide +kernel
theorem dL_refuses_801 : decode cL_refuses 801 = .ok (.aload_n 0, 1) := by decide +kernel
theorem dL_refuses_802 : decode cL_refuses 802 = .ok (.bipush 17, 2) := by decide +kernel
theorem dL_refuses_804 : decode cL_refuses 804 = .ok (.iload 19, 2) := by decide +kernel
theorem dL_refuses_806 : decode cL_refuses 806 = .ok (.iconst 1, 1) := by decide +kernel
theorem dL_refuses_807 : decode cL_refuses 807 = .ok (.iconst 0, 1) := by decide +kernel
theorem dL_refuses_808 : decode cL_refuses 808 = .ok (.iconst 1, 1) := by decide +kernel
theorem dL_refuses_809 : decode cL_refuses 809 = .ok (.invokestatic 117, 3) := by decide +kernel
theorem dL_refuses_812 : decode cL_refuses 812 = .ok (.ldc2_w 102, 3) := by decide +kernel
theorem dL_refuses_815 : decode cL_refuses 815 = .ok (.lcmp, 1) := by decide +kernel
theorem dL_refuses_816 : decode cL_refuses 816 = .ok (.ifCond .ne 511, 3) := by decide +kernel
theorem dL_refuses_819 : decode cL_refuses 819 = .ok (.aload_n 0, 1) := by decide +kernel
theorem dL_refuses_820 : decode cL_refuses 820 = .ok (.bipush 17, 2) := by decide +kernel
theorem dL_refuses_822 : decode cL_refuses 822 = .ok (.iconst 1, 1) := by decide +kernel
theorem dL_refuses_823 : decode cL_refuses 823 = .ok (.iload 11, 2) := by decide +kernel
theorem dL_refuses_825 : decode cL_refuses 825 = .ok (.ifCond .ne 7, 3) := by decide +kernel
theorem dL_refuses_828 : decode cL_refuses 828 = .ok (.iconst 0, 1) := by decide +kernel
theorem dL_refuses_829 : decode cL_refuses 829 = .ok (.goto 5, 3) := by decide +kernel
theorem dL_refuses_832 : decode cL_refuses 832 = .ok (.iload 19, 2) := by decide +kernel
theorem dL_refuses_834 : decode cL_refuses 834 = .ok (.iconst 0, 1) := by decide +kernel
theorem dL_refuses_835 : decode cL_refuses 835 = .ok (.iconst 1, 1) := by decide +kernel
theorem dL_refuses_836 : decode cL_refuses 836 = .ok (.invokestatic 117, 3) := by decide +kernel
theorem dL_refuses_839 : decode cL_refuses 839 = .ok (.ldc2_w 102, 3) := by decide +kernel
theorem dL_refuses_842 : decode cL_refuses 842 = .ok (.lcmp, 1) := by decide +kernel
theorem dL_refuses_843 : decode cL_refuses 843 = .ok (.ifCond .ne 484, 3) := by decide +kernel
theorem dL_refuses_846 : decode cL_refuses 846 = .ok (.aload_n 0, 1) := by decide +kernel
theorem dL_refuses_847 : decode cL_refuses 847 = .ok (.bipush 17, 2) := by decide +kernel
theorem dL_refuses_849 : decode cL_refuses 849 = .ok (.iconst 0, 1) := by decide +kernel
theorem dL_refuses_850 : decode cL_refuses 850 = .ok (.iconst 1, 1) := by decide +kernel
theorem dL_refuses_851 : decode cL_refuses 851 = .ok (.iconst 2, 1) := by decide +kernel
theorem dL_refuses_852 : decode cL_refuses 852 = .ok (.iload 11, 2) := by decide +kernel
theorem dL_refuses_854 : decode cL_refuses 854 = .ok (.iadd, 1) := by decide +kernel
theorem dL_refuses_855 : decode cL_refuses 855 = .ok (.iconst 2, 1) := by decide +kernel
theorem dL_refuses_856 : decode cL_refuses 856 = .ok (.iload 11, 2) := by decide +kernel
theorem dL_refuses_858 : decode cL_refuses 858 = .ok (.iadd, 1) := by decide +kernel
theorem dL_refuses_859 : decode cL_refuses 859 = .ok (.invokestatic 117, 3) := by decide +kernel
theorem dL_refuses_862 : decode cL_refuses 862 = .ok (.ldc2_w 102, 3) := by decide +kernel
theorem dL_refuses_865 : decode cL_refuses 865 = .ok (.lcmp, 1) := by decide +kernel
theorem dL_refuses_866 : decode cL_refuses 866 = .ok (.ifCond .ne 461, 3) := by decide +kernel
theorem dL_refuses_869 : decode cL_refuses 869 = .ok (.aload_n 0, 1) := by decide +kernel
theorem dL_refuses_870 : decode cL_refuses 870 = .ok (.bipush 18, 2) := by decide +kernel
theorem dL_refuses_872 : decode cL_refuses 872 = .ok (.iconst 0, 1) := by decide +kernel
theorem dL_refuses_873 : decode cL_refuses 873 = .ok (.iconst 1, 1) := by decide +kernel
theorem dL_refuses_874 : decode cL_refuses 874 = .ok (.iconst 1, 1) := by decide +kernel
theorem dL_refuses_875 : decode cL_refuses 875 = .ok (.iload 11, 2) := by decide +kernel
theorem dL_refuses_877 : decode cL_refuses 877 = .ok (.ifCond .ne 7, 3) := by decide +kernel
theorem dL_refuses_880 : decode cL_refuses 880 = .ok (.iconst 0, 1) := by decide +kernel
theorem dL_refuses_881 : decode cL_refuses 881 = .ok (.goto 5, 3) := by decide +kernel
theorem dL_refuses_884 : decode cL_refuses 884 = .ok (.iload 19, 2) := by decide +kernel
theorem dL_refuses_886 : decode cL_refuses 886 = .ok (.invokestatic 117, 3) := by decide +kernel
theorem dL_refuses_889 : decode cL_refuses 889 = .ok (.ldc2_w 102, 3) := by decide +kernel
theorem dL_refuses_892 : decode cL_refuses 892 = .ok (.lcmp, 1) := by decide +kernel
theorem dL_refuses_893 : decode cL_refuses 893 = .ok (.ifCond .ne 434, 3) := by decide +kernel
theorem dL_refuses_896 : decode cL_refuses 896 = .ok (.aload_n 0, 1) := by decide +kernel
theorem dL_refuses_897 : decode cL_refuses 897 = .ok (.bipush 18, 2) := by decide +kernel
theorem dL_refuses_899 : decode cL_refuses 899 = .ok (.iconst 3, 1) := by decide +kernel
theorem dL_refuses_900 : decode cL_refuses 900 = .ok (.bipush 6, 2) := by decide +kernel
theorem dL_refuses_902 : decode cL_refuses 902 = .ok (.iconst 1, 1) := by decide +kernel
theorem dL_refuses_903 : decode cL_refuses 903 = .ok (.bipush 7, 2) := by decide +kernel
theorem dL_refuses_905 : decode cL_refuses 905 = .ok (.invokestatic 117, 3) := by decide +kernel
theorem dL_refuses_908 : decode cL_refuses 908 = .ok (.ldc2_w 102, 3) := by decide +kernel
theorem dL_refuses_911 : decode cL_refuses 911 = .ok (.lcmp, 1) := by decide +kernel
theorem dL_refuses_912 : decode cL_refuses 912 = .ok (.ifCond .ne 415, 3) := by decide +kernel
theorem dL_refuses_915 : decode cL_refuses 915 = .ok (.aload_n 0, 1) := by decide +kernel
theorem dL_refuses_916 : decode cL_refuses 916 = .ok (.bipush 18, 2) := by decide +kernel
theorem dL_refuses_918 : decode cL_refuses 918 = .ok (.iconst 5, 1) := by decide +kernel
theorem dL_refuses_919 : decode cL_refuses 919 = .ok (.bipush 7, 2) := by decide +kernel
theorem dL_refuses_921 : decode cL_refuses 921 = .ok (.iconst 5, 1) := by decide +kernel
theorem dL_refuses_922 : decode cL_refuses 922 = .ok (.bipush 7, 2) := by decide +kernel
theorem dL_refuses_924 : decode cL_refuses 924 = .ok (.invokestatic 117, 3) := by decide +kernel
theorem dL_refuses_927 : decode cL_refuses 927 = .ok (.ldc2_w 102, 3) := by decide +kernel
theorem dL_refuses_930 : decode cL_refuses 930 = .ok (.lcmp, 1) := by decide +kernel
theorem dL_refuses_931 : decode cL_refuses 931 = .ok (.ifCond .ne 396, 3) := by decide +kernel
theorem dL_refuses_934 : decode cL_refuses 934 = .ok (.aload_n 0, 1) := by decide +kernel
theorem dL_refuses_935 : decode cL_refuses 935 = .ok (.bipush 19, 2) := by decide +kernel
theorem dL_refuses_937 : decode cL_refuses 937 = .ok (.iload 11, 2) := by decide +kernel
theorem dL_refuses_939 : decode cL_refuses 939 = .ok (.iconst 1, 1) := by decide +kernel
theorem dL_refuses_940 : decode cL_refuses 940 = .ok (.if_icmp .ne 9, 3) := by decide +kernel
theorem dL_refuses_943 : decode cL_refuses 943 = .ok (.sipush 1001, 3) := by decide +kernel
theorem dL_refuses_946 : decode cL_refuses 946 = .ok (.goto 16, 3) := by decide +kernel
theorem dL_refuses_949 : decode cL_refuses 949 = .ok (.iload 11, 2) := by decide +kernel
theorem dL_refuses_951 : decode cL_refuses 951 = .ok (.ifCond .ne 9, 3) := by decide +kernel
theorem dL_refuses_954 : decode cL_refuses 954 = .ok (.sipush (-1001), 3) := by decide +kernel
theorem dL_refuses_957 : decode cL_refuses 957 = .ok (.goto 5, 3) := by decide +kernel
theorem dL_refuses_960 : decode cL_refuses 960 = .ok (.iload 12, 2) := by decide +kernel
theorem dL_refuses_962 : decode cL_refuses 962 = .ok (.iconst 0, 1) := by decide +kernel
theorem dL_refuses_963 : decode cL_refuses 963 = .ok (.iconst 0, 1) := by decide +kernel
theorem dL_refuses_964 : decode cL_refuses 964 = .ok (.iconst 1, 1) := by decide +kernel
theorem dL_refuses_965 : decode cL_refuses 965 = .ok (.invokestatic 117, 3) := by decide +kernel
theorem dL_refuses_968 : decode cL_refuses 968 = .ok (.ldc2_w 102, 3) := by decide +kernel
theorem dL_refuses_971 : decode cL_refuses 971 = .ok (.lcmp, 1) := by decide +kernel
theorem dL_refuses_972 : decode cL_refuses 972 = .ok (.ifCond .ne 355, 3) := by decide +kernel
theorem dL_refuses_975 : decode cL_refuses 975 = .ok (.aload_n 0, 1) := by decide +kernel
theorem dL_refuses_976 : decode cL_refuses 976 = .ok (.bipush 19, 2) := by decide +kernel
theorem dL_refuses_978 : decode cL_refuses 978 = .ok (.iconst 1, 1) := by decide +kernel
theorem dL_refuses_979 : decode cL_refuses 979 = .ok (.iconst 1, 1) := by decide +kernel
theorem dL_refuses_980 : decode cL_refuses 980 = .ok (.iconst 1, 1) := by decide +kernel
theorem dL_refuses_981 : decode cL_refuses 981 = .ok (.iload 11, 2) := by decide +kernel
theorem dL_refuses_983 : decode cL_refuses 983 = .ok (.iconst 3, 1) := by decide +kernel
theorem dL_refuses_984 : decode cL_refuses 984 = .ok (.iadd, 1) := by decide +kernel
theorem dL_refuses_985 : decode cL_refuses 985 = .ok (.invokestatic 117, 3) := by decide +kernel
theorem dL_refuses_988 : decode cL_refuses 988 = .ok (.ldc2_w 102, 3) := by decide +kernel
theorem dL_refuses_991 : decode cL_refuses 991 = .ok (.lcmp, 1) := by decide +kernel
theorem dL_refuses_992 : decode cL_refuses 992 = .ok (.ifCond .ne 335, 3) := by decide +kernel
theorem dL_refuses_995 : decode cL_refuses 995 = .ok (.aload_n 0, 1) := by decide +kernel
theorem dL_refuses_996 : decode cL_refuses 996 = .ok (.bipush 20, 2) := by decide +kernel
theorem dL_refuses_998 : decode cL_refuses 998 = .ok (.iload 11, 2) := by decide +kernel
theorem dL_refuses_1000 : decode cL_refuses 1000 = .ok (.iconst 1, 1) := by decide +kernel
theorem dL_refuses_1001 : decode cL_refuses 1001 = .ok (.if_icmp .ne 7, 3) := by decide +kernel
theorem dL_refuses_1004 : decode cL_refuses 1004 = .ok (.iload_n 3, 1) := by decide +kernel
theorem dL_refuses_1005 : decode cL_refuses 1005 = .ok (.goto 5, 3) := by decide +kernel
theorem dL_refuses_1008 : decode cL_refuses 1008 = .ok (.iload 12, 2) := by decide +kernel
theorem dL_refuses_1010 : decode cL_refuses 1010 = .ok (.iconst 0, 1) := by decide +kernel
theorem dL_refuses_1011 : decode cL_refuses 1011 = .ok (.iconst 0, 1) := by decide +kernel
theorem dL_refuses_1012 : decode cL_refuses 1012 = .ok (.iconst 0, 1) := by decide +kernel
theorem dL_refuses_1013 : decode cL_refuses 1013 = .ok (.invokestatic 117, 3) := by decide +kernel
theorem dL_refuses_1016 : decode cL_refuses 1016 = .ok (.ldc2_w 98, 3) := by decide +kernel
theorem dL_refuses_1019 : decode cL_refuses 1019 = .ok (.lcmp, 1) := by decide +kernel
theorem dL_refuses_1020 : decode cL_refuses 1020 = .ok (.ifCond .ne 307, 3) := by decide +kernel
theorem dL_refuses_1023 : decode cL_refuses 1023 = .ok (.aload_n 0, 1) := by decide +kernel
theorem dL_refuses_1024 : decode cL_refuses 1024 = .ok (.bipush 21, 2) := by decide +kernel
theorem dL_refuses_1026 : decode cL_refuses 1026 = .ok (.iload 11, 2) := by decide +kernel
theorem dL_refuses_1028 : decode cL_refuses 1028 = .ok (.iconst 1, 1) := by decide +kernel
theorem dL_refuses_1029 : decode cL_refuses 1029 = .ok (.if_icmp .ne 7, 3) := by decide +kernel
theorem dL_refuses_1032 : decode cL_refuses 1032 = .ok (.iconst 5, 1) := by decide +kernel
theorem dL_refuses_1033 : decode cL_refuses 1033 = .ok (.goto 5, 3) := by decide +kernel
theorem dL_refuses_1036 : decode cL_refuses 1036 = .ok (.iload 12, 2) := by decide +kernel
theorem dL_refuses_1038 : decode cL_refuses 1038 = .ok (.iconst 0, 1) := by decide +kernel
theorem dL_refuses_1039 : decode cL_refuses 1039 = .ok (.iconst 0, 1) := by decide +kernel
theorem dL_refuses_1040 : decode cL_refuses 1040 = .ok (.iconst 0, 1) := by decide +kernel
theorem dL_refuses_1041 : decode cL_refuses 1041 = .ok (.invokestatic 117, 3) := by decide +kernel
theorem dL_refuses_1044 : decode cL_refuses 1044 = .ok (.ldc2_w 98, 3) := by decide +kernel
theorem dL_refuses_1047 : decode cL_refuses 1047 = .ok (.lcmp, 1) := by decide +kernel
theorem dL_refuses_1048 : decode cL_refuses 1048 = .ok (.ifCond .ne 279, 3) := by decide +kernel
theorem dL_refuses_1051 : decode cL_refuses 1051 = .ok (.aload_n 0, 1) := by decide +kernel
theorem dL_refuses_1052 : decode cL_refuses 1052 = .ok (.bipush 22, 2) := by decide +kernel
theorem dL_refuses_1054 : decode cL_refuses 1054 = .ok (.iload 19, 2) := by decide +kernel
theorem dL_refuses_1056 : decode cL_refuses 1056 = .ok (.iconst 1, 1) := by decide +kernel
theorem dL_refuses_1057 : decode cL_refuses 1057 = .ok (.iconst 0, 1) := by decide +kernel
theorem dL_refuses_1058 : decode cL_refuses 1058 = .ok (.iconst 0, 1) := by decide +kernel
theorem dL_refuses_1059 : decode cL_refuses 1059 = .ok (.invokestatic 117, 3) := by decide +kernel
theorem dL_refuses_1062 : decode cL_refuses 1062 = .ok (.ldc2_w 102, 3) := by decide +kernel
theorem dL_refuses_1065 : decode cL_refuses 1065 = .ok (.lcmp, 1) := by decide +kernel
theorem dL_refuses_1066 : decode cL_refuses 1066 = .ok (.ifCond .ne 261, 3) := by decide +kernel
theorem dL_refuses_1069 : decode cL_refuses 1069 = .ok (.aload_n 0, 1) := by decide +kernel
theorem dL_refuses_1070 : decode cL_refuses 1070 = .ok (.bipush 22, 2) := by decide +kernel
theorem dL_refuses_1072 : decode cL_refuses 1072 = .ok (.iconst 1, 1) := by decide +kernel
theorem dL_refuses_1073 : decode cL_refuses 1073 = .ok (.iload 11, 2) := by decide +kernel
theorem dL_refuses_1075 : decode cL_refuses 1075 = .ok (.ifCond .ne 7, 3) := by decide +kernel
theorem dL_refuses_1078 : decode cL_refuses 1078 = .ok (.iconst (-1), 1) := by decide +kernel
theorem dL_refuses_1079 : decode cL_refuses 1079 = .ok (.goto 5, 3) := by decide +kernel
theorem dL_refuses_1082 : decode cL_refuses 1082 = .ok (.iload 19, 2) := by decide +kernel
theorem dL_refuses_1084 : decode cL_refuses 1084 = .ok (.iconst 0, 1) := by decide +kernel
theorem dL_refuses_1085 : decode cL_refuses 1085 = .ok (.iconst 0, 1) := by decide +kernel
theorem dL_refuses_1086 : decode cL_refuses 1086 = .ok (.invokestatic 117, 3) := by decide +kernel
theorem dL_refuses_1089 : decode cL_refuses 1089 = .ok (.ldc2_w 102, 3) := by decide +kernel
theorem dL_refuses_1092 : decode cL_refuses 1092 = .ok (.lcmp, 1) := by decide +kernel
theorem dL_refuses_1093 : decode cL_refuses 1093 = .ok (.ifCond .ne 234, 3) := by decide +kernel
theorem dL_refuses_1096 : decode cL_refuses 1096 = .ok (.aload_n 0, 1) := by decide +kernel
theorem dL_refuses_1097 : decode cL_refuses 1097 = .ok (.bipush 22, 2) := by decide +kernel
theorem dL_refuses_1099 : decode cL_refuses 1099 = .ok (.iload 11, 2) := by decide +kernel
theorem dL_refuses_1101 : decode cL_refuses 1101 = .ok (.iconst 1, 1) := by decide +kernel
theorem dL_refuses_1102 : decode cL_refuses 1102 = .ok (.if_icmp .ne 7, 3) := by decide +kernel
theorem dL_refuses_1105 : decode cL_refuses 1105 = .ok (.iconst (-1), 1) := by decide +kernel
theorem dL_refuses_1106 : decode cL_refuses 1106 = .ok (.goto 4, 3) := by decide +kernel
theorem dL_refuses_1109 : decode cL_refuses 1109 = .ok (.iconst 2, 1) := by decide +kernel
theorem dL_refuses_1110 : decode cL_refuses 1110 = .ok (.iconst 0, 1) := by decide +kernel
theorem dL_refuses_1111 : decode cL_refuses 1111 = .ok (.iconst 0, 1) := by decide +kernel
theorem dL_refuses_1112 : decode cL_refuses 1112 = .ok (.iconst 0, 1) := by decide +kernel
theorem dL_refuses_1113 : decode cL_refuses 1113 = .ok (.invokestatic 117, 3) := by decide +kernel
theorem dL_refuses_1116 : decode cL_refuses 1116 = .ok (.ldc2_w 102, 3) := by decide +kernel
theorem dL_refuses_1119 : decode cL_refuses 1119 = .ok (.lcmp, 1) := by decide +kernel
theorem dL_refuses_1120 : decode cL_refuses 1120 = .ok (.ifCond .ne 207, 3) := by decide +kernel
theorem dL_refuses_1123 : decode cL_refuses 1123 = .ok (.aload_n 0, 1) := by decide +kernel
theorem dL_refuses_1124 : decode cL_refuses 1124 = .ok (.bipush 22, 2) := by decide +kernel
theorem dL_refuses_1126 : decode cL_refuses 1126 = .ok (.iconst 0, 1) := by decide +kernel
theorem dL_refuses_1127 : decode cL_refuses 1127 = .ok (.iconst 0, 1) := by decide +kernel
theorem dL_refuses_1128 : decode cL_refuses 1128 = .ok (.iconst 0, 1) := by decide +kernel
theorem dL_refuses_1129 : decode cL_refuses 1129 = .ok (.iconst 0, 1) := by decide +kernel
theorem dL_refuses_1130 : decode cL_refuses 1130 = .ok (.invokestatic 117, 3) := by decide +kernel
theorem dL_refuses_1133 : decode cL_refuses 1133 = .ok (.ldc2_w 102, 3) := by decide +kernel
theorem dL_refuses_1136 : decode cL_refuses 1136 = .ok (.lcmp, 1) := by decide +kernel
theorem dL_refuses_1137 : decode cL_refuses 1137 = .ok (.ifCond .ne 190, 3) := by decide +kernel
theorem dL_refuses_1140 : decode cL_refuses 1140 = .ok (.aload_n 0, 1) := by decide +kernel
theorem dL_refuses_1141 : decode cL_refuses 1141 = .ok (.bipush 23, 2) := by decide +kernel
theorem dL_refuses_1143 : decode cL_refuses 1143 = .ok (.iload 11, 2) := by decide +kernel
theorem dL_refuses_1145 : decode cL_refuses 1145 = .ok (.ifCond .ne 7, 3) := by decide +kernel
theorem dL_refuses_1148 : decode cL_refuses 1148 = .ok (.iconst 1, 1) := by decide +kernel
theorem dL_refuses_1149 : decode cL_refuses 1149 = .ok (.goto 16, 3) := by decide +kernel
theorem dL_refuses_1152 : decode cL_refuses 1152 = .ok (.iload 11, 2) := by decide +kernel
theorem dL_refuses_1154 : decode cL_refuses 1154 = .ok (.iconst 1, 1) := by decide +kernel
theorem dL_refuses_1155 : decode cL_refuses 1155 = .ok (.if_icmp .ne 8, 3) := by decide +kernel
theorem dL_refuses_1158 : decode cL_refuses 1158 = .ok (.bipush 7, 2) := by decide +kernel
theorem dL_refuses_1160 : decode cL_refuses 1160 = .ok (.goto 5, 3) := by decide +kernel
theorem dL_refuses_1163 : decode cL_refuses 1163 = .ok (.iload 12, 2) := by decide +kernel
theorem dL_refuses_1165 : decode cL_refuses 1165 = .ok (.iconst 0, 1) := by decide +kernel
theorem dL_refuses_1166 : decode cL_refuses 1166 = .ok (.iconst 0, 1) := by decide +kernel
theorem dL_refuses_1167 : decode cL_refuses 1167 = .ok (.iconst 0, 1) := by decide +kernel
theorem dL_refuses_1168 : decode cL_refuses 1168 = .ok (.invokestatic 117, 3) := by decide +kernel
theorem dL_refuses_1171 : decode cL_refuses 1171 = .ok (.ldc2_w 102, 3) := by decide +kernel
theorem dL_refuses_1174 : decode cL_refuses 1174 = .ok (.lcmp, 1) := by decide +kernel
theorem dL_refuses_1175 : decode cL_refuses 1175 = .ok (.ifCond .ne 152, 3) := by decide +kernel
theorem dL_refuses_1178 : decode cL_refuses 1178 = .ok (.aload_n 0, 1) := by decide +kernel
theorem dL_refuses_1179 : decode cL_refuses 1179 = .ok (.bipush 24, 2) := by decide +kernel
theorem dL_refuses_1181 : decode cL_refuses 1181 = .ok (.iload 18, 2) := by decide +kernel
theorem dL_refuses_1183 : decode cL_refuses 1183 = .ok (.iconst 0, 1) := by decide +kernel
theorem dL_refuses_1184 : decode cL_refuses 1184 = .ok (.iconst 0, 1) := by decide +kernel
theorem dL_refuses_1185 : decode cL_refuses 1185 = .ok (.iconst 0, 1) := by decide +kernel
theorem dL_refuses_1186 : decode cL_refuses 1186 = .ok (.invokestatic 117, 3) := by decide +kernel
theorem dL_refuses_1189 : decode cL_refuses 1189 = .ok (.ldc2_w 98, 3) := by decide +kernel
theorem dL_refuses_1192 : decode cL_refuses 1192 = .ok (.lcmp, 1) := by decide +kernel
theorem dL_refuses_1193 : decode cL_refuses 1193 = .ok (.ifCond .ne 134, 3) := by decide +kernel
theorem dL_refuses_1196 : decode cL_refuses 1196 = .ok (.aload_n 0, 1) := by decide +kernel
theorem dL_refuses_1197 : decode cL_refuses 1197 = .ok (.bipush 24, 2) := by decide +kernel
theorem dL_refuses_1199 : decode cL_refuses 1199 = .ok (.iconst 0, 1) := by decide +kernel
theorem dL_refuses_1200 : decode cL_refuses 1200 = .ok (.iload 18, 2) := by decide +kernel
theorem dL_refuses_1202 : decode cL_refuses 1202 = .ok (.iconst 0, 1) := by decide +kernel
theorem dL_refuses_1203 : decode cL_refuses 1203 = .ok (.iconst 0, 1) := by decide +kernel
theorem dL_refuses_1204 : decode cL_refuses 1204 = .ok (.invokestatic 117, 3) := by decide +kernel
theorem dL_refuses_1207 : decode cL_refuses 1207 = .ok (.ldc2_w 98, 3) := by decide +kernel
theorem dL_refuses_1210 : decode cL_refuses 1210 = .ok (.lcmp, 1) := by decide +kernel
theorem dL_refuses_1211 : decode cL_refuses 1211 = .ok (.ifCond .ne 116, 3) := by decide +kernel
theorem dL_refuses_1214 : decode cL_refuses 1214 = .ok (.aload_n 0, 1) := by decide +kernel
theorem dL_refuses_1215 : decode cL_refuses 1215 = .ok (.bipush 24, 2) := by decide +kernel
theorem dL_refuses_1217 : decode cL_refuses 1217 = .ok (.iconst 1, 1) := by decide +kernel
theorem dL_refuses_1218 : decode cL_refuses 1218 = .ok (.iconst 1, 1) := by decide +kernel
theorem dL_refuses_1219 : decode cL_refuses 1219 = .ok (.iconst 0, 1) := by decide +kernel
theorem dL_refuses_1220 : decode cL_refuses 1220 = .ok (.iconst 0, 1) := by decide +kernel
theorem dL_refuses_1221 : decode cL_refuses 1221 = .ok (.invokestatic 117, 3) := by decide +kernel
theorem dL_refuses_1224 : decode cL_refuses 1224 = .ok (.ldc2_w 102, 3) := by decide +kernel
theorem dL_refuses_1227 : decode cL_refuses 1227 = .ok (.lcmp, 1) := by decide +kernel
theorem dL_refuses_1228 : decode cL_refuses 1228 = .ok (.ifCond .ne 99, 3) := by decide +kernel
theorem dL_refuses_1231 : decode cL_refuses 1231 = .ok (.aload_n 0, 1) := by decide +kernel
theorem dL_refuses_1232 : decode cL_refuses 1232 = .ok (.bipush 25, 2) := by decide +kernel
theorem dL_refuses_1234 : decode cL_refuses 1234 = .ok (.iload 18, 2) := by decide +kernel
theorem dL_refuses_1236 : decode cL_refuses 1236 = .ok (.iconst 0, 1) := by decide +kernel
theorem dL_refuses_1237 : decode cL_refuses 1237 = .ok (.iconst (-1), 1) := by decide +kernel
theorem dL_refuses_1238 : decode cL_refuses 1238 = .ok (.iconst 0, 1) := by decide +kernel
theorem dL_refuses_1239 : decode cL_refuses 1239 = .ok (.invokestatic 117, 3) := by decide +kernel
theorem dL_refuses_1242 : decode cL_refuses 1242 = .ok (.ldc2_w 98, 3) := by decide +kernel
theorem dL_refuses_1245 : decode cL_refuses 1245 = .ok (.lcmp, 1) := by decide +kernel
theorem dL_refuses_1246 : decode cL_refuses 1246 = .ok (.ifCond .ne 81, 3) := by decide +kernel
theorem dL_refuses_1249 : decode cL_refuses 1249 = .ok (.aload_n 0, 1) := by decide +kernel
theorem dL_refuses_1250 : decode cL_refuses 1250 = .ok (.bipush 25, 2) := by decide +kernel
theorem dL_refuses_1252 : decode cL_refuses 1252 = .ok (.iconst 0, 1) := by decide +kernel
theorem dL_refuses_1253 : decode cL_refuses 1253 = .ok (.iload 18, 2) := by decide +kernel
theorem dL_refuses_1255 : decode cL_refuses 1255 = .ok (.iconst (-1), 1) := by decide +kernel
theorem dL_refuses_1256 : decode cL_refuses 1256 = .ok (.iconst 0, 1) := by decide +kernel
theorem dL_refuses_1257 : decode cL_refuses 1257 = .ok (.invokestatic 117, 3) := by decide +kernel
theorem dL_refuses_1260 : decode cL_refuses 1260 = .ok (.ldc2_w 98, 3) := by decide +kernel
theorem dL_refuses_1263 : decode cL_refuses 1263 = .ok (.lcmp, 1) := by decide +kernel
theorem dL_refuses_1264 : decode cL_refuses 1264 = .ok (.ifCond .ne 63, 3) := by decide +kernel
theorem dL_refuses_1267 : decode cL_refuses 1267 = .ok (.aload_n 0, 1) := by decide +kernel
theorem dL_refuses_1268 : decode cL_refuses 1268 = .ok (.bipush 25, 2) := by decide +kernel
theorem dL_refuses_1270 : decode cL_refuses 1270 = .ok (.iconst 1, 1) := by decide +kernel
theorem dL_refuses_1271 : decode cL_refuses 1271 = .ok (.iconst 1, 1) := by decide +kernel
theorem dL_refuses_1272 : decode cL_refuses 1272 = .ok (.iload 11, 2) := by decide +kernel
theorem dL_refuses_1274 : decode cL_refuses 1274 = .ok (.ifCond .ne 8, 3) := by decide +kernel
theorem dL_refuses_1277 : decode cL_refuses 1277 = .ok (.bipush (-2), 2) := by decide +kernel
theorem dL_refuses_1279 : decode cL_refuses 1279 = .ok (.goto 16, 3) := by decide +kernel
theorem dL_refuses_1282 : decode cL_refuses 1282 = .ok (.iload 11, 2) := by decide +kernel
theorem dL_refuses_1284 : decode cL_refuses 1284 = .ok (.iconst 1, 1) := by decide +kernel
theorem dL_refuses_1285 : decode cL_refuses 1285 = .ok (.if_icmp .ne 8, 3) := by decide +kernel
theorem dL_refuses_1288 : decode cL_refuses 1288 = .ok (.iload 5, 2) := by decide +kernel
theorem dL_refuses_1290 : decode cL_refuses 1290 = .ok (.goto 5, 3) := by decide +kernel
theorem dL_refuses_1293 : decode cL_refuses 1293 = .ok (.iload 12, 2) := by decide +kernel
theorem dL_refuses_1295 : decode cL_refuses 1295 = .ok (.iconst 0, 1) := by decide +kernel
theorem dL_refuses_1296 : decode cL_refuses 1296 = .ok (.invokestatic 117, 3) := by decide +kernel
theorem dL_refuses_1299 : decode cL_refuses 1299 = .ok (.ldc2_w 98, 3) := by decide +kernel
theorem dL_refuses_1302 : decode cL_refuses 1302 = .ok (.lcmp, 1) := by decide +kernel
theorem dL_refuses_1303 : decode cL_refuses 1303 = .ok (.ifCond .ne 24, 3) := by decide +kernel
theorem dL_refuses_1306 : decode cL_refuses 1306 = .ok (.aload_n 0, 1) := by decide +kernel
theorem dL_refuses_1307 : decode cL_refuses 1307 = .ok (.bipush 25, 2) := by decide +kernel
theorem dL_refuses_1309 : decode cL_refuses 1309 = .ok (.iconst 1, 1) := by decide +kernel
theorem dL_refuses_1310 : decode cL_refuses 1310 = .ok (.iconst 1, 1) := by decide +kernel
theorem dL_refuses_1311 : decode cL_refuses 1311 = .ok (.iconst (-1), 1) := by decide +kernel
theorem dL_refuses_1312 : decode cL_refuses 1312 = .ok (.iconst 0, 1) := by decide +kernel
theorem dL_refuses_1313 : decode cL_refuses 1313 = .ok (.invokestatic 117, 3) := by decide +kernel
theorem dL_refuses_1316 : decode cL_refuses 1316 = .ok (.ldc2_w 102, 3) := by decide +kernel
theorem dL_refuses_1319 : decode cL_refuses 1319 = .ok (.lcmp, 1) := by decide +kernel
theorem dL_refuses_1320 : decode cL_refuses 1320 = .ok (.ifCond .ne 7, 3) := by decide +kernel
theorem dL_refuses_1323 : decode cL_refuses 1323 = .ok (.iconst 1, 1) := by decide +kernel
theorem dL_refuses_1324 : decode cL_refuses 1324 = .ok (.goto 4, 3) := by decide +kernel
theorem dL_refuses_1327 : decode cL_refuses 1327 = .ok (.iconst 0, 1) := by decide +kernel
theorem dL_refuses_1328 : decode cL_refuses 1328 = .ok (.istore 22, 2) := by decide +kernel
theorem dL_refuses_1330 : decode cL_refuses 1330 = .ok (.iload 22, 2) := by decide +kernel
theorem dL_refuses_1332 : decode cL_refuses 1332 = .ok (.ifCond .eq 73, 3) := by decide +kernel
theorem dL_refuses_1335 : decode cL_refuses 1335 = .ok (.iload_n 1, 1) := by decide +kernel
theorem dL_refuses_1336 : decode cL_refuses 1336 = .ok (.ifCond .eq 65, 3) := by decide +kernel
theorem dL_refuses_1339 : decode cL_refuses 1339 = .ok (.aload_n 0, 1) := by decide +kernel
theorem dL_refuses_1340 : decode cL_refuses 1340 = .ok (.bipush 6, 2) := by decide +kernel
theorem dL_refuses_1342 : decode cL_refuses 1342 = .ok (.iconst 0, 1) := by decide +kernel
theorem dL_refuses_1343 : decode cL_refuses 1343 = .ok (.iload 19, 2) := by decide +kernel
theorem dL_refuses_1345 : decode cL_refuses 1345 = .ok (.iconst 0, 1) := by decide +kernel
theorem dL_refuses_1346 : decode cL_refuses 1346 = .ok (.iconst 1, 1) := by decide +kernel
theorem dL_refuses_1347 : decode cL_refuses 1347 = .ok (.invokestatic 117, 3) := by decide +kernel
theorem dL_refuses_1350 : decode cL_refuses 1350 = .ok (.ldc2_w 102, 3) := by decide +kernel
theorem dL_refuses_1353 : decode cL_refuses 1353 = .ok (.lcmp, 1) := by decide +kernel
theorem dL_refuses_1354 : decode cL_refuses 1354 = .ok (.ifCond .ne 51, 3) := by decide +kernel
theorem dL_refuses_1357 : decode cL_refuses 1357 = .ok (.aload_n 0, 1) := by decide +kernel
theorem dL_refuses_1358 : decode cL_refuses 1358 = .ok (.bipush 6, 2) := by decide +kernel
theorem dL_refuses_1360 : decode cL_refuses 1360 = .ok (.iconst 0, 1) := by decide +kernel
theorem dL_refuses_1361 : decode cL_refuses 1361 = .ok (.iconst 0, 1) := by decide +kernel
theorem dL_refuses_1362 : decode cL_refuses 1362 = .ok (.iconst 0, 1) := by decide +kernel
theorem dL_refuses_1363 : decode cL_refuses 1363 = .ok (.iload 11, 2) := by decide +kernel
theorem dL_refuses_1365 : decode cL_refuses 1365 = .ok (.ifCond .ne 7, 3) := by decide +kernel
theorem dL_refuses_1368 : decode cL_refuses 1368 = .ok (.iconst 0, 1) := by decide +kernel
theorem dL_refuses_1369 : decode cL_refuses 1369 = .ok (.goto 5, 3) := by decide +kernel
theorem dL_refuses_1372 : decode cL_refuses 1372 = .ok (.iload 19, 2) := by decide +kernel
theorem dL_refuses_1374 : decode cL_refuses 1374 = .ok (.invokestatic 117, 3) := by decide +kernel
theorem dL_refuses_1377 : decode cL_refuses 1377 = .ok (.ldc2_w 102, 3) := by decide +kernel
theorem dL_refuses_1380 : decode cL_refuses 1380 = .ok (.lcmp, 1) := by decide +kernel
theorem dL_refuses_1381 : decode cL_refuses 1381 = .ok (.ifCond .ne 24, 3) := by decide +kernel
theorem dL_refuses_1384 : decode cL_refuses 1384 = .ok (.aload_n 0, 1) := by decide +kernel
theorem dL_refuses_1385 : decode cL_refuses 1385 = .ok (.bipush 7, 2) := by decide +kernel
theorem dL_refuses_1387 : decode cL_refuses 1387 = .ok (.iconst 0, 1) := by decide +kernel
theorem dL_refuses_1388 : decode cL_refuses 1388 = .ok (.iconst 0, 1) := by decide +kernel
theorem dL_refuses_1389 : decode cL_refuses 1389 = .ok (.iconst 0, 1) := by decide +kernel
theorem dL_refuses_1390 : decode cL_refuses 1390 = .ok (.iconst 0, 1) := by decide +kernel
theorem dL_refuses_1391 : decode cL_refuses 1391 = .ok (.invokestatic 117, 3) := by decide +kernel
theorem dL_refuses_1394 : decode cL_refuses 1394 = .ok (.ldc2_w 102, 3) := by decide +kernel
theorem dL_refuses_1397 : decode cL_refuses 1397 = .ok (.lcmp, 1) := by decide +kernel
theorem dL_refuses_1398 : decode cL_refuses 1398 = .ok (.ifCond .ne 7, 3) := by decide +kernel
theorem dL_refuses_1401 : decode cL_refuses 1401 = .ok (.iconst 1, 1) := by decide +kernel
theorem dL_refuses_1402 : decode cL_refuses 1402 = .ok (.goto 4, 3) := by decide +kernel
theorem dL_refuses_1405 : decode cL_refuses 1405 = .ok (.iconst 0, 1) := by decide +kernel
theorem dL_refuses_1406 : decode cL_refuses 1406 = .ok (.istore 22, 2) := by decide +kernel
theorem dL_refuses_1408 : decode cL_refuses 1408 = .ok (.iload 22, 2) := by decide +kernel
theorem dL_refuses_1410 : decode cL_refuses 1410 = .ok (.ifCond .ne 5, 3) := by decide +kernel
theorem dL_refuses_1413 : decode cL_refuses 1413 = .ok (.iconst 0, 1) := by decide +kernel
theorem dL_refuses_1414 : decode cL_refuses 1414 = .ok (.ireturn, 1) := by decide +kernel
theorem dL_refuses_1415 : decode cL_refuses 1415 = .ok (.iinc 11 1, 3) := by decide +kernel
theorem dL_refuses_1418 : decode cL_refuses 1418 = .ok (.goto (-1384), 3) := by decide +kernel
theorem dL_refuses_1421 : decode cL_refuses 1421 = .ok (.aload_n 0, 1) := by decide +kernel
theorem dL_refuses_1422 : decode cL_refuses 1422 = .ok (.iconst 0, 1) := by decide +kernel
theorem dL_refuses_1423 : decode cL_refuses 1423 = .ok (.invokevirtual 23, 3) := by decide +kernel
theorem dL_refuses_1426 : decode cL_refuses 1426 = .ok (.iload 7, 2) := by decide +kernel
theorem dL_refuses_1428 : decode cL_refuses 1428 = .ok (.if_icmp .ne 45, 3) := by decide +kernel
theorem dL_refuses_1431 : decode cL_refuses 1431 = .ok (.aload_n 0, 1) := by decide +kernel
theorem dL_refuses_1432 : decode cL_refuses 1432 = .ok (.iconst 2, 1) := by decide +kernel
theorem dL_refuses_1433 : decode cL_refuses 1433 = .ok (.invokevirtual 23, 3) := by decide +kernel
theorem dL_refuses_1436 : decode cL_refuses 1436 = .ok (.iload 8, 2) := by decide +kernel
theorem dL_refuses_1438 : decode cL_refuses 1438 = .ok (.if_icmp .ne 35, 3) := by decide +kernel
theorem dL_refuses_1441 : decode cL_refuses 1441 = .ok (.aload_n 0, 1) := by decide +kernel
theorem dL_refuses_1442 : decode cL_refuses 1442 = .ok (.invokevirtual 109, 3) := by decide +kernel
theorem dL_refuses_1445 : decode cL_refuses 1445 = .ok (.iload 9, 2) := by decide +kernel
theorem dL_refuses_1447 : decode cL_refuses 1447 = .ok (.if_icmp .ne 26, 3) := by decide +kernel
theorem dL_refuses_1450 : decode cL_refuses 1450 = .ok (.aload_n 0, 1) := by decide +kernel
theorem dL_refuses_1451 : decode cL_refuses 1451 = .ok (.invokevirtual 123, 3) := by decide +kernel
theorem dL_refuses_1454 : decode cL_refuses 1454 = .ok (.iload 9, 2) := by decide +kernel
theorem dL_refuses_1456 : decode cL_refuses 1456 = .ok (.if_icmp .ne 17, 3) := by decide +kernel
theorem dL_refuses_1459 : decode cL_refuses 1459 = .ok (.aload_n 0, 1) := by decide +kernel
theorem dL_refuses_1460 : decode cL_refuses 1460 = .ok (.iconst 0, 1) := by decide +kernel
theorem dL_refuses_1461 : decode cL_refuses 1461 = .ok (.invokevirtual 80, 3) := by decide +kernel
theorem dL_refuses_1464 : decode cL_refuses 1464 = .ok (.iload 10, 2) := by decide +kernel
theorem dL_refuses_1466 : decode cL_refuses 1466 = .ok (.if_icmp .ne 7, 3) := by decide +kernel
theorem dL_refuses_1469 : decode cL_refuses 1469 = .ok (.iconst 1, 1) := by decide +kernel
theorem dL_refuses_1470 : decode cL_refuses 1470 = .ok (.goto 4, 3) := by decide +kernel
theorem dL_refuses_1473 : decode cL_refuses 1473 = .ok (.iconst 0, 1) := by decide +kernel
theorem dL_refuses_1474 : decode cL_refuses 1474 = .ok (.ireturn, 1) := by decide +kernel
set_option maxRecDepth 20000 in
theorem ggL_face_X8_corner : GoodIn wsL_face wsX8_corner := goodIn_ca (goodIn_r _ [5, 6, 7, 8, 9, 10, 11, 12, 13, 14, 15, 16, 17, 18, 19, 20, 21, 22, 23, 24, 25, 26, 27, 28] (by decide +kernel) (by decide +kernel)) (goodIn_sub (fun _ h => List.mem_cons_of_mem _ (List.mem_append_right _ h)) (by decide +kernel))
set_option maxRecDepth 20000 in
theorem gL_face_X8_corner : GoodIn wsL_face (wsV RL 17 RX8 yX8_corner wsX8_corner) := goodIn_app (goodIn_of _ (by decide +kernel)) ggL_face_X8_corner
theorem dL_face_0 : decode cL_face 0 = .ok (.aload_n 0, 1) := by decide +kernel
theorem dL_face_1 : decode cL_face 1 = .ok (.iload_n 1, 1) := by decide +kernel
theorem dL_face_2 : decode cL_face 2 = .ok (.iconst 0, 1) := by decide +kernel
theorem dL_face_3 : decode cL_face 3 = .ok (.invokevirtual 17, 3) := by decide +kernel
theorem dL_face_6 : decode cL_face 6 = .ok (.iload_n 2, 1) := by decide +kernel
theorem dL_face_7 : decode cL_face 7 = .ok (.if_icmp .ne 28, 3) := by decide +kernel
theorem dL_face_10 : decode cL_face 10 = .ok (.aload_n 0, 1) := by decide +kernel
theorem dL_face_11 : decode cL_face 11 = .ok (.iload_n 1, 1) := by decide +kernel
theorem dL_face_12 : decode cL_face 12 = .ok (.iconst 1, 1) := by decide +kernel
theorem dL_face_13 : decode cL_face 13 = .ok (.invokevirtual 17, 3) := by decide +kernel
theorem dL_face_16 : decode cL_face 16 = .ok (.iload_n 3, 1) := by decide +kernel
theorem dL_face_17 : decode cL_face 17 = .ok (.if_icmp .ne 18, 3) := by decide +kernel
theorem dL_face_20 : decode cL_face 20 = .ok (.aload_n 0, 1) := by decide +kernel
theorem dL_face_21 : decode cL_face 21 = .ok (.iload_n 1, 1) := by decide +kernel
theorem dL_face_22 : decode cL_face 22 = .ok (.iconst 2, 1) := by decide +kernel
theorem dL_face_23 : decode cL_face 23 = .ok (.invokevirtual 17, 3) := by decide +kernel
theorem dL_face_26 : decode cL_face 26 = .ok (.iload 4, 2) := by decide +kernel
theorem dL_face_28 : decode cL_face 28 = .ok (.if_icmp .ne 7, 3) := by decide +kernel
theorem dL_face_31 : decode cL_face 31 = .ok (.iconst 1, 1) := by decide +kernel
theorem dL_face_32 : decode cL_face 32 = .ok (.goto 4, 3) := by decide +kernel
theorem dL_face_35 : decode cL_face 35 = .ok (.iconst 0, 1) := by decide +kernel
theorem dL_face_36 : decode cL_face 36 = .ok (.ireturn, 1) := by decide +kernel
set_option maxRecDepth 20000 in
theorem ggL_net_X8_net : GoodIn wsL_net wsX8_net := goodIn_ca (goodIn_r _ [5, 6, 7, 8, 9, 10, 11, 12, 13, 14, 15, 16, 17, 18, 19, 20, 21, 22, 23, 24, 25, 26, 27, 28, 29, 30, 31, 32, 33, 34, 35, 36, 37, 38, 39, 40, 41, 42, 43, 44, 45, 46, 47, 48, 49, 50, 51, 52, 53, 54, 55, 56, 57] (by decide +kernel) (by decide +kernel)) (goodIn_sub (fun _ h => List.mem_cons_of_mem _ (List.mem_append_right _ h)) (by decide +kernel))
set_option maxRecDepth 20000 in
theorem gL_net_X8_net : GoodIn wsL_net (wsV RL 23 RX8 yX8_net wsX8_net) := goodIn_app (goodIn_of _ (by decide +kernel)) ggL_net_X8_net
theorem dL_net_0 : decode cL_net 0 = .ok (.aload_n 0, 1) := by decide +kernel
theorem dL_net_1 : decode cL_net 1 = .ok (.iconst 0, 1) := by decide +kernel
theorem dL_net_2 : decode cL_net 2 = .ok (.invokevirtual 23, 3) := by decide +kernel
theorem dL_net_5 : decode cL_net 5 = .ok (.iload_n 1, 1) := by decide +kernel
theorem dL_net_6 : decode cL_net 6 = .ok (.if_icmp .ne 52, 3) := by decide +kernel
theorem dL_net_9 : decode cL_net 9 = .ok (.aload_n 0, 1) := by decide +kernel
theorem dL_net_10 : decode cL_net 10 = .ok (.iconst 1, 1) := by decide +kernel
theorem dL_net_11 : decode cL_net 11 = .ok (.invokevirtual 23, 3) := by decide +kernel
theorem dL_net_14 : decode cL_net 14 = .ok (.iconst 3, 1) := by decide +kernel
theorem dL_net_15 : decode cL_net 15 = .ok (.iload_n 1, 1) := by decide +kernel
theorem dL_net_16 : decode cL_net 16 = .ok (.imul, 1) := by decide +kernel
theorem dL_net_17 : decode cL_net 17 = .ok (.bipush 6, 2) := by decide +kernel
theorem dL_net_19 : decode cL_net 19 = .ok (.isub, 1) := by decide +kernel
theorem dL_net_20 : decode cL_net 20 = .ok (.if_icmp .ne 38, 3) := by decide +kernel
theorem dL_net_23 : decode cL_net 23 = .ok (.aload_n 0, 1) := by decide +kernel
theorem dL_net_24 : decode cL_net 24 = .ok (.iconst 2, 1) := by decide +kernel
theorem dL_net_25 : decode cL_net 25 = .ok (.invokevirtual 23, 3) := by decide +kernel
theorem dL_net_28 : decode cL_net 28 = .ok (.iconst 2, 1) := by decide +kernel
theorem dL_net_29 : decode cL_net 29 = .ok (.iload_n 1, 1) := by decide +kernel
theorem dL_net_30 : decode cL_net 30 = .ok (.imul, 1) := by decide +kernel
theorem dL_net_31 : decode cL_net 31 = .ok (.iconst 4, 1) := by decide +kernel
theorem dL_net_32 : decode cL_net 32 = .ok (.isub, 1) := by decide +kernel
theorem dL_net_33 : decode cL_net 33 = .ok (.if_icmp .ne 25, 3) := by decide +kernel
theorem dL_net_36 : decode cL_net 36 = .ok (.aload_n 0, 1) := by decide +kernel
theorem dL_net_37 : decode cL_net 37 = .ok (.iconst 3, 1) := by decide +kernel
theorem dL_net_38 : decode cL_net 38 = .ok (.invokevirtual 23, 3) := by decide +kernel
theorem dL_net_41 : decode cL_net 41 = .ok (.iload_n 2, 1) := by decide +kernel
theorem dL_net_42 : decode cL_net 42 = .ok (.if_icmp .ne 16, 3) := by decide +kernel
theorem dL_net_45 : decode cL_net 45 = .ok (.aload_n 0, 1) := by decide +kernel
theorem dL_net_46 : decode cL_net 46 = .ok (.iconst 4, 1) := by decide +kernel
theorem dL_net_47 : decode cL_net 47 = .ok (.invokevirtual 23, 3) := by decide +kernel
theorem dL_net_50 : decode cL_net 50 = .ok (.iload_n 3, 1) := by decide +kernel
theorem dL_net_51 : decode cL_net 51 = .ok (.if_icmp .ne 7, 3) := by decide +kernel
theorem dL_net_54 : decode cL_net 54 = .ok (.iconst 1, 1) := by decide +kernel
theorem dL_net_55 : decode cL_net 55 = .ok (.goto 4, 3) := by decide +kernel
theorem dL_net_58 : decode cL_net 58 = .ok (.iconst 0, 1) := by decide +kernel
theorem dL_net_59 : decode cL_net 59 = .ok (.ireturn, 1) := by decide +kernel
set_option maxRecDepth 20000 in
theorem ggL_around_X8_around : GoodIn wsL_around wsX8_around := goodIn_ca (goodIn_r _ [6, 7, 8, 9, 10, 11, 12, 13, 14, 15, 16, 17, 18, 19, 20, 21, 22, 23, 24, 25, 26, 27, 28, 29, 30, 31, 32, 33, 34, 35, 36, 37, 38, 39, 40, 41, 42] (by decide +kernel) (by decide +kernel)) (goodIn_sub (fun _ h => List.mem_cons_of_mem _ (List.mem_append_right _ h)) (by decide +kernel))
set_option maxRecDepth 20000 in
theorem gL_around_X8_around : GoodIn wsL_around (wsV RL 20 RX8 yX8_around wsX8_around) := goodIn_app (goodIn_of _ (by decide +kernel)) ggL_around_X8_around
theorem dL_around_0 : decode cL_around 0 = .ok (.iload_n 2, 1) := by decide +kernel
theorem dL_around_1 : decode cL_around 1 = .ok (.istore 4, 2) := by decide +kernel
theorem dL_around_3 : decode cL_around 3 = .ok (.iconst 0, 1) := by decide +kernel
theorem dL_around_4 : decode cL_around 4 = .ok (.istore 5, 2) := by decide +kernel
theorem dL_around_6 : decode cL_around 6 = .ok (.iload 5, 2) := by decide +kernel
theorem dL_around_8 : decode cL_around 8 = .ok (.iload_n 3, 1) := by decide +kernel
theorem dL_around_9 : decode cL_around 9 = .ok (.if_icmp .ge 33, 3) := by decide +kernel
theorem dL_around_12 : decode cL_around 12 = .ok (.aload_n 0, 1) := by decide +kernel
theorem dL_around_13 : decode cL_around 13 = .ok (.iload_n 1, 1) := by decide +kernel
theorem dL_around_14 : decode cL_around 14 = .ok (.iload 5, 2) := by decide +kernel
theorem dL_around_16 : decode cL_around 16 = .ok (.invokevirtual 20, 3) := by decide +kernel
theorem dL_around_19 : decode cL_around 19 = .ok (.iload 4, 2) := by decide +kernel
theorem dL_around_21 : decode cL_around 21 = .ok (.bipush 10, 2) := by decide +kernel
theorem dL_around_23 : decode cL_around 23 = .ok (.irem, 1) := by decide +kernel
theorem dL_around_24 : decode cL_around 24 = .ok (.if_icmp .eq 5, 3) := by decide +kernel
theorem dL_around_27 : decode cL_around 27 = .ok (.iconst 0, 1) := by decide +kernel
theorem dL_around_28 : decode cL_around 28 = .ok (.ireturn, 1) := by decide +kernel
theorem dL_around_29 : decode cL_around 29 = .ok (.iload 4, 2) := by decide +kernel
theorem dL_around_31 : decode cL_around 31 = .ok (.bipush 10, 2) := by decide +kernel
theorem dL_around_33 : decode cL_around 33 = .ok (.idiv, 1) := by decide +kernel
theorem dL_around_34 : decode cL_around 34 = .ok (.istore 4, 2) := by decide +kernel
theorem dL_around_36 : decode cL_around 36 = .ok (.iinc 5 1, 3) := by decide +kernel
theorem dL_around_39 : decode cL_around 39 = .ok (.goto (-33), 3) := by decide +kernel
theorem dL_around_42 : decode cL_around 42 = .ok (.aload_n 0, 1) := by decide +kernel
theorem dL_around_43 : decode cL_around 43 = .ok (.iload_n 1, 1) := by decide +kernel
theorem dL_around_44 : decode cL_around 44 = .ok (.iload_n 3, 1) := by decide +kernel
theorem dL_around_45 : decode cL_around 45 = .ok (.invokevirtual 20, 3) := by decide +kernel
theorem dL_around_48 : decode cL_around 48 = .ok (.iconst (-1), 1) := by decide +kernel
theorem dL_around_49 : decode cL_around 49 = .ok (.if_icmp .ne 18, 3) := by decide +kernel
theorem dL_around_52 : decode cL_around 52 = .ok (.aload_n 0, 1) := by decide +kernel
theorem dL_around_53 : decode cL_around 53 = .ok (.iload_n 1, 1) := by decide +kernel
theorem dL_around_54 : decode cL_around 54 = .ok (.ldc 108, 2) := by decide +kernel
theorem dL_around_56 : decode cL_around 56 = .ok (.invokevirtual 20, 3) := by decide +kernel
theorem dL_around_59 : decode cL_around 59 = .ok (.iconst (-1), 1) := by decide +kernel
theorem dL_around_60 : decode cL_around 60 = .ok (.if_icmp .ne 7, 3) := by decide +kernel
theorem dL_around_63 : decode cL_around 63 = .ok (.iconst 1, 1) := by decide +kernel
theorem dL_around_64 : decode cL_around 64 = .ok (.goto 4, 3) := by decide +kernel
theorem dL_around_67 : decode cL_around 67 = .ok (.iconst 0, 1) := by decide +kernel
theorem dL_around_68 : decode cL_around 68 = .ok (.ireturn, 1) := by decide +kernel
set_option maxRecDepth 20000 in
theorem ggL_nets_X8_init : GoodIn wsL_nets wsX8_init := goodIn_r _ [8, 9, 10, 11, 12, 13, 14, 15, 16, 17, 18, 19, 20, 21, 22, 23, 24, 25, 26, 27, 28, 29, 30, 31, 32, 33, 34, 35, 36, 37, 38, 39, 40, 41, 42, 43, 44, 45, 46, 47, 48, 49, 50, 51, 52, 53, 54, 55, 56, 57, 58, 59, 60, 61, 62, 63, 64, 65, 66, 67, 68, 69, 70, 71, 72, 73, 74, 75, 76, 77, 78, 79, 80, 81, 82, 83, 84, 85, 86, 87, 88, 89, 90, 91, 92, 93, 94, 95, 723, 724, 725, 726, 716, 717, 718, 719, 720, 721, 722, 727, 728, 729, 730, 731, 732, 733, 734, 735, 736, 737, 738] (by decide +kernel) (by decide +kernel)
set_option maxRecDepth 20000 in
theorem gL_nets_X8_init : GoodIn wsL_nets (wsX8_init) := ggL_nets_X8_init
set_option maxRecDepth 20000 in
theorem ggL_nets_L_refuses : GoodIn wsL_nets wsL_refuses := goodIn_ca (goodIn_ca (goodIn_ca (goodIn_r _ [99, 100, 101, 102, 103, 104, 105, 4, 106, 107, 108, 109, 3, 110, 111, 112, 15, 113, 14, 114, 115, 41, 116, 117, 118, 40, 119, 120, 121, 122, 123, 124, 125, 126, 127, 128, 129, 130, 39, 131, 132, 133, 134, 135, 136, 137, 138, 139, 140, 141, 142, 143, 144, 145, 38, 146, 147, 148, 149, 33, 150, 32, 151, 152, 94, 153, 154, 155, 156, 93, 91, 157, 158, 159, 160, 45, 161, 162, 163, 164, 18, 165, 166, 167, 168, 169, 170, 171, 172, 173, 174, 175, 176, 177, 178, 179, 180, 181, 182, 63, 183, 184, 185, 186, 187, 188, 189, 190, 191, 192, 193, 194, 195, 196, 197, 198, 199, 200, 201, 202, 203, 204, 205, 206, 207, 208, 209, 29, 210, 28, 211, 212, 84, 85, 83, 86, 213, 214, 215, 216, 217, 218, 219, 220, 221, 222, 98, 223, 224, 225, 226, 227, 228, 229, 230, 231, 232, 233, 234, 235, 236, 237, 238, 239, 240, 241, 242, 243, 244, 245, 47, 48, 49, 50, 51, 52, 53, 54, 55, 56, 57, 58, 246, 247, 248, 249, 250, 251, 252, 253, 254, 255, 256, 257, 258, 259, 260, 261, 262, 263, 264, 265, 266, 267, 268, 269, 270, 271, 272, 273, 274, 275, 276, 277, 278, 279, 280, 19, 281, 282, 283, 284, 285, 286, 287, 288, 289, 290, 291, 292, 293, 294, 295, 10, 11, 296, 297, 298, 299, 300, 301, 302, 303, 304, 305, 306, 307, 308, 309, 310, 311, 312, 313, 314, 315, 316, 62, 317, 318, 319, 320, 321, 322, 323, 324, 325, 326, 327, 328, 329, 330, 331, 332, 333, 334, 335, 336, 337, 338, 339, 340, 341, 342, 343, 344, 345, 346, 347, 348, 349, 350, 351, 352, 353, 354, 355, 356, 357, 358, 359, 360, 361, 362, 363, 364, 365, 366, 367, 368, 369, 370, 371, 372, 373, 374, 375, 376, 377, 378, 20, 379, 380, 381, 382, 383, 384, 385, 386, 387, 388, 389, 390, 391, 392, 77, 393, 394, 395, 396, 397, 398, 399, 400, 401, 402, 403, 404, 405, 406, 407, 408, 409, 410, 411, 412, 413, 414, 415, 416, 417, 418, 419, 420, 421, 422, 423, 424, 425, 426, 427, 428, 429, 430, 431, 432, 433, 434, 435, 436, 437, 438, 439, 440, 441, 442, 443, 444, 445, 446, 447, 448, 449, 450, 451, 452, 453, 454, 455, 456, 457, 458, 459, 460, 461, 462, 463, 464, 465, 466, 467, 468, 469, 470, 471, 472, 473, 474, 475, 476, 477, 478, 479, 480, 481, 482, 483, 24, 484, 23, 485, 486, 78, 79, 487, 488, 489, 490, 491, 492, 493, 494, 495, 496, 497, 498, 499, 500, 501, 502, 503, 504, 505, 506, 507, 508, 509, 510, 511, 512, 513, 514, 515, 516, 517, 518, 519, 520, 521, 522, 523, 524, 525, 526, 527, 528, 529, 530, 531, 532, 533, 534, 535, 536, 537, 538, 539, 540, 541, 542, 543, 544, 25, 26, 27, 80, 81, 82, 545, 546, 547, 548, 549, 550, 551, 552, 553, 554, 555, 556, 557, 558, 559, 560, 561, 562, 563, 564, 565, 566, 567, 568, 569, 570, 571, 572, 573, 574, 575, 576, 577, 578, 579, 580, 581, 582, 583, 584, 585, 586, 587, 588, 589, 590, 591, 592, 593, 594, 595, 596, 597, 598, 599, 600, 601, 602, 603, 604, 605, 606, 607, 608, 609, 610, 611, 612, 613, 614, 615, 616, 617, 618, 619, 620, 621, 622, 716, 717, 718, 719, 720, 721, 722, 723, 724, 725, 726, 736, 737, 738, 739, 740, 727, 728, 729, 732, 733, 734, 735, 741, 742, 743, 744, 745, 746, 730, 731] (by decide +kernel) (by decide +kernel)) (goodIn_sub (fun _ h => List.mem_cons_of_mem _ (List.mem_append_left _ (List.mem_append_left _ (List.mem_append_right _ h)))) (by decide +kernel))) (goodIn_sub (fun _ h => List.mem_cons_of_mem _ (List.mem_append_left _ (List.mem_append_right _ h))) (by decide +kernel))) (goodIn_sub (fun _ h => List.mem_cons_of_mem _ (List.mem_append_right _ h)) (by decide +kernel))
set_option maxRecDepth 20000 in
theorem gL_nets_L_refuses : GoodIn wsL_nets (va_wsS RL 127 yL_refuses wsL_refuses) := goodIn_app (goodIn_of _ (by decide +kernel)) ggL_nets_L_refuses
set_option maxRecDepth 20000 in
theorem ggL_nets_L_net : GoodIn wsL_nets wsL_net := goodIn_ca (goodIn_r _ [625, 107, 108, 109, 3, 110, 111, 112, 15, 113, 14, 114, 115, 41, 116, 117, 118, 40, 119, 120, 121, 122, 123, 124, 125, 126, 127, 128, 129, 130, 39, 131, 132, 133, 134, 135, 136, 137, 138, 139, 140, 141, 142, 143, 144, 145, 38, 716, 717, 718, 719, 720, 721, 722, 723, 724, 725, 726] (by decide +kernel) (by decide +kernel)) (goodIn_sub (fun _ h => List.mem_cons_of_mem _ (List.mem_append_left _ (List.mem_append_left _ (List.mem_append_right _ h)))) (by decide +kernel))
set_option maxRecDepth 20000 in
theorem gL_nets_L_net : GoodIn wsL_nets (va_wsS RL 131 yL_net wsL_net) := goodIn_app (goodIn_of _ (by decide +kernel)) ggL_nets_L_net
set_option maxRecDepth 20000 in
theorem ggL_nets_L_face : GoodIn wsL_nets wsL_face := goodIn_ca (goodIn_r _ [628, 260, 261, 262, 3, 263, 111, 112, 15, 233, 14, 234, 235, 41, 243, 244, 245, 38, 716, 717, 718, 719, 720, 721, 722, 723, 724, 725, 726] (by decide +kernel) (by decide +kernel)) (goodIn_sub (fun _ h => List.mem_cons_of_mem _ (List.mem_append_left _ (List.mem_append_left _ (List.mem_append_right _ h)))) (by decide +kernel))
set_option maxRecDepth 20000 in
theorem gL_nets_L_face : GoodIn wsL_nets (va_wsS RL 134 yL_face wsL_face) := goodIn_app (goodIn_of _ (by decide +kernel)) ggL_nets_L_face
set_option maxRecDepth 20000 in
theorem ggL_nets_L_around : GoodIn wsL_nets wsL_around := goodIn_ca (goodIn_r _ [631, 100, 264, 265, 266, 3, 267, 111, 112, 15, 132, 14, 133, 134, 40, 268, 269, 270, 271, 272, 273, 274, 123, 124, 125, 126, 127, 128, 129, 130, 39, 131, 716, 717, 718, 719, 720, 721, 722, 723, 724, 725, 726] (by decide +kernel) (by decide +kernel)) (goodIn_sub (fun _ h => List.mem_cons_of_mem _ (List.mem_append_left _ (List.mem_append_left _ (List.mem_append_right _ h)))) (by decide +kernel))
set_option maxRecDepth 20000 in
theorem gL_nets_L_around : GoodIn wsL_nets (va_wsS RL 138 yL_around wsL_around) := goodIn_app (goodIn_of _ (by decide +kernel)) ggL_nets_L_around
set_option maxRecDepth 20000 in
theorem ggL_nets_L_act : GoodIn wsL_nets wsL_act := goodIn_ca (goodIn_ca (goodIn_ca (goodIn_r _ [223, 224, 225, 226, 105, 106, 4, 227, 228, 229, 3, 230, 111, 112, 231, 232, 15, 233, 14, 234, 235, 41, 236, 237, 238, 40, 239, 240, 241, 242, 243, 244, 245, 38, 47, 48, 49, 50, 51, 52, 53, 54, 55, 56, 57, 58, 39, 246, 247, 248, 249, 132, 133, 134, 120, 121, 122, 123, 124, 125, 126, 127, 128, 129, 130, 131, 250, 251, 252, 253, 254, 140, 255, 138, 139, 141, 256, 257, 258, 259, 260, 261, 262, 263, 264, 265, 266, 267, 268, 269, 270, 271, 272, 273, 274, 107, 108, 109, 110, 113, 114, 115, 116, 117, 118, 119, 135, 136, 137, 142, 143, 144, 145, 275, 276, 277, 278, 279, 280, 19, 281, 282, 283, 284, 285, 286, 287, 288, 289, 290, 291, 292, 163, 164, 18, 165, 166, 293, 294, 295, 10, 11, 296, 297, 298, 299, 300, 301, 302, 303, 304, 63, 305, 306, 307, 308, 309, 310, 311, 312, 313, 314, 315, 316, 62, 317, 318, 319, 320, 321, 322, 323, 324, 325, 326, 327, 328, 329, 45, 330, 331, 332, 333, 334, 335, 336, 337, 338, 339, 340, 341, 342, 343, 344, 345, 346, 347, 348, 349, 350, 351, 352, 353, 354, 168, 169, 170, 171, 172, 173, 174, 175, 176, 177, 178, 179, 180, 181, 182, 355, 356, 357, 358, 359, 360, 361, 362, 363, 364, 365, 366, 367, 368, 369, 370, 371, 372, 373, 374, 375, 376, 377, 378, 20, 379, 380, 381, 382, 383, 384, 385, 386, 387, 388, 389, 390, 391, 392, 77, 393, 394, 395, 396, 397, 398, 399, 400, 401, 402, 403, 404, 405, 406, 407, 408, 409, 410, 411, 412, 413, 414, 415, 416, 417, 418, 419, 420, 421, 422, 423, 424, 425, 426, 427, 428, 429, 430, 431, 432, 433, 434, 435, 436, 437, 438, 439, 440, 441, 442, 443, 444, 445, 446, 447, 448, 449, 450, 451, 452, 453, 454, 455, 456, 457, 458, 459, 460, 461, 462, 463, 464, 465, 466, 467, 468, 469, 470, 471, 472, 473, 474, 475, 476, 477, 478, 479, 480, 481, 482, 483, 24, 484, 23, 485, 486, 78, 79, 487, 160, 161, 488, 489, 490, 491, 492, 493, 494, 495, 496, 497, 498, 499, 500, 501, 502, 503, 504, 505, 506, 507, 508, 509, 510, 511, 512, 513, 514, 515, 516, 517, 518, 519, 520, 521, 522, 523, 524, 525, 526, 527, 528, 529, 214, 215, 530, 531, 532, 533, 534, 535, 536, 537, 538, 539, 540, 541, 542, 543, 544, 25, 26, 27, 28, 80, 81, 82, 83, 84, 85, 86, 545, 546, 547, 548, 549, 29, 550, 551, 552, 553, 554, 555, 556, 557, 558, 559, 560, 218, 219, 220, 206, 207, 208, 209, 210, 211, 212, 213, 216, 217, 561, 562, 563, 564, 565, 566, 567, 568, 33, 569, 32, 570, 571, 94, 91, 572, 573, 574, 575, 576, 577, 578, 579, 580, 581, 582, 583, 584, 585, 586, 587, 588, 589, 590, 591, 592, 593, 594, 595, 596, 597, 162, 150, 151, 152, 153, 154, 155, 156, 93, 157, 158, 159, 167, 183, 184, 185, 186, 187, 188, 189, 190, 191, 192, 193, 194, 195, 196, 197, 198, 199, 200, 201, 202, 203, 204, 205, 598, 599, 600, 601, 602, 603, 604, 605, 716, 717, 718, 719, 720, 721, 722, 723, 724, 725, 726, 741, 742, 743, 727, 728, 729, 744, 745, 746, 730, 731, 732, 733, 734, 735, 736, 737, 738, 739, 740] (by decide +kernel) (by decide +kernel)) (goodIn_sub (fun _ h => List.mem_cons_of_mem _ (List.mem_append_left _ (List.mem_append_left _ (List.mem_append_right _ h)))) (by decide +kernel))) (goodIn_sub (fun _ h => List.mem_cons_of_mem _ (List.mem_append_left _ (List.mem_append_right _ h))) (by decide +kernel))) (goodIn_sub (fun _ h => List.mem_cons_of_mem _ (List.mem_append_right _ h)) (by decide +kernel))
set_option maxRecDepth 20000 in
theorem gL_nets_L_act : GoodIn wsL_nets (va_wsS RL 117 yL_act wsL_act) := goodIn_app (goodIn_of _ (by decide +kernel)) ggL_nets_L_act
set_option maxRecDepth 20000 in
theorem ggL_nets_X8_split : GoodIn wsL_nets wsX8_split := goodIn_ca (goodIn_ca (goodIn_r _ [230, 111, 112, 231, 232, 15, 233, 14, 234, 235, 41, 236, 237, 238, 40, 239, 240, 241, 242, 243, 244, 245, 38, 47, 48, 49, 50, 51, 52, 53, 54, 55, 56, 57, 58, 39, 716, 717, 718, 719, 720, 721, 722, 723, 724, 725, 726] (by decide +kernel) (by decide +kernel)) (goodIn_sub (fun _ h => List.mem_cons_of_mem _ (List.mem_append_left _ (List.mem_append_left _ (List.mem_append_right _ h)))) (by decide +kernel))) (goodIn_sub (fun _ h => List.mem_cons_of_mem _ (List.mem_append_left _ (List.mem_append_right _ h))) (by decide +kernel))
set_option maxRecDepth 20000 in
theorem gL_nets_X8_split : GoodIn wsL_nets (wsV RL 7 RX8 yX8_split wsX8_split) := goodIn_app (goodIn_of _ (by decide +kernel)) ggL_nets_X8_split
set_option maxRecDepth 20000 in
theorem ggL_nets_X8_flip : GoodIn wsL_nets wsX8_flip := goodIn_ca (goodIn_ca (goodIn_r _ [249, 111, 112, 231, 232, 15, 132, 14, 133, 134, 40, 120, 121, 122, 123, 124, 125, 126, 127, 128, 129, 130, 39, 131, 250, 251, 252, 253, 254, 140, 255, 138, 139, 141, 256, 257, 258, 259, 41, 38, 55, 56, 57, 58, 47, 48, 49, 50, 51, 52, 53, 54, 716, 717, 718, 719, 720, 721, 722, 723, 724, 725, 726] (by decide +kernel) (by decide +kernel)) (goodIn_sub (fun _ h => List.mem_cons_of_mem _ (List.mem_append_left _ (List.mem_append_left _ (List.mem_append_right _ h)))) (by decide +kernel))) (goodIn_sub (fun _ h => List.mem_cons_of_mem _ (List.mem_append_left _ (List.mem_append_right _ h))) (by decide +kernel))
set_option maxRecDepth 20000 in
theorem gL_nets_X8_flip : GoodIn wsL_nets (wsV RL 13 RX8 yX8_flip wsX8_flip) := goodIn_app (goodIn_of _ (by decide +kernel)) ggL_nets_X8_flip
set_option maxRecDepth 20000 in
theorem ggL_nets_X8_net : GoodIn wsL_nets wsX8_net := goodIn_ca (goodIn_r _ [110, 111, 112, 15, 113, 14, 114, 115, 41, 116, 117, 118, 40, 119, 120, 121, 122, 123, 124, 125, 126, 127, 128, 129, 130, 39, 131, 132, 133, 134, 135, 136, 137, 138, 139, 140, 141, 142, 143, 144, 145, 38, 716, 717, 718, 719, 720, 721, 722, 723, 724, 725, 726] (by decide +kernel) (by decide +kernel)) (goodIn_sub (fun _ h => List.mem_cons_of_mem _ (List.mem_append_left _ (List.mem_append_left _ (List.mem_append_right _ h)))) (by decide +kernel))
set_option maxRecDepth 20000 in
theorem gL_nets_X8_net : GoodIn wsL_nets (wsV RL 23 RX8 yX8_net wsX8_net) := goodIn_app (goodIn_of _ (by decide +kernel)) ggL_nets_X8_net
set_option maxRecDepth 20000 in
theorem ggL_nets_L_disks : GoodIn wsL_nets wsL_disks := goodIn_ca (goodIn_ca (goodIn_ca (goodIn_r _ [634, 1, 2, 3, 635, 636, 637, 5, 6, 7, 8, 9, 10, 11, 12, 13, 14, 15, 16, 17, 18, 19, 20, 21, 22, 23, 24, 25, 26, 27, 28, 29, 30, 31, 32, 33, 34, 35, 36, 37, 38, 39, 40, 41, 42, 43, 44, 45, 46, 47, 48, 49, 50, 51, 52, 53, 54, 55, 56, 57, 58, 59, 60, 61, 62, 63, 64, 65, 66, 67, 68, 69, 70, 71, 72, 73, 74, 75, 76, 77, 78, 79, 80, 81, 82, 83, 84, 85, 86, 87, 88, 89, 90, 91, 92, 93, 94, 95, 638, 639, 640, 641, 292, 163, 164, 165, 166, 124, 125, 126, 127, 128, 129, 130, 131, 132, 133, 134, 363, 364, 365, 366, 349, 350, 351, 352, 353, 354, 168, 169, 170, 171, 172, 173, 174, 175, 176, 177, 178, 179, 180, 181, 182, 367, 283, 368, 369, 296, 297, 298, 275, 276, 277, 278, 279, 280, 231, 232, 281, 282, 284, 285, 286, 287, 288, 289, 290, 291, 293, 294, 295, 299, 300, 301, 302, 303, 304, 305, 306, 307, 308, 309, 310, 311, 312, 313, 314, 315, 316, 317, 139, 140, 141, 318, 319, 320, 321, 322, 323, 324, 325, 326, 327, 328, 329, 330, 331, 332, 333, 334, 335, 336, 337, 338, 339, 340, 254, 255, 341, 342, 343, 344, 370, 371, 372, 373, 359, 360, 361, 362, 111, 112, 345, 346, 347, 348, 355, 356, 357, 358, 227, 228, 229, 230, 233, 234, 235, 236, 237, 238, 239, 240, 241, 242, 243, 244, 245, 96, 97, 98, 99, 100, 101, 102, 103, 104, 105, 4, 106, 107, 108, 109, 110, 113, 114, 115, 116, 117, 118, 119, 120, 121, 122, 123, 135, 136, 137, 138, 142, 143, 144, 145, 146, 147, 148, 149, 150, 151, 152, 153, 154, 155, 156, 157, 158, 159, 160, 161, 162, 167, 183, 184, 185, 186, 187, 188, 189, 190, 191, 192, 193, 194, 195, 196, 197, 198, 199, 200, 201, 202, 203, 204, 205, 206, 207, 208, 209, 210, 211, 212, 213, 214, 215, 216, 217, 218, 219, 220, 221, 222, 223, 224, 225, 226, 246, 247, 248, 249, 250, 251, 252, 253, 256, 257, 258, 259, 260, 261, 262, 263, 264, 265, 266, 267, 268, 269, 270, 271, 272, 273, 274, 374, 375, 376, 377, 378, 379, 380, 381, 382, 383, 384, 385, 386, 387, 388, 389, 390, 391, 392, 393, 394, 395, 396, 397, 398, 399, 400, 401, 402, 403, 404, 405, 406, 407, 408, 409, 410, 411, 412, 413, 414, 415, 416, 417, 418, 419, 420, 421, 422, 423, 424, 425, 426, 427, 428, 429, 430, 431, 432, 433, 434, 435, 436, 437, 438, 439, 440, 441, 442, 443, 444, 445, 446, 447, 448, 449, 450, 451, 452, 453, 454, 455, 456, 457, 458, 459, 460, 461, 462, 463, 464, 465, 466, 467, 468, 469, 470, 471, 472, 473, 474, 475, 476, 477, 478, 479, 480, 481, 482, 483, 484, 485, 486, 487, 488, 489, 490, 491, 492, 493, 494, 495, 496, 497, 498, 499, 500, 501, 502, 503, 504, 505, 506, 507, 508, 509, 510, 511, 512, 513, 514, 515, 516, 517, 518, 519, 520, 521, 522, 523, 524, 525, 526, 527, 528, 529, 530, 531, 532, 533, 534, 535, 536, 537, 538, 539, 540, 541, 542, 543, 544, 545, 546, 547, 548, 549, 550, 551, 552, 553, 554, 555, 556, 557, 558, 559, 560, 561, 562, 563, 564, 565, 566, 567, 568, 569, 570, 571, 572, 573, 574, 575, 576, 577, 578, 579, 580, 581, 582, 583, 584, 585, 586, 587, 588, 589, 590, 591, 592, 593, 594, 595, 596, 597, 598, 599, 600, 601, 602, 603, 604, 605, 606, 607, 608, 609, 610, 611, 612, 613, 614, 615, 616, 617, 618, 619, 620, 621, 622, 716, 717, 718, 719, 720, 721, 722, 723, 724, 725, 726, 727, 728, 729, 730, 731, 732, 733, 734, 735, 736, 737, 738, 741, 742, 743, 739, 740, 744, 745, 746] (by decide +kernel) (by decide +kernel)) (goodIn_sub (fun _ h => List.mem_cons_of_mem _ (List.mem_append_right _ h)) (by decide +kernel))) (goodIn_sub (fun _ h => List.mem_cons_of_mem _ (List.mem_append_left _ (List.mem_append_right _ h))) (by decide +kernel))) (goodIn_sub (fun _ h => List.mem_cons_of_mem _ (List.mem_append_left _ (List.mem_append_left _ (List.mem_append_right _ h)))) (by decide +kernel))
set_option maxRecDepth 20000 in
theorem gL_nets_L_disks : GoodIn wsL_nets (va_wsS RL 141 yL_disks wsL_disks) := goodIn_app (goodIn_of _ (by decide +kernel)) ggL_nets_L_disks
set_option maxRecDepth 20000 in
theorem ggL_nets_L_five : GoodIn wsL_nets wsL_five := goodIn_ca (goodIn_ca (goodIn_ca (goodIn_r _ [644, 1, 2, 3, 6, 7, 8, 9, 10, 11, 12, 13, 14, 15, 16, 17, 18, 19, 20, 21, 22, 23, 24, 25, 26, 27, 28, 29, 30, 31, 32, 33, 34, 35, 36, 37, 38, 39, 40, 41, 42, 43, 44, 45, 46, 47, 48, 49, 50, 51, 52, 53, 54, 55, 56, 57, 58, 59, 60, 61, 62, 63, 64, 65, 66, 67, 68, 69, 70, 71, 72, 73, 74, 75, 76, 77, 78, 79, 80, 81, 82, 83, 84, 85, 86, 87, 88, 89, 90, 91, 92, 93, 94, 95, 275, 276, 277, 278, 279, 280, 231, 232, 281, 282, 283, 284, 285, 286, 287, 288, 289, 290, 291, 292, 163, 164, 165, 166, 293, 294, 295, 296, 297, 298, 299, 300, 301, 302, 303, 304, 305, 306, 307, 308, 309, 310, 311, 312, 313, 314, 315, 316, 317, 139, 140, 141, 318, 319, 320, 321, 322, 323, 324, 325, 326, 327, 328, 329, 330, 331, 332, 333, 334, 335, 336, 337, 338, 339, 340, 254, 255, 341, 342, 343, 344, 638, 639, 640, 641, 124, 125, 126, 127, 128, 129, 130, 131, 132, 133, 134, 363, 364, 365, 366, 349, 350, 351, 352, 353, 354, 168, 169, 170, 171, 172, 173, 174, 175, 176, 177, 178, 179, 180, 181, 182, 367, 368, 369, 227, 228, 229, 230, 111, 112, 233, 234, 235, 236, 237, 238, 239, 240, 241, 242, 243, 244, 245, 370, 371, 372, 373, 246, 247, 248, 249, 120, 121, 122, 123, 250, 251, 252, 253, 138, 256, 257, 258, 259, 345, 346, 347, 348, 355, 356, 357, 358, 716, 717, 718, 719, 720, 721, 722, 723, 724, 725, 726, 727, 728, 729, 730, 731, 732, 733, 734, 735, 736, 737, 738, 741, 742, 743] (by decide +kernel) (by decide +kernel)) (goodIn_sub (fun _ h => List.mem_cons_of_mem _ (List.mem_append_right _ h)) (by decide +kernel))) (goodIn_sub (fun _ h => List.mem_cons_of_mem _ (List.mem_append_left _ (List.mem_append_right _ h))) (by decide +kernel))) (goodIn_sub (fun _ h => List.mem_cons_of_mem _ (List.mem_append_left _ (List.mem_append_left _ (List.mem_append_right _ h)))) (by decide +kernel))
set_option maxRecDepth 20000 in
theorem gL_nets_L_five : GoodIn wsL_nets (va_wsS RL 145 yL_five wsL_five) := goodIn_app (goodIn_of _ (by decide +kernel)) ggL_nets_L_five
set_option maxRecDepth 20000 in
theorem ggL_nets_L_gaskets : GoodIn wsL_nets wsL_gaskets := goodIn_ca (goodIn_ca (goodIn_ca (goodIn_r _ [647, 1, 2, 3, 106, 648, 649, 650, 651, 652, 653, 654, 655, 656, 4, 657, 658, 659, 660, 661, 662, 663, 5, 6, 7, 8, 9, 10, 11, 12, 13, 14, 15, 16, 17, 18, 19, 20, 21, 22, 23, 24, 25, 26, 27, 28, 29, 30, 31, 32, 33, 34, 35, 36, 37, 38, 39, 40, 41, 42, 43, 44, 45, 46, 47, 48, 49, 50, 51, 52, 53, 54, 55, 56, 57, 58, 59, 60, 61, 62, 63, 64, 65, 66, 67, 68, 69, 70, 71, 72, 73, 74, 75, 76, 77, 78, 79, 80, 81, 82, 83, 84, 85, 86, 87, 88, 89, 90, 91, 92, 93, 94, 95, 221, 222, 98, 223, 224, 225, 226, 105, 227, 228, 229, 230, 111, 112, 231, 232, 233, 234, 235, 236, 237, 238, 239, 240, 241, 242, 243, 244, 245, 246, 247, 248, 249, 132, 133, 134, 120, 121, 122, 123, 124, 125, 126, 127, 128, 129, 130, 131, 250, 251, 252, 253, 254, 140, 255, 138, 139, 141, 256, 257, 258, 259, 260, 261, 262, 263, 264, 265, 266, 267, 268, 269, 270, 271, 272, 273, 274, 107, 108, 109, 110, 113, 114, 115, 116, 117, 118, 119, 135, 136, 137, 142, 143, 144, 145, 275, 276, 277, 278, 279, 280, 281, 282, 283, 284, 285, 286, 287, 288, 289, 290, 291, 292, 163, 164, 165, 166, 293, 294, 295, 296, 297, 298, 299, 300, 301, 302, 303, 304, 305, 306, 307, 308, 309, 310, 311, 312, 313, 314, 315, 316, 317, 318, 319, 320, 321, 322, 323, 324, 325, 326, 327, 328, 329, 330, 331, 332, 333, 334, 335, 336, 337, 338, 339, 340, 341, 342, 343, 344, 345, 346, 347, 348, 349, 350, 351, 352, 353, 354, 168, 169, 170, 171, 172, 173, 174, 175, 176, 177, 178, 179, 180, 181, 182, 355, 356, 357, 358, 359, 360, 361, 362, 363, 364, 365, 366, 367, 368, 369, 370, 371, 372, 373, 374, 375, 376, 377, 378, 379, 380, 381, 382, 383, 384, 385, 386, 387, 388, 389, 390, 391, 392, 393, 394, 395, 396, 397, 398, 399, 400, 401, 402, 403, 404, 405, 406, 407, 408, 409, 410, 411, 412, 413, 414, 415, 416, 417, 418, 419, 420, 421, 422, 423, 424, 425, 426, 427, 428, 429, 430, 431, 432, 433, 434, 435, 436, 437, 438, 439, 440, 441, 442, 443, 444, 445, 446, 447, 448, 449, 450, 451, 452, 453, 454, 455, 456, 457, 458, 459, 460, 461, 462, 463, 464, 465, 466, 467, 468, 469, 470, 471, 472, 473, 474, 475, 476, 477, 478, 479, 480, 481, 482, 483, 484, 485, 486, 487, 160, 161, 488, 489, 490, 491, 492, 493, 494, 495, 496, 497, 498, 499, 500, 501, 502, 503, 504, 505, 506, 507, 508, 509, 510, 511, 512, 513, 514, 515, 516, 517, 518, 519, 520, 521, 522, 523, 524, 525, 526, 527, 528, 529, 214, 215, 530, 531, 532, 533, 534, 535, 536, 537, 538, 539, 540, 541, 542, 543, 544, 545, 546, 547, 548, 549, 550, 551, 552, 553, 554, 555, 556, 557, 558, 559, 560, 218, 219, 220, 206, 207, 208, 209, 210, 211, 212, 213, 216, 217, 561, 562, 563, 564, 565, 566, 567, 568, 569, 570, 571, 572, 573, 574, 575, 576, 577, 578, 579, 580, 581, 582, 583, 584, 585, 586, 587, 588, 589, 590, 591, 592, 593, 594, 595, 596, 597, 162, 150, 151, 152, 153, 154, 155, 156, 157, 158, 159, 167, 183, 184, 185, 186, 187, 188, 189, 190, 191, 192, 193, 194, 195, 196, 197, 198, 199, 200, 201, 202, 203, 204, 205, 598, 599, 600, 601, 602, 603, 604, 605, 664, 665, 666, 667, 668, 669, 96, 97, 99, 100, 101, 102, 103, 104, 146, 147, 148, 149, 606, 607, 608, 609, 610, 611, 612, 613, 614, 615, 616, 617, 618, 619, 620, 621, 622, 716, 717, 718, 719, 720, 721, 722, 723, 724, 725, 726, 727, 728, 729, 730, 731, 732, 733, 734, 735, 736, 737, 738, 741, 742, 743, 744, 745, 746, 739, 740] (by decide +kernel) (by decide +kernel)) (goodIn_sub (fun _ h => List.mem_cons_of_mem _ (List.mem_append_left _ (List.mem_append_left _ (List.mem_append_right _ h)))) (by decide +kernel))) (goodIn_sub (fun _ h => List.mem_cons_of_mem _ (List.mem_append_left _ (List.mem_append_right _ h))) (by decide +kernel))) (goodIn_sub (fun _ h => List.mem_cons_of_mem _ (List.mem_append_right _ h)) (by decide +kernel))
set_option maxRecDepth 20000 in
theorem gL_nets_L_gaskets : GoodIn wsL_nets (va_wsS RL 148 yL_gaskets wsL_gaskets) := goodIn_app (goodIn_of _ (by decide +kernel)) ggL_nets_L_gaskets
set_option maxRecDepth 20000 in
theorem ggL_nets_L_fractions : GoodIn wsL_nets wsL_fractions := goodIn_ca (goodIn_ca (goodIn_ca (goodIn_r _ [672, 1, 2, 3, 636, 673, 635, 106, 649, 674, 675, 676, 677, 678, 679, 680, 659, 681, 682, 648, 6, 7, 8, 9, 10, 11, 12, 13, 14, 15, 16, 17, 18, 19, 20, 21, 22, 23, 24, 25, 26, 27, 28, 29, 30, 31, 32, 33, 34, 35, 36, 37, 38, 39, 40, 41, 42, 43, 44, 45, 46, 47, 48, 49, 50, 51, 52, 53, 54, 55, 56, 57, 58, 59, 60, 61, 62, 63, 64, 65, 66, 67, 68, 69, 70, 71, 72, 73, 74, 75, 76, 77, 78, 79, 80, 81, 82, 83, 84, 85, 86, 87, 88, 89, 90, 91, 92, 93, 94, 95, 518, 519, 520, 521, 522, 523, 524, 525, 279, 280, 287, 288, 289, 290, 291, 526, 527, 528, 529, 214, 140, 215, 530, 531, 221, 222, 98, 223, 224, 225, 226, 105, 4, 227, 228, 229, 230, 111, 112, 231, 232, 233, 234, 235, 236, 237, 238, 239, 240, 241, 242, 243, 244, 245, 246, 247, 248, 249, 132, 133, 134, 120, 121, 122, 123, 124, 125, 126, 127, 128, 129, 130, 131, 250, 251, 252, 253, 254, 255, 138, 139, 141, 256, 257, 258, 259, 260, 261, 262, 263, 264, 265, 266, 267, 268, 269, 270, 271, 272, 273, 274, 107, 108, 109, 110, 113, 114, 115, 116, 117, 118, 119, 135, 136, 137, 142, 143, 144, 145, 275, 276, 277, 278, 281, 282, 283, 284, 285, 286, 292, 163, 164, 165, 166, 293, 294, 295, 296, 297, 298, 299, 300, 301, 302, 303, 304, 305, 306, 307, 308, 309, 310, 311, 312, 313, 314, 315, 316, 317, 318, 319, 320, 321, 322, 323, 324, 325, 326, 327, 328, 329, 330, 331, 332, 333, 334, 335, 336, 337, 338, 339, 340, 341, 342, 343, 344, 345, 346, 347, 348, 349, 350, 351, 352, 353, 354, 168, 169, 170, 171, 172, 173, 174, 175, 176, 177, 178, 179, 180, 181, 182, 355, 356, 357, 358, 359, 360, 361, 362, 363, 364, 365, 366, 367, 368, 369, 370, 371, 372, 373, 374, 375, 376, 377, 378, 379, 380, 381, 382, 383, 384, 385, 386, 387, 388, 389, 390, 391, 392, 393, 394, 395, 396, 397, 398, 399, 400, 401, 402, 403, 404, 405, 406, 407, 408, 409, 410, 411, 412, 413, 414, 415, 416, 417, 418, 419, 420, 421, 422, 423, 424, 425, 426, 427, 428, 429, 430, 431, 432, 433, 434, 435, 436, 437, 438, 439, 440, 441, 442, 443, 444, 445, 446, 447, 448, 449, 450, 451, 452, 453, 454, 455, 456, 457, 458, 459, 460, 461, 462, 463, 464, 465, 466, 467, 468, 469, 470, 471, 472, 473, 474, 475, 476, 477, 478, 479, 480, 481, 482, 483, 484, 485, 486, 487, 160, 161, 488, 489, 490, 491, 492, 493, 494, 495, 496, 497, 498, 499, 500, 501, 502, 503, 504, 505, 506, 507, 508, 509, 510, 511, 512, 513, 514, 515, 516, 517, 532, 533, 534, 535, 536, 537, 538, 539, 540, 541, 542, 543, 544, 545, 546, 547, 548, 549, 550, 551, 552, 553, 554, 555, 556, 557, 558, 559, 560, 218, 219, 220, 206, 207, 208, 209, 210, 211, 212, 213, 216, 217, 561, 562, 563, 564, 565, 566, 567, 568, 569, 570, 571, 572, 573, 574, 575, 576, 577, 578, 579, 580, 581, 582, 583, 584, 585, 586, 587, 588, 589, 590, 591, 592, 593, 594, 595, 596, 597, 162, 150, 151, 152, 153, 154, 155, 156, 157, 158, 159, 167, 183, 184, 185, 186, 187, 188, 189, 190, 191, 192, 193, 194, 195, 196, 197, 198, 199, 200, 201, 202, 203, 204, 205, 598, 599, 600, 601, 602, 603, 604, 605, 683, 684, 685, 716, 717, 718, 719, 720, 721, 722, 723, 724, 725, 726, 727, 728, 729, 730, 731, 732, 733, 734, 735, 736, 737, 738, 741, 742, 743, 744, 745, 746, 739, 740] (by decide +kernel) (by decide +kernel)) (goodIn_sub (fun _ h => List.mem_cons_of_mem _ (List.mem_append_right _ h)) (by decide +kernel))) (goodIn_sub (fun _ h => List.mem_cons_of_mem _ (List.mem_append_left _ (List.mem_append_left _ (List.mem_append_right _ h)))) (by decide +kernel))) (goodIn_sub (fun _ h => List.mem_cons_of_mem _ (List.mem_append_left _ (List.mem_append_right _ h))) (by decide +kernel))
set_option maxRecDepth 20000 in
theorem gL_nets_L_fractions : GoodIn wsL_nets (va_wsS RL 151 yL_fractions wsL_fractions) := goodIn_app (goodIn_of _ (by decide +kernel)) ggL_nets_L_fractions
set_option maxRecDepth 20000 in
theorem ggL_nets_L_words : GoodIn wsL_nets wsL_words := goodIn_ca (goodIn_ca (goodIn_ca (goodIn_r _ [688, 1, 2, 3, 689, 650, 648, 649, 674, 636, 673, 690, 691, 659, 4, 692, 693, 694, 695, 696, 6, 7, 8, 9, 10, 11, 12, 13, 14, 15, 16, 17, 18, 19, 20, 21, 22, 23, 24, 25, 26, 27, 28, 29, 30, 31, 32, 33, 34, 35, 36, 37, 38, 39, 40, 41, 42, 43, 44, 45, 46, 47, 48, 49, 50, 51, 52, 53, 54, 55, 56, 57, 58, 59, 60, 61, 62, 63, 64, 65, 66, 67, 68, 69, 70, 71, 72, 73, 74, 75, 76, 77, 78, 79, 80, 81, 82, 83, 84, 85, 86, 87, 88, 89, 90, 91, 92, 93, 94, 95, 697, 698, 98, 699, 206, 207, 208, 209, 111, 112, 210, 211, 212, 213, 214, 140, 215, 216, 217, 218, 219, 220, 700, 701, 702, 561, 562, 563, 564, 279, 280, 287, 288, 289, 290, 291, 526, 527, 528, 529, 541, 542, 543, 544, 231, 232, 382, 383, 384, 292, 163, 164, 165, 166, 299, 300, 301, 302, 303, 304, 305, 306, 307, 308, 309, 310, 311, 312, 313, 314, 315, 316, 317, 139, 141, 318, 319, 320, 321, 322, 323, 324, 325, 326, 327, 328, 329, 330, 331, 332, 333, 334, 335, 336, 337, 338, 339, 340, 254, 255, 341, 342, 343, 344, 545, 546, 547, 548, 549, 354, 168, 169, 170, 171, 172, 173, 174, 175, 176, 177, 178, 179, 180, 181, 182, 550, 551, 552, 553, 554, 555, 556, 557, 558, 559, 560, 703, 704, 705, 706, 96, 97, 99, 100, 101, 102, 103, 104, 105, 106, 107, 108, 109, 110, 113, 114, 115, 116, 117, 118, 119, 120, 121, 122, 123, 124, 125, 126, 127, 128, 129, 130, 131, 132, 133, 134, 135, 136, 137, 138, 142, 143, 144, 145, 146, 147, 148, 149, 150, 151, 152, 153, 154, 155, 156, 157, 158, 159, 160, 161, 162, 167, 183, 184, 185, 186, 187, 188, 189, 190, 191, 192, 193, 194, 195, 196, 197, 198, 199, 200, 201, 202, 203, 204, 205, 221, 222, 223, 224, 225, 226, 227, 228, 229, 230, 233, 234, 235, 236, 237, 238, 239, 240, 241, 242, 243, 244, 245, 246, 247, 248, 249, 250, 251, 252, 253, 256, 257, 258, 259, 260, 261, 262, 263, 264, 265, 266, 267, 268, 269, 270, 271, 272, 273, 274, 275, 276, 277, 278, 281, 282, 283, 284, 285, 286, 293, 294, 295, 296, 297, 298, 345, 346, 347, 348, 349, 350, 351, 352, 353, 355, 356, 357, 358, 359, 360, 361, 362, 363, 364, 365, 366, 367, 368, 369, 370, 371, 372, 373, 374, 375, 376, 377, 378, 379, 380, 381, 385, 386, 387, 388, 389, 390, 391, 392, 393, 394, 395, 396, 397, 398, 399, 400, 401, 402, 403, 404, 405, 406, 407, 408, 409, 410, 411, 412, 413, 414, 415, 416, 417, 418, 419, 420, 421, 422, 423, 424, 425, 426, 427, 428, 429, 430, 431, 432, 433, 434, 435, 436, 437, 438, 439, 440, 441, 442, 443, 444, 445, 446, 447, 448, 449, 450, 451, 452, 453, 454, 455, 456, 457, 458, 459, 460, 461, 462, 463, 464, 465, 466, 467, 468, 469, 470, 471, 472, 473, 474, 475, 476, 477, 478, 479, 480, 481, 482, 483, 484, 485, 486, 487, 488, 489, 490, 491, 492, 493, 494, 495, 496, 497, 498, 499, 500, 501, 502, 503, 504, 505, 506, 507, 508, 509, 510, 511, 512, 513, 514, 515, 516, 517, 518, 519, 520, 521, 522, 523, 524, 525, 530, 531, 532, 533, 534, 535, 536, 537, 538, 539, 540, 565, 566, 567, 568, 569, 570, 571, 572, 573, 574, 575, 576, 577, 578, 579, 580, 581, 582, 583, 584, 585, 586, 587, 588, 589, 590, 591, 592, 593, 594, 595, 596, 597, 598, 599, 600, 601, 602, 603, 604, 605, 606, 607, 608, 609, 610, 611, 612, 613, 614, 615, 616, 617, 618, 619, 620, 621, 622, 716, 717, 718, 719, 720, 721, 722, 723, 724, 725, 726, 727, 728, 729, 730, 731, 732, 733, 734, 735, 736, 737, 738, 739, 740, 741, 742, 743, 744, 745, 746] (by decide +kernel) (by decide +kernel)) (goodIn_sub (fun _ h => List.mem_cons_of_mem _ (List.mem_append_left _ (List.mem_append_left _ (List.mem_append_right _ h)))) (by decide +kernel))) (goodIn_sub (fun _ h => List.mem_cons_of_mem _ (List.mem_append_right _ h)) (by decide +kernel))) (goodIn_sub (fun _ h => List.mem_cons_of_mem _ (List.mem_append_left _ (List.mem_append_right _ h))) (by decide +kernel))
set_option maxRecDepth 20000 in
theorem gL_nets_L_words : GoodIn wsL_nets (va_wsS RL 154 yL_words wsL_words) := goodIn_app (goodIn_of _ (by decide +kernel)) ggL_nets_L_words
set_option maxRecDepth 20000 in
theorem ggL_nets_L_networks : GoodIn wsL_nets wsL_networks := goodIn_ca (goodIn_ca (goodIn_ca (goodIn_r _ [709, 1, 2, 3, 4, 5, 6, 7, 8, 9, 10, 11, 12, 13, 14, 15, 16, 17, 18, 19, 20, 21, 22, 23, 24, 25, 26, 27, 28, 29, 30, 31, 32, 33, 34, 35, 36, 37, 38, 39, 40, 41, 42, 43, 44, 45, 46, 47, 48, 49, 50, 51, 52, 53, 54, 55, 56, 57, 58, 59, 60, 61, 62, 63, 64, 65, 66, 67, 68, 69, 70, 71, 72, 73, 74, 75, 76, 77, 78, 79, 80, 81, 82, 83, 84, 85, 86, 87, 88, 89, 90, 91, 92, 93, 94, 95, 710, 711, 98, 712, 146, 147, 148, 149, 150, 151, 152, 153, 154, 155, 156, 157, 158, 159, 160, 161, 162, 163, 164, 165, 166, 167, 168, 169, 170, 171, 172, 173, 174, 175, 176, 177, 178, 179, 180, 181, 182, 183, 184, 185, 186, 187, 188, 189, 190, 191, 192, 193, 194, 195, 196, 197, 198, 199, 200, 201, 202, 203, 204, 205, 606, 607, 608, 609, 610, 611, 612, 613, 614, 477, 615, 616, 617, 618, 619, 620, 621, 622, 221, 222, 223, 224, 225, 226, 105, 106, 227, 228, 229, 230, 111, 112, 231, 232, 233, 234, 235, 236, 237, 238, 239, 240, 241, 242, 243, 244, 245, 246, 247, 248, 249, 132, 133, 134, 120, 121, 122, 123, 124, 125, 126, 127, 128, 129, 130, 131, 250, 251, 252, 253, 254, 140, 255, 138, 139, 141, 256, 257, 258, 259, 260, 261, 262, 263, 264, 265, 266, 267, 268, 269, 270, 271, 272, 273, 274, 107, 108, 109, 110, 113, 114, 115, 116, 117, 118, 119, 135, 136, 137, 142, 143, 144, 145, 275, 276, 277, 278, 279, 280, 281, 282, 283, 284, 285, 286, 287, 288, 289, 290, 291, 292, 293, 294, 295, 296, 297, 298, 299, 300, 301, 302, 303, 304, 305, 306, 307, 308, 309, 310, 311, 312, 313, 314, 315, 316, 317, 318, 319, 320, 321, 322, 323, 324, 325, 326, 327, 328, 329, 330, 331, 332, 333, 334, 335, 336, 337, 338, 339, 340, 341, 342, 343, 344, 345, 346, 347, 348, 349, 350, 351, 352, 353, 354, 355, 356, 357, 358, 359, 360, 361, 362, 363, 364, 365, 366, 367, 368, 369, 370, 371, 372, 373, 374, 375, 376, 377, 378, 379, 380, 381, 382, 383, 384, 385, 386, 387, 388, 389, 390, 391, 392, 393, 394, 395, 396, 397, 398, 399, 400, 401, 402, 403, 404, 405, 406, 407, 408, 409, 410, 411, 412, 413, 414, 415, 416, 417, 418, 419, 420, 421, 422, 423, 424, 425, 426, 427, 428, 429, 430, 431, 432, 433, 434, 435, 436, 437, 438, 439, 440, 441, 442, 443, 444, 445, 446, 447, 448, 449, 450, 451, 452, 453, 454, 455, 456, 457, 458, 459, 460, 461, 462, 463, 464, 465, 466, 467, 468, 469, 470, 471, 472, 473, 474, 475, 476, 478, 479, 480, 481, 482, 483, 484, 485, 486, 487, 488, 489, 490, 491, 492, 493, 494, 495, 496, 497, 498, 499, 500, 501, 502, 503, 504, 505, 506, 507, 508, 509, 510, 511, 512, 513, 514, 515, 516, 517, 518, 519, 520, 521, 522, 523, 524, 525, 526, 527, 528, 529, 214, 215, 530, 531, 532, 533, 534, 535, 536, 537, 538, 539, 540, 541, 542, 543, 544, 545, 546, 547, 548, 549, 550, 551, 552, 553, 554, 555, 556, 557, 558, 559, 560, 218, 219, 220, 206, 207, 208, 209, 210, 211, 212, 213, 216, 217, 561, 562, 563, 564, 565, 566, 567, 568, 569, 570, 571, 572, 573, 574, 575, 576, 577, 578, 579, 580, 581, 582, 583, 584, 585, 586, 587, 588, 589, 590, 591, 592, 593, 594, 595, 596, 597, 598, 599, 600, 601, 602, 603, 604, 605, 713, 714, 715, 96, 97, 99, 100, 101, 102, 103, 104, 716, 717, 718, 719, 720, 721, 722, 723, 724, 725, 726, 727, 728, 729, 730, 731, 732, 733, 734, 735, 736, 737, 738, 739, 740, 741, 742, 743, 744, 745, 746] (by decide +kernel) (by decide +kernel)) (goodIn_sub (fun _ h => List.mem_cons_of_mem _ (List.mem_append_left _ (List.mem_append_left _ (List.mem_append_right _ h)))) (by decide +kernel))) (goodIn_sub (fun _ h => List.mem_cons_of_mem _ (List.mem_append_left _ (List.mem_append_right _ h))) (by decide +kernel))) (goodIn_sub (fun _ h => List.mem_cons_of_mem _ (List.mem_append_right _ h)) (by decide +kernel))
set_option maxRecDepth 20000 in
theorem gL_nets_L_networks : GoodIn wsL_nets (va_wsS RL 157 yL_networks wsL_networks) := goodIn_app (goodIn_of _ (by decide +kernel)) ggL_nets_L_networks
theorem dL_nets_0 : decode cL_nets 0 = .ok (.new 8, 3) := by decide +kernel
theorem dL_nets_3 : decode cL_nets 3 = .ok (.dup, 1) := by decide +kernel
theorem dL_nets_4 : decode cL_nets 4 = .ok (.invokespecial 126, 3) := by decide +kernel
theorem dL_nets_7 : decode cL_nets 7 = .ok (.astore_n 0, 1) := by decide +kernel
theorem dL_nets_8 : decode cL_nets 8 = .ok (.aload_n 0, 1) := by decide +kernel
theorem dL_nets_9 : decode cL_nets 9 = .ok (.iconst 0, 1) := by decide +kernel
theorem dL_nets_10 : decode cL_nets 10 = .ok (.iconst 0, 1) := by decide +kernel
theorem dL_nets_11 : decode cL_nets 11 = .ok (.iconst 0, 1) := by decide +kernel
theorem dL_nets_12 : decode cL_nets 12 = .ok (.iconst 2, 1) := by decide +kernel
theorem dL_nets_13 : decode cL_nets 13 = .ok (.iconst 0, 1) := by decide +kernel
theorem dL_nets_14 : decode cL_nets 14 = .ok (.invokestatic 127, 3) := by decide +kernel
theorem dL_nets_17 : decode cL_nets 17 = .ok (.ifCond .eq 228, 3) := by decide +kernel
theorem dL_nets_20 : decode cL_nets 20 = .ok (.aload_n 0, 1) := by decide +kernel
theorem dL_nets_21 : decode cL_nets 21 = .ok (.iconst 4, 1) := by decide +kernel
theorem dL_nets_22 : decode cL_nets 22 = .ok (.iconst 0, 1) := by decide +kernel
theorem dL_nets_23 : decode cL_nets 23 = .ok (.iconst 3, 1) := by decide +kernel
theorem dL_nets_24 : decode cL_nets 24 = .ok (.invokestatic 131, 3) := by decide +kernel
theorem dL_nets_27 : decode cL_nets 27 = .ok (.ifCond .eq 218, 3) := by decide +kernel
theorem dL_nets_30 : decode cL_nets 30 = .ok (.aload_n 0, 1) := by decide +kernel
theorem dL_nets_31 : decode cL_nets 31 = .ok (.iconst 0, 1) := by decide +kernel
theorem dL_nets_32 : decode cL_nets 32 = .ok (.iconst 0, 1) := by decide +kernel
theorem dL_nets_33 : decode cL_nets 33 = .ok (.iconst 1, 1) := by decide +kernel
theorem dL_nets_34 : decode cL_nets 34 = .ok (.iconst 2, 1) := by decide +kernel
theorem dL_nets_35 : decode cL_nets 35 = .ok (.invokestatic 134, 3) := by decide +kernel
theorem dL_nets_38 : decode cL_nets 38 = .ok (.ifCond .eq 207, 3) := by decide +kernel
theorem dL_nets_41 : decode cL_nets 41 = .ok (.aload_n 0, 1) := by decide +kernel
theorem dL_nets_42 : decode cL_nets 42 = .ok (.iconst 1, 1) := by decide +kernel
theorem dL_nets_43 : decode cL_nets 43 = .ok (.iconst 0, 1) := by decide +kernel
theorem dL_nets_44 : decode cL_nets 44 = .ok (.iconst 3, 1) := by decide +kernel
theorem dL_nets_45 : decode cL_nets 45 = .ok (.iconst 1, 1) := by decide +kernel
theorem dL_nets_46 : decode cL_nets 46 = .ok (.invokestatic 134, 3) := by decide +kernel
theorem dL_nets_49 : decode cL_nets 49 = .ok (.ifCond .eq 196, 3) := by decide +kernel
theorem dL_nets_52 : decode cL_nets 52 = .ok (.aload_n 0, 1) := by decide +kernel
theorem dL_nets_53 : decode cL_nets 53 = .ok (.iconst 2, 1) := by decide +kernel
theorem dL_nets_54 : decode cL_nets 54 = .ok (.iconst 1, 1) := by decide +kernel
theorem dL_nets_55 : decode cL_nets 55 = .ok (.iconst 3, 1) := by decide +kernel
theorem dL_nets_56 : decode cL_nets 56 = .ok (.iconst 2, 1) := by decide +kernel
theorem dL_nets_57 : decode cL_nets 57 = .ok (.invokestatic 134, 3) := by decide +kernel
theorem dL_nets_60 : decode cL_nets 60 = .ok (.ifCond .eq 185, 3) := by decide +kernel
theorem dL_nets_63 : decode cL_nets 63 = .ok (.aload_n 0, 1) := by decide +kernel
theorem dL_nets_64 : decode cL_nets 64 = .ok (.iconst 3, 1) := by decide +kernel
theorem dL_nets_65 : decode cL_nets 65 = .ok (.iconst 0, 1) := by decide +kernel
theorem dL_nets_66 : decode cL_nets 66 = .ok (.iconst 2, 1) := by decide +kernel
theorem dL_nets_67 : decode cL_nets 67 = .ok (.iconst 3, 1) := by decide +kernel
theorem dL_nets_68 : decode cL_nets 68 = .ok (.invokestatic 134, 3) := by decide +kernel
theorem dL_nets_71 : decode cL_nets 71 = .ok (.ifCond .eq 174, 3) := by decide +kernel
theorem dL_nets_74 : decode cL_nets 74 = .ok (.aload_n 0, 1) := by decide +kernel
theorem dL_nets_75 : decode cL_nets 75 = .ok (.iconst 0, 1) := by decide +kernel
theorem dL_nets_76 : decode cL_nets 76 = .ok (.sipush 321, 3) := by decide +kernel
theorem dL_nets_79 : decode cL_nets 79 = .ok (.iconst 3, 1) := by decide +kernel
theorem dL_nets_80 : decode cL_nets 80 = .ok (.invokestatic 138, 3) := by decide +kernel
theorem dL_nets_83 : decode cL_nets 83 = .ok (.ifCond .eq 162, 3) := by decide +kernel
theorem dL_nets_86 : decode cL_nets 86 = .ok (.aload_n 0, 1) := by decide +kernel
theorem dL_nets_87 : decode cL_nets 87 = .ok (.iconst 1, 1) := by decide +kernel
theorem dL_nets_88 : decode cL_nets 88 = .ok (.sipush 230, 3) := by decide +kernel
theorem dL_nets_91 : decode cL_nets 91 = .ok (.iconst 3, 1) := by decide +kernel
theorem dL_nets_92 : decode cL_nets 92 = .ok (.invokestatic 138, 3) := by decide +kernel
theorem dL_nets_95 : decode cL_nets 95 = .ok (.ifCond .eq 150, 3) := by decide +kernel
theorem dL_nets_98 : decode cL_nets 98 = .ok (.aload_n 0, 1) := by decide +kernel
theorem dL_nets_99 : decode cL_nets 99 = .ok (.iconst 2, 1) := by decide +kernel
theorem dL_nets_100 : decode cL_nets 100 = .ok (.sipush 310, 3) := by decide +kernel
theorem dL_nets_103 : decode cL_nets 103 = .ok (.iconst 3, 1) := by decide +kernel
theorem dL_nets_104 : decode cL_nets 104 = .ok (.invokestatic 138, 3) := by decide +kernel
theorem dL_nets_107 : decode cL_nets 107 = .ok (.ifCond .eq 138, 3) := by decide +kernel
theorem dL_nets_110 : decode cL_nets 110 = .ok (.aload_n 0, 1) := by decide +kernel
theorem dL_nets_111 : decode cL_nets 111 = .ok (.iconst 3, 1) := by decide +kernel
theorem dL_nets_112 : decode cL_nets 112 = .ok (.bipush 120, 2) := by decide +kernel
theorem dL_nets_114 : decode cL_nets 114 = .ok (.iconst 3, 1) := by decide +kernel
theorem dL_nets_115 : decode cL_nets 115 = .ok (.invokestatic 138, 3) := by decide +kernel
theorem dL_nets_118 : decode cL_nets 118 = .ok (.ifCond .eq 127, 3) := by decide +kernel
theorem dL_nets_121 : decode cL_nets 121 = .ok (.aload_n 0, 1) := by decide +kernel
theorem dL_nets_122 : decode cL_nets 122 = .ok (.iconst 1, 1) := by decide +kernel
theorem dL_nets_123 : decode cL_nets 123 = .ok (.iconst 0, 1) := by decide +kernel
theorem dL_nets_124 : decode cL_nets 124 = .ok (.iconst 1, 1) := by decide +kernel
theorem dL_nets_125 : decode cL_nets 125 = .ok (.iconst 0, 1) := by decide +kernel
theorem dL_nets_126 : decode cL_nets 126 = .ok (.iconst 0, 1) := by decide +kernel
theorem dL_nets_127 : decode cL_nets 127 = .ok (.invokestatic 117, 3) := by decide +kernel
theorem dL_nets_130 : decode cL_nets 130 = .ok (.ldc2_w 106, 3) := by decide +kernel
theorem dL_nets_133 : decode cL_nets 133 = .ok (.lcmp, 1) := by decide +kernel
theorem dL_nets_134 : decode cL_nets 134 = .ok (.ifCond .ne 111, 3) := by decide +kernel
theorem dL_nets_137 : decode cL_nets 137 = .ok (.aload_n 0, 1) := by decide +kernel
theorem dL_nets_138 : decode cL_nets 138 = .ok (.iconst 0, 1) := by decide +kernel
theorem dL_nets_139 : decode cL_nets 139 = .ok (.invokevirtual 7, 3) := by decide +kernel
theorem dL_nets_142 : decode cL_nets 142 = .ok (.iconst 4, 1) := by decide +kernel
theorem dL_nets_143 : decode cL_nets 143 = .ok (.if_icmp .ne 102, 3) := by decide +kernel
theorem dL_nets_146 : decode cL_nets 146 = .ok (.aload_n 0, 1) := by decide +kernel
theorem dL_nets_147 : decode cL_nets 147 = .ok (.iconst 5, 1) := by decide +kernel
theorem dL_nets_148 : decode cL_nets 148 = .ok (.iconst 3, 1) := by decide +kernel
theorem dL_nets_149 : decode cL_nets 149 = .ok (.iconst 4, 1) := by decide +kernel
theorem dL_nets_150 : decode cL_nets 150 = .ok (.invokestatic 131, 3) := by decide +kernel
theorem dL_nets_153 : decode cL_nets 153 = .ok (.ifCond .eq 92, 3) := by decide +kernel
theorem dL_nets_156 : decode cL_nets 156 = .ok (.aload_n 0, 1) := by decide +kernel
theorem dL_nets_157 : decode cL_nets 157 = .ok (.iconst 0, 1) := by decide +kernel
theorem dL_nets_158 : decode cL_nets 158 = .ok (.iconst 0, 1) := by decide +kernel
theorem dL_nets_159 : decode cL_nets 159 = .ok (.iconst 1, 1) := by decide +kernel
theorem dL_nets_160 : decode cL_nets 160 = .ok (.iconst 4, 1) := by decide +kernel
theorem dL_nets_161 : decode cL_nets 161 = .ok (.invokestatic 134, 3) := by decide +kernel
theorem dL_nets_164 : decode cL_nets 164 = .ok (.ifCond .eq 81, 3) := by decide +kernel
theorem dL_nets_167 : decode cL_nets 167 = .ok (.aload_n 0, 1) := by decide +kernel
theorem dL_nets_168 : decode cL_nets 168 = .ok (.iconst 4, 1) := by decide +kernel
theorem dL_nets_169 : decode cL_nets 169 = .ok (.iconst 1, 1) := by decide +kernel
theorem dL_nets_170 : decode cL_nets 170 = .ok (.iconst 2, 1) := by decide +kernel
theorem dL_nets_171 : decode cL_nets 171 = .ok (.iconst 4, 1) := by decide +kernel
theorem dL_nets_172 : decode cL_nets 172 = .ok (.invokestatic 134, 3) := by decide +kernel
theorem dL_nets_175 : decode cL_nets 175 = .ok (.ifCond .eq 70, 3) := by decide +kernel
theorem dL_nets_178 : decode cL_nets 178 = .ok (.aload_n 0, 1) := by decide +kernel
theorem dL_nets_179 : decode cL_nets 179 = .ok (.iconst 5, 1) := by decide +kernel
theorem dL_nets_180 : decode cL_nets 180 = .ok (.iconst 0, 1) := by decide +kernel
theorem dL_nets_181 : decode cL_nets 181 = .ok (.iconst 4, 1) := by decide +kernel
theorem dL_nets_182 : decode cL_nets 182 = .ok (.iconst 2, 1) := by decide +kernel
theorem dL_nets_183 : decode cL_nets 183 = .ok (.invokestatic 134, 3) := by decide +kernel
theorem dL_nets_186 : decode cL_nets 186 = .ok (.ifCond .eq 59, 3) := by decide +kernel
theorem dL_nets_189 : decode cL_nets 189 = .ok (.aload_n 0, 1) := by decide +kernel
theorem dL_nets_190 : decode cL_nets 190 = .ok (.iconst 0, 1) := by decide +kernel
theorem dL_nets_191 : decode cL_nets 191 = .ok (.sipush 3241, 3) := by decide +kernel
theorem dL_nets_194 : decode cL_nets 194 = .ok (.iconst 4, 1) := by decide +kernel
theorem dL_nets_195 : decode cL_nets 195 = .ok (.invokestatic 138, 3) := by decide +kernel
theorem dL_nets_198 : decode cL_nets 198 = .ok (.ifCond .eq 47, 3) := by decide +kernel
theorem dL_nets_201 : decode cL_nets 201 = .ok (.aload_n 0, 1) := by decide +kernel
theorem dL_nets_202 : decode cL_nets 202 = .ok (.iconst 4, 1) := by decide +kernel
theorem dL_nets_203 : decode cL_nets 203 = .ok (.sipush 210, 3) := by decide +kernel
theorem dL_nets_206 : decode cL_nets 206 = .ok (.iconst 3, 1) := by decide +kernel
theorem dL_nets_207 : decode cL_nets 207 = .ok (.invokestatic 138, 3) := by decide +kernel
theorem dL_nets_210 : decode cL_nets 210 = .ok (.ifCond .eq 35, 3) := by decide +kernel
theorem dL_nets_213 : decode cL_nets 213 = .ok (.aload_n 0, 1) := by decide +kernel
theorem dL_nets_214 : decode cL_nets 214 = .ok (.iconst 1, 1) := by decide +kernel
theorem dL_nets_215 : decode cL_nets 215 = .ok (.iconst 0, 1) := by decide +kernel
theorem dL_nets_216 : decode cL_nets 216 = .ok (.iconst 4, 1) := by decide +kernel
theorem dL_nets_217 : decode cL_nets 217 = .ok (.iconst 0, 1) := by decide +kernel
theorem dL_nets_218 : decode cL_nets 218 = .ok (.iconst 0, 1) := by decide +kernel
theorem dL_nets_219 : decode cL_nets 219 = .ok (.invokestatic 117, 3) := by decide +kernel
theorem dL_nets_222 : decode cL_nets 222 = .ok (.ldc2_w 106, 3) := by decide +kernel
theorem dL_nets_225 : decode cL_nets 225 = .ok (.lcmp, 1) := by decide +kernel
theorem dL_nets_226 : decode cL_nets 226 = .ok (.ifCond .ne 19, 3) := by decide +kernel
theorem dL_nets_229 : decode cL_nets 229 = .ok (.aload_n 0, 1) := by decide +kernel
theorem dL_nets_230 : decode cL_nets 230 = .ok (.iconst 1, 1) := by decide +kernel
theorem dL_nets_231 : decode cL_nets 231 = .ok (.iconst 3, 1) := by decide +kernel
theorem dL_nets_232 : decode cL_nets 232 = .ok (.iconst 4, 1) := by decide +kernel
theorem dL_nets_233 : decode cL_nets 233 = .ok (.iconst 0, 1) := by decide +kernel
theorem dL_nets_234 : decode cL_nets 234 = .ok (.iconst 0, 1) := by decide +kernel
theorem dL_nets_235 : decode cL_nets 235 = .ok (.invokestatic 117, 3) := by decide +kernel
theorem dL_nets_238 : decode cL_nets 238 = .ok (.ldc2_w 106, 3) := by decide +kernel
theorem dL_nets_241 : decode cL_nets 241 = .ok (.lcmp, 1) := by decide +kernel
theorem dL_nets_242 : decode cL_nets 242 = .ok (.ifCond .eq 5, 3) := by decide +kernel
theorem dL_nets_245 : decode cL_nets 245 = .ok (.iconst 0, 1) := by decide +kernel
theorem dL_nets_246 : decode cL_nets 246 = .ok (.ireturn, 1) := by decide +kernel
theorem dL_nets_247 : decode cL_nets 247 = .ok (.aload_n 0, 1) := by decide +kernel
theorem dL_nets_248 : decode cL_nets 248 = .ok (.iconst 0, 1) := by decide +kernel
theorem dL_nets_249 : decode cL_nets 249 = .ok (.iconst 1, 1) := by decide +kernel
theorem dL_nets_250 : decode cL_nets 250 = .ok (.invokevirtual 13, 3) := by decide +kernel
theorem dL_nets_253 : decode cL_nets 253 = .ok (.sipush 304, 3) := by decide +kernel
theorem dL_nets_256 : decode cL_nets 256 = .ok (.if_icmp .ne 182, 3) := by decide +kernel
theorem dL_nets_259 : decode cL_nets 259 = .ok (.aload_n 0, 1) := by decide +kernel
theorem dL_nets_260 : decode cL_nets 260 = .ok (.iconst 5, 1) := by decide +kernel
theorem dL_nets_261 : decode cL_nets 261 = .ok (.iconst 3, 1) := by decide +kernel
theorem dL_nets_262 : decode cL_nets 262 = .ok (.iconst 4, 1) := by decide +kernel
theorem dL_nets_263 : decode cL_nets 263 = .ok (.invokestatic 131, 3) := by decide +kernel
theorem dL_nets_266 : decode cL_nets 266 = .ok (.ifCond .eq 172, 3) := by decide +kernel
theorem dL_nets_269 : decode cL_nets 269 = .ok (.aload_n 0, 1) := by decide +kernel
theorem dL_nets_270 : decode cL_nets 270 = .ok (.iconst 0, 1) := by decide +kernel
theorem dL_nets_271 : decode cL_nets 271 = .ok (.iconst 0, 1) := by decide +kernel
theorem dL_nets_272 : decode cL_nets 272 = .ok (.iconst 3, 1) := by decide +kernel
theorem dL_nets_273 : decode cL_nets 273 = .ok (.iconst 4, 1) := by decide +kernel
theorem dL_nets_274 : decode cL_nets 274 = .ok (.invokestatic 134, 3) := by decide +kernel
theorem dL_nets_277 : decode cL_nets 277 = .ok (.ifCond .eq 161, 3) := by decide +kernel
theorem dL_nets_280 : decode cL_nets 280 = .ok (.aload_n 0, 1) := by decide +kernel
theorem dL_nets_281 : decode cL_nets 281 = .ok (.iconst 1, 1) := by decide +kernel
theorem dL_nets_282 : decode cL_nets 282 = .ok (.iconst 1, 1) := by decide +kernel
theorem dL_nets_283 : decode cL_nets 283 = .ok (.iconst 4, 1) := by decide +kernel
theorem dL_nets_284 : decode cL_nets 284 = .ok (.iconst 3, 1) := by decide +kernel
theorem dL_nets_285 : decode cL_nets 285 = .ok (.invokestatic 134, 3) := by decide +kernel
theorem dL_nets_288 : decode cL_nets 288 = .ok (.ifCond .eq 150, 3) := by decide +kernel
theorem dL_nets_291 : decode cL_nets 291 = .ok (.aload_n 0, 1) := by decide +kernel
theorem dL_nets_292 : decode cL_nets 292 = .ok (.iconst 0, 1) := by decide +kernel
theorem dL_nets_293 : decode cL_nets 293 = .ok (.sipush 432, 3) := by decide +kernel
theorem dL_nets_296 : decode cL_nets 296 = .ok (.iconst 3, 1) := by decide +kernel
theorem dL_nets_297 : decode cL_nets 297 = .ok (.invokestatic 138, 3) := by decide +kernel
theorem dL_nets_300 : decode cL_nets 300 = .ok (.ifCond .eq 138, 3) := by decide +kernel
theorem dL_nets_303 : decode cL_nets 303 = .ok (.aload_n 0, 1) := by decide +kernel
theorem dL_nets_304 : decode cL_nets 304 = .ok (.iconst 3, 1) := by decide +kernel
theorem dL_nets_305 : decode cL_nets 305 = .ok (.sipush 4120, 3) := by decide +kernel
theorem dL_nets_308 : decode cL_nets 308 = .ok (.iconst 4, 1) := by decide +kernel
theorem dL_nets_309 : decode cL_nets 309 = .ok (.invokestatic 138, 3) := by decide +kernel
theorem dL_nets_312 : decode cL_nets 312 = .ok (.ifCond .eq 126, 3) := by decide +kernel
theorem dL_nets_315 : decode cL_nets 315 = .ok (.aload_n 0, 1) := by decide +kernel
theorem dL_nets_316 : decode cL_nets 316 = .ok (.iconst 1, 1) := by decide +kernel
theorem dL_nets_317 : decode cL_nets 317 = .ok (.iconst 0, 1) := by decide +kernel
theorem dL_nets_318 : decode cL_nets 318 = .ok (.iconst 1, 1) := by decide +kernel
theorem dL_nets_319 : decode cL_nets 319 = .ok (.iconst 0, 1) := by decide +kernel
theorem dL_nets_320 : decode cL_nets 320 = .ok (.iconst 0, 1) := by decide +kernel
theorem dL_nets_321 : decode cL_nets 321 = .ok (.invokestatic 117, 3) := by decide +kernel
theorem dL_nets_324 : decode cL_nets 324 = .ok (.ldc2_w 106, 3) := by decide +kernel
theorem dL_nets_327 : decode cL_nets 327 = .ok (.lcmp, 1) := by decide +kernel
theorem dL_nets_328 : decode cL_nets 328 = .ok (.ifCond .ne 110, 3) := by decide +kernel
theorem dL_nets_331 : decode cL_nets 331 = .ok (.aload_n 0, 1) := by decide +kernel
theorem dL_nets_332 : decode cL_nets 332 = .ok (.iconst 4, 1) := by decide +kernel
theorem dL_nets_333 : decode cL_nets 333 = .ok (.iconst 3, 1) := by decide +kernel
theorem dL_nets_334 : decode cL_nets 334 = .ok (.invokevirtual 13, 3) := by decide +kernel
theorem dL_nets_337 : decode cL_nets 337 = .ok (.iconst 1, 1) := by decide +kernel
theorem dL_nets_338 : decode cL_nets 338 = .ok (.if_icmp .ne 100, 3) := by decide +kernel
theorem dL_nets_341 : decode cL_nets 341 = .ok (.aload_n 0, 1) := by decide +kernel
theorem dL_nets_342 : decode cL_nets 342 = .ok (.iconst 5, 1) := by decide +kernel
theorem dL_nets_343 : decode cL_nets 343 = .ok (.iconst 3, 1) := by decide +kernel
theorem dL_nets_344 : decode cL_nets 344 = .ok (.iconst 4, 1) := by decide +kernel
theorem dL_nets_345 : decode cL_nets 345 = .ok (.invokestatic 131, 3) := by decide +kernel
theorem dL_nets_348 : decode cL_nets 348 = .ok (.ifCond .eq 90, 3) := by decide +kernel
theorem dL_nets_351 : decode cL_nets 351 = .ok (.aload_n 0, 1) := by decide +kernel
theorem dL_nets_352 : decode cL_nets 352 = .ok (.iconst 0, 1) := by decide +kernel
theorem dL_nets_353 : decode cL_nets 353 = .ok (.iconst 0, 1) := by decide +kernel
theorem dL_nets_354 : decode cL_nets 354 = .ok (.iconst 3, 1) := by decide +kernel
theorem dL_nets_355 : decode cL_nets 355 = .ok (.iconst 1, 1) := by decide +kernel
theorem dL_nets_356 : decode cL_nets 356 = .ok (.invokestatic 134, 3) := by decide +kernel
theorem dL_nets_359 : decode cL_nets 359 = .ok (.ifCond .eq 79, 3) := by decide +kernel
theorem dL_nets_362 : decode cL_nets 362 = .ok (.aload_n 0, 1) := by decide +kernel
theorem dL_nets_363 : decode cL_nets 363 = .ok (.iconst 1, 1) := by decide +kernel
theorem dL_nets_364 : decode cL_nets 364 = .ok (.iconst 0, 1) := by decide +kernel
theorem dL_nets_365 : decode cL_nets 365 = .ok (.iconst 1, 1) := by decide +kernel
theorem dL_nets_366 : decode cL_nets 366 = .ok (.iconst 4, 1) := by decide +kernel
theorem dL_nets_367 : decode cL_nets 367 = .ok (.invokestatic 134, 3) := by decide +kernel
theorem dL_nets_370 : decode cL_nets 370 = .ok (.ifCond .eq 68, 3) := by decide +kernel
theorem dL_nets_373 : decode cL_nets 373 = .ok (.aload_n 0, 1) := by decide +kernel
theorem dL_nets_374 : decode cL_nets 374 = .ok (.iconst 0, 1) := by decide +kernel
theorem dL_nets_375 : decode cL_nets 375 = .ok (.sipush 3241, 3) := by decide +kernel
theorem dL_nets_378 : decode cL_nets 378 = .ok (.iconst 4, 1) := by decide +kernel
theorem dL_nets_379 : decode cL_nets 379 = .ok (.invokestatic 138, 3) := by decide +kernel
theorem dL_nets_382 : decode cL_nets 382 = .ok (.ifCond .eq 56, 3) := by decide +kernel
theorem dL_nets_385 : decode cL_nets 385 = .ok (.aload_n 0, 1) := by decide +kernel
theorem dL_nets_386 : decode cL_nets 386 = .ok (.iconst 1, 1) := by decide +kernel
theorem dL_nets_387 : decode cL_nets 387 = .ok (.invokevirtual 7, 3) := by decide +kernel
theorem dL_nets_390 : decode cL_nets 390 = .ok (.iconst 5, 1) := by decide +kernel
theorem dL_nets_391 : decode cL_nets 391 = .ok (.if_icmp .ne 47, 3) := by decide +kernel
theorem dL_nets_394 : decode cL_nets 394 = .ok (.aload_n 0, 1) := by decide +kernel
theorem dL_nets_395 : decode cL_nets 395 = .ok (.iconst 1, 1) := by decide +kernel
theorem dL_nets_396 : decode cL_nets 396 = .ok (.iconst 0, 1) := by decide +kernel
theorem dL_nets_397 : decode cL_nets 397 = .ok (.iconst 1, 1) := by decide +kernel
theorem dL_nets_398 : decode cL_nets 398 = .ok (.iconst 5, 1) := by decide +kernel
theorem dL_nets_399 : decode cL_nets 399 = .ok (.invokestatic 134, 3) := by decide +kernel
theorem dL_nets_402 : decode cL_nets 402 = .ok (.ifCond .eq 36, 3) := by decide +kernel
theorem dL_nets_405 : decode cL_nets 405 = .ok (.aload_n 0, 1) := by decide +kernel
theorem dL_nets_406 : decode cL_nets 406 = .ok (.bipush 6, 2) := by decide +kernel
theorem dL_nets_408 : decode cL_nets 408 = .ok (.iconst 1, 1) := by decide +kernel
theorem dL_nets_409 : decode cL_nets 409 = .ok (.iconst 4, 1) := by decide +kernel
theorem dL_nets_410 : decode cL_nets 410 = .ok (.iconst 5, 1) := by decide +kernel
theorem dL_nets_411 : decode cL_nets 411 = .ok (.invokestatic 134, 3) := by decide +kernel
theorem dL_nets_414 : decode cL_nets 414 = .ok (.ifCond .eq 24, 3) := by decide +kernel
theorem dL_nets_417 : decode cL_nets 417 = .ok (.aload_n 0, 1) := by decide +kernel
theorem dL_nets_418 : decode cL_nets 418 = .ok (.bipush 7, 2) := by decide +kernel
theorem dL_nets_420 : decode cL_nets 420 = .ok (.iconst 0, 1) := by decide +kernel
theorem dL_nets_421 : decode cL_nets 421 = .ok (.iconst 5, 1) := by decide +kernel
theorem dL_nets_422 : decode cL_nets 422 = .ok (.iconst 4, 1) := by decide +kernel
theorem dL_nets_423 : decode cL_nets 423 = .ok (.invokestatic 134, 3) := by decide +kernel
theorem dL_nets_426 : decode cL_nets 426 = .ok (.ifCond .eq 12, 3) := by decide +kernel
theorem dL_nets_429 : decode cL_nets 429 = .ok (.aload_n 0, 1) := by decide +kernel
theorem dL_nets_430 : decode cL_nets 430 = .ok (.iconst 4, 1) := by decide +kernel
theorem dL_nets_431 : decode cL_nets 431 = .ok (.invokevirtual 23, 3) := by decide +kernel
theorem dL_nets_434 : decode cL_nets 434 = .ok (.iconst 5, 1) := by decide +kernel
theorem dL_nets_435 : decode cL_nets 435 = .ok (.if_icmp .eq 5, 3) := by decide +kernel
theorem dL_nets_438 : decode cL_nets 438 = .ok (.iconst 0, 1) := by decide +kernel
theorem dL_nets_439 : decode cL_nets 439 = .ok (.ireturn, 1) := by decide +kernel
theorem dL_nets_440 : decode cL_nets 440 = .ok (.bipush 6, 2) := by decide +kernel
theorem dL_nets_442 : decode cL_nets 442 = .ok (.istore_n 1, 1) := by decide +kernel
theorem dL_nets_443 : decode cL_nets 443 = .ok (.iload_n 1, 1) := by decide +kernel
theorem dL_nets_444 : decode cL_nets 444 = .ok (.bipush 17, 2) := by decide +kernel
theorem dL_nets_446 : decode cL_nets 446 = .ok (.if_icmp .ge 39, 3) := by decide +kernel
theorem dL_nets_449 : decode cL_nets 449 = .ok (.aload_n 0, 1) := by decide +kernel
theorem dL_nets_450 : decode cL_nets 450 = .ok (.iconst 0, 1) := by decide +kernel
theorem dL_nets_451 : decode cL_nets 451 = .ok (.iload_n 1, 1) := by decide +kernel
theorem dL_nets_452 : decode cL_nets 452 = .ok (.iconst 5, 1) := by decide +kernel
theorem dL_nets_453 : decode cL_nets 453 = .ok (.irem, 1) := by decide +kernel
theorem dL_nets_454 : decode cL_nets 454 = .ok (.iconst 0, 1) := by decide +kernel
theorem dL_nets_455 : decode cL_nets 455 = .ok (.iconst 0, 1) := by decide +kernel
theorem dL_nets_456 : decode cL_nets 456 = .ok (.iconst 0, 1) := by decide +kernel
theorem dL_nets_457 : decode cL_nets 457 = .ok (.invokestatic 117, 3) := by decide +kernel
theorem dL_nets_460 : decode cL_nets 460 = .ok (.iload_n 1, 1) := by decide +kernel
theorem dL_nets_461 : decode cL_nets 461 = .ok (.bipush 16, 2) := by decide +kernel
theorem dL_nets_463 : decode cL_nets 463 = .ok (.if_icmp .ge 7, 3) := by decide +kernel
theorem dL_nets_466 : decode cL_nets 466 = .ok (.iload_n 1, 1) := by decide +kernel
theorem dL_nets_467 : decode cL_nets 467 = .ok (.goto 5, 3) := by decide +kernel
theorem dL_nets_470 : decode cL_nets 470 = .ok (.ldc 140, 2) := by decide +kernel
theorem dL_nets_472 : decode cL_nets 472 = .ok (.i2l, 1) := by decide +kernel
theorem dL_nets_473 : decode cL_nets 473 = .ok (.lcmp, 1) := by decide +kernel
theorem dL_nets_474 : decode cL_nets 474 = .ok (.ifCond .eq 5, 3) := by decide +kernel
theorem dL_nets_477 : decode cL_nets 477 = .ok (.iconst 0, 1) := by decide +kernel
theorem dL_nets_478 : decode cL_nets 478 = .ok (.ireturn, 1) := by decide +kernel
theorem dL_nets_479 : decode cL_nets 479 = .ok (.iinc 1 1, 3) := by decide +kernel
theorem dL_nets_482 : decode cL_nets 482 = .ok (.goto (-39), 3) := by decide +kernel
theorem dL_nets_485 : decode cL_nets 485 = .ok (.aload_n 0, 1) := by decide +kernel
theorem dL_nets_486 : decode cL_nets 486 = .ok (.iconst 2, 1) := by decide +kernel
theorem dL_nets_487 : decode cL_nets 487 = .ok (.invokevirtual 23, 3) := by decide +kernel
theorem dL_nets_490 : decode cL_nets 490 = .ok (.bipush 28, 2) := by decide +kernel
theorem dL_nets_492 : decode cL_nets 492 = .ok (.if_icmp .ne 65, 3) := by decide +kernel
theorem dL_nets_495 : decode cL_nets 495 = .ok (.aload_n 0, 1) := by decide +kernel
theorem dL_nets_496 : decode cL_nets 496 = .ok (.iconst 1, 1) := by decide +kernel
theorem dL_nets_497 : decode cL_nets 497 = .ok (.invokevirtual 23, 3) := by decide +kernel
theorem dL_nets_500 : decode cL_nets 500 = .ok (.bipush 42, 2) := by decide +kernel
theorem dL_nets_502 : decode cL_nets 502 = .ok (.if_icmp .ne 55, 3) := by decide +kernel
theorem dL_nets_505 : decode cL_nets 505 = .ok (.aload_n 0, 1) := by decide +kernel
theorem dL_nets_506 : decode cL_nets 506 = .ok (.iconst 0, 1) := by decide +kernel
theorem dL_nets_507 : decode cL_nets 507 = .ok (.iconst 0, 1) := by decide +kernel
theorem dL_nets_508 : decode cL_nets 508 = .ok (.iconst 0, 1) := by decide +kernel
theorem dL_nets_509 : decode cL_nets 509 = .ok (.iconst 2, 1) := by decide +kernel
theorem dL_nets_510 : decode cL_nets 510 = .ok (.iconst 0, 1) := by decide +kernel
theorem dL_nets_511 : decode cL_nets 511 = .ok (.invokestatic 127, 3) := by decide +kernel
theorem dL_nets_514 : decode cL_nets 514 = .ok (.ifCond .eq 43, 3) := by decide +kernel
theorem dL_nets_517 : decode cL_nets 517 = .ok (.invokestatic 141, 3) := by decide +kernel
theorem dL_nets_520 : decode cL_nets 520 = .ok (.ifCond .eq 37, 3) := by decide +kernel
theorem dL_nets_523 : decode cL_nets 523 = .ok (.invokestatic 145, 3) := by decide +kernel
theorem dL_nets_526 : decode cL_nets 526 = .ok (.ifCond .eq 31, 3) := by decide +kernel
theorem dL_nets_529 : decode cL_nets 529 = .ok (.invokestatic 148, 3) := by decide +kernel
theorem dL_nets_532 : decode cL_nets 532 = .ok (.ifCond .eq 25, 3) := by decide +kernel
theorem dL_nets_535 : decode cL_nets 535 = .ok (.invokestatic 151, 3) := by decide +kernel
theorem dL_nets_538 : decode cL_nets 538 = .ok (.ifCond .eq 19, 3) := by decide +kernel
theorem dL_nets_541 : decode cL_nets 541 = .ok (.invokestatic 154, 3) := by decide +kernel
theorem dL_nets_544 : decode cL_nets 544 = .ok (.ifCond .eq 13, 3) := by decide +kernel
theorem dL_nets_547 : decode cL_nets 547 = .ok (.invokestatic 157, 3) := by decide +kernel
theorem dL_nets_550 : decode cL_nets 550 = .ok (.ifCond .eq 7, 3) := by decide +kernel
theorem dL_nets_553 : decode cL_nets 553 = .ok (.iconst 1, 1) := by decide +kernel
theorem dL_nets_554 : decode cL_nets 554 = .ok (.goto 4, 3) := by decide +kernel
theorem dL_nets_557 : decode cL_nets 557 = .ok (.iconst 0, 1) := by decide +kernel
theorem dL_nets_558 : decode cL_nets 558 = .ok (.ireturn, 1) := by decide +kernel
set_option maxRecDepth 20000 in
theorem ggL_disks_X8_init : GoodIn wsL_disks wsX8_init := goodIn_r _ [10, 11, 12, 13, 14, 15, 16, 17, 18, 19, 20, 21, 22, 23, 24, 25, 26, 27, 28, 29, 30, 31, 32, 33, 34, 35, 36, 37, 38, 39, 40, 41, 42, 43, 44, 45, 46, 47, 48, 49, 50, 51, 52, 53, 54, 55, 56, 57, 58, 59, 60, 61, 62, 63, 64, 65, 66, 67, 68, 69, 70, 71, 72, 73, 74, 75, 76, 77, 78, 79, 80, 81, 82, 83, 84, 85, 86, 87, 88, 89, 90, 91, 92, 93, 94, 95, 96, 97, 637, 638, 639, 640, 630, 631, 632, 633, 634, 635, 636, 641, 642, 643, 644, 645, 646, 647, 648, 649, 650, 651, 652] (by decide +kernel) (by decide +kernel)
set_option maxRecDepth 20000 in
theorem gL_disks_X8_init : GoodIn wsL_disks (wsX8_init) := ggL_disks_X8_init
set_option maxRecDepth 20000 in
theorem ggL_disks_X8_draws : GoodIn wsL_disks wsX8_draws := goodIn_r _ [101, 21, 17, 102, 103, 104, 20, 105, 106, 107, 16, 108, 109, 110, 111, 112, 113, 41, 114, 115, 116, 117, 42, 118, 119, 120, 3, 121, 122, 123, 124, 125, 126, 127, 128, 129, 130, 131, 132, 133, 134, 135, 136, 137, 138, 139, 140, 141, 142, 65, 143, 144, 145, 146, 147, 148, 149, 630, 631, 632, 633, 634, 635, 636, 637, 638, 639, 640, 641, 642, 643, 653, 654, 655] (by decide +kernel) (by decide +kernel)
set_option maxRecDepth 20000 in
theorem gL_disks_X8_draws : GoodIn wsL_disks (wsV RL 160 RX8 yX8_draws wsX8_draws) := goodIn_app (goodIn_of _ (by decide +kernel)) ggL_disks_X8_draws
set_option maxRecDepth 20000 in
theorem ggL_disks_X8_disk : GoodIn wsL_disks wsX8_disk := goodIn_ca (goodIn_ca (goodIn_r _ [153, 154, 155, 156, 157, 21, 158, 159, 144, 160, 161, 3, 162, 163, 164, 165, 166, 167, 102, 103, 104, 20, 105, 106, 168, 169, 170, 12, 13, 147, 148, 149, 171, 172, 173, 174, 175, 176, 65, 177, 178, 179, 180, 181, 182, 183, 184, 185, 186, 187, 188, 64, 189, 190, 191, 192, 193, 194, 195, 196, 197, 198, 199, 200, 201, 202, 203, 204, 47, 205, 206, 207, 208, 209, 210, 211, 212, 213, 214, 215, 216, 217, 218, 219, 220, 221, 630, 631, 632, 633, 634, 635, 636, 653, 654, 655, 641, 642, 643] (by decide +kernel) (by decide +kernel)) (goodIn_sub (fun _ h => List.mem_cons_of_mem _ (List.mem_append_left _ (List.mem_append_left _ (List.mem_append_right _ h)))) (by decide +kernel))) (goodIn_sub (fun _ h => List.mem_cons_of_mem _ (List.mem_append_left _ (List.mem_append_right _ h))) (by decide +kernel))
set_option maxRecDepth 20000 in
theorem gL_disks_X8_disk : GoodIn wsL_disks (wsV RL 26 RX8 yX8_disk wsX8_disk) := goodIn_app (goodIn_of _ (by decide +kernel)) ggL_disks_X8_disk
set_option maxRecDepth 20000 in
theorem ggL_disks_X8_pairs : GoodIn wsL_disks wsX8_pairs := goodIn_ca (goodIn_r _ [225, 154, 155, 21, 102, 103, 104, 20, 105, 106, 118, 119, 120, 3, 121, 122, 123, 124, 125, 126, 127, 128, 129, 130, 131, 132, 133, 134, 135, 136, 137, 138, 139, 140, 141, 142, 65, 143, 144, 145, 146, 147, 148, 149, 630, 631, 632, 633, 634, 635, 636, 641, 642, 643, 653, 654, 655] (by decide +kernel) (by decide +kernel)) (goodIn_sub (fun _ h => List.mem_cons_of_mem _ (List.mem_append_left _ (List.mem_append_left _ (List.mem_append_right _ h)))) (by decide +kernel))
set_option maxRecDepth 20000 in
theorem gL_disks_X8_pairs : GoodIn wsL_disks (wsV RL 37 RX8 yX8_pairs wsX8_pairs) := goodIn_app (goodIn_of _ (by decide +kernel)) ggL_disks_X8_pairs
set_option maxRecDepth 20000 in
theorem ggL_disks_X8_lie : GoodIn wsL_disks wsX8_lie := goodIn_ca (goodIn_ca (goodIn_r _ [229, 230, 231, 154, 155, 123, 124, 125, 3, 126, 21, 102, 103, 104, 20, 105, 106, 118, 119, 120, 121, 122, 127, 128, 129, 130, 131, 132, 133, 134, 135, 136, 137, 138, 139, 140, 141, 142, 65, 143, 144, 145, 146, 147, 148, 149, 630, 631, 632, 633, 634, 635, 636, 641, 642, 643, 653, 654, 655] (by decide +kernel) (by decide +kernel)) (goodIn_sub (fun _ h => List.mem_cons_of_mem _ (List.mem_append_right _ h)) (by decide +kernel))) (goodIn_sub (fun _ h => List.mem_cons_of_mem _ (List.mem_append_left _ (List.mem_append_left _ (List.mem_append_right _ h)))) (by decide +kernel))
set_option maxRecDepth 20000 in
theorem gL_disks_X8_lie : GoodIn wsL_disks (wsV RL 34 RX8 yX8_lie wsX8_lie) := goodIn_app (goodIn_of _ (by decide +kernel)) ggL_disks_X8_lie
set_option maxRecDepth 20000 in
theorem ggL_disks_X8_move : GoodIn wsL_disks wsX8_move := goodIn_ca (goodIn_ca (goodIn_r _ [235, 230, 231, 154, 155, 21, 122, 158, 159, 144, 123, 124, 125, 3, 126, 102, 103, 104, 20, 105, 106, 160, 161, 162, 163, 164, 165, 166, 167, 127, 128, 129, 130, 131, 132, 133, 134, 135, 136, 137, 138, 139, 140, 141, 142, 65, 168, 169, 170, 12, 13, 147, 148, 149, 236, 237, 238, 239, 630, 631, 632, 633, 634, 635, 636, 653, 654, 655, 641, 642, 643] (by decide +kernel) (by decide +kernel)) (goodIn_sub (fun _ h => List.mem_cons_of_mem _ (List.mem_append_right _ h)) (by decide +kernel))) (goodIn_sub (fun _ h => List.mem_cons_of_mem _ (List.mem_append_left _ (List.mem_append_left _ (List.mem_append_right _ h)))) (by decide +kernel))
set_option maxRecDepth 20000 in
theorem gL_disks_X8_move : GoodIn wsL_disks (wsV RL 30 RX8 yX8_move wsX8_move) := goodIn_app (goodIn_of _ (by decide +kernel)) ggL_disks_X8_move
set_option maxRecDepth 20000 in
theorem ggL_disks_X8_split : GoodIn wsL_disks wsX8_split := goodIn_ca (goodIn_ca (goodIn_r _ [243, 230, 231, 156, 157, 17, 244, 16, 245, 246, 43, 247, 248, 249, 42, 250, 251, 252, 253, 254, 255, 256, 40, 49, 50, 51, 52, 53, 54, 55, 56, 57, 58, 59, 60, 41, 630, 631, 632, 633, 634, 635, 636, 637, 638, 639, 640] (by decide +kernel) (by decide +kernel)) (goodIn_sub (fun _ h => List.mem_cons_of_mem _ (List.mem_append_right _ h)) (by decide +kernel))) (goodIn_sub (fun _ h => List.mem_cons_of_mem _ (List.mem_append_left _ (List.mem_append_right _ h))) (by decide +kernel))
set_option maxRecDepth 20000 in
theorem gL_disks_X8_split : GoodIn wsL_disks (wsV RL 7 RX8 yX8_split wsX8_split) := goodIn_app (goodIn_of _ (by decide +kernel)) ggL_disks_X8_split
set_option maxRecDepth 20000 in
theorem ggL_disks_L_refuses : GoodIn wsL_disks wsL_refuses := goodIn_ca (goodIn_ca (goodIn_ca (goodIn_r _ [260, 261, 262, 263, 264, 265, 266, 267, 268, 269, 270, 271, 3, 272, 230, 231, 17, 273, 16, 274, 275, 43, 276, 277, 278, 42, 279, 280, 281, 282, 283, 107, 108, 109, 110, 111, 112, 113, 41, 114, 115, 116, 117, 284, 285, 286, 287, 190, 191, 192, 288, 289, 290, 291, 40, 292, 293, 294, 295, 35, 296, 34, 297, 298, 96, 299, 300, 301, 302, 95, 93, 303, 304, 305, 306, 47, 307, 308, 103, 104, 20, 105, 106, 309, 128, 129, 130, 131, 132, 133, 134, 135, 136, 137, 138, 139, 140, 141, 142, 65, 310, 311, 312, 313, 314, 315, 316, 317, 318, 319, 320, 321, 322, 323, 324, 325, 326, 327, 328, 329, 330, 331, 332, 333, 334, 335, 336, 31, 337, 30, 338, 339, 86, 87, 85, 88, 340, 341, 342, 343, 344, 345, 346, 347, 348, 349, 259, 350, 351, 352, 353, 240, 241, 242, 243, 156, 157, 244, 245, 246, 247, 248, 249, 250, 251, 252, 253, 254, 255, 256, 49, 50, 51, 52, 53, 54, 55, 56, 57, 58, 59, 60, 354, 355, 356, 357, 358, 359, 360, 361, 216, 217, 362, 363, 364, 365, 366, 367, 368, 369, 370, 371, 372, 373, 374, 375, 376, 377, 378, 379, 380, 150, 151, 152, 153, 154, 155, 21, 158, 159, 144, 160, 161, 162, 163, 164, 165, 166, 167, 102, 168, 169, 170, 12, 13, 147, 148, 149, 171, 172, 173, 174, 175, 176, 177, 178, 179, 180, 181, 182, 183, 184, 185, 186, 187, 188, 64, 189, 193, 194, 195, 196, 197, 198, 199, 200, 201, 202, 203, 204, 205, 206, 207, 208, 209, 210, 211, 212, 213, 214, 215, 218, 219, 220, 221, 232, 233, 234, 235, 122, 123, 124, 125, 126, 127, 236, 237, 238, 239, 226, 227, 228, 229, 118, 119, 120, 121, 143, 145, 146, 222, 223, 224, 225, 381, 382, 383, 384, 385, 22, 386, 387, 388, 389, 390, 391, 392, 393, 394, 395, 396, 397, 398, 399, 79, 400, 401, 402, 403, 404, 405, 406, 407, 408, 409, 410, 411, 412, 413, 414, 415, 416, 417, 418, 419, 420, 421, 422, 423, 424, 425, 426, 427, 428, 429, 430, 431, 432, 433, 434, 435, 436, 437, 438, 439, 440, 441, 442, 443, 444, 445, 446, 447, 448, 449, 450, 451, 452, 453, 454, 455, 456, 457, 458, 459, 460, 461, 462, 463, 464, 465, 466, 467, 468, 469, 470, 471, 472, 473, 474, 475, 476, 477, 478, 479, 480, 481, 482, 483, 484, 485, 486, 487, 488, 489, 490, 26, 491, 25, 492, 493, 80, 81, 494, 495, 496, 497, 498, 499, 500, 501, 502, 503, 504, 505, 506, 507, 508, 509, 510, 511, 512, 513, 514, 515, 516, 517, 518, 519, 520, 521, 522, 523, 524, 525, 526, 527, 528, 529, 530, 531, 532, 533, 534, 535, 536, 537, 538, 539, 540, 541, 542, 543, 544, 545, 546, 547, 548, 549, 550, 551, 27, 28, 29, 82, 83, 84, 552, 553, 554, 555, 556, 557, 558, 559, 560, 561, 562, 563, 564, 565, 566, 567, 568, 569, 570, 571, 572, 573, 574, 575, 576, 577, 578, 579, 580, 581, 582, 583, 584, 585, 586, 587, 588, 589, 590, 591, 592, 593, 594, 595, 596, 597, 598, 599, 600, 601, 602, 603, 604, 605, 606, 607, 608, 609, 610, 611, 612, 613, 614, 615, 616, 617, 618, 619, 620, 621, 622, 623, 624, 625, 626, 627, 628, 629, 630, 631, 632, 633, 634, 635, 636, 637, 638, 639, 640, 650, 651, 652, 656, 657, 641, 642, 643, 646, 647, 648, 649, 653, 654, 655, 658, 659, 660, 644, 645] (by decide +kernel) (by decide +kernel)) (goodIn_sub (fun _ h => List.mem_cons_of_mem _ (List.mem_append_right _ h)) (by decide +kernel))) (goodIn_sub (fun _ h => List.mem_cons_of_mem _ (List.mem_append_left _ (List.mem_append_right _ h))) (by decide +kernel))) (goodIn_sub (fun _ h => List.mem_cons_of_mem _ (List.mem_append_left _ (List.mem_append_left _ (List.mem_append_right _ h)))) (by decide +kernel))
set_option maxRecDepth 20000 in
theorem gL_disks_L_refuses : GoodIn wsL_disks (va_wsS RL 127 yL_refuses wsL_refuses) := goodIn_app (goodIn_of _ (by decide +kernel)) ggL_disks_L_refuses
set_option maxRecDepth 20000 in
theorem ggL_disks_L_act : GoodIn wsL_disks wsL_act := goodIn_ca (goodIn_ca (goodIn_ca (goodIn_r _ [350, 351, 352, 353, 266, 268, 267, 240, 241, 242, 3, 243, 230, 231, 156, 157, 17, 244, 16, 245, 246, 43, 247, 248, 249, 42, 250, 251, 252, 253, 254, 255, 256, 40, 49, 50, 51, 52, 53, 54, 55, 56, 57, 58, 59, 60, 41, 354, 355, 356, 357, 115, 116, 117, 280, 281, 282, 283, 107, 108, 109, 110, 111, 112, 113, 114, 358, 359, 360, 361, 216, 191, 217, 287, 190, 192, 362, 363, 364, 365, 366, 367, 368, 369, 370, 371, 372, 373, 374, 375, 376, 377, 378, 379, 380, 269, 270, 271, 272, 273, 274, 275, 276, 277, 278, 279, 284, 285, 286, 288, 289, 290, 291, 150, 151, 152, 153, 154, 155, 21, 158, 159, 144, 160, 161, 162, 163, 164, 165, 166, 167, 102, 103, 104, 20, 105, 106, 168, 169, 170, 12, 13, 147, 148, 149, 171, 172, 173, 174, 175, 176, 65, 177, 178, 179, 180, 181, 182, 183, 184, 185, 186, 187, 188, 64, 189, 193, 194, 195, 196, 197, 198, 199, 200, 201, 202, 203, 204, 47, 205, 206, 207, 208, 209, 210, 211, 212, 213, 214, 215, 218, 219, 220, 221, 232, 233, 234, 235, 122, 123, 124, 125, 126, 127, 128, 129, 130, 131, 132, 133, 134, 135, 136, 137, 138, 139, 140, 141, 142, 236, 237, 238, 239, 226, 227, 228, 229, 118, 119, 120, 121, 143, 145, 146, 222, 223, 224, 225, 381, 382, 383, 384, 385, 22, 386, 387, 388, 389, 390, 391, 392, 393, 394, 395, 396, 397, 398, 399, 79, 400, 401, 402, 403, 404, 405, 406, 407, 408, 409, 410, 411, 412, 413, 414, 415, 416, 417, 418, 419, 420, 421, 422, 423, 424, 425, 426, 427, 428, 429, 430, 431, 432, 433, 434, 435, 436, 437, 438, 439, 440, 441, 442, 443, 444, 445, 446, 447, 448, 449, 450, 451, 452, 453, 454, 455, 456, 457, 458, 459, 460, 461, 462, 463, 464, 465, 466, 467, 468, 469, 470, 471, 472, 473, 474, 475, 476, 477, 478, 479, 480, 481, 482, 483, 484, 485, 486, 487, 488, 489, 490, 26, 491, 25, 492, 493, 80, 81, 494, 306, 307, 495, 496, 497, 498, 499, 500, 501, 502, 503, 504, 505, 506, 507, 508, 509, 510, 511, 512, 513, 514, 515, 516, 517, 518, 519, 520, 521, 522, 523, 524, 525, 526, 527, 528, 529, 530, 531, 532, 533, 534, 535, 536, 341, 342, 537, 538, 539, 540, 541, 542, 543, 544, 545, 546, 547, 548, 549, 550, 551, 27, 28, 29, 30, 82, 83, 84, 85, 86, 87, 88, 552, 553, 554, 555, 556, 31, 557, 558, 559, 560, 561, 562, 563, 564, 565, 566, 567, 345, 346, 347, 333, 334, 335, 336, 337, 338, 339, 340, 343, 344, 568, 569, 570, 571, 572, 573, 574, 575, 35, 576, 34, 577, 578, 96, 93, 579, 580, 581, 582, 583, 584, 585, 586, 587, 588, 589, 590, 591, 592, 593, 594, 595, 596, 597, 598, 599, 600, 601, 602, 603, 604, 308, 296, 297, 298, 299, 300, 301, 302, 95, 303, 304, 305, 309, 310, 311, 312, 313, 314, 315, 316, 317, 318, 319, 320, 321, 322, 323, 324, 325, 326, 327, 328, 329, 330, 331, 332, 605, 606, 607, 608, 609, 610, 611, 612, 630, 631, 632, 633, 634, 635, 636, 637, 638, 639, 640, 653, 654, 655, 641, 642, 643, 658, 659, 660, 644, 645, 646, 647, 648, 649, 650, 651, 652, 656, 657] (by decide +kernel) (by decide +kernel)) (goodIn_sub (fun _ h => List.mem_cons_of_mem _ (List.mem_append_right _ h)) (by decide +kernel))) (goodIn_sub (fun _ h => List.mem_cons_of_mem _ (List.mem_append_left _ (List.mem_append_right _ h))) (by decide +kernel))) (goodIn_sub (fun _ h => List.mem_cons_of_mem _ (List.mem_append_left _ (List.mem_append_left _ (List.mem_append_right _ h)))) (by decide +kernel))
set_option maxRecDepth 20000 in
theorem gL_disks_L_act : GoodIn wsL_disks (va_wsS RL 117 yL_act wsL_act) := goodIn_app (goodIn_of _ (by decide +kernel)) ggL_disks_L_act
theorem dL_disks_0 : decode cL_disks 0 = .ok (.new 8, 3) := by decide +kernel
theorem dL_disks_3 : decode cL_disks 3 = .ok (.dup, 1) := by decide +kernel
theorem dL_disks_4 : decode cL_disks 4 = .ok (.invokespecial 126, 3) := by decide +kernel
theorem dL_disks_7 : decode cL_disks 7 = .ok (.astore_n 0, 1) := by decide +kernel
theorem dL_disks_8 : decode cL_disks 8 = .ok (.aload_n 0, 1) := by decide +kernel
theorem dL_disks_9 : decode cL_disks 9 = .ok (.invokevirtual 160, 3) := by decide +kernel
theorem dL_disks_12 : decode cL_disks 12 = .ok (.ifCond .ne 214, 3) := by decide +kernel
theorem dL_disks_15 : decode cL_disks 15 = .ok (.aload_n 0, 1) := by decide +kernel
theorem dL_disks_16 : decode cL_disks 16 = .ok (.bipush (-15), 2) := by decide +kernel
theorem dL_disks_18 : decode cL_disks 18 = .ok (.iconst 0, 1) := by decide +kernel
theorem dL_disks_19 : decode cL_disks 19 = .ok (.bipush 15, 2) := by decide +kernel
theorem dL_disks_21 : decode cL_disks 21 = .ok (.invokevirtual 26, 3) := by decide +kernel
theorem dL_disks_24 : decode cL_disks 24 = .ok (.ifCond .ne 202, 3) := by decide +kernel
theorem dL_disks_27 : decode cL_disks 27 = .ok (.aload_n 0, 1) := by decide +kernel
theorem dL_disks_28 : decode cL_disks 28 = .ok (.bipush 15, 2) := by decide +kernel
theorem dL_disks_30 : decode cL_disks 30 = .ok (.iconst 0, 1) := by decide +kernel
theorem dL_disks_31 : decode cL_disks 31 = .ok (.bipush 15, 2) := by decide +kernel
theorem dL_disks_33 : decode cL_disks 33 = .ok (.invokevirtual 26, 3) := by decide +kernel
theorem dL_disks_36 : decode cL_disks 36 = .ok (.iconst 1, 1) := by decide +kernel
theorem dL_disks_37 : decode cL_disks 37 = .ok (.if_icmp .ne 189, 3) := by decide +kernel
theorem dL_disks_40 : decode cL_disks 40 = .ok (.aload_n 0, 1) := by decide +kernel
theorem dL_disks_41 : decode cL_disks 41 = .ok (.iconst 0, 1) := by decide +kernel
theorem dL_disks_42 : decode cL_disks 42 = .ok (.bipush 20, 2) := by decide +kernel
theorem dL_disks_44 : decode cL_disks 44 = .ok (.bipush 10, 2) := by decide +kernel
theorem dL_disks_46 : decode cL_disks 46 = .ok (.invokevirtual 26, 3) := by decide +kernel
theorem dL_disks_49 : decode cL_disks 49 = .ok (.iconst 2, 1) := by decide +kernel
theorem dL_disks_50 : decode cL_disks 50 = .ok (.if_icmp .ne 176, 3) := by decide +kernel
theorem dL_disks_53 : decode cL_disks 53 = .ok (.aload_n 0, 1) := by decide +kernel
theorem dL_disks_54 : decode cL_disks 54 = .ok (.invokevirtual 160, 3) := by decide +kernel
theorem dL_disks_57 : decode cL_disks 57 = .ok (.ifCond .ne 169, 3) := by decide +kernel
theorem dL_disks_60 : decode cL_disks 60 = .ok (.aload_n 0, 1) := by decide +kernel
theorem dL_disks_61 : decode cL_disks 61 = .ok (.iconst 0, 1) := by decide +kernel
theorem dL_disks_62 : decode cL_disks 62 = .ok (.bipush 8, 2) := by decide +kernel
theorem dL_disks_64 : decode cL_disks 64 = .ok (.iconst 2, 1) := by decide +kernel
theorem dL_disks_65 : decode cL_disks 65 = .ok (.invokevirtual 26, 3) := by decide +kernel
theorem dL_disks_68 : decode cL_disks 68 = .ok (.iconst 3, 1) := by decide +kernel
theorem dL_disks_69 : decode cL_disks 69 = .ok (.if_icmp .ne 157, 3) := by decide +kernel
theorem dL_disks_72 : decode cL_disks 72 = .ok (.aload_n 0, 1) := by decide +kernel
theorem dL_disks_73 : decode cL_disks 73 = .ok (.invokevirtual 160, 3) := by decide +kernel
theorem dL_disks_76 : decode cL_disks 76 = .ok (.ifCond .eq 150, 3) := by decide +kernel
theorem dL_disks_79 : decode cL_disks 79 = .ok (.aload_n 0, 1) := by decide +kernel
theorem dL_disks_80 : decode cL_disks 80 = .ok (.iconst 1, 1) := by decide +kernel
theorem dL_disks_81 : decode cL_disks 81 = .ok (.invokevirtual 37, 3) := by decide +kernel
theorem dL_disks_84 : decode cL_disks 84 = .ok (.bipush 6, 2) := by decide +kernel
theorem dL_disks_86 : decode cL_disks 86 = .ok (.if_icmp .ne 140, 3) := by decide +kernel
theorem dL_disks_89 : decode cL_disks 89 = .ok (.aload_n 0, 1) := by decide +kernel
theorem dL_disks_90 : decode cL_disks 90 = .ok (.iconst 0, 1) := by decide +kernel
theorem dL_disks_91 : decode cL_disks 91 = .ok (.invokevirtual 37, 3) := by decide +kernel
theorem dL_disks_94 : decode cL_disks 94 = .ok (.ifCond .ne 132, 3) := by decide +kernel
theorem dL_disks_97 : decode cL_disks 97 = .ok (.aload_n 0, 1) := by decide +kernel
theorem dL_disks_98 : decode cL_disks 98 = .ok (.iconst 2, 1) := by decide +kernel
theorem dL_disks_99 : decode cL_disks 99 = .ok (.invokevirtual 37, 3) := by decide +kernel
theorem dL_disks_102 : decode cL_disks 102 = .ok (.ifCond .ne 124, 3) := by decide +kernel
theorem dL_disks_105 : decode cL_disks 105 = .ok (.aload_n 0, 1) := by decide +kernel
theorem dL_disks_106 : decode cL_disks 106 = .ok (.iconst 2, 1) := by decide +kernel
theorem dL_disks_107 : decode cL_disks 107 = .ok (.iconst 3, 1) := by decide +kernel
theorem dL_disks_108 : decode cL_disks 108 = .ok (.invokevirtual 34, 3) := by decide +kernel
theorem dL_disks_111 : decode cL_disks 111 = .ok (.iconst 1, 1) := by decide +kernel
theorem dL_disks_112 : decode cL_disks 112 = .ok (.if_icmp .ne 114, 3) := by decide +kernel
theorem dL_disks_115 : decode cL_disks 115 = .ok (.aload_n 0, 1) := by decide +kernel
theorem dL_disks_116 : decode cL_disks 116 = .ok (.iconst 3, 1) := by decide +kernel
theorem dL_disks_117 : decode cL_disks 117 = .ok (.iconst 0, 1) := by decide +kernel
theorem dL_disks_118 : decode cL_disks 118 = .ok (.bipush 9, 2) := by decide +kernel
theorem dL_disks_120 : decode cL_disks 120 = .ok (.iconst 2, 1) := by decide +kernel
theorem dL_disks_121 : decode cL_disks 121 = .ok (.invokevirtual 30, 3) := by decide +kernel
theorem dL_disks_124 : decode cL_disks 124 = .ok (.iconst 2, 1) := by decide +kernel
theorem dL_disks_125 : decode cL_disks 125 = .ok (.if_icmp .ne 101, 3) := by decide +kernel
theorem dL_disks_128 : decode cL_disks 128 = .ok (.aload_n 0, 1) := by decide +kernel
theorem dL_disks_129 : decode cL_disks 129 = .ok (.iconst 0, 1) := by decide +kernel
theorem dL_disks_130 : decode cL_disks 130 = .ok (.iconst 3, 1) := by decide +kernel
theorem dL_disks_131 : decode cL_disks 131 = .ok (.invokevirtual 34, 3) := by decide +kernel
theorem dL_disks_134 : decode cL_disks 134 = .ok (.ifCond .ne 92, 3) := by decide +kernel
theorem dL_disks_137 : decode cL_disks 137 = .ok (.aload_n 0, 1) := by decide +kernel
theorem dL_disks_138 : decode cL_disks 138 = .ok (.iconst 3, 1) := by decide +kernel
theorem dL_disks_139 : decode cL_disks 139 = .ok (.iconst 1, 1) := by decide +kernel
theorem dL_disks_140 : decode cL_disks 140 = .ok (.invokevirtual 34, 3) := by decide +kernel
theorem dL_disks_143 : decode cL_disks 143 = .ok (.ifCond .ne 83, 3) := by decide +kernel
theorem dL_disks_146 : decode cL_disks 146 = .ok (.aload_n 0, 1) := by decide +kernel
theorem dL_disks_147 : decode cL_disks 147 = .ok (.iconst 3, 1) := by decide +kernel
theorem dL_disks_148 : decode cL_disks 148 = .ok (.iconst 2, 1) := by decide +kernel
theorem dL_disks_149 : decode cL_disks 149 = .ok (.invokevirtual 34, 3) := by decide +kernel
theorem dL_disks_152 : decode cL_disks 152 = .ok (.iconst 2, 1) := by decide +kernel
theorem dL_disks_153 : decode cL_disks 153 = .ok (.if_icmp .ne 73, 3) := by decide +kernel
theorem dL_disks_156 : decode cL_disks 156 = .ok (.aload_n 0, 1) := by decide +kernel
theorem dL_disks_157 : decode cL_disks 157 = .ok (.iconst 0, 1) := by decide +kernel
theorem dL_disks_158 : decode cL_disks 158 = .ok (.invokevirtual 37, 3) := by decide +kernel
theorem dL_disks_161 : decode cL_disks 161 = .ok (.iconst 2, 1) := by decide +kernel
theorem dL_disks_162 : decode cL_disks 162 = .ok (.if_icmp .ne 64, 3) := by decide +kernel
theorem dL_disks_165 : decode cL_disks 165 = .ok (.aload_n 0, 1) := by decide +kernel
theorem dL_disks_166 : decode cL_disks 166 = .ok (.iconst 1, 1) := by decide +kernel
theorem dL_disks_167 : decode cL_disks 167 = .ok (.invokevirtual 37, 3) := by decide +kernel
theorem dL_disks_170 : decode cL_disks 170 = .ok (.iconst 3, 1) := by decide +kernel
theorem dL_disks_171 : decode cL_disks 171 = .ok (.if_icmp .ne 55, 3) := by decide +kernel
theorem dL_disks_174 : decode cL_disks 174 = .ok (.aload_n 0, 1) := by decide +kernel
theorem dL_disks_175 : decode cL_disks 175 = .ok (.iconst 2, 1) := by decide +kernel
theorem dL_disks_176 : decode cL_disks 176 = .ok (.invokevirtual 37, 3) := by decide +kernel
theorem dL_disks_179 : decode cL_disks 179 = .ok (.iconst 1, 1) := by decide +kernel
theorem dL_disks_180 : decode cL_disks 180 = .ok (.if_icmp .ne 46, 3) := by decide +kernel
theorem dL_disks_183 : decode cL_disks 183 = .ok (.aload_n 0, 1) := by decide +kernel
theorem dL_disks_184 : decode cL_disks 184 = .ok (.invokevirtual 160, 3) := by decide +kernel
theorem dL_disks_187 : decode cL_disks 187 = .ok (.ifCond .ne 39, 3) := by decide +kernel
theorem dL_disks_190 : decode cL_disks 190 = .ok (.aload_n 0, 1) := by decide +kernel
theorem dL_disks_191 : decode cL_disks 191 = .ok (.iconst 3, 1) := by decide +kernel
theorem dL_disks_192 : decode cL_disks 192 = .ok (.iconst 0, 1) := by decide +kernel
theorem dL_disks_193 : decode cL_disks 193 = .ok (.bipush 8, 2) := by decide +kernel
theorem dL_disks_195 : decode cL_disks 195 = .ok (.iconst 2, 1) := by decide +kernel
theorem dL_disks_196 : decode cL_disks 196 = .ok (.invokevirtual 30, 3) := by decide +kernel
theorem dL_disks_199 : decode cL_disks 199 = .ok (.iconst 2, 1) := by decide +kernel
theorem dL_disks_200 : decode cL_disks 200 = .ok (.if_icmp .ne 26, 3) := by decide +kernel
theorem dL_disks_203 : decode cL_disks 203 = .ok (.aload_n 0, 1) := by decide +kernel
theorem dL_disks_204 : decode cL_disks 204 = .ok (.invokevirtual 160, 3) := by decide +kernel
theorem dL_disks_207 : decode cL_disks 207 = .ok (.ifCond .eq 19, 3) := by decide +kernel
theorem dL_disks_210 : decode cL_disks 210 = .ok (.aload_n 0, 1) := by decide +kernel
theorem dL_disks_211 : decode cL_disks 211 = .ok (.iconst 0, 1) := by decide +kernel
theorem dL_disks_212 : decode cL_disks 212 = .ok (.invokevirtual 7, 3) := by decide +kernel
theorem dL_disks_215 : decode cL_disks 215 = .ok (.iconst 4, 1) := by decide +kernel
theorem dL_disks_216 : decode cL_disks 216 = .ok (.if_icmp .ne 10, 3) := by decide +kernel
theorem dL_disks_219 : decode cL_disks 219 = .ok (.aload_n 0, 1) := by decide +kernel
theorem dL_disks_220 : decode cL_disks 220 = .ok (.invokevirtual 160, 3) := by decide +kernel
theorem dL_disks_223 : decode cL_disks 223 = .ok (.ifCond .eq 5, 3) := by decide +kernel
theorem dL_disks_226 : decode cL_disks 226 = .ok (.iconst 0, 1) := by decide +kernel
theorem dL_disks_227 : decode cL_disks 227 = .ok (.ireturn, 1) := by decide +kernel
theorem dL_disks_228 : decode cL_disks 228 = .ok (.aload_n 0, 1) := by decide +kernel
theorem dL_disks_229 : decode cL_disks 229 = .ok (.iconst 0, 1) := by decide +kernel
theorem dL_disks_230 : decode cL_disks 230 = .ok (.bipush 100, 2) := by decide +kernel
theorem dL_disks_232 : decode cL_disks 232 = .ok (.iconst 1, 1) := by decide +kernel
theorem dL_disks_233 : decode cL_disks 233 = .ok (.invokevirtual 26, 3) := by decide +kernel
theorem dL_disks_236 : decode cL_disks 236 = .ok (.iconst 4, 1) := by decide +kernel
theorem dL_disks_237 : decode cL_disks 237 = .ok (.if_icmp .ne 111, 3) := by decide +kernel
theorem dL_disks_240 : decode cL_disks 240 = .ok (.aload_n 0, 1) := by decide +kernel
theorem dL_disks_241 : decode cL_disks 241 = .ok (.invokevirtual 160, 3) := by decide +kernel
theorem dL_disks_244 : decode cL_disks 244 = .ok (.ifCond .ne 104, 3) := by decide +kernel
theorem dL_disks_247 : decode cL_disks 247 = .ok (.aload_n 0, 1) := by decide +kernel
theorem dL_disks_248 : decode cL_disks 248 = .ok (.iconst 4, 1) := by decide +kernel
theorem dL_disks_249 : decode cL_disks 249 = .ok (.ldc 163, 2) := by decide +kernel
theorem dL_disks_251 : decode cL_disks 251 = .ok (.ldc 163, 2) := by decide +kernel
theorem dL_disks_253 : decode cL_disks 253 = .ok (.iconst 1, 1) := by decide +kernel
theorem dL_disks_254 : decode cL_disks 254 = .ok (.invokevirtual 30, 3) := by decide +kernel
theorem dL_disks_257 : decode cL_disks 257 = .ok (.iconst 1, 1) := by decide +kernel
theorem dL_disks_258 : decode cL_disks 258 = .ok (.if_icmp .ne 90, 3) := by decide +kernel
theorem dL_disks_261 : decode cL_disks 261 = .ok (.aload_n 0, 1) := by decide +kernel
theorem dL_disks_262 : decode cL_disks 262 = .ok (.ldc 164, 2) := by decide +kernel
theorem dL_disks_264 : decode cL_disks 264 = .ok (.ldc 164, 2) := by decide +kernel
theorem dL_disks_266 : decode cL_disks 266 = .ok (.ldc 164, 2) := by decide +kernel
theorem dL_disks_268 : decode cL_disks 268 = .ok (.invokevirtual 26, 3) := by decide +kernel
theorem dL_disks_271 : decode cL_disks 271 = .ok (.iconst 5, 1) := by decide +kernel
theorem dL_disks_272 : decode cL_disks 272 = .ok (.if_icmp .ne 76, 3) := by decide +kernel
theorem dL_disks_275 : decode cL_disks 275 = .ok (.aload_n 0, 1) := by decide +kernel
theorem dL_disks_276 : decode cL_disks 276 = .ok (.iconst 4, 1) := by decide +kernel
theorem dL_disks_277 : decode cL_disks 277 = .ok (.iconst 5, 1) := by decide +kernel
theorem dL_disks_278 : decode cL_disks 278 = .ok (.invokevirtual 34, 3) := by decide +kernel
theorem dL_disks_281 : decode cL_disks 281 = .ok (.ifCond .ne 67, 3) := by decide +kernel
theorem dL_disks_284 : decode cL_disks 284 = .ok (.aload_n 0, 1) := by decide +kernel
theorem dL_disks_285 : decode cL_disks 285 = .ok (.iconst 4, 1) := by decide +kernel
theorem dL_disks_286 : decode cL_disks 286 = .ok (.ldc 163, 2) := by decide +kernel
theorem dL_disks_288 : decode cL_disks 288 = .ok (.ldc 164, 2) := by decide +kernel
theorem dL_disks_290 : decode cL_disks 290 = .ok (.ldc 164, 2) := by decide +kernel
theorem dL_disks_292 : decode cL_disks 292 = .ok (.invokevirtual 30, 3) := by decide +kernel
theorem dL_disks_295 : decode cL_disks 295 = .ok (.iconst 1, 1) := by decide +kernel
theorem dL_disks_296 : decode cL_disks 296 = .ok (.if_icmp .ne 52, 3) := by decide +kernel
theorem dL_disks_299 : decode cL_disks 299 = .ok (.aload_n 0, 1) := by decide +kernel
theorem dL_disks_300 : decode cL_disks 300 = .ok (.iconst 4, 1) := by decide +kernel
theorem dL_disks_301 : decode cL_disks 301 = .ok (.iconst 5, 1) := by decide +kernel
theorem dL_disks_302 : decode cL_disks 302 = .ok (.invokevirtual 34, 3) := by decide +kernel
theorem dL_disks_305 : decode cL_disks 305 = .ok (.iconst 1, 1) := by decide +kernel
theorem dL_disks_306 : decode cL_disks 306 = .ok (.if_icmp .ne 42, 3) := by decide +kernel
theorem dL_disks_309 : decode cL_disks 309 = .ok (.aload_n 0, 1) := by decide +kernel
theorem dL_disks_310 : decode cL_disks 310 = .ok (.iconst 4, 1) := by decide +kernel
theorem dL_disks_311 : decode cL_disks 311 = .ok (.ldc 165, 2) := by decide +kernel
theorem dL_disks_313 : decode cL_disks 313 = .ok (.ldc 164, 2) := by decide +kernel
theorem dL_disks_315 : decode cL_disks 315 = .ok (.ldc 164, 2) := by decide +kernel
theorem dL_disks_317 : decode cL_disks 317 = .ok (.invokevirtual 30, 3) := by decide +kernel
theorem dL_disks_320 : decode cL_disks 320 = .ok (.ldc 164, 2) := by decide +kernel
theorem dL_disks_322 : decode cL_disks 322 = .ok (.if_icmp .ne 26, 3) := by decide +kernel
theorem dL_disks_325 : decode cL_disks 325 = .ok (.aload_n 0, 1) := by decide +kernel
theorem dL_disks_326 : decode cL_disks 326 = .ok (.iconst 4, 1) := by decide +kernel
theorem dL_disks_327 : decode cL_disks 327 = .ok (.iconst 5, 1) := by decide +kernel
theorem dL_disks_328 : decode cL_disks 328 = .ok (.invokevirtual 34, 3) := by decide +kernel
theorem dL_disks_331 : decode cL_disks 331 = .ok (.iconst 2, 1) := by decide +kernel
theorem dL_disks_332 : decode cL_disks 332 = .ok (.if_icmp .ne 16, 3) := by decide +kernel
theorem dL_disks_335 : decode cL_disks 335 = .ok (.aload_n 0, 1) := by decide +kernel
theorem dL_disks_336 : decode cL_disks 336 = .ok (.bipush 6, 2) := by decide +kernel
theorem dL_disks_338 : decode cL_disks 338 = .ok (.iconst 0, 1) := by decide +kernel
theorem dL_disks_339 : decode cL_disks 339 = .ok (.iconst 0, 1) := by decide +kernel
theorem dL_disks_340 : decode cL_disks 340 = .ok (.iconst 2, 1) := by decide +kernel
theorem dL_disks_341 : decode cL_disks 341 = .ok (.iconst 0, 1) := by decide +kernel
theorem dL_disks_342 : decode cL_disks 342 = .ok (.invokestatic 127, 3) := by decide +kernel
theorem dL_disks_345 : decode cL_disks 345 = .ok (.ifCond .ne 5, 3) := by decide +kernel
theorem dL_disks_348 : decode cL_disks 348 = .ok (.iconst 0, 1) := by decide +kernel
theorem dL_disks_349 : decode cL_disks 349 = .ok (.ireturn, 1) := by decide +kernel
theorem dL_disks_350 : decode cL_disks 350 = .ok (.bipush 6, 2) := by decide +kernel
theorem dL_disks_352 : decode cL_disks 352 = .ok (.istore_n 1, 1) := by decide +kernel
theorem dL_disks_353 : decode cL_disks 353 = .ok (.iload_n 1, 1) := by decide +kernel
theorem dL_disks_354 : decode cL_disks 354 = .ok (.bipush 17, 2) := by decide +kernel
theorem dL_disks_356 : decode cL_disks 356 = .ok (.if_icmp .ge 38, 3) := by decide +kernel
theorem dL_disks_359 : decode cL_disks 359 = .ok (.aload_n 0, 1) := by decide +kernel
theorem dL_disks_360 : decode cL_disks 360 = .ok (.iconst 5, 1) := by decide +kernel
theorem dL_disks_361 : decode cL_disks 361 = .ok (.iload_n 1, 1) := by decide +kernel
theorem dL_disks_362 : decode cL_disks 362 = .ok (.iload_n 1, 1) := by decide +kernel
theorem dL_disks_363 : decode cL_disks 363 = .ok (.ineg, 1) := by decide +kernel
theorem dL_disks_364 : decode cL_disks 364 = .ok (.iconst 1, 1) := by decide +kernel
theorem dL_disks_365 : decode cL_disks 365 = .ok (.iconst 0, 1) := by decide +kernel
theorem dL_disks_366 : decode cL_disks 366 = .ok (.invokestatic 117, 3) := by decide +kernel
theorem dL_disks_369 : decode cL_disks 369 = .ok (.iload_n 1, 1) := by decide +kernel
theorem dL_disks_370 : decode cL_disks 370 = .ok (.bipush 16, 2) := by decide +kernel
theorem dL_disks_372 : decode cL_disks 372 = .ok (.if_icmp .ge 7, 3) := by decide +kernel
theorem dL_disks_375 : decode cL_disks 375 = .ok (.iload_n 1, 1) := by decide +kernel
theorem dL_disks_376 : decode cL_disks 376 = .ok (.goto 5, 3) := by decide +kernel
theorem dL_disks_379 : decode cL_disks 379 = .ok (.ldc 140, 2) := by decide +kernel
theorem dL_disks_381 : decode cL_disks 381 = .ok (.i2l, 1) := by decide +kernel
theorem dL_disks_382 : decode cL_disks 382 = .ok (.lcmp, 1) := by decide +kernel
theorem dL_disks_383 : decode cL_disks 383 = .ok (.ifCond .eq 5, 3) := by decide +kernel
theorem dL_disks_386 : decode cL_disks 386 = .ok (.iconst 0, 1) := by decide +kernel
theorem dL_disks_387 : decode cL_disks 387 = .ok (.ireturn, 1) := by decide +kernel
theorem dL_disks_388 : decode cL_disks 388 = .ok (.iinc 1 1, 3) := by decide +kernel
theorem dL_disks_391 : decode cL_disks 391 = .ok (.goto (-38), 3) := by decide +kernel
theorem dL_disks_394 : decode cL_disks 394 = .ok (.aload_n 0, 1) := by decide +kernel
theorem dL_disks_395 : decode cL_disks 395 = .ok (.bipush 6, 2) := by decide +kernel
theorem dL_disks_397 : decode cL_disks 397 = .ok (.bipush 7, 2) := by decide +kernel
theorem dL_disks_399 : decode cL_disks 399 = .ok (.invokevirtual 34, 3) := by decide +kernel
theorem dL_disks_402 : decode cL_disks 402 = .ok (.iconst 2, 1) := by decide +kernel
theorem dL_disks_403 : decode cL_disks 403 = .ok (.if_icmp .ne 40, 3) := by decide +kernel
theorem dL_disks_406 : decode cL_disks 406 = .ok (.aload_n 0, 1) := by decide +kernel
theorem dL_disks_407 : decode cL_disks 407 = .ok (.bipush 6, 2) := by decide +kernel
theorem dL_disks_409 : decode cL_disks 409 = .ok (.bipush 8, 2) := by decide +kernel
theorem dL_disks_411 : decode cL_disks 411 = .ok (.invokevirtual 34, 3) := by decide +kernel
theorem dL_disks_414 : decode cL_disks 414 = .ok (.ifCond .ne 29, 3) := by decide +kernel
theorem dL_disks_417 : decode cL_disks 417 = .ok (.aload_n 0, 1) := by decide +kernel
theorem dL_disks_418 : decode cL_disks 418 = .ok (.iconst 0, 1) := by decide +kernel
theorem dL_disks_419 : decode cL_disks 419 = .ok (.invokevirtual 37, 3) := by decide +kernel
theorem dL_disks_422 : decode cL_disks 422 = .ok (.aload_n 0, 1) := by decide +kernel
theorem dL_disks_423 : decode cL_disks 423 = .ok (.iconst 1, 1) := by decide +kernel
theorem dL_disks_424 : decode cL_disks 424 = .ok (.invokevirtual 37, 3) := by decide +kernel
theorem dL_disks_427 : decode cL_disks 427 = .ok (.iadd, 1) := by decide +kernel
theorem dL_disks_428 : decode cL_disks 428 = .ok (.aload_n 0, 1) := by decide +kernel
theorem dL_disks_429 : decode cL_disks 429 = .ok (.iconst 2, 1) := by decide +kernel
theorem dL_disks_430 : decode cL_disks 430 = .ok (.invokevirtual 37, 3) := by decide +kernel
theorem dL_disks_433 : decode cL_disks 433 = .ok (.iadd, 1) := by decide +kernel
theorem dL_disks_434 : decode cL_disks 434 = .ok (.bipush 120, 2) := by decide +kernel
theorem dL_disks_436 : decode cL_disks 436 = .ok (.if_icmp .ne 7, 3) := by decide +kernel
theorem dL_disks_439 : decode cL_disks 439 = .ok (.iconst 1, 1) := by decide +kernel
theorem dL_disks_440 : decode cL_disks 440 = .ok (.goto 4, 3) := by decide +kernel
theorem dL_disks_443 : decode cL_disks 443 = .ok (.iconst 0, 1) := by decide +kernel
theorem dL_disks_444 : decode cL_disks 444 = .ok (.ireturn, 1) := by decide +kernel
set_option maxRecDepth 20000 in
theorem ggL_five_X8_init : GoodIn wsL_five wsX8_init := goodIn_r _ [6, 7, 8, 9, 10, 11, 12, 13, 14, 15, 16, 17, 18, 19, 20, 21, 22, 23, 24, 25, 26, 27, 28, 29, 30, 31, 32, 33, 34, 35, 36, 37, 38, 39, 40, 41, 42, 43, 44, 45, 46, 47, 48, 49, 50, 51, 52, 53, 54, 55, 56, 57, 58, 59, 60, 61, 62, 63, 64, 65, 66, 67, 68, 69, 70, 71, 72, 73, 74, 75, 76, 77, 78, 79, 80, 81, 82, 83, 84, 85, 86, 87, 88, 89, 90, 91, 92, 93, 273, 274, 275, 276, 266, 267, 268, 269, 270, 271, 272, 277, 278, 279, 280, 281, 282, 283, 284, 285, 286, 287, 288] (by decide +kernel) (by decide +kernel)
set_option maxRecDepth 20000 in
theorem gL_five_X8_init : GoodIn wsL_five (wsX8_init) := ggL_five_X8_init
set_option maxRecDepth 20000 in
theorem ggL_five_X8_disk : GoodIn wsL_five wsX8_disk := goodIn_ca (goodIn_ca (goodIn_r _ [97, 98, 99, 100, 101, 17, 102, 103, 104, 105, 106, 3, 107, 108, 109, 110, 111, 112, 113, 114, 115, 16, 116, 117, 118, 119, 120, 8, 9, 121, 122, 123, 124, 125, 126, 127, 128, 129, 61, 130, 131, 132, 133, 134, 135, 136, 137, 138, 139, 140, 141, 60, 142, 143, 144, 145, 146, 147, 148, 149, 150, 151, 152, 153, 154, 155, 156, 157, 43, 158, 159, 160, 161, 162, 163, 164, 165, 166, 167, 168, 169, 170, 171, 172, 173, 174, 266, 267, 268, 269, 270, 271, 272, 289, 290, 291, 277, 278, 279] (by decide +kernel) (by decide +kernel)) (goodIn_sub (fun _ h => List.mem_cons_of_mem _ (List.mem_append_left _ (List.mem_append_left _ (List.mem_append_right _ h)))) (by decide +kernel))) (goodIn_sub (fun _ h => List.mem_cons_of_mem _ (List.mem_append_left _ (List.mem_append_right _ h))) (by decide +kernel))
set_option maxRecDepth 20000 in
theorem gL_five_X8_disk : GoodIn wsL_five (wsV RL 26 RX8 yX8_disk wsX8_disk) := goodIn_app (goodIn_of _ (by decide +kernel)) ggL_five_X8_disk
set_option maxRecDepth 20000 in
theorem ggL_five_X8_draws : GoodIn wsL_five wsX8_draws := goodIn_r _ [178, 17, 13, 113, 114, 115, 16, 116, 117, 179, 12, 180, 181, 182, 183, 184, 185, 37, 186, 187, 188, 189, 38, 190, 191, 192, 3, 193, 194, 195, 196, 197, 198, 199, 200, 201, 202, 203, 204, 205, 206, 207, 208, 209, 210, 211, 212, 213, 214, 61, 215, 104, 216, 217, 121, 122, 123, 266, 267, 268, 269, 270, 271, 272, 273, 274, 275, 276, 277, 278, 279, 289, 290, 291] (by decide +kernel) (by decide +kernel)
set_option maxRecDepth 20000 in
theorem gL_five_X8_draws : GoodIn wsL_five (wsV RL 160 RX8 yX8_draws wsX8_draws) := goodIn_app (goodIn_of _ (by decide +kernel)) ggL_five_X8_draws
set_option maxRecDepth 20000 in
theorem ggL_five_X8_split : GoodIn wsL_five wsX8_split := goodIn_ca (goodIn_ca (goodIn_r _ [221, 222, 223, 100, 101, 13, 224, 12, 225, 226, 39, 227, 228, 229, 38, 230, 231, 232, 233, 234, 235, 236, 36, 45, 46, 47, 48, 49, 50, 51, 52, 53, 54, 55, 56, 37, 266, 267, 268, 269, 270, 271, 272, 273, 274, 275, 276] (by decide +kernel) (by decide +kernel)) (goodIn_sub (fun _ h => List.mem_cons_of_mem _ (List.mem_append_right _ h)) (by decide +kernel))) (goodIn_sub (fun _ h => List.mem_cons_of_mem _ (List.mem_append_left _ (List.mem_append_right _ h))) (by decide +kernel))
set_option maxRecDepth 20000 in
theorem gL_five_X8_split : GoodIn wsL_five (wsV RL 7 RX8 yX8_split wsX8_split) := goodIn_app (goodIn_of _ (by decide +kernel)) ggL_five_X8_split
set_option maxRecDepth 20000 in
theorem ggL_five_X8_pairs : GoodIn wsL_five wsX8_pairs := goodIn_ca (goodIn_r _ [240, 98, 99, 17, 113, 114, 115, 16, 116, 117, 190, 191, 192, 3, 193, 194, 195, 196, 197, 198, 199, 200, 201, 202, 203, 204, 205, 206, 207, 208, 209, 210, 211, 212, 213, 214, 61, 215, 104, 216, 217, 121, 122, 123, 266, 267, 268, 269, 270, 271, 272, 277, 278, 279, 289, 290, 291] (by decide +kernel) (by decide +kernel)) (goodIn_sub (fun _ h => List.mem_cons_of_mem _ (List.mem_append_left _ (List.mem_append_left _ (List.mem_append_right _ h)))) (by decide +kernel))
set_option maxRecDepth 20000 in
theorem gL_five_X8_pairs : GoodIn wsL_five (wsV RL 37 RX8 yX8_pairs wsX8_pairs) := goodIn_app (goodIn_of _ (by decide +kernel)) ggL_five_X8_pairs
set_option maxRecDepth 20000 in
theorem ggL_five_X8_flip : GoodIn wsL_five wsX8_flip := goodIn_ca (goodIn_ca (goodIn_r _ [244, 222, 223, 100, 101, 13, 187, 12, 188, 189, 38, 245, 246, 247, 248, 179, 180, 181, 182, 183, 184, 185, 37, 186, 249, 250, 251, 252, 169, 144, 170, 253, 143, 145, 254, 255, 256, 257, 39, 36, 53, 54, 55, 56, 45, 46, 47, 48, 49, 50, 51, 52, 266, 267, 268, 269, 270, 271, 272, 273, 274, 275, 276] (by decide +kernel) (by decide +kernel)) (goodIn_sub (fun _ h => List.mem_cons_of_mem _ (List.mem_append_right _ h)) (by decide +kernel))) (goodIn_sub (fun _ h => List.mem_cons_of_mem _ (List.mem_append_left _ (List.mem_append_right _ h))) (by decide +kernel))
