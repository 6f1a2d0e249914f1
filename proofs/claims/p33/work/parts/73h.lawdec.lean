theorem dL_gaskets_226 : decode cL_gaskets 226 = .ok (.invokestatic 182, 3) := by decide +kernel
theorem dL_gaskets_229 : decode cL_gaskets 229 = .ok (.ifCond .eq 177, 3) := by decide +kernel
theorem dL_gaskets_232 : decode cL_gaskets 232 = .ok (.aload_n 0, 1) := by decide +kernel
theorem dL_gaskets_233 : decode cL_gaskets 233 = .ok (.iconst 0, 1) := by decide +kernel
theorem dL_gaskets_234 : decode cL_gaskets 234 = .ok (.iconst 2, 1) := by decide +kernel
theorem dL_gaskets_235 : decode cL_gaskets 235 = .ok (.iconst 3, 1) := by decide +kernel
theorem dL_gaskets_236 : decode cL_gaskets 236 = .ok (.invokestatic 182, 3) := by decide +kernel
theorem dL_gaskets_239 : decode cL_gaskets 239 = .ok (.ifCond .eq 167, 3) := by decide +kernel
theorem dL_gaskets_242 : decode cL_gaskets 242 = .ok (.aload_n 0, 1) := by decide +kernel
theorem dL_gaskets_243 : decode cL_gaskets 243 = .ok (.iconst 0, 1) := by decide +kernel
theorem dL_gaskets_244 : decode cL_gaskets 244 = .ok (.iconst 3, 1) := by decide +kernel
theorem dL_gaskets_245 : decode cL_gaskets 245 = .ok (.iconst 5, 1) := by decide +kernel
theorem dL_gaskets_246 : decode cL_gaskets 246 = .ok (.invokestatic 182, 3) := by decide +kernel
theorem dL_gaskets_249 : decode cL_gaskets 249 = .ok (.ifCond .eq 157, 3) := by decide +kernel
theorem dL_gaskets_252 : decode cL_gaskets 252 = .ok (.aload_n 0, 1) := by decide +kernel
theorem dL_gaskets_253 : decode cL_gaskets 253 = .ok (.iconst 0, 1) := by decide +kernel
theorem dL_gaskets_254 : decode cL_gaskets 254 = .ok (.iconst 5, 1) := by decide +kernel
theorem dL_gaskets_255 : decode cL_gaskets 255 = .ok (.iconst 5, 1) := by decide +kernel
theorem dL_gaskets_256 : decode cL_gaskets 256 = .ok (.invokestatic 182, 3) := by decide +kernel
theorem dL_gaskets_259 : decode cL_gaskets 259 = .ok (.ifCond .eq 147, 3) := by decide +kernel
theorem dL_gaskets_262 : decode cL_gaskets 262 = .ok (.aload_n 0, 1) := by decide +kernel
theorem dL_gaskets_263 : decode cL_gaskets 263 = .ok (.iconst 0, 1) := by decide +kernel
theorem dL_gaskets_264 : decode cL_gaskets 264 = .ok (.bipush 6, 2) := by decide +kernel
theorem dL_gaskets_266 : decode cL_gaskets 266 = .ok (.bipush 9, 2) := by decide +kernel
theorem dL_gaskets_268 : decode cL_gaskets 268 = .ok (.invokestatic 182, 3) := by decide +kernel
theorem dL_gaskets_271 : decode cL_gaskets 271 = .ok (.ifCond .eq 135, 3) := by decide +kernel
theorem dL_gaskets_274 : decode cL_gaskets 274 = .ok (.aload_n 0, 1) := by decide +kernel
theorem dL_gaskets_275 : decode cL_gaskets 275 = .ok (.iconst 0, 1) := by decide +kernel
theorem dL_gaskets_276 : decode cL_gaskets 276 = .ok (.bipush 10, 2) := by decide +kernel
theorem dL_gaskets_278 : decode cL_gaskets 278 = .ok (.bipush 9, 2) := by decide +kernel
theorem dL_gaskets_280 : decode cL_gaskets 280 = .ok (.invokestatic 182, 3) := by decide +kernel
theorem dL_gaskets_283 : decode cL_gaskets 283 = .ok (.ifCond .eq 123, 3) := by decide +kernel
theorem dL_gaskets_286 : decode cL_gaskets 286 = .ok (.aload_n 0, 1) := by decide +kernel
theorem dL_gaskets_287 : decode cL_gaskets 287 = .ok (.iconst 0, 1) := by decide +kernel
theorem dL_gaskets_288 : decode cL_gaskets 288 = .ok (.bipush 11, 2) := by decide +kernel
theorem dL_gaskets_290 : decode cL_gaskets 290 = .ok (.bipush 13, 2) := by decide +kernel
theorem dL_gaskets_292 : decode cL_gaskets 292 = .ok (.invokestatic 182, 3) := by decide +kernel
theorem dL_gaskets_295 : decode cL_gaskets 295 = .ok (.ifCond .eq 111, 3) := by decide +kernel
theorem dL_gaskets_298 : decode cL_gaskets 298 = .ok (.aload_n 0, 1) := by decide +kernel
theorem dL_gaskets_299 : decode cL_gaskets 299 = .ok (.iconst 0, 1) := by decide +kernel
theorem dL_gaskets_300 : decode cL_gaskets 300 = .ok (.bipush 14, 2) := by decide +kernel
theorem dL_gaskets_302 : decode cL_gaskets 302 = .ok (.bipush 17, 2) := by decide +kernel
theorem dL_gaskets_304 : decode cL_gaskets 304 = .ok (.invokestatic 182, 3) := by decide +kernel
theorem dL_gaskets_307 : decode cL_gaskets 307 = .ok (.ifCond .eq 99, 3) := by decide +kernel
theorem dL_gaskets_310 : decode cL_gaskets 310 = .ok (.aload_n 0, 1) := by decide +kernel
theorem dL_gaskets_311 : decode cL_gaskets 311 = .ok (.iconst 0, 1) := by decide +kernel
theorem dL_gaskets_312 : decode cL_gaskets 312 = .ok (.bipush 15, 2) := by decide +kernel
theorem dL_gaskets_314 : decode cL_gaskets 314 = .ok (.bipush 19, 2) := by decide +kernel
theorem dL_gaskets_316 : decode cL_gaskets 316 = .ok (.invokestatic 182, 3) := by decide +kernel
theorem dL_gaskets_319 : decode cL_gaskets 319 = .ok (.ifCond .eq 87, 3) := by decide +kernel
theorem dL_gaskets_322 : decode cL_gaskets 322 = .ok (.aload_n 0, 1) := by decide +kernel
theorem dL_gaskets_323 : decode cL_gaskets 323 = .ok (.iconst 0, 1) := by decide +kernel
theorem dL_gaskets_324 : decode cL_gaskets 324 = .ok (.iconst 2, 1) := by decide +kernel
theorem dL_gaskets_325 : decode cL_gaskets 325 = .ok (.invokevirtual 63, 3) := by decide +kernel
theorem dL_gaskets_328 : decode cL_gaskets 328 = .ok (.iconst 3, 1) := by decide +kernel
theorem dL_gaskets_329 : decode cL_gaskets 329 = .ok (.if_icmp .ne 77, 3) := by decide +kernel
theorem dL_gaskets_332 : decode cL_gaskets 332 = .ok (.aload_n 0, 1) := by decide +kernel
theorem dL_gaskets_333 : decode cL_gaskets 333 = .ok (.iconst 0, 1) := by decide +kernel
theorem dL_gaskets_334 : decode cL_gaskets 334 = .ok (.iconst 3, 1) := by decide +kernel
theorem dL_gaskets_335 : decode cL_gaskets 335 = .ok (.invokevirtual 63, 3) := by decide +kernel
theorem dL_gaskets_338 : decode cL_gaskets 338 = .ok (.iconst 5, 1) := by decide +kernel
theorem dL_gaskets_339 : decode cL_gaskets 339 = .ok (.if_icmp .ne 67, 3) := by decide +kernel
theorem dL_gaskets_342 : decode cL_gaskets 342 = .ok (.aload_n 0, 1) := by decide +kernel
theorem dL_gaskets_343 : decode cL_gaskets 343 = .ok (.iconst 0, 1) := by decide +kernel
theorem dL_gaskets_344 : decode cL_gaskets 344 = .ok (.iconst 0, 1) := by decide +kernel
theorem dL_gaskets_345 : decode cL_gaskets 345 = .ok (.invokevirtual 43, 3) := by decide +kernel
theorem dL_gaskets_348 : decode cL_gaskets 348 = .ok (.ldc2_w 184, 3) := by decide +kernel
theorem dL_gaskets_351 : decode cL_gaskets 351 = .ok (.lcmp, 1) := by decide +kernel
theorem dL_gaskets_352 : decode cL_gaskets 352 = .ok (.ifCond .ne 54, 3) := by decide +kernel
theorem dL_gaskets_355 : decode cL_gaskets 355 = .ok (.aload_n 0, 1) := by decide +kernel
theorem dL_gaskets_356 : decode cL_gaskets 356 = .ok (.iconst 0, 1) := by decide +kernel
theorem dL_gaskets_357 : decode cL_gaskets 357 = .ok (.iconst 0, 1) := by decide +kernel
theorem dL_gaskets_358 : decode cL_gaskets 358 = .ok (.invokevirtual 43, 3) := by decide +kernel
theorem dL_gaskets_361 : decode cL_gaskets 361 = .ok (.ldc2_w 176, 3) := by decide +kernel
theorem dL_gaskets_364 : decode cL_gaskets 364 = .ok (.lcmp, 1) := by decide +kernel
theorem dL_gaskets_365 : decode cL_gaskets 365 = .ok (.ifCond .ne 41, 3) := by decide +kernel
theorem dL_gaskets_368 : decode cL_gaskets 368 = .ok (.aload_n 0, 1) := by decide +kernel
theorem dL_gaskets_369 : decode cL_gaskets 369 = .ok (.iconst 0, 1) := by decide +kernel
theorem dL_gaskets_370 : decode cL_gaskets 370 = .ok (.iconst 2, 1) := by decide +kernel
theorem dL_gaskets_371 : decode cL_gaskets 371 = .ok (.invokevirtual 43, 3) := by decide +kernel
theorem dL_gaskets_374 : decode cL_gaskets 374 = .ok (.ldc2_w 168, 3) := by decide +kernel
theorem dL_gaskets_377 : decode cL_gaskets 377 = .ok (.lcmp, 1) := by decide +kernel
theorem dL_gaskets_378 : decode cL_gaskets 378 = .ok (.ifCond .ne 28, 3) := by decide +kernel
theorem dL_gaskets_381 : decode cL_gaskets 381 = .ok (.aload_n 0, 1) := by decide +kernel
theorem dL_gaskets_382 : decode cL_gaskets 382 = .ok (.iconst 0, 1) := by decide +kernel
theorem dL_gaskets_383 : decode cL_gaskets 383 = .ok (.iconst 0, 1) := by decide +kernel
theorem dL_gaskets_384 : decode cL_gaskets 384 = .ok (.invokevirtual 43, 3) := by decide +kernel
theorem dL_gaskets_387 : decode cL_gaskets 387 = .ok (.ldc2_w 166, 3) := by decide +kernel
theorem dL_gaskets_390 : decode cL_gaskets 390 = .ok (.lcmp, 1) := by decide +kernel
theorem dL_gaskets_391 : decode cL_gaskets 391 = .ok (.ifCond .ne 15, 3) := by decide +kernel
theorem dL_gaskets_394 : decode cL_gaskets 394 = .ok (.aload_n 0, 1) := by decide +kernel
theorem dL_gaskets_395 : decode cL_gaskets 395 = .ok (.iconst 0, 1) := by decide +kernel
theorem dL_gaskets_396 : decode cL_gaskets 396 = .ok (.iconst 0, 1) := by decide +kernel
theorem dL_gaskets_397 : decode cL_gaskets 397 = .ok (.invokevirtual 50, 3) := by decide +kernel
theorem dL_gaskets_400 : decode cL_gaskets 400 = .ok (.ldc 186, 2) := by decide +kernel
theorem dL_gaskets_402 : decode cL_gaskets 402 = .ok (.fcmp .l, 1) := by decide +kernel
theorem dL_gaskets_403 : decode cL_gaskets 403 = .ok (.ifCond .eq 5, 3) := by decide +kernel
theorem dL_gaskets_406 : decode cL_gaskets 406 = .ok (.iconst 0, 1) := by decide +kernel
theorem dL_gaskets_407 : decode cL_gaskets 407 = .ok (.ireturn, 1) := by decide +kernel
theorem dL_gaskets_408 : decode cL_gaskets 408 = .ok (.aload_n 0, 1) := by decide +kernel
theorem dL_gaskets_409 : decode cL_gaskets 409 = .ok (.iconst 0, 1) := by decide +kernel
theorem dL_gaskets_410 : decode cL_gaskets 410 = .ok (.iconst 1, 1) := by decide +kernel
theorem dL_gaskets_411 : decode cL_gaskets 411 = .ok (.iconst 1, 1) := by decide +kernel
theorem dL_gaskets_412 : decode cL_gaskets 412 = .ok (.iconst 4, 1) := by decide +kernel
theorem dL_gaskets_413 : decode cL_gaskets 413 = .ok (.invokevirtual 40, 3) := by decide +kernel
theorem dL_gaskets_416 : decode cL_gaskets 416 = .ok (.iconst 1, 1) := by decide +kernel
theorem dL_gaskets_417 : decode cL_gaskets 417 = .ok (.if_icmp .ne 202, 3) := by decide +kernel
theorem dL_gaskets_420 : decode cL_gaskets 420 = .ok (.aload_n 0, 1) := by decide +kernel
theorem dL_gaskets_421 : decode cL_gaskets 421 = .ok (.iconst 1, 1) := by decide +kernel
theorem dL_gaskets_422 : decode cL_gaskets 422 = .ok (.lconst 0, 1) := by decide +kernel
theorem dL_gaskets_423 : decode cL_gaskets 423 = .ok (.lconst 0, 1) := by decide +kernel
theorem dL_gaskets_424 : decode cL_gaskets 424 = .ok (.lconst 1, 1) := by decide +kernel
theorem dL_gaskets_425 : decode cL_gaskets 425 = .ok (.lconst 1, 1) := by decide +kernel
theorem dL_gaskets_426 : decode cL_gaskets 426 = .ok (.invokestatic 172, 3) := by decide +kernel
theorem dL_gaskets_429 : decode cL_gaskets 429 = .ok (.ifCond .eq 190, 3) := by decide +kernel
theorem dL_gaskets_432 : decode cL_gaskets 432 = .ok (.aload_n 0, 1) := by decide +kernel
theorem dL_gaskets_433 : decode cL_gaskets 433 = .ok (.bipush 14, 2) := by decide +kernel
theorem dL_gaskets_435 : decode cL_gaskets 435 = .ok (.iconst 1, 1) := by decide +kernel
theorem dL_gaskets_436 : decode cL_gaskets 436 = .ok (.iconst 5, 1) := by decide +kernel
theorem dL_gaskets_437 : decode cL_gaskets 437 = .ok (.iconst 0, 1) := by decide +kernel
theorem dL_gaskets_438 : decode cL_gaskets 438 = .ok (.iconst 0, 1) := by decide +kernel
theorem dL_gaskets_439 : decode cL_gaskets 439 = .ok (.invokestatic 117, 3) := by decide +kernel
theorem dL_gaskets_442 : decode cL_gaskets 442 = .ok (.ldc2_w 106, 3) := by decide +kernel
theorem dL_gaskets_445 : decode cL_gaskets 445 = .ok (.lcmp, 1) := by decide +kernel
theorem dL_gaskets_446 : decode cL_gaskets 446 = .ok (.ifCond .ne 173, 3) := by decide +kernel
theorem dL_gaskets_449 : decode cL_gaskets 449 = .ok (.aload_n 0, 1) := by decide +kernel
theorem dL_gaskets_450 : decode cL_gaskets 450 = .ok (.bipush 15, 2) := by decide +kernel
theorem dL_gaskets_452 : decode cL_gaskets 452 = .ok (.iconst 1, 1) := by decide +kernel
theorem dL_gaskets_453 : decode cL_gaskets 453 = .ok (.iconst 5, 1) := by decide +kernel
theorem dL_gaskets_454 : decode cL_gaskets 454 = .ok (.iconst 0, 1) := by decide +kernel
theorem dL_gaskets_455 : decode cL_gaskets 455 = .ok (.iconst 0, 1) := by decide +kernel
theorem dL_gaskets_456 : decode cL_gaskets 456 = .ok (.invokestatic 117, 3) := by decide +kernel
theorem dL_gaskets_459 : decode cL_gaskets 459 = .ok (.ldc2_w 106, 3) := by decide +kernel
theorem dL_gaskets_462 : decode cL_gaskets 462 = .ok (.lcmp, 1) := by decide +kernel
theorem dL_gaskets_463 : decode cL_gaskets 463 = .ok (.ifCond .ne 156, 3) := by decide +kernel
theorem dL_gaskets_466 : decode cL_gaskets 466 = .ok (.aload_n 0, 1) := by decide +kernel
theorem dL_gaskets_467 : decode cL_gaskets 467 = .ok (.iconst 1, 1) := by decide +kernel
theorem dL_gaskets_468 : decode cL_gaskets 468 = .ok (.iconst 0, 1) := by decide +kernel
theorem dL_gaskets_469 : decode cL_gaskets 469 = .ok (.invokevirtual 50, 3) := by decide +kernel
theorem dL_gaskets_472 : decode cL_gaskets 472 = .ok (.ldc 187, 2) := by decide +kernel
theorem dL_gaskets_474 : decode cL_gaskets 474 = .ok (.fcmp .g, 1) := by decide +kernel
theorem dL_gaskets_475 : decode cL_gaskets 475 = .ok (.ifCond .le 144, 3) := by decide +kernel
theorem dL_gaskets_478 : decode cL_gaskets 478 = .ok (.aload_n 0, 1) := by decide +kernel
theorem dL_gaskets_479 : decode cL_gaskets 479 = .ok (.iconst 1, 1) := by decide +kernel
theorem dL_gaskets_480 : decode cL_gaskets 480 = .ok (.iconst 3, 1) := by decide +kernel
theorem dL_gaskets_481 : decode cL_gaskets 481 = .ok (.invokevirtual 43, 3) := by decide +kernel
theorem dL_gaskets_484 : decode cL_gaskets 484 = .ok (.lconst 0, 1) := by decide +kernel
theorem dL_gaskets_485 : decode cL_gaskets 485 = .ok (.lcmp, 1) := by decide +kernel
theorem dL_gaskets_486 : decode cL_gaskets 486 = .ok (.ifCond .ne 133, 3) := by decide +kernel
theorem dL_gaskets_489 : decode cL_gaskets 489 = .ok (.aload_n 0, 1) := by decide +kernel
theorem dL_gaskets_490 : decode cL_gaskets 490 = .ok (.iconst 1, 1) := by decide +kernel
theorem dL_gaskets_491 : decode cL_gaskets 491 = .ok (.iconst 1, 1) := by decide +kernel
theorem dL_gaskets_492 : decode cL_gaskets 492 = .ok (.invokevirtual 43, 3) := by decide +kernel
theorem dL_gaskets_495 : decode cL_gaskets 495 = .ok (.lconst 1, 1) := by decide +kernel
theorem dL_gaskets_496 : decode cL_gaskets 496 = .ok (.lcmp, 1) := by decide +kernel
theorem dL_gaskets_497 : decode cL_gaskets 497 = .ok (.ifCond .ne 122, 3) := by decide +kernel
theorem dL_gaskets_500 : decode cL_gaskets 500 = .ok (.aload_n 0, 1) := by decide +kernel
theorem dL_gaskets_501 : decode cL_gaskets 501 = .ok (.iconst 1, 1) := by decide +kernel
theorem dL_gaskets_502 : decode cL_gaskets 502 = .ok (.iconst 0, 1) := by decide +kernel
theorem dL_gaskets_503 : decode cL_gaskets 503 = .ok (.invokevirtual 43, 3) := by decide +kernel
theorem dL_gaskets_506 : decode cL_gaskets 506 = .ok (.ldc2_w 188, 3) := by decide +kernel
theorem dL_gaskets_509 : decode cL_gaskets 509 = .ok (.lcmp, 1) := by decide +kernel
theorem dL_gaskets_510 : decode cL_gaskets 510 = .ok (.ifCond .ne 109, 3) := by decide +kernel
theorem dL_gaskets_513 : decode cL_gaskets 513 = .ok (.aload_n 0, 1) := by decide +kernel
theorem dL_gaskets_514 : decode cL_gaskets 514 = .ok (.iconst 3, 1) := by decide +kernel
theorem dL_gaskets_515 : decode cL_gaskets 515 = .ok (.bipush 6, 2) := by decide +kernel
theorem dL_gaskets_517 : decode cL_gaskets 517 = .ok (.bipush 7, 2) := by decide +kernel
theorem dL_gaskets_519 : decode cL_gaskets 519 = .ok (.bipush (-2), 2) := by decide +kernel
theorem dL_gaskets_521 : decode cL_gaskets 521 = .ok (.invokevirtual 40, 3) := by decide +kernel
theorem dL_gaskets_524 : decode cL_gaskets 524 = .ok (.iconst 2, 1) := by decide +kernel
theorem dL_gaskets_525 : decode cL_gaskets 525 = .ok (.if_icmp .ne 94, 3) := by decide +kernel
theorem dL_gaskets_528 : decode cL_gaskets 528 = .ok (.aload_n 0, 1) := by decide +kernel
theorem dL_gaskets_529 : decode cL_gaskets 529 = .ok (.iconst 2, 1) := by decide +kernel
theorem dL_gaskets_530 : decode cL_gaskets 530 = .ok (.ldc2_w 190, 3) := by decide +kernel
theorem dL_gaskets_533 : decode cL_gaskets 533 = .ok (.ldc2_w 170, 3) := by decide +kernel
theorem dL_gaskets_536 : decode cL_gaskets 536 = .ok (.ldc2_w 192, 3) := by decide +kernel
theorem dL_gaskets_539 : decode cL_gaskets 539 = .ok (.ldc2_w 194, 3) := by decide +kernel
theorem dL_gaskets_542 : decode cL_gaskets 542 = .ok (.invokestatic 172, 3) := by decide +kernel
theorem dL_gaskets_545 : decode cL_gaskets 545 = .ok (.ifCond .eq 74, 3) := by decide +kernel
theorem dL_gaskets_548 : decode cL_gaskets 548 = .ok (.aload_n 0, 1) := by decide +kernel
theorem dL_gaskets_549 : decode cL_gaskets 549 = .ok (.iconst 2, 1) := by decide +kernel
theorem dL_gaskets_550 : decode cL_gaskets 550 = .ok (.bipush 7, 2) := by decide +kernel
theorem dL_gaskets_552 : decode cL_gaskets 552 = .ok (.iconst 5, 1) := by decide +kernel
theorem dL_gaskets_553 : decode cL_gaskets 553 = .ok (.invokestatic 182, 3) := by decide +kernel
theorem dL_gaskets_556 : decode cL_gaskets 556 = .ok (.ifCond .eq 63, 3) := by decide +kernel
theorem dL_gaskets_559 : decode cL_gaskets 559 = .ok (.aload_n 0, 1) := by decide +kernel
theorem dL_gaskets_560 : decode cL_gaskets 560 = .ok (.iconst 2, 1) := by decide +kernel
theorem dL_gaskets_561 : decode cL_gaskets 561 = .ok (.iconst 2, 1) := by decide +kernel
theorem dL_gaskets_562 : decode cL_gaskets 562 = .ok (.invokevirtual 63, 3) := by decide +kernel
theorem dL_gaskets_565 : decode cL_gaskets 565 = .ok (.iconst 3, 1) := by decide +kernel
theorem dL_gaskets_566 : decode cL_gaskets 566 = .ok (.if_icmp .ne 53, 3) := by decide +kernel
theorem dL_gaskets_569 : decode cL_gaskets 569 = .ok (.aload_n 0, 1) := by decide +kernel
theorem dL_gaskets_570 : decode cL_gaskets 570 = .ok (.bipush (-6), 2) := by decide +kernel
theorem dL_gaskets_572 : decode cL_gaskets 572 = .ok (.bipush 11, 2) := by decide +kernel
theorem dL_gaskets_574 : decode cL_gaskets 574 = .ok (.bipush 14, 2) := by decide +kernel
theorem dL_gaskets_576 : decode cL_gaskets 576 = .ok (.bipush 15, 2) := by decide +kernel
theorem dL_gaskets_578 : decode cL_gaskets 578 = .ok (.invokevirtual 40, 3) := by decide +kernel
theorem dL_gaskets_581 : decode cL_gaskets 581 = .ok (.iconst 3, 1) := by decide +kernel
theorem dL_gaskets_582 : decode cL_gaskets 582 = .ok (.if_icmp .ne 37, 3) := by decide +kernel
theorem dL_gaskets_585 : decode cL_gaskets 585 = .ok (.aload_n 0, 1) := by decide +kernel
theorem dL_gaskets_586 : decode cL_gaskets 586 = .ok (.iconst 3, 1) := by decide +kernel
theorem dL_gaskets_587 : decode cL_gaskets 587 = .ok (.bipush 15, 2) := by decide +kernel
theorem dL_gaskets_589 : decode cL_gaskets 589 = .ok (.iconst 4, 1) := by decide +kernel
theorem dL_gaskets_590 : decode cL_gaskets 590 = .ok (.invokestatic 182, 3) := by decide +kernel
theorem dL_gaskets_593 : decode cL_gaskets 593 = .ok (.ifCond .eq 26, 3) := by decide +kernel
theorem dL_gaskets_596 : decode cL_gaskets 596 = .ok (.aload_n 0, 1) := by decide +kernel
theorem dL_gaskets_597 : decode cL_gaskets 597 = .ok (.iconst 3, 1) := by decide +kernel
theorem dL_gaskets_598 : decode cL_gaskets 598 = .ok (.bipush 23, 2) := by decide +kernel
theorem dL_gaskets_600 : decode cL_gaskets 600 = .ok (.iconst 5, 1) := by decide +kernel
theorem dL_gaskets_601 : decode cL_gaskets 601 = .ok (.invokestatic 182, 3) := by decide +kernel
theorem dL_gaskets_604 : decode cL_gaskets 604 = .ok (.ifCond .eq 15, 3) := by decide +kernel
theorem dL_gaskets_607 : decode cL_gaskets 607 = .ok (.aload_n 0, 1) := by decide +kernel
theorem dL_gaskets_608 : decode cL_gaskets 608 = .ok (.iconst 0, 1) := by decide +kernel
theorem dL_gaskets_609 : decode cL_gaskets 609 = .ok (.iconst 4, 1) := by decide +kernel
theorem dL_gaskets_610 : decode cL_gaskets 610 = .ok (.iconst 0, 1) := by decide +kernel
theorem dL_gaskets_611 : decode cL_gaskets 611 = .ok (.iconst 2, 1) := by decide +kernel
theorem dL_gaskets_612 : decode cL_gaskets 612 = .ok (.iconst 0, 1) := by decide +kernel
theorem dL_gaskets_613 : decode cL_gaskets 613 = .ok (.invokestatic 127, 3) := by decide +kernel
theorem dL_gaskets_616 : decode cL_gaskets 616 = .ok (.ifCond .ne 5, 3) := by decide +kernel
theorem dL_gaskets_619 : decode cL_gaskets 619 = .ok (.iconst 0, 1) := by decide +kernel
theorem dL_gaskets_620 : decode cL_gaskets 620 = .ok (.ireturn, 1) := by decide +kernel
theorem dL_gaskets_621 : decode cL_gaskets 621 = .ok (.lconst 0, 1) := by decide +kernel
theorem dL_gaskets_622 : decode cL_gaskets 622 = .ok (.lstore_n 1, 1) := by decide +kernel
theorem dL_gaskets_623 : decode cL_gaskets 623 = .ok (.iconst 0, 1) := by decide +kernel
theorem dL_gaskets_624 : decode cL_gaskets 624 = .ok (.istore_n 3, 1) := by decide +kernel
theorem dL_gaskets_625 : decode cL_gaskets 625 = .ok (.iload_n 3, 1) := by decide +kernel
theorem dL_gaskets_626 : decode cL_gaskets 626 = .ok (.sipush 200, 3) := by decide +kernel
theorem dL_gaskets_629 : decode cL_gaskets 629 = .ok (.if_icmp .ge 28, 3) := by decide +kernel
theorem dL_gaskets_632 : decode cL_gaskets 632 = .ok (.aload_n 0, 1) := by decide +kernel
theorem dL_gaskets_633 : decode cL_gaskets 633 = .ok (.bipush 10, 2) := by decide +kernel
theorem dL_gaskets_635 : decode cL_gaskets 635 = .ok (.iconst 0, 1) := by decide +kernel
theorem dL_gaskets_636 : decode cL_gaskets 636 = .ok (.iload_n 3, 1) := by decide +kernel
theorem dL_gaskets_637 : decode cL_gaskets 637 = .ok (.iconst 4, 1) := by decide +kernel
theorem dL_gaskets_638 : decode cL_gaskets 638 = .ok (.irem, 1) := by decide +kernel
theorem dL_gaskets_639 : decode cL_gaskets 639 = .ok (.iconst 0, 1) := by decide +kernel
theorem dL_gaskets_640 : decode cL_gaskets 640 = .ok (.iconst 0, 1) := by decide +kernel
theorem dL_gaskets_641 : decode cL_gaskets 641 = .ok (.invokestatic 117, 3) := by decide +kernel
theorem dL_gaskets_644 : decode cL_gaskets 644 = .ok (.ldc2_w 106, 3) := by decide +kernel
theorem dL_gaskets_647 : decode cL_gaskets 647 = .ok (.lcmp, 1) := by decide +kernel
theorem dL_gaskets_648 : decode cL_gaskets 648 = .ok (.ifCond .eq 9, 3) := by decide +kernel
theorem dL_gaskets_651 : decode cL_gaskets 651 = .ok (.iinc 3 1, 3) := by decide +kernel
theorem dL_gaskets_654 : decode cL_gaskets 654 = .ok (.goto (-29), 3) := by decide +kernel
theorem dL_gaskets_657 : decode cL_gaskets 657 = .ok (.iconst 0, 1) := by decide +kernel
theorem dL_gaskets_658 : decode cL_gaskets 658 = .ok (.istore 4, 2) := by decide +kernel
theorem dL_gaskets_660 : decode cL_gaskets 660 = .ok (.iload 4, 2) := by decide +kernel
theorem dL_gaskets_662 : decode cL_gaskets 662 = .ok (.iconst 4, 1) := by decide +kernel
theorem dL_gaskets_663 : decode cL_gaskets 663 = .ok (.if_icmp .ge 33, 3) := by decide +kernel
theorem dL_gaskets_666 : decode cL_gaskets 666 = .ok (.aload_n 0, 1) := by decide +kernel
theorem dL_gaskets_667 : decode cL_gaskets 667 = .ok (.iconst 0, 1) := by decide +kernel
theorem dL_gaskets_668 : decode cL_gaskets 668 = .ok (.iload 4, 2) := by decide +kernel
theorem dL_gaskets_670 : decode cL_gaskets 670 = .ok (.invokevirtual 47, 3) := by decide +kernel
theorem dL_gaskets_673 : decode cL_gaskets 673 = .ok (.lload_n 1, 1) := by decide +kernel
theorem dL_gaskets_674 : decode cL_gaskets 674 = .ok (.lcmp, 1) := by decide +kernel
theorem dL_gaskets_675 : decode cL_gaskets 675 = .ok (.ifCond .le 13, 3) := by decide +kernel
theorem dL_gaskets_678 : decode cL_gaskets 678 = .ok (.aload_n 0, 1) := by decide +kernel
theorem dL_gaskets_679 : decode cL_gaskets 679 = .ok (.iconst 0, 1) := by decide +kernel
theorem dL_gaskets_680 : decode cL_gaskets 680 = .ok (.iload 4, 2) := by decide +kernel
theorem dL_gaskets_682 : decode cL_gaskets 682 = .ok (.invokevirtual 47, 3) := by decide +kernel
theorem dL_gaskets_685 : decode cL_gaskets 685 = .ok (.goto 4, 3) := by decide +kernel
theorem dL_gaskets_688 : decode cL_gaskets 688 = .ok (.lload_n 1, 1) := by decide +kernel
theorem dL_gaskets_689 : decode cL_gaskets 689 = .ok (.lstore_n 1, 1) := by decide +kernel
theorem dL_gaskets_690 : decode cL_gaskets 690 = .ok (.iinc 4 1, 3) := by decide +kernel
theorem dL_gaskets_693 : decode cL_gaskets 693 = .ok (.goto (-33), 3) := by decide +kernel
theorem dL_gaskets_696 : decode cL_gaskets 696 = .ok (.iload_n 3, 1) := by decide +kernel
theorem dL_gaskets_697 : decode cL_gaskets 697 = .ok (.bipush 20, 2) := by decide +kernel
theorem dL_gaskets_699 : decode cL_gaskets 699 = .ok (.if_icmp .lt 65, 3) := by decide +kernel
theorem dL_gaskets_702 : decode cL_gaskets 702 = .ok (.iload_n 3, 1) := by decide +kernel
theorem dL_gaskets_703 : decode cL_gaskets 703 = .ok (.sipush 200, 3) := by decide +kernel
theorem dL_gaskets_706 : decode cL_gaskets 706 = .ok (.if_icmp .eq 58, 3) := by decide +kernel
theorem dL_gaskets_709 : decode cL_gaskets 709 = .ok (.lload_n 1, 1) := by decide +kernel
theorem dL_gaskets_710 : decode cL_gaskets 710 = .ok (.ldc2_w 196, 3) := by decide +kernel
theorem dL_gaskets_713 : decode cL_gaskets 713 = .ok (.lcmp, 1) := by decide +kernel
theorem dL_gaskets_714 : decode cL_gaskets 714 = .ok (.ifCond .gt 50, 3) := by decide +kernel
theorem dL_gaskets_717 : decode cL_gaskets 717 = .ok (.lload_n 1, 1) := by decide +kernel
theorem dL_gaskets_718 : decode cL_gaskets 718 = .ok (.ldc2_w 198, 3) := by decide +kernel
theorem dL_gaskets_721 : decode cL_gaskets 721 = .ok (.lcmp, 1) := by decide +kernel
theorem dL_gaskets_722 : decode cL_gaskets 722 = .ok (.ifCond .lt 42, 3) := by decide +kernel
theorem dL_gaskets_725 : decode cL_gaskets 725 = .ok (.aload_n 0, 1) := by decide +kernel
theorem dL_gaskets_726 : decode cL_gaskets 726 = .ok (.bipush 10, 2) := by decide +kernel
theorem dL_gaskets_728 : decode cL_gaskets 728 = .ok (.iconst 0, 1) := by decide +kernel
