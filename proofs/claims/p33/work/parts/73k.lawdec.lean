theorem dL_words_341 : decode cL_words 341 = .ok (.iconst 0, 1) := by decide +kernel
theorem dL_words_342 : decode cL_words 342 = .ok (.invokevirtual 76, 3) := by decide +kernel
theorem dL_words_345 : decode cL_words 345 = .ok (.bipush (-2), 2) := by decide +kernel
theorem dL_words_347 : decode cL_words 347 = .ok (.if_icmp .ne 141, 3) := by decide +kernel
theorem dL_words_350 : decode cL_words 350 = .ok (.aload_n 0, 1) := by decide +kernel
theorem dL_words_351 : decode cL_words 351 = .ok (.iconst (-1), 1) := by decide +kernel
theorem dL_words_352 : decode cL_words 352 = .ok (.iconst 0, 1) := by decide +kernel
theorem dL_words_353 : decode cL_words 353 = .ok (.iconst 0, 1) := by decide +kernel
theorem dL_words_354 : decode cL_words 354 = .ok (.iconst (-1), 1) := by decide +kernel
theorem dL_words_355 : decode cL_words 355 = .ok (.iconst 0, 1) := by decide +kernel
theorem dL_words_356 : decode cL_words 356 = .ok (.invokestatic 222, 3) := by decide +kernel
theorem dL_words_359 : decode cL_words 359 = .ok (.ifCond .eq 129, 3) := by decide +kernel
theorem dL_words_362 : decode cL_words 362 = .ok (.aload_n 0, 1) := by decide +kernel
theorem dL_words_363 : decode cL_words 363 = .ok (.iconst 1, 1) := by decide +kernel
theorem dL_words_364 : decode cL_words 364 = .ok (.iconst 2, 1) := by decide +kernel
theorem dL_words_365 : decode cL_words 365 = .ok (.lconst 1, 1) := by decide +kernel
theorem dL_words_366 : decode cL_words 366 = .ok (.ldc2_w 168, 3) := by decide +kernel
theorem dL_words_369 : decode cL_words 369 = .ok (.invokestatic 226, 3) := by decide +kernel
theorem dL_words_372 : decode cL_words 372 = .ok (.ifCond .eq 116, 3) := by decide +kernel
theorem dL_words_375 : decode cL_words 375 = .ok (.aload_n 0, 1) := by decide +kernel
theorem dL_words_376 : decode cL_words 376 = .ok (.iconst 1, 1) := by decide +kernel
theorem dL_words_377 : decode cL_words 377 = .ok (.iconst 0, 1) := by decide +kernel
theorem dL_words_378 : decode cL_words 378 = .ok (.lconst 1, 1) := by decide +kernel
theorem dL_words_379 : decode cL_words 379 = .ok (.lconst 0, 1) := by decide +kernel
theorem dL_words_380 : decode cL_words 380 = .ok (.invokestatic 226, 3) := by decide +kernel
theorem dL_words_383 : decode cL_words 383 = .ok (.ifCond .eq 105, 3) := by decide +kernel
theorem dL_words_386 : decode cL_words 386 = .ok (.aload_n 0, 1) := by decide +kernel
theorem dL_words_387 : decode cL_words 387 = .ok (.iconst 0, 1) := by decide +kernel
theorem dL_words_388 : decode cL_words 388 = .ok (.iconst 1, 1) := by decide +kernel
theorem dL_words_389 : decode cL_words 389 = .ok (.invokevirtual 76, 3) := by decide +kernel
theorem dL_words_392 : decode cL_words 392 = .ok (.bipush (-2), 2) := by decide +kernel
theorem dL_words_394 : decode cL_words 394 = .ok (.if_icmp .ne 94, 3) := by decide +kernel
theorem dL_words_397 : decode cL_words 397 = .ok (.aload_n 0, 1) := by decide +kernel
theorem dL_words_398 : decode cL_words 398 = .ok (.iconst (-1), 1) := by decide +kernel
theorem dL_words_399 : decode cL_words 399 = .ok (.iconst 2, 1) := by decide +kernel
theorem dL_words_400 : decode cL_words 400 = .ok (.iconst 0, 1) := by decide +kernel
theorem dL_words_401 : decode cL_words 401 = .ok (.iconst (-1), 1) := by decide +kernel
theorem dL_words_402 : decode cL_words 402 = .ok (.iconst 2, 1) := by decide +kernel
theorem dL_words_403 : decode cL_words 403 = .ok (.invokestatic 222, 3) := by decide +kernel
theorem dL_words_406 : decode cL_words 406 = .ok (.ifCond .eq 82, 3) := by decide +kernel
theorem dL_words_409 : decode cL_words 409 = .ok (.aload_n 0, 1) := by decide +kernel
theorem dL_words_410 : decode cL_words 410 = .ok (.iconst 1, 1) := by decide +kernel
theorem dL_words_411 : decode cL_words 411 = .ok (.iconst 1, 1) := by decide +kernel
theorem dL_words_412 : decode cL_words 412 = .ok (.ldc2_w 166, 3) := by decide +kernel
theorem dL_words_415 : decode cL_words 415 = .ok (.lconst 1, 1) := by decide +kernel
theorem dL_words_416 : decode cL_words 416 = .ok (.invokestatic 226, 3) := by decide +kernel
theorem dL_words_419 : decode cL_words 419 = .ok (.ifCond .eq 69, 3) := by decide +kernel
theorem dL_words_422 : decode cL_words 422 = .ok (.aload_n 0, 1) := by decide +kernel
theorem dL_words_423 : decode cL_words 423 = .ok (.invokevirtual 233, 3) := by decide +kernel
theorem dL_words_426 : decode cL_words 426 = .ok (.bipush (-2), 2) := by decide +kernel
theorem dL_words_428 : decode cL_words 428 = .ok (.if_icmp .ne 60, 3) := by decide +kernel
theorem dL_words_431 : decode cL_words 431 = .ok (.aload_n 0, 1) := by decide +kernel
theorem dL_words_432 : decode cL_words 432 = .ok (.iconst 2, 1) := by decide +kernel
theorem dL_words_433 : decode cL_words 433 = .ok (.iconst 1, 1) := by decide +kernel
theorem dL_words_434 : decode cL_words 434 = .ok (.invokevirtual 76, 3) := by decide +kernel
theorem dL_words_437 : decode cL_words 437 = .ok (.ifCond .ne 51, 3) := by decide +kernel
theorem dL_words_440 : decode cL_words 440 = .ok (.aload_n 0, 1) := by decide +kernel
theorem dL_words_441 : decode cL_words 441 = .ok (.iconst 0, 1) := by decide +kernel
theorem dL_words_442 : decode cL_words 442 = .ok (.iconst 1, 1) := by decide +kernel
theorem dL_words_443 : decode cL_words 443 = .ok (.iconst (-1), 1) := by decide +kernel
theorem dL_words_444 : decode cL_words 444 = .ok (.iconst 0, 1) := by decide +kernel
theorem dL_words_445 : decode cL_words 445 = .ok (.iconst 1, 1) := by decide +kernel
theorem dL_words_446 : decode cL_words 446 = .ok (.invokestatic 222, 3) := by decide +kernel
theorem dL_words_449 : decode cL_words 449 = .ok (.ifCond .eq 39, 3) := by decide +kernel
theorem dL_words_452 : decode cL_words 452 = .ok (.aload_n 0, 1) := by decide +kernel
theorem dL_words_453 : decode cL_words 453 = .ok (.iconst 0, 1) := by decide +kernel
theorem dL_words_454 : decode cL_words 454 = .ok (.iconst 0, 1) := by decide +kernel
theorem dL_words_455 : decode cL_words 455 = .ok (.invokevirtual 76, 3) := by decide +kernel
theorem dL_words_458 : decode cL_words 458 = .ok (.bipush (-2), 2) := by decide +kernel
theorem dL_words_460 : decode cL_words 460 = .ok (.if_icmp .ne 28, 3) := by decide +kernel
theorem dL_words_463 : decode cL_words 463 = .ok (.aload_n 0, 1) := by decide +kernel
theorem dL_words_464 : decode cL_words 464 = .ok (.iconst 0, 1) := by decide +kernel
theorem dL_words_465 : decode cL_words 465 = .ok (.iconst 1, 1) := by decide +kernel
theorem dL_words_466 : decode cL_words 466 = .ok (.iconst (-1), 1) := by decide +kernel
theorem dL_words_467 : decode cL_words 467 = .ok (.bipush (-2), 2) := by decide +kernel
theorem dL_words_469 : decode cL_words 469 = .ok (.iconst 2, 1) := by decide +kernel
theorem dL_words_470 : decode cL_words 470 = .ok (.invokestatic 222, 3) := by decide +kernel
theorem dL_words_473 : decode cL_words 473 = .ok (.ifCond .eq 15, 3) := by decide +kernel
theorem dL_words_476 : decode cL_words 476 = .ok (.aload_n 0, 1) := by decide +kernel
theorem dL_words_477 : decode cL_words 477 = .ok (.iconst 0, 1) := by decide +kernel
theorem dL_words_478 : decode cL_words 478 = .ok (.iconst 0, 1) := by decide +kernel
theorem dL_words_479 : decode cL_words 479 = .ok (.iconst 3, 1) := by decide +kernel
theorem dL_words_480 : decode cL_words 480 = .ok (.iconst 2, 1) := by decide +kernel
theorem dL_words_481 : decode cL_words 481 = .ok (.iconst 0, 1) := by decide +kernel
theorem dL_words_482 : decode cL_words 482 = .ok (.invokestatic 127, 3) := by decide +kernel
theorem dL_words_485 : decode cL_words 485 = .ok (.ifCond .ne 5, 3) := by decide +kernel
theorem dL_words_488 : decode cL_words 488 = .ok (.iconst 0, 1) := by decide +kernel
theorem dL_words_489 : decode cL_words 489 = .ok (.ireturn, 1) := by decide +kernel
theorem dL_words_490 : decode cL_words 490 = .ok (.aload_n 0, 1) := by decide +kernel
theorem dL_words_491 : decode cL_words 491 = .ok (.invokevirtual 233, 3) := by decide +kernel
theorem dL_words_494 : decode cL_words 494 = .ok (.bipush (-2), 2) := by decide +kernel
theorem dL_words_496 : decode cL_words 496 = .ok (.if_icmp .ne 168, 3) := by decide +kernel
theorem dL_words_499 : decode cL_words 499 = .ok (.aload_n 0, 1) := by decide +kernel
theorem dL_words_500 : decode cL_words 500 = .ok (.sipush 1000, 3) := by decide +kernel
theorem dL_words_503 : decode cL_words 503 = .ok (.iconst (-1), 1) := by decide +kernel
theorem dL_words_504 : decode cL_words 504 = .ok (.iconst 1, 1) := by decide +kernel
theorem dL_words_505 : decode cL_words 505 = .ok (.iconst 0, 1) := by decide +kernel
theorem dL_words_506 : decode cL_words 506 = .ok (.invokevirtual 73, 3) := by decide +kernel
theorem dL_words_509 : decode cL_words 509 = .ok (.iconst 3, 1) := by decide +kernel
theorem dL_words_510 : decode cL_words 510 = .ok (.if_icmp .ne 154, 3) := by decide +kernel
theorem dL_words_513 : decode cL_words 513 = .ok (.aload_n 0, 1) := by decide +kernel
theorem dL_words_514 : decode cL_words 514 = .ok (.bipush 19, 2) := by decide +kernel
theorem dL_words_516 : decode cL_words 516 = .ok (.iconst 1, 1) := by decide +kernel
theorem dL_words_517 : decode cL_words 517 = .ok (.iconst 0, 1) := by decide +kernel
theorem dL_words_518 : decode cL_words 518 = .ok (.iconst 0, 1) := by decide +kernel
theorem dL_words_519 : decode cL_words 519 = .ok (.iconst 1, 1) := by decide +kernel
theorem dL_words_520 : decode cL_words 520 = .ok (.invokestatic 117, 3) := by decide +kernel
theorem dL_words_523 : decode cL_words 523 = .ok (.ldc2_w 106, 3) := by decide +kernel
theorem dL_words_526 : decode cL_words 526 = .ok (.lcmp, 1) := by decide +kernel
theorem dL_words_527 : decode cL_words 527 = .ok (.ifCond .ne 137, 3) := by decide +kernel
theorem dL_words_530 : decode cL_words 530 = .ok (.aload_n 0, 1) := by decide +kernel
theorem dL_words_531 : decode cL_words 531 = .ok (.iconst 3, 1) := by decide +kernel
theorem dL_words_532 : decode cL_words 532 = .ok (.iconst 0, 1) := by decide +kernel
theorem dL_words_533 : decode cL_words 533 = .ok (.invokevirtual 76, 3) := by decide +kernel
theorem dL_words_536 : decode cL_words 536 = .ok (.sipush 1000, 3) := by decide +kernel
theorem dL_words_539 : decode cL_words 539 = .ok (.if_icmp .ne 125, 3) := by decide +kernel
theorem dL_words_542 : decode cL_words 542 = .ok (.aload_n 0, 1) := by decide +kernel
theorem dL_words_543 : decode cL_words 543 = .ok (.iconst 3, 1) := by decide +kernel
theorem dL_words_544 : decode cL_words 544 = .ok (.iconst 0, 1) := by decide +kernel
theorem dL_words_545 : decode cL_words 545 = .ok (.invokevirtual 76, 3) := by decide +kernel
theorem dL_words_548 : decode cL_words 548 = .ok (.ldc 236, 2) := by decide +kernel
theorem dL_words_550 : decode cL_words 550 = .ok (.if_icmp .ne 114, 3) := by decide +kernel
theorem dL_words_553 : decode cL_words 553 = .ok (.aload_n 0, 1) := by decide +kernel
theorem dL_words_554 : decode cL_words 554 = .ok (.iconst 3, 1) := by decide +kernel
theorem dL_words_555 : decode cL_words 555 = .ok (.iconst 0, 1) := by decide +kernel
theorem dL_words_556 : decode cL_words 556 = .ok (.invokevirtual 76, 3) := by decide +kernel
theorem dL_words_559 : decode cL_words 559 = .ok (.ldc 237, 2) := by decide +kernel
theorem dL_words_561 : decode cL_words 561 = .ok (.if_icmp .ne 103, 3) := by decide +kernel
theorem dL_words_564 : decode cL_words 564 = .ok (.aload_n 0, 1) := by decide +kernel
theorem dL_words_565 : decode cL_words 565 = .ok (.ldc 238, 2) := by decide +kernel
theorem dL_words_567 : decode cL_words 567 = .ok (.ldc 239, 2) := by decide +kernel
theorem dL_words_569 : decode cL_words 569 = .ok (.ldc 240, 2) := by decide +kernel
theorem dL_words_571 : decode cL_words 571 = .ok (.sipush (-1000), 3) := by decide +kernel
theorem dL_words_574 : decode cL_words 574 = .ok (.iconst 3, 1) := by decide +kernel
theorem dL_words_575 : decode cL_words 575 = .ok (.invokestatic 222, 3) := by decide +kernel
theorem dL_words_578 : decode cL_words 578 = .ok (.ifCond .eq 86, 3) := by decide +kernel
theorem dL_words_581 : decode cL_words 581 = .ok (.aload_n 0, 1) := by decide +kernel
theorem dL_words_582 : decode cL_words 582 = .ok (.bipush 20, 2) := by decide +kernel
theorem dL_words_584 : decode cL_words 584 = .ok (.iconst 3, 1) := by decide +kernel
theorem dL_words_585 : decode cL_words 585 = .ok (.iconst 0, 1) := by decide +kernel
theorem dL_words_586 : decode cL_words 586 = .ok (.iconst 0, 1) := by decide +kernel
theorem dL_words_587 : decode cL_words 587 = .ok (.iconst 0, 1) := by decide +kernel
theorem dL_words_588 : decode cL_words 588 = .ok (.invokestatic 117, 3) := by decide +kernel
theorem dL_words_591 : decode cL_words 591 = .ok (.ldc2_w 106, 3) := by decide +kernel
theorem dL_words_594 : decode cL_words 594 = .ok (.lcmp, 1) := by decide +kernel
theorem dL_words_595 : decode cL_words 595 = .ok (.ifCond .ne 69, 3) := by decide +kernel
theorem dL_words_598 : decode cL_words 598 = .ok (.aload_n 0, 1) := by decide +kernel
theorem dL_words_599 : decode cL_words 599 = .ok (.ldc 238, 2) := by decide +kernel
theorem dL_words_601 : decode cL_words 601 = .ok (.ldc 239, 2) := by decide +kernel
theorem dL_words_603 : decode cL_words 603 = .ok (.ldc 240, 2) := by decide +kernel
theorem dL_words_605 : decode cL_words 605 = .ok (.sipush (-1000), 3) := by decide +kernel
theorem dL_words_608 : decode cL_words 608 = .ok (.iconst 3, 1) := by decide +kernel
theorem dL_words_609 : decode cL_words 609 = .ok (.invokestatic 222, 3) := by decide +kernel
theorem dL_words_612 : decode cL_words 612 = .ok (.ifCond .eq 52, 3) := by decide +kernel
theorem dL_words_615 : decode cL_words 615 = .ok (.aload_n 0, 1) := by decide +kernel
theorem dL_words_616 : decode cL_words 616 = .ok (.iconst 3, 1) := by decide +kernel
theorem dL_words_617 : decode cL_words 617 = .ok (.iconst 1, 1) := by decide +kernel
theorem dL_words_618 : decode cL_words 618 = .ok (.invokevirtual 76, 3) := by decide +kernel
theorem dL_words_621 : decode cL_words 621 = .ok (.ldc 236, 2) := by decide +kernel
theorem dL_words_623 : decode cL_words 623 = .ok (.if_icmp .ne 41, 3) := by decide +kernel
theorem dL_words_626 : decode cL_words 626 = .ok (.aload_n 0, 1) := by decide +kernel
theorem dL_words_627 : decode cL_words 627 = .ok (.iconst 3, 1) := by decide +kernel
theorem dL_words_628 : decode cL_words 628 = .ok (.iconst 1, 1) := by decide +kernel
theorem dL_words_629 : decode cL_words 629 = .ok (.invokevirtual 76, 3) := by decide +kernel
theorem dL_words_632 : decode cL_words 632 = .ok (.sipush 1000, 3) := by decide +kernel
theorem dL_words_635 : decode cL_words 635 = .ok (.if_icmp .ne 29, 3) := by decide +kernel
theorem dL_words_638 : decode cL_words 638 = .ok (.aload_n 0, 1) := by decide +kernel
theorem dL_words_639 : decode cL_words 639 = .ok (.iconst 3, 1) := by decide +kernel
theorem dL_words_640 : decode cL_words 640 = .ok (.iconst 1, 1) := by decide +kernel
theorem dL_words_641 : decode cL_words 641 = .ok (.invokevirtual 76, 3) := by decide +kernel
theorem dL_words_644 : decode cL_words 644 = .ok (.iconst 2, 1) := by decide +kernel
theorem dL_words_645 : decode cL_words 645 = .ok (.if_icmp .ne 19, 3) := by decide +kernel
theorem dL_words_648 : decode cL_words 648 = .ok (.aload_n 0, 1) := by decide +kernel
theorem dL_words_649 : decode cL_words 649 = .ok (.iconst 1, 1) := by decide +kernel
theorem dL_words_650 : decode cL_words 650 = .ok (.iconst 0, 1) := by decide +kernel
theorem dL_words_651 : decode cL_words 651 = .ok (.iconst 0, 1) := by decide +kernel
theorem dL_words_652 : decode cL_words 652 = .ok (.iconst 1, 1) := by decide +kernel
theorem dL_words_653 : decode cL_words 653 = .ok (.iconst 0, 1) := by decide +kernel
theorem dL_words_654 : decode cL_words 654 = .ok (.invokestatic 222, 3) := by decide +kernel
theorem dL_words_657 : decode cL_words 657 = .ok (.ifCond .eq 7, 3) := by decide +kernel
theorem dL_words_660 : decode cL_words 660 = .ok (.iconst 1, 1) := by decide +kernel
theorem dL_words_661 : decode cL_words 661 = .ok (.goto 4, 3) := by decide +kernel
theorem dL_words_664 : decode cL_words 664 = .ok (.iconst 0, 1) := by decide +kernel
theorem dL_words_665 : decode cL_words 665 = .ok (.ireturn, 1) := by decide +kernel
theorem dL_rectangle_0 : decode cL_rectangle 0 = .ok (.aload_n 0, 1) := by decide +kernel
theorem dL_rectangle_1 : decode cL_rectangle 1 = .ok (.iload_n 1, 1) := by decide +kernel
theorem dL_rectangle_2 : decode cL_rectangle 2 = .ok (.iload_n 2, 1) := by decide +kernel
theorem dL_rectangle_3 : decode cL_rectangle 3 = .ok (.iconst (-1), 1) := by decide +kernel
theorem dL_rectangle_4 : decode cL_rectangle 4 = .ok (.invokevirtual 93, 3) := by decide +kernel
theorem dL_rectangle_7 : decode cL_rectangle 7 = .ok (.iload_n 3, 1) := by decide +kernel
theorem dL_rectangle_8 : decode cL_rectangle 8 = .ok (.if_icmp .ne 43, 3) := by decide +kernel
theorem dL_rectangle_11 : decode cL_rectangle 11 = .ok (.aload_n 0, 1) := by decide +kernel
theorem dL_rectangle_12 : decode cL_rectangle 12 = .ok (.iload_n 1, 1) := by decide +kernel
theorem dL_rectangle_13 : decode cL_rectangle 13 = .ok (.iload_n 2, 1) := by decide +kernel
theorem dL_rectangle_14 : decode cL_rectangle 14 = .ok (.iconst 0, 1) := by decide +kernel
theorem dL_rectangle_15 : decode cL_rectangle 15 = .ok (.invokevirtual 93, 3) := by decide +kernel
theorem dL_rectangle_18 : decode cL_rectangle 18 = .ok (.iload 4, 2) := by decide +kernel
theorem dL_rectangle_20 : decode cL_rectangle 20 = .ok (.if_icmp .ne 31, 3) := by decide +kernel
theorem dL_rectangle_23 : decode cL_rectangle 23 = .ok (.aload_n 0, 1) := by decide +kernel
theorem dL_rectangle_24 : decode cL_rectangle 24 = .ok (.iload_n 1, 1) := by decide +kernel
theorem dL_rectangle_25 : decode cL_rectangle 25 = .ok (.iload_n 2, 1) := by decide +kernel
theorem dL_rectangle_26 : decode cL_rectangle 26 = .ok (.iconst 1, 1) := by decide +kernel
theorem dL_rectangle_27 : decode cL_rectangle 27 = .ok (.invokevirtual 93, 3) := by decide +kernel
theorem dL_rectangle_30 : decode cL_rectangle 30 = .ok (.iload 5, 2) := by decide +kernel
theorem dL_rectangle_32 : decode cL_rectangle 32 = .ok (.if_icmp .ne 19, 3) := by decide +kernel
theorem dL_rectangle_35 : decode cL_rectangle 35 = .ok (.aload_n 0, 1) := by decide +kernel
theorem dL_rectangle_36 : decode cL_rectangle 36 = .ok (.iload_n 1, 1) := by decide +kernel
theorem dL_rectangle_37 : decode cL_rectangle 37 = .ok (.iload_n 2, 1) := by decide +kernel
theorem dL_rectangle_38 : decode cL_rectangle 38 = .ok (.iconst 2, 1) := by decide +kernel
theorem dL_rectangle_39 : decode cL_rectangle 39 = .ok (.invokevirtual 93, 3) := by decide +kernel
theorem dL_rectangle_42 : decode cL_rectangle 42 = .ok (.iload 6, 2) := by decide +kernel
theorem dL_rectangle_44 : decode cL_rectangle 44 = .ok (.if_icmp .ne 7, 3) := by decide +kernel
theorem dL_rectangle_47 : decode cL_rectangle 47 = .ok (.iconst 1, 1) := by decide +kernel
theorem dL_rectangle_48 : decode cL_rectangle 48 = .ok (.goto 4, 3) := by decide +kernel
theorem dL_rectangle_51 : decode cL_rectangle 51 = .ok (.iconst 0, 1) := by decide +kernel
theorem dL_rectangle_52 : decode cL_rectangle 52 = .ok (.ireturn, 1) := by decide +kernel
theorem dL_trees_0 : decode cL_trees 0 = .ok (.aload_n 0, 1) := by decide +kernel
theorem dL_trees_1 : decode cL_trees 1 = .ok (.invokevirtual 109, 3) := by decide +kernel
theorem dL_trees_4 : decode cL_trees 4 = .ok (.iload_n 1, 1) := by decide +kernel
theorem dL_trees_5 : decode cL_trees 5 = .ok (.if_icmp .ne 15, 3) := by decide +kernel
theorem dL_trees_8 : decode cL_trees 8 = .ok (.aload_n 0, 1) := by decide +kernel
theorem dL_trees_9 : decode cL_trees 9 = .ok (.invokevirtual 123, 3) := by decide +kernel
theorem dL_trees_12 : decode cL_trees 12 = .ok (.iload_n 1, 1) := by decide +kernel
theorem dL_trees_13 : decode cL_trees 13 = .ok (.if_icmp .ne 7, 3) := by decide +kernel
theorem dL_trees_16 : decode cL_trees 16 = .ok (.iconst 1, 1) := by decide +kernel
theorem dL_trees_17 : decode cL_trees 17 = .ok (.goto 4, 3) := by decide +kernel
theorem dL_trees_20 : decode cL_trees 20 = .ok (.iconst 0, 1) := by decide +kernel
theorem dL_trees_21 : decode cL_trees 21 = .ok (.ireturn, 1) := by decide +kernel
theorem dL_networks_0 : decode cL_networks 0 = .ok (.new 8, 3) := by decide +kernel
theorem dL_networks_3 : decode cL_networks 3 = .ok (.dup, 1) := by decide +kernel
theorem dL_networks_4 : decode cL_networks 4 = .ok (.invokespecial 126, 3) := by decide +kernel
theorem dL_networks_7 : decode cL_networks 7 = .ok (.astore_n 0, 1) := by decide +kernel
theorem dL_networks_8 : decode cL_networks 8 = .ok (.aload_n 0, 1) := by decide +kernel
theorem dL_networks_9 : decode cL_networks 9 = .ok (.iconst 0, 1) := by decide +kernel
theorem dL_networks_10 : decode cL_networks 10 = .ok (.invokestatic 241, 3) := by decide +kernel
theorem dL_networks_13 : decode cL_networks 13 = .ok (.ifCond .eq 275, 3) := by decide +kernel
theorem dL_networks_16 : decode cL_networks 16 = .ok (.aload_n 0, 1) := by decide +kernel
theorem dL_networks_17 : decode cL_networks 17 = .ok (.bipush 25, 2) := by decide +kernel
theorem dL_networks_19 : decode cL_networks 19 = .ok (.iconst 0, 1) := by decide +kernel
theorem dL_networks_20 : decode cL_networks 20 = .ok (.iconst 1, 1) := by decide +kernel
theorem dL_networks_21 : decode cL_networks 21 = .ok (.iconst (-1), 1) := by decide +kernel
theorem dL_networks_22 : decode cL_networks 22 = .ok (.iconst 0, 1) := by decide +kernel
theorem dL_networks_23 : decode cL_networks 23 = .ok (.invokestatic 117, 3) := by decide +kernel
theorem dL_networks_26 : decode cL_networks 26 = .ok (.ldc2_w 106, 3) := by decide +kernel
theorem dL_networks_29 : decode cL_networks 29 = .ok (.lcmp, 1) := by decide +kernel
theorem dL_networks_30 : decode cL_networks 30 = .ok (.ifCond .ne 258, 3) := by decide +kernel
theorem dL_networks_33 : decode cL_networks 33 = .ok (.aload_n 0, 1) := by decide +kernel
theorem dL_networks_34 : decode cL_networks 34 = .ok (.iconst 3, 1) := by decide +kernel
theorem dL_networks_35 : decode cL_networks 35 = .ok (.invokevirtual 87, 3) := by decide +kernel
theorem dL_networks_38 : decode cL_networks 38 = .ok (.iconst 2, 1) := by decide +kernel
theorem dL_networks_39 : decode cL_networks 39 = .ok (.if_icmp .ne 249, 3) := by decide +kernel
theorem dL_networks_42 : decode cL_networks 42 = .ok (.aload_n 0, 1) := by decide +kernel
theorem dL_networks_43 : decode cL_networks 43 = .ok (.iconst 0, 1) := by decide +kernel
theorem dL_networks_44 : decode cL_networks 44 = .ok (.iconst 1, 1) := by decide +kernel
theorem dL_networks_45 : decode cL_networks 45 = .ok (.invokevirtual 90, 3) := by decide +kernel
theorem dL_networks_48 : decode cL_networks 48 = .ok (.ifCond .ne 240, 3) := by decide +kernel
theorem dL_networks_51 : decode cL_networks 51 = .ok (.aload_n 0, 1) := by decide +kernel
theorem dL_networks_52 : decode cL_networks 52 = .ok (.iconst 1, 1) := by decide +kernel
theorem dL_networks_53 : decode cL_networks 53 = .ok (.iconst 2, 1) := by decide +kernel
theorem dL_networks_54 : decode cL_networks 54 = .ok (.invokevirtual 90, 3) := by decide +kernel
theorem dL_networks_57 : decode cL_networks 57 = .ok (.iconst 1, 1) := by decide +kernel
theorem dL_networks_58 : decode cL_networks 58 = .ok (.if_icmp .ne 230, 3) := by decide +kernel
theorem dL_networks_61 : decode cL_networks 61 = .ok (.aload_n 0, 1) := by decide +kernel
theorem dL_networks_62 : decode cL_networks 62 = .ok (.iconst 0, 1) := by decide +kernel
theorem dL_networks_63 : decode cL_networks 63 = .ok (.iconst 2, 1) := by decide +kernel
theorem dL_networks_64 : decode cL_networks 64 = .ok (.invokevirtual 90, 3) := by decide +kernel
theorem dL_networks_67 : decode cL_networks 67 = .ok (.iconst 2, 1) := by decide +kernel
theorem dL_networks_68 : decode cL_networks 68 = .ok (.if_icmp .ne 220, 3) := by decide +kernel
theorem dL_networks_71 : decode cL_networks 71 = .ok (.aload_n 0, 1) := by decide +kernel
theorem dL_networks_72 : decode cL_networks 72 = .ok (.iconst 3, 1) := by decide +kernel
theorem dL_networks_73 : decode cL_networks 73 = .ok (.invokestatic 241, 3) := by decide +kernel
theorem dL_networks_76 : decode cL_networks 76 = .ok (.ifCond .eq 212, 3) := by decide +kernel
theorem dL_networks_79 : decode cL_networks 79 = .ok (.aload_n 0, 1) := by decide +kernel
theorem dL_networks_80 : decode cL_networks 80 = .ok (.iconst 0, 1) := by decide +kernel
theorem dL_networks_81 : decode cL_networks 81 = .ok (.iconst 1, 1) := by decide +kernel
theorem dL_networks_82 : decode cL_networks 82 = .ok (.iconst 2, 1) := by decide +kernel
theorem dL_networks_83 : decode cL_networks 83 = .ok (.iconst 2, 1) := by decide +kernel
theorem dL_networks_84 : decode cL_networks 84 = .ok (.iconst (-1), 1) := by decide +kernel
theorem dL_networks_85 : decode cL_networks 85 = .ok (.iconst 1, 1) := by decide +kernel
theorem dL_networks_86 : decode cL_networks 86 = .ok (.invokestatic 244, 3) := by decide +kernel
