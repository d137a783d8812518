theorem d_Law_law_365 : decode code 365 = .ok (.iload 4, 2) := by decide +kernel
theorem d_Law_law_367 : decode code 367 = .ok (.iconst 1, 1) := by decide +kernel
theorem d_Law_law_368 : decode code 368 = .ok (.iadd, 1) := by decide +kernel
theorem d_Law_law_369 : decode code 369 = .ok (.iaload, 1) := by decide +kernel
theorem d_Law_law_370 : decode code 370 = .ok (.aload_n 3, 1) := by decide +kernel
theorem d_Law_law_371 : decode code 371 = .ok (.invokestatic 72, 3) := by decide +kernel
theorem d_Law_law_374 : decode code 374 = .ok (.istore 5, 2) := by decide +kernel
theorem d_Law_law_376 : decode code 376 = .ok (.aload_n 2, 1) := by decide +kernel
theorem d_Law_law_377 : decode code 377 = .ok (.aload_n 0, 1) := by decide +kernel
theorem d_Law_law_378 : decode code 378 = .ok (.iload 4, 2) := by decide +kernel
theorem d_Law_law_380 : decode code 380 = .ok (.iconst 1, 1) := by decide +kernel
theorem d_Law_law_381 : decode code 381 = .ok (.iadd, 1) := by decide +kernel
theorem d_Law_law_382 : decode code 382 = .ok (.iaload, 1) := by decide +kernel
theorem d_Law_law_383 : decode code 383 = .ok (.invokevirtual 75, 3) := by decide +kernel
theorem d_Law_law_386 : decode code 386 = .ok (.istore 6, 2) := by decide +kernel
theorem d_Law_law_388 : decode code 388 = .ok (.aload_n 2, 1) := by decide +kernel
theorem d_Law_law_389 : decode code 389 = .ok (.invokevirtual 55, 3) := by decide +kernel
theorem d_Law_law_392 : decode code 392 = .ok (.iload 5, 2) := by decide +kernel
theorem d_Law_law_394 : decode code 394 = .ok (.if_icmp .eq 5, 3) := by decide +kernel
theorem d_Law_law_397 : decode code 397 = .ok (.iconst 0, 1) := by decide +kernel
theorem d_Law_law_398 : decode code 398 = .ok (.ireturn, 1) := by decide +kernel
theorem d_Law_law_399 : decode code 399 = .ok (.iload 5, 2) := by decide +kernel
theorem d_Law_law_401 : decode code 401 = .ok (.ifCond .ne 15, 3) := by decide +kernel
theorem d_Law_law_404 : decode code 404 = .ok (.aload_n 3, 1) := by decide +kernel
theorem d_Law_law_405 : decode code 405 = .ok (.iconst 0, 1) := by decide +kernel
theorem d_Law_law_406 : decode code 406 = .ok (.laload, 1) := by decide +kernel
theorem d_Law_law_407 : decode code 407 = .ok (.iload 6, 2) := by decide +kernel
theorem d_Law_law_409 : decode code 409 = .ok (.i2l, 1) := by decide +kernel
theorem d_Law_law_410 : decode code 410 = .ok (.lcmp, 1) := by decide +kernel
theorem d_Law_law_411 : decode code 411 = .ok (.ifCond .eq 5, 3) := by decide +kernel
theorem d_Law_law_414 : decode code 414 = .ok (.iconst 0, 1) := by decide +kernel
theorem d_Law_law_415 : decode code 415 = .ok (.ireturn, 1) := by decide +kernel
theorem d_Law_law_416 : decode code 416 = .ok (.goto 518, 3) := by decide +kernel
theorem d_Law_law_419 : decode code 419 = .ok (.aload_n 1, 1) := by decide +kernel
theorem d_Law_law_420 : decode code 420 = .ok (.invokevirtual 76, 3) := by decide +kernel
theorem d_Law_law_423 : decode code 423 = .ok (.aload_n 2, 1) := by decide +kernel
theorem d_Law_law_424 : decode code 424 = .ok (.invokevirtual 79, 3) := by decide +kernel
theorem d_Law_law_427 : decode code 427 = .ok (.if_icmp .eq 507, 3) := by decide +kernel
theorem d_Law_law_430 : decode code 430 = .ok (.iconst 0, 1) := by decide +kernel
theorem d_Law_law_431 : decode code 431 = .ok (.ireturn, 1) := by decide +kernel
theorem d_Law_law_432 : decode code 432 = .ok (.aload_n 1, 1) := by decide +kernel
theorem d_Law_law_433 : decode code 433 = .ok (.aload_n 0, 1) := by decide +kernel
theorem d_Law_law_434 : decode code 434 = .ok (.iload 4, 2) := by decide +kernel
theorem d_Law_law_436 : decode code 436 = .ok (.iconst 1, 1) := by decide +kernel
theorem d_Law_law_437 : decode code 437 = .ok (.iadd, 1) := by decide +kernel
theorem d_Law_law_438 : decode code 438 = .ok (.iaload, 1) := by decide +kernel
theorem d_Law_law_439 : decode code 439 = .ok (.aload_n 3, 1) := by decide +kernel
theorem d_Law_law_440 : decode code 440 = .ok (.invokestatic 80, 3) := by decide +kernel
theorem d_Law_law_443 : decode code 443 = .ok (.istore 5, 2) := by decide +kernel
theorem d_Law_law_445 : decode code 445 = .ok (.aload_n 2, 1) := by decide +kernel
theorem d_Law_law_446 : decode code 446 = .ok (.aload_n 0, 1) := by decide +kernel
theorem d_Law_law_447 : decode code 447 = .ok (.iload 4, 2) := by decide +kernel
theorem d_Law_law_449 : decode code 449 = .ok (.iconst 1, 1) := by decide +kernel
theorem d_Law_law_450 : decode code 450 = .ok (.iadd, 1) := by decide +kernel
theorem d_Law_law_451 : decode code 451 = .ok (.iaload, 1) := by decide +kernel
theorem d_Law_law_452 : decode code 452 = .ok (.invokevirtual 82, 3) := by decide +kernel
theorem d_Law_law_455 : decode code 455 = .ok (.istore 6, 2) := by decide +kernel
theorem d_Law_law_457 : decode code 457 = .ok (.aload_n 2, 1) := by decide +kernel
theorem d_Law_law_458 : decode code 458 = .ok (.invokevirtual 55, 3) := by decide +kernel
theorem d_Law_law_461 : decode code 461 = .ok (.iload 5, 2) := by decide +kernel
theorem d_Law_law_463 : decode code 463 = .ok (.if_icmp .eq 5, 3) := by decide +kernel
theorem d_Law_law_466 : decode code 466 = .ok (.iconst 0, 1) := by decide +kernel
theorem d_Law_law_467 : decode code 467 = .ok (.ireturn, 1) := by decide +kernel
theorem d_Law_law_468 : decode code 468 = .ok (.iload 5, 2) := by decide +kernel
theorem d_Law_law_470 : decode code 470 = .ok (.ifCond .ne 15, 3) := by decide +kernel
theorem d_Law_law_473 : decode code 473 = .ok (.aload_n 3, 1) := by decide +kernel
theorem d_Law_law_474 : decode code 474 = .ok (.iconst 0, 1) := by decide +kernel
theorem d_Law_law_475 : decode code 475 = .ok (.laload, 1) := by decide +kernel
theorem d_Law_law_476 : decode code 476 = .ok (.iload 6, 2) := by decide +kernel
theorem d_Law_law_478 : decode code 478 = .ok (.i2l, 1) := by decide +kernel
theorem d_Law_law_479 : decode code 479 = .ok (.lcmp, 1) := by decide +kernel
theorem d_Law_law_480 : decode code 480 = .ok (.ifCond .eq 5, 3) := by decide +kernel
theorem d_Law_law_483 : decode code 483 = .ok (.iconst 0, 1) := by decide +kernel
theorem d_Law_law_484 : decode code 484 = .ok (.ireturn, 1) := by decide +kernel
theorem d_Law_law_485 : decode code 485 = .ok (.goto 449, 3) := by decide +kernel
theorem d_Law_law_488 : decode code 488 = .ok (.aload_n 1, 1) := by decide +kernel
theorem d_Law_law_489 : decode code 489 = .ok (.aload_n 0, 1) := by decide +kernel
theorem d_Law_law_490 : decode code 490 = .ok (.iload 4, 2) := by decide +kernel
theorem d_Law_law_492 : decode code 492 = .ok (.iconst 1, 1) := by decide +kernel
theorem d_Law_law_493 : decode code 493 = .ok (.iadd, 1) := by decide +kernel
theorem d_Law_law_494 : decode code 494 = .ok (.iaload, 1) := by decide +kernel
theorem d_Law_law_495 : decode code 495 = .ok (.aload_n 0, 1) := by decide +kernel
theorem d_Law_law_496 : decode code 496 = .ok (.iload 4, 2) := by decide +kernel
theorem d_Law_law_498 : decode code 498 = .ok (.iconst 2, 1) := by decide +kernel
theorem d_Law_law_499 : decode code 499 = .ok (.iadd, 1) := by decide +kernel
theorem d_Law_law_500 : decode code 500 = .ok (.iaload, 1) := by decide +kernel
theorem d_Law_law_501 : decode code 501 = .ok (.aload_n 3, 1) := by decide +kernel
theorem d_Law_law_502 : decode code 502 = .ok (.invokestatic 83, 3) := by decide +kernel
theorem d_Law_law_505 : decode code 505 = .ok (.istore 5, 2) := by decide +kernel
theorem d_Law_law_507 : decode code 507 = .ok (.aload_n 2, 1) := by decide +kernel
theorem d_Law_law_508 : decode code 508 = .ok (.aload_n 0, 1) := by decide +kernel
theorem d_Law_law_509 : decode code 509 = .ok (.iload 4, 2) := by decide +kernel
theorem d_Law_law_511 : decode code 511 = .ok (.iconst 1, 1) := by decide +kernel
theorem d_Law_law_512 : decode code 512 = .ok (.iadd, 1) := by decide +kernel
theorem d_Law_law_513 : decode code 513 = .ok (.iaload, 1) := by decide +kernel
theorem d_Law_law_514 : decode code 514 = .ok (.aload_n 0, 1) := by decide +kernel
theorem d_Law_law_515 : decode code 515 = .ok (.iload 4, 2) := by decide +kernel
theorem d_Law_law_517 : decode code 517 = .ok (.iconst 2, 1) := by decide +kernel
theorem d_Law_law_518 : decode code 518 = .ok (.iadd, 1) := by decide +kernel
theorem d_Law_law_519 : decode code 519 = .ok (.iaload, 1) := by decide +kernel
theorem d_Law_law_520 : decode code 520 = .ok (.invokevirtual 85, 3) := by decide +kernel
theorem d_Law_law_523 : decode code 523 = .ok (.istore 6, 2) := by decide +kernel
theorem d_Law_law_525 : decode code 525 = .ok (.aload_n 2, 1) := by decide +kernel
theorem d_Law_law_526 : decode code 526 = .ok (.invokevirtual 55, 3) := by decide +kernel
theorem d_Law_law_529 : decode code 529 = .ok (.iload 5, 2) := by decide +kernel
theorem d_Law_law_531 : decode code 531 = .ok (.if_icmp .eq 5, 3) := by decide +kernel
theorem d_Law_law_534 : decode code 534 = .ok (.iconst 0, 1) := by decide +kernel
theorem d_Law_law_535 : decode code 535 = .ok (.ireturn, 1) := by decide +kernel
theorem d_Law_law_536 : decode code 536 = .ok (.iload 5, 2) := by decide +kernel
theorem d_Law_law_538 : decode code 538 = .ok (.ifCond .ne 15, 3) := by decide +kernel
theorem d_Law_law_541 : decode code 541 = .ok (.aload_n 3, 1) := by decide +kernel
theorem d_Law_law_542 : decode code 542 = .ok (.iconst 0, 1) := by decide +kernel
theorem d_Law_law_543 : decode code 543 = .ok (.laload, 1) := by decide +kernel
theorem d_Law_law_544 : decode code 544 = .ok (.iload 6, 2) := by decide +kernel
theorem d_Law_law_546 : decode code 546 = .ok (.i2l, 1) := by decide +kernel
theorem d_Law_law_547 : decode code 547 = .ok (.lcmp, 1) := by decide +kernel
theorem d_Law_law_548 : decode code 548 = .ok (.ifCond .eq 5, 3) := by decide +kernel
theorem d_Law_law_551 : decode code 551 = .ok (.iconst 0, 1) := by decide +kernel
theorem d_Law_law_552 : decode code 552 = .ok (.ireturn, 1) := by decide +kernel
theorem d_Law_law_553 : decode code 553 = .ok (.goto 381, 3) := by decide +kernel
theorem d_Law_law_556 : decode code 556 = .ok (.aload_n 1, 1) := by decide +kernel
theorem d_Law_law_557 : decode code 557 = .ok (.aload_n 0, 1) := by decide +kernel
theorem d_Law_law_558 : decode code 558 = .ok (.iload 4, 2) := by decide +kernel
theorem d_Law_law_560 : decode code 560 = .ok (.iconst 1, 1) := by decide +kernel
theorem d_Law_law_561 : decode code 561 = .ok (.iadd, 1) := by decide +kernel
theorem d_Law_law_562 : decode code 562 = .ok (.iaload, 1) := by decide +kernel
theorem d_Law_law_563 : decode code 563 = .ok (.aload_n 0, 1) := by decide +kernel
theorem d_Law_law_564 : decode code 564 = .ok (.iload 4, 2) := by decide +kernel
theorem d_Law_law_566 : decode code 566 = .ok (.iconst 2, 1) := by decide +kernel
theorem d_Law_law_567 : decode code 567 = .ok (.iadd, 1) := by decide +kernel
theorem d_Law_law_568 : decode code 568 = .ok (.iaload, 1) := by decide +kernel
theorem d_Law_law_569 : decode code 569 = .ok (.aload_n 3, 1) := by decide +kernel
theorem d_Law_law_570 : decode code 570 = .ok (.invokestatic 86, 3) := by decide +kernel
theorem d_Law_law_573 : decode code 573 = .ok (.istore 5, 2) := by decide +kernel
theorem d_Law_law_575 : decode code 575 = .ok (.aload_n 2, 1) := by decide +kernel
theorem d_Law_law_576 : decode code 576 = .ok (.aload_n 0, 1) := by decide +kernel
theorem d_Law_law_577 : decode code 577 = .ok (.iload 4, 2) := by decide +kernel
theorem d_Law_law_579 : decode code 579 = .ok (.iconst 1, 1) := by decide +kernel
theorem d_Law_law_580 : decode code 580 = .ok (.iadd, 1) := by decide +kernel
theorem d_Law_law_581 : decode code 581 = .ok (.iaload, 1) := by decide +kernel
theorem d_Law_law_582 : decode code 582 = .ok (.aload_n 0, 1) := by decide +kernel
theorem d_Law_law_583 : decode code 583 = .ok (.iload 4, 2) := by decide +kernel
theorem d_Law_law_585 : decode code 585 = .ok (.iconst 2, 1) := by decide +kernel
theorem d_Law_law_586 : decode code 586 = .ok (.iadd, 1) := by decide +kernel
theorem d_Law_law_587 : decode code 587 = .ok (.iaload, 1) := by decide +kernel
theorem d_Law_law_588 : decode code 588 = .ok (.invokevirtual 88, 3) := by decide +kernel
theorem d_Law_law_591 : decode code 591 = .ok (.istore 6, 2) := by decide +kernel
theorem d_Law_law_593 : decode code 593 = .ok (.aload_n 2, 1) := by decide +kernel
theorem d_Law_law_594 : decode code 594 = .ok (.invokevirtual 55, 3) := by decide +kernel
theorem d_Law_law_597 : decode code 597 = .ok (.iload 5, 2) := by decide +kernel
theorem d_Law_law_599 : decode code 599 = .ok (.if_icmp .eq 5, 3) := by decide +kernel
theorem d_Law_law_602 : decode code 602 = .ok (.iconst 0, 1) := by decide +kernel
theorem d_Law_law_603 : decode code 603 = .ok (.ireturn, 1) := by decide +kernel
theorem d_Law_law_604 : decode code 604 = .ok (.iload 5, 2) := by decide +kernel
theorem d_Law_law_606 : decode code 606 = .ok (.ifCond .ne 15, 3) := by decide +kernel
theorem d_Law_law_609 : decode code 609 = .ok (.aload_n 3, 1) := by decide +kernel
theorem d_Law_law_610 : decode code 610 = .ok (.iconst 0, 1) := by decide +kernel
theorem d_Law_law_611 : decode code 611 = .ok (.laload, 1) := by decide +kernel
theorem d_Law_law_612 : decode code 612 = .ok (.iload 6, 2) := by decide +kernel
theorem d_Law_law_614 : decode code 614 = .ok (.i2l, 1) := by decide +kernel
theorem d_Law_law_615 : decode code 615 = .ok (.lcmp, 1) := by decide +kernel
theorem d_Law_law_616 : decode code 616 = .ok (.ifCond .eq 5, 3) := by decide +kernel
theorem d_Law_law_619 : decode code 619 = .ok (.iconst 0, 1) := by decide +kernel
theorem d_Law_law_620 : decode code 620 = .ok (.ireturn, 1) := by decide +kernel
theorem d_Law_law_621 : decode code 621 = .ok (.goto 313, 3) := by decide +kernel
theorem d_Law_law_624 : decode code 624 = .ok (.aload_n 1, 1) := by decide +kernel
theorem d_Law_law_625 : decode code 625 = .ok (.aload_n 0, 1) := by decide +kernel
theorem d_Law_law_626 : decode code 626 = .ok (.iload 4, 2) := by decide +kernel
theorem d_Law_law_628 : decode code 628 = .ok (.iconst 1, 1) := by decide +kernel
theorem d_Law_law_629 : decode code 629 = .ok (.iadd, 1) := by decide +kernel
theorem d_Law_law_630 : decode code 630 = .ok (.iaload, 1) := by decide +kernel
theorem d_Law_law_631 : decode code 631 = .ok (.i2l, 1) := by decide +kernel
theorem d_Law_law_632 : decode code 632 = .ok (.bipush 32, 2) := by decide +kernel
theorem d_Law_law_634 : decode code 634 = .ok (.lshl, 1) := by decide +kernel
theorem d_Law_law_635 : decode code 635 = .ok (.aload_n 0, 1) := by decide +kernel
theorem d_Law_law_636 : decode code 636 = .ok (.iload 4, 2) := by decide +kernel
theorem d_Law_law_638 : decode code 638 = .ok (.iconst 2, 1) := by decide +kernel
theorem d_Law_law_639 : decode code 639 = .ok (.iadd, 1) := by decide +kernel
theorem d_Law_law_640 : decode code 640 = .ok (.iaload, 1) := by decide +kernel
theorem d_Law_law_641 : decode code 641 = .ok (.i2l, 1) := by decide +kernel
theorem d_Law_law_642 : decode code 642 = .ok (.ldc2_w 47, 3) := by decide +kernel
theorem d_Law_law_645 : decode code 645 = .ok (.land, 1) := by decide +kernel
theorem d_Law_law_646 : decode code 646 = .ok (.lor, 1) := by decide +kernel
theorem d_Law_law_647 : decode code 647 = .ok (.aload_n 0, 1) := by decide +kernel
theorem d_Law_law_648 : decode code 648 = .ok (.iload 4, 2) := by decide +kernel
theorem d_Law_law_650 : decode code 650 = .ok (.iconst 3, 1) := by decide +kernel
theorem d_Law_law_651 : decode code 651 = .ok (.iadd, 1) := by decide +kernel
theorem d_Law_law_652 : decode code 652 = .ok (.iaload, 1) := by decide +kernel
theorem d_Law_law_653 : decode code 653 = .ok (.i2l, 1) := by decide +kernel
theorem d_Law_law_654 : decode code 654 = .ok (.bipush 32, 2) := by decide +kernel
theorem d_Law_law_656 : decode code 656 = .ok (.lshl, 1) := by decide +kernel
theorem d_Law_law_657 : decode code 657 = .ok (.aload_n 0, 1) := by decide +kernel
theorem d_Law_law_658 : decode code 658 = .ok (.iload 4, 2) := by decide +kernel
theorem d_Law_law_660 : decode code 660 = .ok (.iconst 4, 1) := by decide +kernel
theorem d_Law_law_661 : decode code 661 = .ok (.iadd, 1) := by decide +kernel
theorem d_Law_law_662 : decode code 662 = .ok (.iaload, 1) := by decide +kernel
theorem d_Law_law_663 : decode code 663 = .ok (.i2l, 1) := by decide +kernel
theorem d_Law_law_664 : decode code 664 = .ok (.ldc2_w 47, 3) := by decide +kernel
theorem d_Law_law_667 : decode code 667 = .ok (.land, 1) := by decide +kernel
theorem d_Law_law_668 : decode code 668 = .ok (.lor, 1) := by decide +kernel
