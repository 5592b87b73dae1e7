theorem dL_acts_339 : decode cL_acts 339 = .ok (.iconst 3, 1) := by decide +kernel
theorem dL_acts_340 : decode cL_acts 340 = .ok (.invokestatic 127, 3) := by decide +kernel
theorem dL_acts_343 : decode cL_acts 343 = .ok (.istore 7, 2) := by decide +kernel
theorem dL_acts_345 : decode cL_acts 345 = .ok (.aload_n 3, 1) := by decide +kernel
theorem dL_acts_346 : decode cL_acts 346 = .ok (.iconst 3, 1) := by decide +kernel
theorem dL_acts_347 : decode cL_acts 347 = .ok (.iaload, 1) := by decide +kernel
theorem dL_acts_348 : decode cL_acts 348 = .ok (.bipush 6, 2) := by decide +kernel
theorem dL_acts_350 : decode cL_acts 350 = .ok (.if_icmp .ge 9, 3) := by decide +kernel
theorem dL_acts_353 : decode cL_acts 353 = .ok (.aload_n 3, 1) := by decide +kernel
theorem dL_acts_354 : decode cL_acts 354 = .ok (.iconst 3, 1) := by decide +kernel
theorem dL_acts_355 : decode cL_acts 355 = .ok (.iaload, 1) := by decide +kernel
theorem dL_acts_356 : decode cL_acts 356 = .ok (.goto 5, 3) := by decide +kernel
theorem dL_acts_359 : decode cL_acts 359 = .ok (.bipush 6, 2) := by decide +kernel
theorem dL_acts_361 : decode cL_acts 361 = .ok (.istore 8, 2) := by decide +kernel
theorem dL_acts_363 : decode cL_acts 363 = .ok (.aload_n 0, 1) := by decide +kernel
theorem dL_acts_364 : decode cL_acts 364 = .ok (.aload_n 3, 1) := by decide +kernel
theorem dL_acts_365 : decode cL_acts 365 = .ok (.iconst 5, 1) := by decide +kernel
theorem dL_acts_366 : decode cL_acts 366 = .ok (.iaload, 1) := by decide +kernel
theorem dL_acts_367 : decode cL_acts 367 = .ok (.invokestatic 101, 3) := by decide +kernel
theorem dL_acts_370 : decode cL_acts 370 = .ok (.istore 9, 2) := by decide +kernel
theorem dL_acts_372 : decode cL_acts 372 = .ok (.aload_n 0, 1) := by decide +kernel
theorem dL_acts_373 : decode cL_acts 373 = .ok (.aload_n 3, 1) := by decide +kernel
theorem dL_acts_374 : decode cL_acts 374 = .ok (.bipush 6, 2) := by decide +kernel
theorem dL_acts_376 : decode cL_acts 376 = .ok (.iaload, 1) := by decide +kernel
theorem dL_acts_377 : decode cL_acts 377 = .ok (.invokestatic 101, 3) := by decide +kernel
theorem dL_acts_380 : decode cL_acts 380 = .ok (.istore 10, 2) := by decide +kernel
theorem dL_acts_382 : decode cL_acts 382 = .ok (.aload_n 0, 1) := by decide +kernel
theorem dL_acts_383 : decode cL_acts 383 = .ok (.invokevirtual 105, 3) := by decide +kernel
theorem dL_acts_386 : decode cL_acts 386 = .ok (.istore 11, 2) := by decide +kernel
theorem dL_acts_388 : decode cL_acts 388 = .ok (.bipush 6, 2) := by decide +kernel
theorem dL_acts_390 : decode cL_acts 390 = .ok (.newarray .int, 2) := by decide +kernel
theorem dL_acts_392 : decode cL_acts 392 = .ok (.astore 12, 2) := by decide +kernel
theorem dL_acts_394 : decode cL_acts 394 = .ok (.iconst 0, 1) := by decide +kernel
theorem dL_acts_395 : decode cL_acts 395 = .ok (.istore 13, 2) := by decide +kernel
theorem dL_acts_397 : decode cL_acts 397 = .ok (.iload 13, 2) := by decide +kernel
theorem dL_acts_399 : decode cL_acts 399 = .ok (.iload 8, 2) := by decide +kernel
theorem dL_acts_401 : decode cL_acts 401 = .ok (.if_icmp .ge 58, 3) := by decide +kernel
theorem dL_acts_404 : decode cL_acts 404 = .ok (.aload_n 3, 1) := by decide +kernel
theorem dL_acts_405 : decode cL_acts 405 = .ok (.iconst 4, 1) := by decide +kernel
theorem dL_acts_406 : decode cL_acts 406 = .ok (.iaload, 1) := by decide +kernel
theorem dL_acts_407 : decode cL_acts 407 = .ok (.iconst 1, 1) := by decide +kernel
theorem dL_acts_408 : decode cL_acts 408 = .ok (.iconst 2, 1) := by decide +kernel
theorem dL_acts_409 : decode cL_acts 409 = .ok (.iload 13, 2) := by decide +kernel
theorem dL_acts_411 : decode cL_acts 411 = .ok (.imul, 1) := by decide +kernel
theorem dL_acts_412 : decode cL_acts 412 = .ok (.iconst 2, 1) := by decide +kernel
theorem dL_acts_413 : decode cL_acts 413 = .ok (.iadd, 1) := by decide +kernel
theorem dL_acts_414 : decode cL_acts 414 = .ok (.ishl, 1) := by decide +kernel
theorem dL_acts_415 : decode cL_acts 415 = .ok (.iconst 1, 1) := by decide +kernel
theorem dL_acts_416 : decode cL_acts 416 = .ok (.isub, 1) := by decide +kernel
theorem dL_acts_417 : decode cL_acts 417 = .ok (.iand, 1) := by decide +kernel
theorem dL_acts_418 : decode cL_acts 418 = .ok (.istore 14, 2) := by decide +kernel
theorem dL_acts_420 : decode cL_acts 420 = .ok (.aload 12, 2) := by decide +kernel
theorem dL_acts_422 : decode cL_acts 422 = .ok (.iload 13, 2) := by decide +kernel
theorem dL_acts_424 : decode cL_acts 424 = .ok (.aload_n 0, 1) := by decide +kernel
theorem dL_acts_425 : decode cL_acts 425 = .ok (.iload 14, 2) := by decide +kernel
theorem dL_acts_427 : decode cL_acts 427 = .ok (.iload 13, 2) := by decide +kernel
theorem dL_acts_429 : decode cL_acts 429 = .ok (.iconst 1, 1) := by decide +kernel
theorem dL_acts_430 : decode cL_acts 430 = .ok (.iadd, 1) := by decide +kernel
theorem dL_acts_431 : decode cL_acts 431 = .ok (.invokestatic 122, 3) := by decide +kernel
theorem dL_acts_434 : decode cL_acts 434 = .ok (.iconst 1, 1) := by decide +kernel
theorem dL_acts_435 : decode cL_acts 435 = .ok (.if_icmp .ne 7, 3) := by decide +kernel
theorem dL_acts_438 : decode cL_acts 438 = .ok (.iconst (-1), 1) := by decide +kernel
theorem dL_acts_439 : decode cL_acts 439 = .ok (.goto 13, 3) := by decide +kernel
theorem dL_acts_442 : decode cL_acts 442 = .ok (.aload_n 0, 1) := by decide +kernel
theorem dL_acts_443 : decode cL_acts 443 = .ok (.iload 14, 2) := by decide +kernel
theorem dL_acts_445 : decode cL_acts 445 = .ok (.iload 13, 2) := by decide +kernel
theorem dL_acts_447 : decode cL_acts 447 = .ok (.iconst 1, 1) := by decide +kernel
theorem dL_acts_448 : decode cL_acts 448 = .ok (.iadd, 1) := by decide +kernel
theorem dL_acts_449 : decode cL_acts 449 = .ok (.invokestatic 116, 3) := by decide +kernel
theorem dL_acts_452 : decode cL_acts 452 = .ok (.iastore, 1) := by decide +kernel
theorem dL_acts_453 : decode cL_acts 453 = .ok (.iinc 13 1, 3) := by decide +kernel
theorem dL_acts_456 : decode cL_acts 456 = .ok (.goto (-59), 3) := by decide +kernel
theorem dL_acts_459 : decode cL_acts 459 = .ok (.aload_n 0, 1) := by decide +kernel
theorem dL_acts_460 : decode cL_acts 460 = .ok (.iconst 3, 1) := by decide +kernel
theorem dL_acts_461 : decode cL_acts 461 = .ok (.invokestatic 143, 3) := by decide +kernel
theorem dL_acts_464 : decode cL_acts 464 = .ok (.ldc 18, 2) := by decide +kernel
theorem dL_acts_466 : decode cL_acts 466 = .ok (.if_icmp .ne 88, 3) := by decide +kernel
theorem dL_acts_469 : decode cL_acts 469 = .ok (.aload_n 0, 1) := by decide +kernel
theorem dL_acts_470 : decode cL_acts 470 = .ok (.iload 7, 2) := by decide +kernel
theorem dL_acts_472 : decode cL_acts 472 = .ok (.invokestatic 143, 3) := by decide +kernel
theorem dL_acts_475 : decode cL_acts 475 = .ok (.iload 11, 2) := by decide +kernel
theorem dL_acts_477 : decode cL_acts 477 = .ok (.iadd, 1) := by decide +kernel
theorem dL_acts_478 : decode cL_acts 478 = .ok (.aload_n 0, 1) := by decide +kernel
theorem dL_acts_479 : decode cL_acts 479 = .ok (.invokevirtual 105, 3) := by decide +kernel
theorem dL_acts_482 : decode cL_acts 482 = .ok (.if_icmp .ne 72, 3) := by decide +kernel
theorem dL_acts_485 : decode cL_acts 485 = .ok (.aload_n 0, 1) := by decide +kernel
theorem dL_acts_486 : decode cL_acts 486 = .ok (.iload 7, 2) := by decide +kernel
theorem dL_acts_488 : decode cL_acts 488 = .ok (.invokestatic 143, 3) := by decide +kernel
theorem dL_acts_491 : decode cL_acts 491 = .ok (.ldc 32, 2) := by decide +kernel
theorem dL_acts_493 : decode cL_acts 493 = .ok (.if_icmp .ne 61, 3) := by decide +kernel
theorem dL_acts_496 : decode cL_acts 496 = .ok (.aload_n 0, 1) := by decide +kernel
theorem dL_acts_497 : decode cL_acts 497 = .ok (.invokevirtual 133, 3) := by decide +kernel
theorem dL_acts_500 : decode cL_acts 500 = .ok (.iconst (-1), 1) := by decide +kernel
theorem dL_acts_501 : decode cL_acts 501 = .ok (.if_icmp .ne 53, 3) := by decide +kernel
theorem dL_acts_504 : decode cL_acts 504 = .ok (.aload_n 0, 1) := by decide +kernel
theorem dL_acts_505 : decode cL_acts 505 = .ok (.aload_n 3, 1) := by decide +kernel
theorem dL_acts_506 : decode cL_acts 506 = .ok (.iconst 5, 1) := by decide +kernel
theorem dL_acts_507 : decode cL_acts 507 = .ok (.iaload, 1) := by decide +kernel
theorem dL_acts_508 : decode cL_acts 508 = .ok (.invokestatic 101, 3) := by decide +kernel
theorem dL_acts_511 : decode cL_acts 511 = .ok (.iload 9, 2) := by decide +kernel
theorem dL_acts_513 : decode cL_acts 513 = .ok (.iload 7, 2) := by decide +kernel
theorem dL_acts_515 : decode cL_acts 515 = .ok (.iadd, 1) := by decide +kernel
theorem dL_acts_516 : decode cL_acts 516 = .ok (.if_icmp .ne 38, 3) := by decide +kernel
theorem dL_acts_519 : decode cL_acts 519 = .ok (.aload_n 0, 1) := by decide +kernel
theorem dL_acts_520 : decode cL_acts 520 = .ok (.aload_n 3, 1) := by decide +kernel
theorem dL_acts_521 : decode cL_acts 521 = .ok (.bipush 6, 2) := by decide +kernel
theorem dL_acts_523 : decode cL_acts 523 = .ok (.iaload, 1) := by decide +kernel
theorem dL_acts_524 : decode cL_acts 524 = .ok (.invokestatic 101, 3) := by decide +kernel
theorem dL_acts_527 : decode cL_acts 527 = .ok (.iload 10, 2) := by decide +kernel
theorem dL_acts_529 : decode cL_acts 529 = .ok (.iconst 2, 1) := by decide +kernel
theorem dL_acts_530 : decode cL_acts 530 = .ok (.iadd, 1) := by decide +kernel
theorem dL_acts_531 : decode cL_acts 531 = .ok (.iload 7, 2) := by decide +kernel
theorem dL_acts_533 : decode cL_acts 533 = .ok (.isub, 1) := by decide +kernel
theorem dL_acts_534 : decode cL_acts 534 = .ok (.if_icmp .ne 20, 3) := by decide +kernel
theorem dL_acts_537 : decode cL_acts 537 = .ok (.aload_n 0, 1) := by decide +kernel
theorem dL_acts_538 : decode cL_acts 538 = .ok (.invokevirtual 105, 3) := by decide +kernel
theorem dL_acts_541 : decode cL_acts 541 = .ok (.iload 11, 2) := by decide +kernel
theorem dL_acts_543 : decode cL_acts 543 = .ok (.isub, 1) := by decide +kernel
theorem dL_acts_544 : decode cL_acts 544 = .ok (.aload_n 3, 1) := by decide +kernel
theorem dL_acts_545 : decode cL_acts 545 = .ok (.iconst 3, 1) := by decide +kernel
theorem dL_acts_546 : decode cL_acts 546 = .ok (.iaload, 1) := by decide +kernel
theorem dL_acts_547 : decode cL_acts 547 = .ok (.if_icmp .gt 7, 3) := by decide +kernel
theorem dL_acts_550 : decode cL_acts 550 = .ok (.iconst 1, 1) := by decide +kernel
theorem dL_acts_551 : decode cL_acts 551 = .ok (.goto 4, 3) := by decide +kernel
theorem dL_acts_554 : decode cL_acts 554 = .ok (.iconst 0, 1) := by decide +kernel
theorem dL_acts_555 : decode cL_acts 555 = .ok (.istore 13, 2) := by decide +kernel
theorem dL_acts_557 : decode cL_acts 557 = .ok (.aload_n 3, 1) := by decide +kernel
theorem dL_acts_558 : decode cL_acts 558 = .ok (.iconst 2, 1) := by decide +kernel
theorem dL_acts_559 : decode cL_acts 559 = .ok (.iconst 0, 1) := by decide +kernel
theorem dL_acts_560 : decode cL_acts 560 = .ok (.iastore, 1) := by decide +kernel
theorem dL_acts_561 : decode cL_acts 561 = .ok (.aload_n 3, 1) := by decide +kernel
theorem dL_acts_562 : decode cL_acts 562 = .ok (.iconst 1, 1) := by decide +kernel
theorem dL_acts_563 : decode cL_acts 563 = .ok (.dup2, 1) := by decide +kernel
theorem dL_acts_564 : decode cL_acts 564 = .ok (.iaload, 1) := by decide +kernel
theorem dL_acts_565 : decode cL_acts 565 = .ok (.iconst 1, 1) := by decide +kernel
theorem dL_acts_566 : decode cL_acts 566 = .ok (.iadd, 1) := by decide +kernel
theorem dL_acts_567 : decode cL_acts 567 = .ok (.iastore, 1) := by decide +kernel
theorem dL_acts_568 : decode cL_acts 568 = .ok (.aload_n 2, 1) := by decide +kernel
theorem dL_acts_569 : decode cL_acts 569 = .ok (.aload_n 3, 1) := by decide +kernel
theorem dL_acts_570 : decode cL_acts 570 = .ok (.iconst 5, 1) := by decide +kernel
theorem dL_acts_571 : decode cL_acts 571 = .ok (.iaload, 1) := by decide +kernel
theorem dL_acts_572 : decode cL_acts 572 = .ok (.dup2, 1) := by decide +kernel
theorem dL_acts_573 : decode cL_acts 573 = .ok (.iaload, 1) := by decide +kernel
theorem dL_acts_574 : decode cL_acts 574 = .ok (.iconst 1, 1) := by decide +kernel
theorem dL_acts_575 : decode cL_acts 575 = .ok (.iadd, 1) := by decide +kernel
theorem dL_acts_576 : decode cL_acts 576 = .ok (.iastore, 1) := by decide +kernel
theorem dL_acts_577 : decode cL_acts 577 = .ok (.aload_n 2, 1) := by decide +kernel
theorem dL_acts_578 : decode cL_acts 578 = .ok (.aload_n 3, 1) := by decide +kernel
theorem dL_acts_579 : decode cL_acts 579 = .ok (.bipush 6, 2) := by decide +kernel
theorem dL_acts_581 : decode cL_acts 581 = .ok (.iaload, 1) := by decide +kernel
theorem dL_acts_582 : decode cL_acts 582 = .ok (.dup2, 1) := by decide +kernel
theorem dL_acts_583 : decode cL_acts 583 = .ok (.iaload, 1) := by decide +kernel
theorem dL_acts_584 : decode cL_acts 584 = .ok (.iconst 1, 1) := by decide +kernel
theorem dL_acts_585 : decode cL_acts 585 = .ok (.isub, 1) := by decide +kernel
theorem dL_acts_586 : decode cL_acts 586 = .ok (.iastore, 1) := by decide +kernel
theorem dL_acts_587 : decode cL_acts 587 = .ok (.iconst 0, 1) := by decide +kernel
theorem dL_acts_588 : decode cL_acts 588 = .ok (.istore 14, 2) := by decide +kernel
theorem dL_acts_590 : decode cL_acts 590 = .ok (.iload 14, 2) := by decide +kernel
theorem dL_acts_592 : decode cL_acts 592 = .ok (.iload 8, 2) := by decide +kernel
theorem dL_acts_594 : decode cL_acts 594 = .ok (.if_icmp .ge 78, 3) := by decide +kernel
theorem dL_acts_597 : decode cL_acts 597 = .ok (.aload_n 3, 1) := by decide +kernel
theorem dL_acts_598 : decode cL_acts 598 = .ok (.iconst 4, 1) := by decide +kernel
theorem dL_acts_599 : decode cL_acts 599 = .ok (.iaload, 1) := by decide +kernel
theorem dL_acts_600 : decode cL_acts 600 = .ok (.iconst 1, 1) := by decide +kernel
theorem dL_acts_601 : decode cL_acts 601 = .ok (.iconst 2, 1) := by decide +kernel
theorem dL_acts_602 : decode cL_acts 602 = .ok (.iload 14, 2) := by decide +kernel
theorem dL_acts_604 : decode cL_acts 604 = .ok (.imul, 1) := by decide +kernel
theorem dL_acts_605 : decode cL_acts 605 = .ok (.iconst 2, 1) := by decide +kernel
theorem dL_acts_606 : decode cL_acts 606 = .ok (.iadd, 1) := by decide +kernel
theorem dL_acts_607 : decode cL_acts 607 = .ok (.ishl, 1) := by decide +kernel
theorem dL_acts_608 : decode cL_acts 608 = .ok (.iconst 1, 1) := by decide +kernel
theorem dL_acts_609 : decode cL_acts 609 = .ok (.isub, 1) := by decide +kernel
theorem dL_acts_610 : decode cL_acts 610 = .ok (.iand, 1) := by decide +kernel
theorem dL_acts_611 : decode cL_acts 611 = .ok (.istore 15, 2) := by decide +kernel
theorem dL_acts_613 : decode cL_acts 613 = .ok (.iload 13, 2) := by decide +kernel
theorem dL_acts_615 : decode cL_acts 615 = .ok (.ifCond .eq 48, 3) := by decide +kernel
theorem dL_acts_618 : decode cL_acts 618 = .ok (.aload 12, 2) := by decide +kernel
theorem dL_acts_620 : decode cL_acts 620 = .ok (.iload 14, 2) := by decide +kernel
theorem dL_acts_622 : decode cL_acts 622 = .ok (.iaload, 1) := by decide +kernel
theorem dL_acts_623 : decode cL_acts 623 = .ok (.ifCond .lt 23, 3) := by decide +kernel
theorem dL_acts_626 : decode cL_acts 626 = .ok (.aload_n 0, 1) := by decide +kernel
theorem dL_acts_627 : decode cL_acts 627 = .ok (.iload 15, 2) := by decide +kernel
theorem dL_acts_629 : decode cL_acts 629 = .ok (.iload 14, 2) := by decide +kernel
theorem dL_acts_631 : decode cL_acts 631 = .ok (.iconst 1, 1) := by decide +kernel
theorem dL_acts_632 : decode cL_acts 632 = .ok (.iadd, 1) := by decide +kernel
theorem dL_acts_633 : decode cL_acts 633 = .ok (.invokestatic 116, 3) := by decide +kernel
theorem dL_acts_636 : decode cL_acts 636 = .ok (.aload 12, 2) := by decide +kernel
theorem dL_acts_638 : decode cL_acts 638 = .ok (.iload 14, 2) := by decide +kernel
theorem dL_acts_640 : decode cL_acts 640 = .ok (.iaload, 1) := by decide +kernel
theorem dL_acts_641 : decode cL_acts 641 = .ok (.iconst 1, 1) := by decide +kernel
theorem dL_acts_642 : decode cL_acts 642 = .ok (.iadd, 1) := by decide +kernel
theorem dL_acts_643 : decode cL_acts 643 = .ok (.if_icmp .ne 20, 3) := by decide +kernel
theorem dL_acts_646 : decode cL_acts 646 = .ok (.aload_n 0, 1) := by decide +kernel
theorem dL_acts_647 : decode cL_acts 647 = .ok (.iload 15, 2) := by decide +kernel
theorem dL_acts_649 : decode cL_acts 649 = .ok (.iload 14, 2) := by decide +kernel
theorem dL_acts_651 : decode cL_acts 651 = .ok (.iconst 1, 1) := by decide +kernel
theorem dL_acts_652 : decode cL_acts 652 = .ok (.iadd, 1) := by decide +kernel
theorem dL_acts_653 : decode cL_acts 653 = .ok (.invokestatic 145, 3) := by decide +kernel
theorem dL_acts_656 : decode cL_acts 656 = .ok (.ifCond .eq 7, 3) := by decide +kernel
theorem dL_acts_659 : decode cL_acts 659 = .ok (.iconst 1, 1) := by decide +kernel
theorem dL_acts_660 : decode cL_acts 660 = .ok (.goto 4, 3) := by decide +kernel
theorem dL_acts_663 : decode cL_acts 663 = .ok (.iconst 0, 1) := by decide +kernel
theorem dL_acts_664 : decode cL_acts 664 = .ok (.istore 13, 2) := by decide +kernel
theorem dL_acts_666 : decode cL_acts 666 = .ok (.iinc 14 1, 3) := by decide +kernel
theorem dL_acts_669 : decode cL_acts 669 = .ok (.goto (-79), 3) := by decide +kernel
theorem dL_acts_672 : decode cL_acts 672 = .ok (.iload 13, 2) := by decide +kernel
theorem dL_acts_674 : decode cL_acts 674 = .ok (.ifCond .eq 17, 3) := by decide +kernel
theorem dL_acts_677 : decode cL_acts 677 = .ok (.aload_n 0, 1) := by decide +kernel
theorem dL_acts_678 : decode cL_acts 678 = .ok (.invokevirtual 149, 3) := by decide +kernel
theorem dL_acts_681 : decode cL_acts 681 = .ok (.aload_n 3, 1) := by decide +kernel
theorem dL_acts_682 : decode cL_acts 682 = .ok (.iconst 1, 1) := by decide +kernel
theorem dL_acts_683 : decode cL_acts 683 = .ok (.iaload, 1) := by decide +kernel
theorem dL_acts_684 : decode cL_acts 684 = .ok (.if_icmp .ne 7, 3) := by decide +kernel
theorem dL_acts_687 : decode cL_acts 687 = .ok (.iconst 1, 1) := by decide +kernel
theorem dL_acts_688 : decode cL_acts 688 = .ok (.goto 4, 3) := by decide +kernel
theorem dL_acts_691 : decode cL_acts 691 = .ok (.iconst 0, 1) := by decide +kernel
theorem dL_acts_692 : decode cL_acts 692 = .ok (.ireturn, 1) := by decide +kernel
theorem dL_acts_693 : decode cL_acts 693 = .ok (.iload 6, 2) := by decide +kernel
theorem dL_acts_695 : decode cL_acts 695 = .ok (.bipush 13, 2) := by decide +kernel
theorem dL_acts_697 : decode cL_acts 697 = .ok (.if_icmp .ge 162, 3) := by decide +kernel
