theorem d_L_law_376 : decode code 376 = .ok (.iload 5, 2) := by decide +kernel
theorem d_L_law_378 : decode code 378 = .ok (.ifCond .ne 15, 3) := by decide +kernel
theorem d_L_law_381 : decode code 381 = .ok (.aload_n 3, 1) := by decide +kernel
theorem d_L_law_382 : decode code 382 = .ok (.iconst 0, 1) := by decide +kernel
theorem d_L_law_383 : decode code 383 = .ok (.laload, 1) := by decide +kernel
theorem d_L_law_384 : decode code 384 = .ok (.iload 6, 2) := by decide +kernel
theorem d_L_law_386 : decode code 386 = .ok (.i2l, 1) := by decide +kernel
theorem d_L_law_387 : decode code 387 = .ok (.lcmp, 1) := by decide +kernel
theorem d_L_law_388 : decode code 388 = .ok (.ifCond .eq 5, 3) := by decide +kernel
theorem d_L_law_391 : decode code 391 = .ok (.iconst 0, 1) := by decide +kernel
theorem d_L_law_392 : decode code 392 = .ok (.ireturn, 1) := by decide +kernel
theorem d_L_law_393 : decode code 393 = .ok (.goto 336, 3) := by decide +kernel
theorem d_L_law_396 : decode code 396 = .ok (.aload_n 1, 1) := by decide +kernel
theorem d_L_law_397 : decode code 397 = .ok (.aload_n 0, 1) := by decide +kernel
theorem d_L_law_398 : decode code 398 = .ok (.iload 4, 2) := by decide +kernel
theorem d_L_law_400 : decode code 400 = .ok (.iconst 1, 1) := by decide +kernel
theorem d_L_law_401 : decode code 401 = .ok (.iadd, 1) := by decide +kernel
theorem d_L_law_402 : decode code 402 = .ok (.iaload, 1) := by decide +kernel
theorem d_L_law_403 : decode code 403 = .ok (.aload_n 3, 1) := by decide +kernel
theorem d_L_law_404 : decode code 404 = .ok (.invokestatic 71, 3) := by decide +kernel
theorem d_L_law_407 : decode code 407 = .ok (.istore 5, 2) := by decide +kernel
theorem d_L_law_409 : decode code 409 = .ok (.aload_n 2, 1) := by decide +kernel
theorem d_L_law_410 : decode code 410 = .ok (.aload_n 0, 1) := by decide +kernel
theorem d_L_law_411 : decode code 411 = .ok (.iload 4, 2) := by decide +kernel
theorem d_L_law_413 : decode code 413 = .ok (.iconst 1, 1) := by decide +kernel
theorem d_L_law_414 : decode code 414 = .ok (.iadd, 1) := by decide +kernel
theorem d_L_law_415 : decode code 415 = .ok (.iaload, 1) := by decide +kernel
theorem d_L_law_416 : decode code 416 = .ok (.invokevirtual 74, 3) := by decide +kernel
theorem d_L_law_419 : decode code 419 = .ok (.istore 6, 2) := by decide +kernel
theorem d_L_law_421 : decode code 421 = .ok (.aload_n 2, 1) := by decide +kernel
theorem d_L_law_422 : decode code 422 = .ok (.invokevirtual 59, 3) := by decide +kernel
theorem d_L_law_425 : decode code 425 = .ok (.iload 5, 2) := by decide +kernel
theorem d_L_law_427 : decode code 427 = .ok (.if_icmp .eq 5, 3) := by decide +kernel
theorem d_L_law_430 : decode code 430 = .ok (.iconst 0, 1) := by decide +kernel
theorem d_L_law_431 : decode code 431 = .ok (.ireturn, 1) := by decide +kernel
theorem d_L_law_432 : decode code 432 = .ok (.iload 5, 2) := by decide +kernel
theorem d_L_law_434 : decode code 434 = .ok (.ifCond .ne 15, 3) := by decide +kernel
theorem d_L_law_437 : decode code 437 = .ok (.aload_n 3, 1) := by decide +kernel
theorem d_L_law_438 : decode code 438 = .ok (.iconst 0, 1) := by decide +kernel
theorem d_L_law_439 : decode code 439 = .ok (.laload, 1) := by decide +kernel
theorem d_L_law_440 : decode code 440 = .ok (.iload 6, 2) := by decide +kernel
theorem d_L_law_442 : decode code 442 = .ok (.i2l, 1) := by decide +kernel
theorem d_L_law_443 : decode code 443 = .ok (.lcmp, 1) := by decide +kernel
theorem d_L_law_444 : decode code 444 = .ok (.ifCond .eq 5, 3) := by decide +kernel
theorem d_L_law_447 : decode code 447 = .ok (.iconst 0, 1) := by decide +kernel
theorem d_L_law_448 : decode code 448 = .ok (.ireturn, 1) := by decide +kernel
theorem d_L_law_449 : decode code 449 = .ok (.goto 280, 3) := by decide +kernel
theorem d_L_law_452 : decode code 452 = .ok (.aload_n 1, 1) := by decide +kernel
theorem d_L_law_453 : decode code 453 = .ok (.aload_n 0, 1) := by decide +kernel
theorem d_L_law_454 : decode code 454 = .ok (.iload 4, 2) := by decide +kernel
theorem d_L_law_456 : decode code 456 = .ok (.iconst 1, 1) := by decide +kernel
theorem d_L_law_457 : decode code 457 = .ok (.iadd, 1) := by decide +kernel
theorem d_L_law_458 : decode code 458 = .ok (.iaload, 1) := by decide +kernel
theorem d_L_law_459 : decode code 459 = .ok (.ifCond .eq 7, 3) := by decide +kernel
theorem d_L_law_462 : decode code 462 = .ok (.iconst 1, 1) := by decide +kernel
theorem d_L_law_463 : decode code 463 = .ok (.goto 4, 3) := by decide +kernel
theorem d_L_law_466 : decode code 466 = .ok (.iconst 0, 1) := by decide +kernel
theorem d_L_law_467 : decode code 467 = .ok (.invokevirtual 75, 3) := by decide +kernel
theorem d_L_law_470 : decode code 470 = .ok (.aload_n 2, 1) := by decide +kernel
theorem d_L_law_471 : decode code 471 = .ok (.aload_n 0, 1) := by decide +kernel
theorem d_L_law_472 : decode code 472 = .ok (.iload 4, 2) := by decide +kernel
theorem d_L_law_474 : decode code 474 = .ok (.iconst 1, 1) := by decide +kernel
theorem d_L_law_475 : decode code 475 = .ok (.iadd, 1) := by decide +kernel
theorem d_L_law_476 : decode code 476 = .ok (.iaload, 1) := by decide +kernel
theorem d_L_law_477 : decode code 477 = .ok (.ifCond .eq 7, 3) := by decide +kernel
theorem d_L_law_480 : decode code 480 = .ok (.iconst 1, 1) := by decide +kernel
theorem d_L_law_481 : decode code 481 = .ok (.goto 4, 3) := by decide +kernel
theorem d_L_law_484 : decode code 484 = .ok (.iconst 0, 1) := by decide +kernel
theorem d_L_law_485 : decode code 485 = .ok (.invokevirtual 79, 3) := by decide +kernel
theorem d_L_law_488 : decode code 488 = .ok (.if_icmp .eq 241, 3) := by decide +kernel
theorem d_L_law_491 : decode code 491 = .ok (.iconst 0, 1) := by decide +kernel
theorem d_L_law_492 : decode code 492 = .ok (.ireturn, 1) := by decide +kernel
theorem d_L_law_493 : decode code 493 = .ok (.aload_n 1, 1) := by decide +kernel
theorem d_L_law_494 : decode code 494 = .ok (.aload_n 0, 1) := by decide +kernel
theorem d_L_law_495 : decode code 495 = .ok (.iload 4, 2) := by decide +kernel
theorem d_L_law_497 : decode code 497 = .ok (.iconst 1, 1) := by decide +kernel
theorem d_L_law_498 : decode code 498 = .ok (.iadd, 1) := by decide +kernel
theorem d_L_law_499 : decode code 499 = .ok (.iaload, 1) := by decide +kernel
theorem d_L_law_500 : decode code 500 = .ok (.aload_n 3, 1) := by decide +kernel
theorem d_L_law_501 : decode code 501 = .ok (.invokestatic 80, 3) := by decide +kernel
theorem d_L_law_504 : decode code 504 = .ok (.istore 5, 2) := by decide +kernel
theorem d_L_law_506 : decode code 506 = .ok (.aload_n 2, 1) := by decide +kernel
theorem d_L_law_507 : decode code 507 = .ok (.aload_n 0, 1) := by decide +kernel
theorem d_L_law_508 : decode code 508 = .ok (.iload 4, 2) := by decide +kernel
theorem d_L_law_510 : decode code 510 = .ok (.iconst 1, 1) := by decide +kernel
theorem d_L_law_511 : decode code 511 = .ok (.iadd, 1) := by decide +kernel
theorem d_L_law_512 : decode code 512 = .ok (.iaload, 1) := by decide +kernel
theorem d_L_law_513 : decode code 513 = .ok (.invokevirtual 82, 3) := by decide +kernel
theorem d_L_law_516 : decode code 516 = .ok (.istore 6, 2) := by decide +kernel
theorem d_L_law_518 : decode code 518 = .ok (.aload_n 2, 1) := by decide +kernel
theorem d_L_law_519 : decode code 519 = .ok (.invokevirtual 59, 3) := by decide +kernel
theorem d_L_law_522 : decode code 522 = .ok (.iload 5, 2) := by decide +kernel
theorem d_L_law_524 : decode code 524 = .ok (.if_icmp .eq 5, 3) := by decide +kernel
theorem d_L_law_527 : decode code 527 = .ok (.iconst 0, 1) := by decide +kernel
theorem d_L_law_528 : decode code 528 = .ok (.ireturn, 1) := by decide +kernel
theorem d_L_law_529 : decode code 529 = .ok (.iload 5, 2) := by decide +kernel
theorem d_L_law_531 : decode code 531 = .ok (.ifCond .ne 15, 3) := by decide +kernel
theorem d_L_law_534 : decode code 534 = .ok (.aload_n 3, 1) := by decide +kernel
theorem d_L_law_535 : decode code 535 = .ok (.iconst 0, 1) := by decide +kernel
theorem d_L_law_536 : decode code 536 = .ok (.laload, 1) := by decide +kernel
theorem d_L_law_537 : decode code 537 = .ok (.iload 6, 2) := by decide +kernel
theorem d_L_law_539 : decode code 539 = .ok (.i2l, 1) := by decide +kernel
theorem d_L_law_540 : decode code 540 = .ok (.lcmp, 1) := by decide +kernel
theorem d_L_law_541 : decode code 541 = .ok (.ifCond .eq 5, 3) := by decide +kernel
theorem d_L_law_544 : decode code 544 = .ok (.iconst 0, 1) := by decide +kernel
theorem d_L_law_545 : decode code 545 = .ok (.ireturn, 1) := by decide +kernel
theorem d_L_law_546 : decode code 546 = .ok (.goto 183, 3) := by decide +kernel
theorem d_L_law_549 : decode code 549 = .ok (.aload_n 1, 1) := by decide +kernel
theorem d_L_law_550 : decode code 550 = .ok (.aload_n 0, 1) := by decide +kernel
theorem d_L_law_551 : decode code 551 = .ok (.iload 4, 2) := by decide +kernel
theorem d_L_law_553 : decode code 553 = .ok (.iconst 1, 1) := by decide +kernel
theorem d_L_law_554 : decode code 554 = .ok (.iadd, 1) := by decide +kernel
theorem d_L_law_555 : decode code 555 = .ok (.iaload, 1) := by decide +kernel
theorem d_L_law_556 : decode code 556 = .ok (.aload_n 3, 1) := by decide +kernel
theorem d_L_law_557 : decode code 557 = .ok (.invokestatic 83, 3) := by decide +kernel
theorem d_L_law_560 : decode code 560 = .ok (.istore 5, 2) := by decide +kernel
theorem d_L_law_562 : decode code 562 = .ok (.aload_n 2, 1) := by decide +kernel
theorem d_L_law_563 : decode code 563 = .ok (.aload_n 0, 1) := by decide +kernel
theorem d_L_law_564 : decode code 564 = .ok (.iload 4, 2) := by decide +kernel
theorem d_L_law_566 : decode code 566 = .ok (.iconst 1, 1) := by decide +kernel
theorem d_L_law_567 : decode code 567 = .ok (.iadd, 1) := by decide +kernel
theorem d_L_law_568 : decode code 568 = .ok (.iaload, 1) := by decide +kernel
theorem d_L_law_569 : decode code 569 = .ok (.invokevirtual 85, 3) := by decide +kernel
theorem d_L_law_572 : decode code 572 = .ok (.istore 6, 2) := by decide +kernel
theorem d_L_law_574 : decode code 574 = .ok (.aload_n 2, 1) := by decide +kernel
theorem d_L_law_575 : decode code 575 = .ok (.invokevirtual 59, 3) := by decide +kernel
theorem d_L_law_578 : decode code 578 = .ok (.iload 5, 2) := by decide +kernel
theorem d_L_law_580 : decode code 580 = .ok (.if_icmp .eq 5, 3) := by decide +kernel
theorem d_L_law_583 : decode code 583 = .ok (.iconst 0, 1) := by decide +kernel
theorem d_L_law_584 : decode code 584 = .ok (.ireturn, 1) := by decide +kernel
theorem d_L_law_585 : decode code 585 = .ok (.iload 5, 2) := by decide +kernel
theorem d_L_law_587 : decode code 587 = .ok (.ifCond .ne 15, 3) := by decide +kernel
theorem d_L_law_590 : decode code 590 = .ok (.aload_n 3, 1) := by decide +kernel
theorem d_L_law_591 : decode code 591 = .ok (.iconst 0, 1) := by decide +kernel
theorem d_L_law_592 : decode code 592 = .ok (.laload, 1) := by decide +kernel
theorem d_L_law_593 : decode code 593 = .ok (.iload 6, 2) := by decide +kernel
theorem d_L_law_595 : decode code 595 = .ok (.i2l, 1) := by decide +kernel
theorem d_L_law_596 : decode code 596 = .ok (.lcmp, 1) := by decide +kernel
theorem d_L_law_597 : decode code 597 = .ok (.ifCond .eq 5, 3) := by decide +kernel
theorem d_L_law_600 : decode code 600 = .ok (.iconst 0, 1) := by decide +kernel
theorem d_L_law_601 : decode code 601 = .ok (.ireturn, 1) := by decide +kernel
theorem d_L_law_602 : decode code 602 = .ok (.goto 127, 3) := by decide +kernel
theorem d_L_law_605 : decode code 605 = .ok (.aload_n 1, 1) := by decide +kernel
theorem d_L_law_606 : decode code 606 = .ok (.aload_n 0, 1) := by decide +kernel
theorem d_L_law_607 : decode code 607 = .ok (.iload 4, 2) := by decide +kernel
theorem d_L_law_609 : decode code 609 = .ok (.iconst 1, 1) := by decide +kernel
theorem d_L_law_610 : decode code 610 = .ok (.iadd, 1) := by decide +kernel
theorem d_L_law_611 : decode code 611 = .ok (.iaload, 1) := by decide +kernel
theorem d_L_law_612 : decode code 612 = .ok (.aload_n 3, 1) := by decide +kernel
theorem d_L_law_613 : decode code 613 = .ok (.invokestatic 86, 3) := by decide +kernel
theorem d_L_law_616 : decode code 616 = .ok (.istore 5, 2) := by decide +kernel
theorem d_L_law_618 : decode code 618 = .ok (.aload_n 2, 1) := by decide +kernel
theorem d_L_law_619 : decode code 619 = .ok (.aload_n 0, 1) := by decide +kernel
theorem d_L_law_620 : decode code 620 = .ok (.iload 4, 2) := by decide +kernel
theorem d_L_law_622 : decode code 622 = .ok (.iconst 1, 1) := by decide +kernel
theorem d_L_law_623 : decode code 623 = .ok (.iadd, 1) := by decide +kernel
theorem d_L_law_624 : decode code 624 = .ok (.iaload, 1) := by decide +kernel
theorem d_L_law_625 : decode code 625 = .ok (.invokevirtual 88, 3) := by decide +kernel
theorem d_L_law_628 : decode code 628 = .ok (.istore 6, 2) := by decide +kernel
theorem d_L_law_630 : decode code 630 = .ok (.aload_n 2, 1) := by decide +kernel
theorem d_L_law_631 : decode code 631 = .ok (.invokevirtual 59, 3) := by decide +kernel
theorem d_L_law_634 : decode code 634 = .ok (.iload 5, 2) := by decide +kernel
theorem d_L_law_636 : decode code 636 = .ok (.if_icmp .eq 5, 3) := by decide +kernel
theorem d_L_law_639 : decode code 639 = .ok (.iconst 0, 1) := by decide +kernel
theorem d_L_law_640 : decode code 640 = .ok (.ireturn, 1) := by decide +kernel
theorem d_L_law_641 : decode code 641 = .ok (.iload 5, 2) := by decide +kernel
theorem d_L_law_643 : decode code 643 = .ok (.ifCond .ne 15, 3) := by decide +kernel
theorem d_L_law_646 : decode code 646 = .ok (.aload_n 3, 1) := by decide +kernel
theorem d_L_law_647 : decode code 647 = .ok (.iconst 0, 1) := by decide +kernel
theorem d_L_law_648 : decode code 648 = .ok (.laload, 1) := by decide +kernel
theorem d_L_law_649 : decode code 649 = .ok (.iload 6, 2) := by decide +kernel
theorem d_L_law_651 : decode code 651 = .ok (.i2l, 1) := by decide +kernel
theorem d_L_law_652 : decode code 652 = .ok (.lcmp, 1) := by decide +kernel
theorem d_L_law_653 : decode code 653 = .ok (.ifCond .eq 5, 3) := by decide +kernel
theorem d_L_law_656 : decode code 656 = .ok (.iconst 0, 1) := by decide +kernel
theorem d_L_law_657 : decode code 657 = .ok (.ireturn, 1) := by decide +kernel
theorem d_L_law_658 : decode code 658 = .ok (.goto 71, 3) := by decide +kernel
theorem d_L_law_661 : decode code 661 = .ok (.aload_n 1, 1) := by decide +kernel
theorem d_L_law_662 : decode code 662 = .ok (.aload_n 0, 1) := by decide +kernel
theorem d_L_law_663 : decode code 663 = .ok (.iload 4, 2) := by decide +kernel
theorem d_L_law_665 : decode code 665 = .ok (.iconst 1, 1) := by decide +kernel
theorem d_L_law_666 : decode code 666 = .ok (.iadd, 1) := by decide +kernel
theorem d_L_law_667 : decode code 667 = .ok (.iaload, 1) := by decide +kernel
theorem d_L_law_668 : decode code 668 = .ok (.aload_n 0, 1) := by decide +kernel
theorem d_L_law_669 : decode code 669 = .ok (.iload 4, 2) := by decide +kernel
theorem d_L_law_671 : decode code 671 = .ok (.iconst 2, 1) := by decide +kernel
theorem d_L_law_672 : decode code 672 = .ok (.iadd, 1) := by decide +kernel
theorem d_L_law_673 : decode code 673 = .ok (.iaload, 1) := by decide +kernel
theorem d_L_law_674 : decode code 674 = .ok (.aload_n 3, 1) := by decide +kernel
theorem d_L_law_675 : decode code 675 = .ok (.invokestatic 89, 3) := by decide +kernel
theorem d_L_law_678 : decode code 678 = .ok (.istore 5, 2) := by decide +kernel
theorem d_L_law_680 : decode code 680 = .ok (.aload_n 2, 1) := by decide +kernel
theorem d_L_law_681 : decode code 681 = .ok (.aload_n 0, 1) := by decide +kernel
theorem d_L_law_682 : decode code 682 = .ok (.iload 4, 2) := by decide +kernel
theorem d_L_law_684 : decode code 684 = .ok (.iconst 1, 1) := by decide +kernel
theorem d_L_law_685 : decode code 685 = .ok (.iadd, 1) := by decide +kernel
theorem d_L_law_686 : decode code 686 = .ok (.iaload, 1) := by decide +kernel
theorem d_L_law_687 : decode code 687 = .ok (.aload_n 0, 1) := by decide +kernel
theorem d_L_law_688 : decode code 688 = .ok (.iload 4, 2) := by decide +kernel
theorem d_L_law_690 : decode code 690 = .ok (.iconst 2, 1) := by decide +kernel
theorem d_L_law_691 : decode code 691 = .ok (.iadd, 1) := by decide +kernel
theorem d_L_law_692 : decode code 692 = .ok (.iaload, 1) := by decide +kernel
theorem d_L_law_693 : decode code 693 = .ok (.invokevirtual 91, 3) := by decide +kernel
theorem d_L_law_696 : decode code 696 = .ok (.istore 6, 2) := by decide +kernel
theorem d_L_law_698 : decode code 698 = .ok (.aload_n 2, 1) := by decide +kernel
theorem d_L_law_699 : decode code 699 = .ok (.invokevirtual 59, 3) := by decide +kernel
theorem d_L_law_702 : decode code 702 = .ok (.iload 5, 2) := by decide +kernel
theorem d_L_law_704 : decode code 704 = .ok (.if_icmp .eq 5, 3) := by decide +kernel
theorem d_L_law_707 : decode code 707 = .ok (.iconst 0, 1) := by decide +kernel
theorem d_L_law_708 : decode code 708 = .ok (.ireturn, 1) := by decide +kernel
theorem d_L_law_709 : decode code 709 = .ok (.iload 5, 2) := by decide +kernel
theorem d_L_law_711 : decode code 711 = .ok (.ifCond .ne 15, 3) := by decide +kernel
theorem d_L_law_714 : decode code 714 = .ok (.aload_n 3, 1) := by decide +kernel
theorem d_L_law_715 : decode code 715 = .ok (.iconst 0, 1) := by decide +kernel
theorem d_L_law_716 : decode code 716 = .ok (.laload, 1) := by decide +kernel
theorem d_L_law_717 : decode code 717 = .ok (.iload 6, 2) := by decide +kernel
theorem d_L_law_719 : decode code 719 = .ok (.i2l, 1) := by decide +kernel
theorem d_L_law_720 : decode code 720 = .ok (.lcmp, 1) := by decide +kernel
theorem d_L_law_721 : decode code 721 = .ok (.ifCond .eq 5, 3) := by decide +kernel
theorem d_L_law_724 : decode code 724 = .ok (.iconst 0, 1) := by decide +kernel
theorem d_L_law_725 : decode code 725 = .ok (.ireturn, 1) := by decide +kernel
theorem d_L_law_726 : decode code 726 = .ok (.goto 3, 3) := by decide +kernel
theorem d_L_law_729 : decode code 729 = .ok (.iinc 4 6, 3) := by decide +kernel
theorem d_L_law_732 : decode code 732 = .ok (.goto (-709), 3) := by decide +kernel
theorem d_L_law_735 : decode code 735 = .ok (.iconst 1, 1) := by decide +kernel
theorem d_L_law_736 : decode code 736 = .ok (.ireturn, 1) := by decide +kernel
