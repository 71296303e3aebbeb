theorem d_Law_law_429 : decode b_Law_law 429 = .ok (.iaload, 1) := by decide +kernel
theorem d_Law_law_430 : decode b_Law_law 430 = .ok (.aload_n 0, 1) := by decide +kernel
theorem d_Law_law_431 : decode b_Law_law 431 = .ok (.iload 4, 2) := by decide +kernel
theorem d_Law_law_433 : decode b_Law_law 433 = .ok (.iconst 5, 1) := by decide +kernel
theorem d_Law_law_434 : decode b_Law_law 434 = .ok (.iadd, 1) := by decide +kernel
theorem d_Law_law_435 : decode b_Law_law 435 = .ok (.iaload, 1) := by decide +kernel
theorem d_Law_law_436 : decode b_Law_law 436 = .ok (.invokevirtual 64, 3) := by decide +kernel
theorem d_Law_law_439 : decode b_Law_law 439 = .ok (.istore 6, 2) := by decide +kernel
theorem d_Law_law_441 : decode b_Law_law 441 = .ok (.aload_n 2, 1) := by decide +kernel
theorem d_Law_law_442 : decode b_Law_law 442 = .ok (.invokevirtual 54, 3) := by decide +kernel
theorem d_Law_law_445 : decode b_Law_law 445 = .ok (.iload 5, 2) := by decide +kernel
theorem d_Law_law_447 : decode b_Law_law 447 = .ok (.if_icmp .eq 5, 3) := by decide +kernel
theorem d_Law_law_450 : decode b_Law_law 450 = .ok (.iconst 0, 1) := by decide +kernel
theorem d_Law_law_451 : decode b_Law_law 451 = .ok (.ireturn, 1) := by decide +kernel
theorem d_Law_law_452 : decode b_Law_law 452 = .ok (.iload 5, 2) := by decide +kernel
theorem d_Law_law_454 : decode b_Law_law 454 = .ok (.ifCond .ne 15, 3) := by decide +kernel
theorem d_Law_law_457 : decode b_Law_law 457 = .ok (.aload_n 3, 1) := by decide +kernel
theorem d_Law_law_458 : decode b_Law_law 458 = .ok (.iconst 0, 1) := by decide +kernel
theorem d_Law_law_459 : decode b_Law_law 459 = .ok (.laload, 1) := by decide +kernel
theorem d_Law_law_460 : decode b_Law_law 460 = .ok (.iload 6, 2) := by decide +kernel
theorem d_Law_law_462 : decode b_Law_law 462 = .ok (.i2l, 1) := by decide +kernel
theorem d_Law_law_463 : decode b_Law_law 463 = .ok (.lcmp, 1) := by decide +kernel
theorem d_Law_law_464 : decode b_Law_law 464 = .ok (.ifCond .eq 5, 3) := by decide +kernel
theorem d_Law_law_467 : decode b_Law_law 467 = .ok (.iconst 0, 1) := by decide +kernel
theorem d_Law_law_468 : decode b_Law_law 468 = .ok (.ireturn, 1) := by decide +kernel
theorem d_Law_law_469 : decode b_Law_law 469 = .ok (.goto 701, 3) := by decide +kernel
theorem d_Law_law_472 : decode b_Law_law 472 = .ok (.aload_n 1, 1) := by decide +kernel
theorem d_Law_law_473 : decode b_Law_law 473 = .ok (.aload_n 0, 1) := by decide +kernel
theorem d_Law_law_474 : decode b_Law_law 474 = .ok (.iload 4, 2) := by decide +kernel
theorem d_Law_law_476 : decode b_Law_law 476 = .ok (.iconst 1, 1) := by decide +kernel
theorem d_Law_law_477 : decode b_Law_law 477 = .ok (.iadd, 1) := by decide +kernel
theorem d_Law_law_478 : decode b_Law_law 478 = .ok (.iaload, 1) := by decide +kernel
theorem d_Law_law_479 : decode b_Law_law 479 = .ok (.i2l, 1) := by decide +kernel
theorem d_Law_law_480 : decode b_Law_law 480 = .ok (.bipush 32, 2) := by decide +kernel
theorem d_Law_law_482 : decode b_Law_law 482 = .ok (.lshl, 1) := by decide +kernel
theorem d_Law_law_483 : decode b_Law_law 483 = .ok (.aload_n 0, 1) := by decide +kernel
theorem d_Law_law_484 : decode b_Law_law 484 = .ok (.iload 4, 2) := by decide +kernel
theorem d_Law_law_486 : decode b_Law_law 486 = .ok (.iconst 2, 1) := by decide +kernel
theorem d_Law_law_487 : decode b_Law_law 487 = .ok (.iadd, 1) := by decide +kernel
theorem d_Law_law_488 : decode b_Law_law 488 = .ok (.iaload, 1) := by decide +kernel
theorem d_Law_law_489 : decode b_Law_law 489 = .ok (.i2l, 1) := by decide +kernel
theorem d_Law_law_490 : decode b_Law_law 490 = .ok (.ldc2_w 46, 3) := by decide +kernel
theorem d_Law_law_493 : decode b_Law_law 493 = .ok (.land, 1) := by decide +kernel
theorem d_Law_law_494 : decode b_Law_law 494 = .ok (.lor, 1) := by decide +kernel
theorem d_Law_law_495 : decode b_Law_law 495 = .ok (.aload_n 0, 1) := by decide +kernel
theorem d_Law_law_496 : decode b_Law_law 496 = .ok (.iload 4, 2) := by decide +kernel
theorem d_Law_law_498 : decode b_Law_law 498 = .ok (.iconst 3, 1) := by decide +kernel
theorem d_Law_law_499 : decode b_Law_law 499 = .ok (.iadd, 1) := by decide +kernel
theorem d_Law_law_500 : decode b_Law_law 500 = .ok (.iaload, 1) := by decide +kernel
theorem d_Law_law_501 : decode b_Law_law 501 = .ok (.ifCond .eq 7, 3) := by decide +kernel
theorem d_Law_law_504 : decode b_Law_law 504 = .ok (.iconst 1, 1) := by decide +kernel
theorem d_Law_law_505 : decode b_Law_law 505 = .ok (.goto 4, 3) := by decide +kernel
theorem d_Law_law_508 : decode b_Law_law 508 = .ok (.iconst 0, 1) := by decide +kernel
theorem d_Law_law_509 : decode b_Law_law 509 = .ok (.aload_n 0, 1) := by decide +kernel
theorem d_Law_law_510 : decode b_Law_law 510 = .ok (.iload 4, 2) := by decide +kernel
theorem d_Law_law_512 : decode b_Law_law 512 = .ok (.iconst 4, 1) := by decide +kernel
theorem d_Law_law_513 : decode b_Law_law 513 = .ok (.iadd, 1) := by decide +kernel
theorem d_Law_law_514 : decode b_Law_law 514 = .ok (.iaload, 1) := by decide +kernel
theorem d_Law_law_515 : decode b_Law_law 515 = .ok (.aload_n 0, 1) := by decide +kernel
theorem d_Law_law_516 : decode b_Law_law 516 = .ok (.iload 4, 2) := by decide +kernel
theorem d_Law_law_518 : decode b_Law_law 518 = .ok (.iconst 5, 1) := by decide +kernel
theorem d_Law_law_519 : decode b_Law_law 519 = .ok (.iadd, 1) := by decide +kernel
theorem d_Law_law_520 : decode b_Law_law 520 = .ok (.iaload, 1) := by decide +kernel
theorem d_Law_law_521 : decode b_Law_law 521 = .ok (.aload_n 3, 1) := by decide +kernel
theorem d_Law_law_522 : decode b_Law_law 522 = .ok (.invokestatic 65, 3) := by decide +kernel
theorem d_Law_law_525 : decode b_Law_law 525 = .ok (.istore 5, 2) := by decide +kernel
theorem d_Law_law_527 : decode b_Law_law 527 = .ok (.aload_n 2, 1) := by decide +kernel
theorem d_Law_law_528 : decode b_Law_law 528 = .ok (.aload_n 0, 1) := by decide +kernel
theorem d_Law_law_529 : decode b_Law_law 529 = .ok (.iload 4, 2) := by decide +kernel
theorem d_Law_law_531 : decode b_Law_law 531 = .ok (.iconst 1, 1) := by decide +kernel
theorem d_Law_law_532 : decode b_Law_law 532 = .ok (.iadd, 1) := by decide +kernel
theorem d_Law_law_533 : decode b_Law_law 533 = .ok (.iaload, 1) := by decide +kernel
theorem d_Law_law_534 : decode b_Law_law 534 = .ok (.i2l, 1) := by decide +kernel
theorem d_Law_law_535 : decode b_Law_law 535 = .ok (.bipush 32, 2) := by decide +kernel
theorem d_Law_law_537 : decode b_Law_law 537 = .ok (.lshl, 1) := by decide +kernel
theorem d_Law_law_538 : decode b_Law_law 538 = .ok (.aload_n 0, 1) := by decide +kernel
theorem d_Law_law_539 : decode b_Law_law 539 = .ok (.iload 4, 2) := by decide +kernel
theorem d_Law_law_541 : decode b_Law_law 541 = .ok (.iconst 2, 1) := by decide +kernel
theorem d_Law_law_542 : decode b_Law_law 542 = .ok (.iadd, 1) := by decide +kernel
theorem d_Law_law_543 : decode b_Law_law 543 = .ok (.iaload, 1) := by decide +kernel
theorem d_Law_law_544 : decode b_Law_law 544 = .ok (.i2l, 1) := by decide +kernel
theorem d_Law_law_545 : decode b_Law_law 545 = .ok (.ldc2_w 46, 3) := by decide +kernel
theorem d_Law_law_548 : decode b_Law_law 548 = .ok (.land, 1) := by decide +kernel
theorem d_Law_law_549 : decode b_Law_law 549 = .ok (.lor, 1) := by decide +kernel
theorem d_Law_law_550 : decode b_Law_law 550 = .ok (.aload_n 0, 1) := by decide +kernel
theorem d_Law_law_551 : decode b_Law_law 551 = .ok (.iload 4, 2) := by decide +kernel
theorem d_Law_law_553 : decode b_Law_law 553 = .ok (.iconst 3, 1) := by decide +kernel
theorem d_Law_law_554 : decode b_Law_law 554 = .ok (.iadd, 1) := by decide +kernel
theorem d_Law_law_555 : decode b_Law_law 555 = .ok (.iaload, 1) := by decide +kernel
theorem d_Law_law_556 : decode b_Law_law 556 = .ok (.ifCond .eq 7, 3) := by decide +kernel
theorem d_Law_law_559 : decode b_Law_law 559 = .ok (.iconst 1, 1) := by decide +kernel
theorem d_Law_law_560 : decode b_Law_law 560 = .ok (.goto 4, 3) := by decide +kernel
theorem d_Law_law_563 : decode b_Law_law 563 = .ok (.iconst 0, 1) := by decide +kernel
theorem d_Law_law_564 : decode b_Law_law 564 = .ok (.aload_n 0, 1) := by decide +kernel
theorem d_Law_law_565 : decode b_Law_law 565 = .ok (.iload 4, 2) := by decide +kernel
theorem d_Law_law_567 : decode b_Law_law 567 = .ok (.iconst 4, 1) := by decide +kernel
theorem d_Law_law_568 : decode b_Law_law 568 = .ok (.iadd, 1) := by decide +kernel
theorem d_Law_law_569 : decode b_Law_law 569 = .ok (.iaload, 1) := by decide +kernel
theorem d_Law_law_570 : decode b_Law_law 570 = .ok (.aload_n 0, 1) := by decide +kernel
theorem d_Law_law_571 : decode b_Law_law 571 = .ok (.iload 4, 2) := by decide +kernel
theorem d_Law_law_573 : decode b_Law_law 573 = .ok (.iconst 5, 1) := by decide +kernel
theorem d_Law_law_574 : decode b_Law_law 574 = .ok (.iadd, 1) := by decide +kernel
theorem d_Law_law_575 : decode b_Law_law 575 = .ok (.iaload, 1) := by decide +kernel
theorem d_Law_law_576 : decode b_Law_law 576 = .ok (.invokevirtual 67, 3) := by decide +kernel
theorem d_Law_law_579 : decode b_Law_law 579 = .ok (.istore 6, 2) := by decide +kernel
theorem d_Law_law_581 : decode b_Law_law 581 = .ok (.aload_n 2, 1) := by decide +kernel
theorem d_Law_law_582 : decode b_Law_law 582 = .ok (.invokevirtual 54, 3) := by decide +kernel
theorem d_Law_law_585 : decode b_Law_law 585 = .ok (.iload 5, 2) := by decide +kernel
theorem d_Law_law_587 : decode b_Law_law 587 = .ok (.if_icmp .eq 5, 3) := by decide +kernel
theorem d_Law_law_590 : decode b_Law_law 590 = .ok (.iconst 0, 1) := by decide +kernel
theorem d_Law_law_591 : decode b_Law_law 591 = .ok (.ireturn, 1) := by decide +kernel
theorem d_Law_law_592 : decode b_Law_law 592 = .ok (.iload 5, 2) := by decide +kernel
theorem d_Law_law_594 : decode b_Law_law 594 = .ok (.ifCond .ne 15, 3) := by decide +kernel
theorem d_Law_law_597 : decode b_Law_law 597 = .ok (.aload_n 3, 1) := by decide +kernel
theorem d_Law_law_598 : decode b_Law_law 598 = .ok (.iconst 0, 1) := by decide +kernel
theorem d_Law_law_599 : decode b_Law_law 599 = .ok (.laload, 1) := by decide +kernel
theorem d_Law_law_600 : decode b_Law_law 600 = .ok (.iload 6, 2) := by decide +kernel
theorem d_Law_law_602 : decode b_Law_law 602 = .ok (.i2l, 1) := by decide +kernel
theorem d_Law_law_603 : decode b_Law_law 603 = .ok (.lcmp, 1) := by decide +kernel
theorem d_Law_law_604 : decode b_Law_law 604 = .ok (.ifCond .eq 5, 3) := by decide +kernel
theorem d_Law_law_607 : decode b_Law_law 607 = .ok (.iconst 0, 1) := by decide +kernel
theorem d_Law_law_608 : decode b_Law_law 608 = .ok (.ireturn, 1) := by decide +kernel
theorem d_Law_law_609 : decode b_Law_law 609 = .ok (.goto 561, 3) := by decide +kernel
theorem d_Law_law_612 : decode b_Law_law 612 = .ok (.aload_n 1, 1) := by decide +kernel
theorem d_Law_law_613 : decode b_Law_law 613 = .ok (.invokevirtual 68, 3) := by decide +kernel
theorem d_Law_law_616 : decode b_Law_law 616 = .ok (.aload_n 2, 1) := by decide +kernel
theorem d_Law_law_617 : decode b_Law_law 617 = .ok (.invokevirtual 71, 3) := by decide +kernel
theorem d_Law_law_620 : decode b_Law_law 620 = .ok (.if_icmp .eq 550, 3) := by decide +kernel
theorem d_Law_law_623 : decode b_Law_law 623 = .ok (.iconst 0, 1) := by decide +kernel
theorem d_Law_law_624 : decode b_Law_law 624 = .ok (.ireturn, 1) := by decide +kernel
theorem d_Law_law_625 : decode b_Law_law 625 = .ok (.aload_n 1, 1) := by decide +kernel
theorem d_Law_law_626 : decode b_Law_law 626 = .ok (.aload_n 0, 1) := by decide +kernel
theorem d_Law_law_627 : decode b_Law_law 627 = .ok (.iload 4, 2) := by decide +kernel
theorem d_Law_law_629 : decode b_Law_law 629 = .ok (.iconst 1, 1) := by decide +kernel
theorem d_Law_law_630 : decode b_Law_law 630 = .ok (.iadd, 1) := by decide +kernel
theorem d_Law_law_631 : decode b_Law_law 631 = .ok (.iaload, 1) := by decide +kernel
theorem d_Law_law_632 : decode b_Law_law 632 = .ok (.invokevirtual 72, 3) := by decide +kernel
theorem d_Law_law_635 : decode b_Law_law 635 = .ok (.aload_n 2, 1) := by decide +kernel
theorem d_Law_law_636 : decode b_Law_law 636 = .ok (.aload_n 0, 1) := by decide +kernel
theorem d_Law_law_637 : decode b_Law_law 637 = .ok (.iload 4, 2) := by decide +kernel
theorem d_Law_law_639 : decode b_Law_law 639 = .ok (.iconst 1, 1) := by decide +kernel
theorem d_Law_law_640 : decode b_Law_law 640 = .ok (.iadd, 1) := by decide +kernel
theorem d_Law_law_641 : decode b_Law_law 641 = .ok (.iaload, 1) := by decide +kernel
theorem d_Law_law_642 : decode b_Law_law 642 = .ok (.invokevirtual 76, 3) := by decide +kernel
theorem d_Law_law_645 : decode b_Law_law 645 = .ok (.lcmp, 1) := by decide +kernel
theorem d_Law_law_646 : decode b_Law_law 646 = .ok (.ifCond .eq 524, 3) := by decide +kernel
theorem d_Law_law_649 : decode b_Law_law 649 = .ok (.iconst 0, 1) := by decide +kernel
theorem d_Law_law_650 : decode b_Law_law 650 = .ok (.ireturn, 1) := by decide +kernel
theorem d_Law_law_651 : decode b_Law_law 651 = .ok (.aload_n 1, 1) := by decide +kernel
theorem d_Law_law_652 : decode b_Law_law 652 = .ok (.aload_n 0, 1) := by decide +kernel
theorem d_Law_law_653 : decode b_Law_law 653 = .ok (.iload 4, 2) := by decide +kernel
theorem d_Law_law_655 : decode b_Law_law 655 = .ok (.iconst 1, 1) := by decide +kernel
theorem d_Law_law_656 : decode b_Law_law 656 = .ok (.iadd, 1) := by decide +kernel
theorem d_Law_law_657 : decode b_Law_law 657 = .ok (.iaload, 1) := by decide +kernel
theorem d_Law_law_658 : decode b_Law_law 658 = .ok (.i2l, 1) := by decide +kernel
theorem d_Law_law_659 : decode b_Law_law 659 = .ok (.bipush 32, 2) := by decide +kernel
theorem d_Law_law_661 : decode b_Law_law 661 = .ok (.lshl, 1) := by decide +kernel
theorem d_Law_law_662 : decode b_Law_law 662 = .ok (.aload_n 0, 1) := by decide +kernel
theorem d_Law_law_663 : decode b_Law_law 663 = .ok (.iload 4, 2) := by decide +kernel
theorem d_Law_law_665 : decode b_Law_law 665 = .ok (.iconst 2, 1) := by decide +kernel
theorem d_Law_law_666 : decode b_Law_law 666 = .ok (.iadd, 1) := by decide +kernel
theorem d_Law_law_667 : decode b_Law_law 667 = .ok (.iaload, 1) := by decide +kernel
theorem d_Law_law_668 : decode b_Law_law 668 = .ok (.i2l, 1) := by decide +kernel
theorem d_Law_law_669 : decode b_Law_law 669 = .ok (.ldc2_w 46, 3) := by decide +kernel
theorem d_Law_law_672 : decode b_Law_law 672 = .ok (.land, 1) := by decide +kernel
theorem d_Law_law_673 : decode b_Law_law 673 = .ok (.lor, 1) := by decide +kernel
theorem d_Law_law_674 : decode b_Law_law 674 = .ok (.aload_n 0, 1) := by decide +kernel
theorem d_Law_law_675 : decode b_Law_law 675 = .ok (.iload 4, 2) := by decide +kernel
theorem d_Law_law_677 : decode b_Law_law 677 = .ok (.iconst 3, 1) := by decide +kernel
theorem d_Law_law_678 : decode b_Law_law 678 = .ok (.iadd, 1) := by decide +kernel
theorem d_Law_law_679 : decode b_Law_law 679 = .ok (.iaload, 1) := by decide +kernel
theorem d_Law_law_680 : decode b_Law_law 680 = .ok (.ifCond .eq 7, 3) := by decide +kernel
theorem d_Law_law_683 : decode b_Law_law 683 = .ok (.iconst 1, 1) := by decide +kernel
theorem d_Law_law_684 : decode b_Law_law 684 = .ok (.goto 4, 3) := by decide +kernel
theorem d_Law_law_687 : decode b_Law_law 687 = .ok (.iconst 0, 1) := by decide +kernel
theorem d_Law_law_688 : decode b_Law_law 688 = .ok (.aload_n 3, 1) := by decide +kernel
theorem d_Law_law_689 : decode b_Law_law 689 = .ok (.invokestatic 77, 3) := by decide +kernel
theorem d_Law_law_692 : decode b_Law_law 692 = .ok (.istore 5, 2) := by decide +kernel
theorem d_Law_law_694 : decode b_Law_law 694 = .ok (.aload_n 2, 1) := by decide +kernel
theorem d_Law_law_695 : decode b_Law_law 695 = .ok (.aload_n 0, 1) := by decide +kernel
theorem d_Law_law_696 : decode b_Law_law 696 = .ok (.iload 4, 2) := by decide +kernel
theorem d_Law_law_698 : decode b_Law_law 698 = .ok (.iconst 1, 1) := by decide +kernel
theorem d_Law_law_699 : decode b_Law_law 699 = .ok (.iadd, 1) := by decide +kernel
theorem d_Law_law_700 : decode b_Law_law 700 = .ok (.iaload, 1) := by decide +kernel
theorem d_Law_law_701 : decode b_Law_law 701 = .ok (.i2l, 1) := by decide +kernel
theorem d_Law_law_702 : decode b_Law_law 702 = .ok (.bipush 32, 2) := by decide +kernel
theorem d_Law_law_704 : decode b_Law_law 704 = .ok (.lshl, 1) := by decide +kernel
theorem d_Law_law_705 : decode b_Law_law 705 = .ok (.aload_n 0, 1) := by decide +kernel
theorem d_Law_law_706 : decode b_Law_law 706 = .ok (.iload 4, 2) := by decide +kernel
theorem d_Law_law_708 : decode b_Law_law 708 = .ok (.iconst 2, 1) := by decide +kernel
theorem d_Law_law_709 : decode b_Law_law 709 = .ok (.iadd, 1) := by decide +kernel
theorem d_Law_law_710 : decode b_Law_law 710 = .ok (.iaload, 1) := by decide +kernel
theorem d_Law_law_711 : decode b_Law_law 711 = .ok (.i2l, 1) := by decide +kernel
theorem d_Law_law_712 : decode b_Law_law 712 = .ok (.ldc2_w 46, 3) := by decide +kernel
theorem d_Law_law_715 : decode b_Law_law 715 = .ok (.land, 1) := by decide +kernel
theorem d_Law_law_716 : decode b_Law_law 716 = .ok (.lor, 1) := by decide +kernel
theorem d_Law_law_717 : decode b_Law_law 717 = .ok (.aload_n 0, 1) := by decide +kernel
theorem d_Law_law_718 : decode b_Law_law 718 = .ok (.iload 4, 2) := by decide +kernel
theorem d_Law_law_720 : decode b_Law_law 720 = .ok (.iconst 3, 1) := by decide +kernel
theorem d_Law_law_721 : decode b_Law_law 721 = .ok (.iadd, 1) := by decide +kernel
theorem d_Law_law_722 : decode b_Law_law 722 = .ok (.iaload, 1) := by decide +kernel
theorem d_Law_law_723 : decode b_Law_law 723 = .ok (.ifCond .eq 7, 3) := by decide +kernel
theorem d_Law_law_726 : decode b_Law_law 726 = .ok (.iconst 1, 1) := by decide +kernel
theorem d_Law_law_727 : decode b_Law_law 727 = .ok (.goto 4, 3) := by decide +kernel
theorem d_Law_law_730 : decode b_Law_law 730 = .ok (.iconst 0, 1) := by decide +kernel
theorem d_Law_law_731 : decode b_Law_law 731 = .ok (.invokevirtual 79, 3) := by decide +kernel
theorem d_Law_law_734 : decode b_Law_law 734 = .ok (.lstore 6, 2) := by decide +kernel
theorem d_Law_law_736 : decode b_Law_law 736 = .ok (.aload_n 2, 1) := by decide +kernel
theorem d_Law_law_737 : decode b_Law_law 737 = .ok (.invokevirtual 54, 3) := by decide +kernel
theorem d_Law_law_740 : decode b_Law_law 740 = .ok (.iload 5, 2) := by decide +kernel
theorem d_Law_law_742 : decode b_Law_law 742 = .ok (.if_icmp .eq 5, 3) := by decide +kernel
theorem d_Law_law_745 : decode b_Law_law 745 = .ok (.iconst 0, 1) := by decide +kernel
theorem d_Law_law_746 : decode b_Law_law 746 = .ok (.ireturn, 1) := by decide +kernel
theorem d_Law_law_747 : decode b_Law_law 747 = .ok (.iload 5, 2) := by decide +kernel
theorem d_Law_law_749 : decode b_Law_law 749 = .ok (.ifCond .ne 14, 3) := by decide +kernel
theorem d_Law_law_752 : decode b_Law_law 752 = .ok (.aload_n 3, 1) := by decide +kernel
theorem d_Law_law_753 : decode b_Law_law 753 = .ok (.iconst 0, 1) := by decide +kernel
theorem d_Law_law_754 : decode b_Law_law 754 = .ok (.laload, 1) := by decide +kernel
theorem d_Law_law_755 : decode b_Law_law 755 = .ok (.lload 6, 2) := by decide +kernel
theorem d_Law_law_757 : decode b_Law_law 757 = .ok (.lcmp, 1) := by decide +kernel
theorem d_Law_law_758 : decode b_Law_law 758 = .ok (.ifCond .eq 5, 3) := by decide +kernel
theorem d_Law_law_761 : decode b_Law_law 761 = .ok (.iconst 0, 1) := by decide +kernel
theorem d_Law_law_762 : decode b_Law_law 762 = .ok (.ireturn, 1) := by decide +kernel
theorem d_Law_law_763 : decode b_Law_law 763 = .ok (.goto 407, 3) := by decide +kernel
theorem d_Law_law_766 : decode b_Law_law 766 = .ok (.aload_n 1, 1) := by decide +kernel
theorem d_Law_law_767 : decode b_Law_law 767 = .ok (.aload_n 0, 1) := by decide +kernel
theorem d_Law_law_768 : decode b_Law_law 768 = .ok (.iload 4, 2) := by decide +kernel
theorem d_Law_law_770 : decode b_Law_law 770 = .ok (.iconst 1, 1) := by decide +kernel
theorem d_Law_law_771 : decode b_Law_law 771 = .ok (.iadd, 1) := by decide +kernel
theorem d_Law_law_772 : decode b_Law_law 772 = .ok (.iaload, 1) := by decide +kernel
theorem d_Law_law_773 : decode b_Law_law 773 = .ok (.i2l, 1) := by decide +kernel
theorem d_Law_law_774 : decode b_Law_law 774 = .ok (.bipush 32, 2) := by decide +kernel
theorem d_Law_law_776 : decode b_Law_law 776 = .ok (.lshl, 1) := by decide +kernel
theorem d_Law_law_777 : decode b_Law_law 777 = .ok (.aload_n 0, 1) := by decide +kernel
theorem d_Law_law_778 : decode b_Law_law 778 = .ok (.iload 4, 2) := by decide +kernel
theorem d_Law_law_780 : decode b_Law_law 780 = .ok (.iconst 2, 1) := by decide +kernel
theorem d_Law_law_781 : decode b_Law_law 781 = .ok (.iadd, 1) := by decide +kernel
theorem d_Law_law_782 : decode b_Law_law 782 = .ok (.iaload, 1) := by decide +kernel
theorem d_Law_law_783 : decode b_Law_law 783 = .ok (.i2l, 1) := by decide +kernel
theorem d_Law_law_784 : decode b_Law_law 784 = .ok (.ldc2_w 46, 3) := by decide +kernel
theorem d_Law_law_787 : decode b_Law_law 787 = .ok (.land, 1) := by decide +kernel
theorem d_Law_law_788 : decode b_Law_law 788 = .ok (.lor, 1) := by decide +kernel
theorem d_Law_law_789 : decode b_Law_law 789 = .ok (.aload_n 0, 1) := by decide +kernel
theorem d_Law_law_790 : decode b_Law_law 790 = .ok (.iload 4, 2) := by decide +kernel
theorem d_Law_law_792 : decode b_Law_law 792 = .ok (.iconst 3, 1) := by decide +kernel
theorem d_Law_law_793 : decode b_Law_law 793 = .ok (.iadd, 1) := by decide +kernel
theorem d_Law_law_794 : decode b_Law_law 794 = .ok (.iaload, 1) := by decide +kernel
theorem d_Law_law_795 : decode b_Law_law 795 = .ok (.ifCond .eq 7, 3) := by decide +kernel
theorem d_Law_law_798 : decode b_Law_law 798 = .ok (.iconst 1, 1) := by decide +kernel
theorem d_Law_law_799 : decode b_Law_law 799 = .ok (.goto 4, 3) := by decide +kernel
