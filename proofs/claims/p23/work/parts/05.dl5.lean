theorem dL_isNet_449 : decode cL_isNet 449 = .ok (.bipush 6, 2) := by decide +kernel
theorem dL_isNet_451 : decode cL_isNet 451 = .ok (.if_icmp .ge 310, 3) := by decide +kernel
theorem dL_isNet_454 : decode cL_isNet 454 = .ok (.iload 13, 2) := by decide +kernel
theorem dL_isNet_456 : decode cL_isNet 456 = .ok (.ifCond .eq 305, 3) := by decide +kernel
theorem dL_isNet_459 : decode cL_isNet 459 = .ok (.iload 7, 2) := by decide +kernel
theorem dL_isNet_461 : decode cL_isNet 461 = .ok (.iload 14, 2) := by decide +kernel
theorem dL_isNet_463 : decode cL_isNet 463 = .ok (.iadd, 1) := by decide +kernel
theorem dL_isNet_464 : decode cL_isNet 464 = .ok (.bipush 6, 2) := by decide +kernel
theorem dL_isNet_466 : decode cL_isNet 466 = .ok (.irem, 1) := by decide +kernel
theorem dL_isNet_467 : decode cL_isNet 467 = .ok (.istore 15, 2) := by decide +kernel
theorem dL_isNet_469 : decode cL_isNet 469 = .ok (.iconst 1, 1) := by decide +kernel
theorem dL_isNet_470 : decode cL_isNet 470 = .ok (.iload 7, 2) := by decide +kernel
theorem dL_isNet_472 : decode cL_isNet 472 = .ok (.bipush 6, 2) := by decide +kernel
theorem dL_isNet_474 : decode cL_isNet 474 = .ok (.idiv, 1) := by decide +kernel
theorem dL_isNet_475 : decode cL_isNet 475 = .ok (.iload 14, 2) := by decide +kernel
theorem dL_isNet_477 : decode cL_isNet 477 = .ok (.iadd, 1) := by decide +kernel
theorem dL_isNet_478 : decode cL_isNet 478 = .ok (.iconst 4, 1) := by decide +kernel
theorem dL_isNet_479 : decode cL_isNet 479 = .ok (.irem, 1) := by decide +kernel
theorem dL_isNet_480 : decode cL_isNet 480 = .ok (.iadd, 1) := by decide +kernel
theorem dL_isNet_481 : decode cL_isNet 481 = .ok (.istore 16, 2) := by decide +kernel
theorem dL_isNet_483 : decode cL_isNet 483 = .ok (.iload 7, 2) := by decide +kernel
theorem dL_isNet_485 : decode cL_isNet 485 = .ok (.bipush 24, 2) := by decide +kernel
theorem dL_isNet_487 : decode cL_isNet 487 = .ok (.idiv, 1) := by decide +kernel
theorem dL_isNet_488 : decode cL_isNet 488 = .ok (.iconst 5, 1) := by decide +kernel
theorem dL_isNet_489 : decode cL_isNet 489 = .ok (.iload 14, 2) := by decide +kernel
theorem dL_isNet_491 : decode cL_isNet 491 = .ok (.imul, 1) := by decide +kernel
theorem dL_isNet_492 : decode cL_isNet 492 = .ok (.iadd, 1) := by decide +kernel
theorem dL_isNet_493 : decode cL_isNet 493 = .ok (.bipush 6, 2) := by decide +kernel
theorem dL_isNet_495 : decode cL_isNet 495 = .ok (.irem, 1) := by decide +kernel
theorem dL_isNet_496 : decode cL_isNet 496 = .ok (.istore 17, 2) := by decide +kernel
theorem dL_isNet_498 : decode cL_isNet 498 = .ok (.iconst 1, 1) := by decide +kernel
theorem dL_isNet_499 : decode cL_isNet 499 = .ok (.iload 7, 2) := by decide +kernel
theorem dL_isNet_501 : decode cL_isNet 501 = .ok (.bipush 100, 2) := by decide +kernel
theorem dL_isNet_503 : decode cL_isNet 503 = .ok (.idiv, 1) := by decide +kernel
theorem dL_isNet_504 : decode cL_isNet 504 = .ok (.iload 14, 2) := by decide +kernel
theorem dL_isNet_506 : decode cL_isNet 506 = .ok (.iconst 2, 1) := by decide +kernel
theorem dL_isNet_507 : decode cL_isNet 507 = .ok (.idiv, 1) := by decide +kernel
theorem dL_isNet_508 : decode cL_isNet 508 = .ok (.iadd, 1) := by decide +kernel
theorem dL_isNet_509 : decode cL_isNet 509 = .ok (.iconst 4, 1) := by decide +kernel
theorem dL_isNet_510 : decode cL_isNet 510 = .ok (.irem, 1) := by decide +kernel
theorem dL_isNet_511 : decode cL_isNet 511 = .ok (.iadd, 1) := by decide +kernel
theorem dL_isNet_512 : decode cL_isNet 512 = .ok (.istore 18, 2) := by decide +kernel
theorem dL_isNet_514 : decode cL_isNet 514 = .ok (.aload_n 2, 1) := by decide +kernel
theorem dL_isNet_515 : decode cL_isNet 515 = .ok (.aload_n 3, 1) := by decide +kernel
theorem dL_isNet_516 : decode cL_isNet 516 = .ok (.aload 4, 2) := by decide +kernel
theorem dL_isNet_518 : decode cL_isNet 518 = .ok (.lload 10, 2) := by decide +kernel
theorem dL_isNet_520 : decode cL_isNet 520 = .ok (.iload 15, 2) := by decide +kernel
theorem dL_isNet_522 : decode cL_isNet 522 = .ok (.iload 16, 2) := by decide +kernel
theorem dL_isNet_524 : decode cL_isNet 524 = .ok (.bipush 90, 2) := by decide +kernel
theorem dL_isNet_526 : decode cL_isNet 526 = .ok (.aload 9, 2) := by decide +kernel
theorem dL_isNet_528 : decode cL_isNet 528 = .ok (.invokestatic 29, 3) := by decide +kernel
theorem dL_isNet_531 : decode cL_isNet 531 = .ok (.iconst 0, 1) := by decide +kernel
theorem dL_isNet_532 : decode cL_isNet 532 = .ok (.istore 19, 2) := by decide +kernel
theorem dL_isNet_534 : decode cL_isNet 534 = .ok (.iconst 0, 1) := by decide +kernel
theorem dL_isNet_535 : decode cL_isNet 535 = .ok (.istore 20, 2) := by decide +kernel
theorem dL_isNet_537 : decode cL_isNet 537 = .ok (.iload 20, 2) := by decide +kernel
theorem dL_isNet_539 : decode cL_isNet 539 = .ok (.bipush 6, 2) := by decide +kernel
theorem dL_isNet_541 : decode cL_isNet 541 = .ok (.if_icmp .ge 22, 3) := by decide +kernel
theorem dL_isNet_544 : decode cL_isNet 544 = .ok (.iload 19, 2) := by decide +kernel
theorem dL_isNet_546 : decode cL_isNet 546 = .ok (.aload 9, 2) := by decide +kernel
theorem dL_isNet_548 : decode cL_isNet 548 = .ok (.iload 20, 2) := by decide +kernel
theorem dL_isNet_550 : decode cL_isNet 550 = .ok (.iaload, 1) := by decide +kernel
theorem dL_isNet_551 : decode cL_isNet 551 = .ok (.invokestatic 37, 3) := by decide +kernel
theorem dL_isNet_554 : decode cL_isNet 554 = .ok (.iadd, 1) := by decide +kernel
theorem dL_isNet_555 : decode cL_isNet 555 = .ok (.istore 19, 2) := by decide +kernel
theorem dL_isNet_557 : decode cL_isNet 557 = .ok (.iinc 20 1, 3) := by decide +kernel
theorem dL_isNet_560 : decode cL_isNet 560 = .ok (.goto (-23), 3) := by decide +kernel
theorem dL_isNet_563 : decode cL_isNet 563 = .ok (.bipush 6, 2) := by decide +kernel
theorem dL_isNet_565 : decode cL_isNet 565 = .ok (.iload 15, 2) := by decide +kernel
theorem dL_isNet_567 : decode cL_isNet 567 = .ok (.imul, 1) := by decide +kernel
theorem dL_isNet_568 : decode cL_isNet 568 = .ok (.iload 7, 2) := by decide +kernel
theorem dL_isNet_570 : decode cL_isNet 570 = .ok (.bipush 7, 2) := by decide +kernel
theorem dL_isNet_572 : decode cL_isNet 572 = .ok (.idiv, 1) := by decide +kernel
theorem dL_isNet_573 : decode cL_isNet 573 = .ok (.iload 14, 2) := by decide +kernel
theorem dL_isNet_575 : decode cL_isNet 575 = .ok (.iadd, 1) := by decide +kernel
theorem dL_isNet_576 : decode cL_isNet 576 = .ok (.bipush 6, 2) := by decide +kernel
theorem dL_isNet_578 : decode cL_isNet 578 = .ok (.irem, 1) := by decide +kernel
theorem dL_isNet_579 : decode cL_isNet 579 = .ok (.iadd, 1) := by decide +kernel
theorem dL_isNet_580 : decode cL_isNet 580 = .ok (.istore 20, 2) := by decide +kernel
theorem dL_isNet_582 : decode cL_isNet 582 = .ok (.bipush 6, 2) := by decide +kernel
theorem dL_isNet_584 : decode cL_isNet 584 = .ok (.iload 17, 2) := by decide +kernel
theorem dL_isNet_586 : decode cL_isNet 586 = .ok (.imul, 1) := by decide +kernel
theorem dL_isNet_587 : decode cL_isNet 587 = .ok (.iload 7, 2) := by decide +kernel
theorem dL_isNet_589 : decode cL_isNet 589 = .ok (.bipush 9, 2) := by decide +kernel
theorem dL_isNet_591 : decode cL_isNet 591 = .ok (.idiv, 1) := by decide +kernel
theorem dL_isNet_592 : decode cL_isNet 592 = .ok (.iload 14, 2) := by decide +kernel
theorem dL_isNet_594 : decode cL_isNet 594 = .ok (.iadd, 1) := by decide +kernel
theorem dL_isNet_595 : decode cL_isNet 595 = .ok (.bipush 6, 2) := by decide +kernel
theorem dL_isNet_597 : decode cL_isNet 597 = .ok (.irem, 1) := by decide +kernel
theorem dL_isNet_598 : decode cL_isNet 598 = .ok (.iadd, 1) := by decide +kernel
theorem dL_isNet_599 : decode cL_isNet 599 = .ok (.istore 21, 2) := by decide +kernel
theorem dL_isNet_601 : decode cL_isNet 601 = .ok (.aload_n 2, 1) := by decide +kernel
theorem dL_isNet_602 : decode cL_isNet 602 = .ok (.iload 20, 2) := by decide +kernel
theorem dL_isNet_604 : decode cL_isNet 604 = .ok (.iaload, 1) := by decide +kernel
theorem dL_isNet_605 : decode cL_isNet 605 = .ok (.ifCond .le 38, 3) := by decide +kernel
theorem dL_isNet_608 : decode cL_isNet 608 = .ok (.aload_n 2, 1) := by decide +kernel
theorem dL_isNet_609 : decode cL_isNet 609 = .ok (.iload 21, 2) := by decide +kernel
theorem dL_isNet_611 : decode cL_isNet 611 = .ok (.iaload, 1) := by decide +kernel
theorem dL_isNet_612 : decode cL_isNet 612 = .ok (.ifCond .le 31, 3) := by decide +kernel
theorem dL_isNet_615 : decode cL_isNet 615 = .ok (.aload_n 2, 1) := by decide +kernel
theorem dL_isNet_616 : decode cL_isNet 616 = .ok (.aload_n 3, 1) := by decide +kernel
theorem dL_isNet_617 : decode cL_isNet 617 = .ok (.aload 4, 2) := by decide +kernel
theorem dL_isNet_619 : decode cL_isNet 619 = .ok (.lload 10, 2) := by decide +kernel
theorem dL_isNet_621 : decode cL_isNet 621 = .ok (.iload 15, 2) := by decide +kernel
theorem dL_isNet_623 : decode cL_isNet 623 = .ok (.aload_n 2, 1) := by decide +kernel
theorem dL_isNet_624 : decode cL_isNet 624 = .ok (.iload 20, 2) := by decide +kernel
theorem dL_isNet_626 : decode cL_isNet 626 = .ok (.iaload, 1) := by decide +kernel
theorem dL_isNet_627 : decode cL_isNet 627 = .ok (.iload 17, 2) := by decide +kernel
theorem dL_isNet_629 : decode cL_isNet 629 = .ok (.aload_n 2, 1) := by decide +kernel
theorem dL_isNet_630 : decode cL_isNet 630 = .ok (.iload 21, 2) := by decide +kernel
theorem dL_isNet_632 : decode cL_isNet 632 = .ok (.iaload, 1) := by decide +kernel
theorem dL_isNet_633 : decode cL_isNet 633 = .ok (.invokestatic 97, 3) := by decide +kernel
theorem dL_isNet_636 : decode cL_isNet 636 = .ok (.ifCond .lt 7, 3) := by decide +kernel
theorem dL_isNet_639 : decode cL_isNet 639 = .ok (.iconst 1, 1) := by decide +kernel
theorem dL_isNet_640 : decode cL_isNet 640 = .ok (.goto 4, 3) := by decide +kernel
theorem dL_isNet_643 : decode cL_isNet 643 = .ok (.iconst 0, 1) := by decide +kernel
theorem dL_isNet_644 : decode cL_isNet 644 = .ok (.istore 22, 2) := by decide +kernel
theorem dL_isNet_646 : decode cL_isNet 646 = .ok (.aload_n 0, 1) := by decide +kernel
theorem dL_isNet_647 : decode cL_isNet 647 = .ok (.iload 15, 2) := by decide +kernel
theorem dL_isNet_649 : decode cL_isNet 649 = .ok (.iload 16, 2) := by decide +kernel
theorem dL_isNet_651 : decode cL_isNet 651 = .ok (.iload 17, 2) := by decide +kernel
theorem dL_isNet_653 : decode cL_isNet 653 = .ok (.iload 18, 2) := by decide +kernel
theorem dL_isNet_655 : decode cL_isNet 655 = .ok (.invokevirtual 101, 3) := by decide +kernel
theorem dL_isNet_658 : decode cL_isNet 658 = .ok (.aload_n 2, 1) := by decide +kernel
theorem dL_isNet_659 : decode cL_isNet 659 = .ok (.aload_n 3, 1) := by decide +kernel
theorem dL_isNet_660 : decode cL_isNet 660 = .ok (.aload 4, 2) := by decide +kernel
theorem dL_isNet_662 : decode cL_isNet 662 = .ok (.lload 10, 2) := by decide +kernel
theorem dL_isNet_664 : decode cL_isNet 664 = .ok (.iload 15, 2) := by decide +kernel
theorem dL_isNet_666 : decode cL_isNet 666 = .ok (.iload 16, 2) := by decide +kernel
theorem dL_isNet_668 : decode cL_isNet 668 = .ok (.iload 17, 2) := by decide +kernel
theorem dL_isNet_670 : decode cL_isNet 670 = .ok (.iload 18, 2) := by decide +kernel
theorem dL_isNet_672 : decode cL_isNet 672 = .ok (.invokestatic 97, 3) := by decide +kernel
theorem dL_isNet_675 : decode cL_isNet 675 = .ok (.if_icmp .ne 77, 3) := by decide +kernel
theorem dL_isNet_678 : decode cL_isNet 678 = .ok (.aload_n 0, 1) := by decide +kernel
theorem dL_isNet_679 : decode cL_isNet 679 = .ok (.iload 15, 2) := by decide +kernel
theorem dL_isNet_681 : decode cL_isNet 681 = .ok (.iload 16, 2) := by decide +kernel
theorem dL_isNet_683 : decode cL_isNet 683 = .ok (.invokevirtual 104, 3) := by decide +kernel
theorem dL_isNet_686 : decode cL_isNet 686 = .ok (.iload 19, 2) := by decide +kernel
theorem dL_isNet_688 : decode cL_isNet 688 = .ok (.if_icmp .ne 64, 3) := by decide +kernel
theorem dL_isNet_691 : decode cL_isNet 691 = .ok (.aload_n 0, 1) := by decide +kernel
theorem dL_isNet_692 : decode cL_isNet 692 = .ok (.iload 15, 2) := by decide +kernel
theorem dL_isNet_694 : decode cL_isNet 694 = .ok (.iload 20, 2) := by decide +kernel
theorem dL_isNet_696 : decode cL_isNet 696 = .ok (.bipush 6, 2) := by decide +kernel
theorem dL_isNet_698 : decode cL_isNet 698 = .ok (.irem, 1) := by decide +kernel
theorem dL_isNet_699 : decode cL_isNet 699 = .ok (.iload 17, 2) := by decide +kernel
theorem dL_isNet_701 : decode cL_isNet 701 = .ok (.iload 21, 2) := by decide +kernel
theorem dL_isNet_703 : decode cL_isNet 703 = .ok (.bipush 6, 2) := by decide +kernel
theorem dL_isNet_705 : decode cL_isNet 705 = .ok (.irem, 1) := by decide +kernel
theorem dL_isNet_706 : decode cL_isNet 706 = .ok (.invokevirtual 107, 3) := by decide +kernel
theorem dL_isNet_709 : decode cL_isNet 709 = .ok (.iload 22, 2) := by decide +kernel
theorem dL_isNet_711 : decode cL_isNet 711 = .ok (.if_icmp .ne 41, 3) := by decide +kernel
theorem dL_isNet_714 : decode cL_isNet 714 = .ok (.aload_n 0, 1) := by decide +kernel
theorem dL_isNet_715 : decode cL_isNet 715 = .ok (.iload 15, 2) := by decide +kernel
theorem dL_isNet_717 : decode cL_isNet 717 = .ok (.iload 20, 2) := by decide +kernel
theorem dL_isNet_719 : decode cL_isNet 719 = .ok (.bipush 6, 2) := by decide +kernel
theorem dL_isNet_721 : decode cL_isNet 721 = .ok (.irem, 1) := by decide +kernel
theorem dL_isNet_722 : decode cL_isNet 722 = .ok (.iload 17, 2) := by decide +kernel
theorem dL_isNet_724 : decode cL_isNet 724 = .ok (.iload 21, 2) := by decide +kernel
theorem dL_isNet_726 : decode cL_isNet 726 = .ok (.bipush 6, 2) := by decide +kernel
theorem dL_isNet_728 : decode cL_isNet 728 = .ok (.irem, 1) := by decide +kernel
theorem dL_isNet_729 : decode cL_isNet 729 = .ok (.invokevirtual 111, 3) := by decide +kernel
theorem dL_isNet_732 : decode cL_isNet 732 = .ok (.aload_n 2, 1) := by decide +kernel
theorem dL_isNet_733 : decode cL_isNet 733 = .ok (.aload_n 3, 1) := by decide +kernel
theorem dL_isNet_734 : decode cL_isNet 734 = .ok (.aload 4, 2) := by decide +kernel
theorem dL_isNet_736 : decode cL_isNet 736 = .ok (.lload 10, 2) := by decide +kernel
theorem dL_isNet_738 : decode cL_isNet 738 = .ok (.iload 20, 2) := by decide +kernel
theorem dL_isNet_740 : decode cL_isNet 740 = .ok (.iload 21, 2) := by decide +kernel
theorem dL_isNet_742 : decode cL_isNet 742 = .ok (.invokestatic 114, 3) := by decide +kernel
theorem dL_isNet_745 : decode cL_isNet 745 = .ok (.if_icmp .ne 7, 3) := by decide +kernel
theorem dL_isNet_748 : decode cL_isNet 748 = .ok (.iconst 1, 1) := by decide +kernel
theorem dL_isNet_749 : decode cL_isNet 749 = .ok (.goto 4, 3) := by decide +kernel
theorem dL_isNet_752 : decode cL_isNet 752 = .ok (.iconst 0, 1) := by decide +kernel
theorem dL_isNet_753 : decode cL_isNet 753 = .ok (.istore 13, 2) := by decide +kernel
theorem dL_isNet_755 : decode cL_isNet 755 = .ok (.iinc 14 1, 3) := by decide +kernel
theorem dL_isNet_758 : decode cL_isNet 758 = .ok (.goto (-311), 3) := by decide +kernel
theorem dL_isNet_761 : decode cL_isNet 761 = .ok (.iload 13, 2) := by decide +kernel
theorem dL_isNet_763 : decode cL_isNet 763 = .ok (.ifCond .eq 48, 3) := by decide +kernel
theorem dL_isNet_766 : decode cL_isNet 766 = .ok (.aload_n 0, 1) := by decide +kernel
theorem dL_isNet_767 : decode cL_isNet 767 = .ok (.invokevirtual 117, 3) := by decide +kernel
theorem dL_isNet_770 : decode cL_isNet 770 = .ok (.iload 12, 2) := by decide +kernel
theorem dL_isNet_772 : decode cL_isNet 772 = .ok (.if_icmp .ne 39, 3) := by decide +kernel
theorem dL_isNet_775 : decode cL_isNet 775 = .ok (.aload_n 0, 1) := by decide +kernel
theorem dL_isNet_776 : decode cL_isNet 776 = .ok (.invokevirtual 121, 3) := by decide +kernel
theorem dL_isNet_779 : decode cL_isNet 779 = .ok (.aload_n 2, 1) := by decide +kernel
theorem dL_isNet_780 : decode cL_isNet 780 = .ok (.aload_n 3, 1) := by decide +kernel
theorem dL_isNet_781 : decode cL_isNet 781 = .ok (.aload 4, 2) := by decide +kernel
theorem dL_isNet_783 : decode cL_isNet 783 = .ok (.lload 10, 2) := by decide +kernel
theorem dL_isNet_785 : decode cL_isNet 785 = .ok (.invokestatic 41, 3) := by decide +kernel
theorem dL_isNet_788 : decode cL_isNet 788 = .ok (.if_icmp .ne 23, 3) := by decide +kernel
theorem dL_isNet_791 : decode cL_isNet 791 = .ok (.aload_n 0, 1) := by decide +kernel
theorem dL_isNet_792 : decode cL_isNet 792 = .ok (.invokevirtual 123, 3) := by decide +kernel
theorem dL_isNet_795 : decode cL_isNet 795 = .ok (.aload_n 2, 1) := by decide +kernel
theorem dL_isNet_796 : decode cL_isNet 796 = .ok (.aload_n 3, 1) := by decide +kernel
theorem dL_isNet_797 : decode cL_isNet 797 = .ok (.aload 4, 2) := by decide +kernel
theorem dL_isNet_799 : decode cL_isNet 799 = .ok (.lload 10, 2) := by decide +kernel
theorem dL_isNet_801 : decode cL_isNet 801 = .ok (.invokestatic 126, 3) := by decide +kernel
theorem dL_isNet_804 : decode cL_isNet 804 = .ok (.if_icmp .ne 7, 3) := by decide +kernel
theorem dL_isNet_807 : decode cL_isNet 807 = .ok (.iconst 1, 1) := by decide +kernel
theorem dL_isNet_808 : decode cL_isNet 808 = .ok (.goto 4, 3) := by decide +kernel
theorem dL_isNet_811 : decode cL_isNet 811 = .ok (.iconst 0, 1) := by decide +kernel
theorem dL_isNet_812 : decode cL_isNet 812 = .ok (.ireturn, 1) := by decide +kernel
theorem dL_law_0 : decode cL_law 0 = .ok (.new 46, 3) := by decide +kernel
theorem dL_law_3 : decode cL_law 3 = .ok (.dup, 1) := by decide +kernel
theorem dL_law_4 : decode cL_law 4 = .ok (.invokespecial 128, 3) := by decide +kernel
theorem dL_law_7 : decode cL_law 7 = .ok (.astore_n 1, 1) := by decide +kernel
theorem dL_law_8 : decode cL_law 8 = .ok (.iconst 2, 1) := by decide +kernel
theorem dL_law_9 : decode cL_law 9 = .ok (.newarray .int, 2) := by decide +kernel
theorem dL_law_11 : decode cL_law 11 = .ok (.astore_n 2, 1) := by decide +kernel
theorem dL_law_12 : decode cL_law 12 = .ok (.bipush 36, 2) := by decide +kernel
theorem dL_law_14 : decode cL_law 14 = .ok (.newarray .int, 2) := by decide +kernel
theorem dL_law_16 : decode cL_law 16 = .ok (.astore_n 3, 1) := by decide +kernel
theorem dL_law_17 : decode cL_law 17 = .ok (.bipush 36, 2) := by decide +kernel
theorem dL_law_19 : decode cL_law 19 = .ok (.newarray .int, 2) := by decide +kernel
theorem dL_law_21 : decode cL_law 21 = .ok (.astore 4, 2) := by decide +kernel
theorem dL_law_23 : decode cL_law 23 = .ok (.bipush 36, 2) := by decide +kernel
theorem dL_law_25 : decode cL_law 25 = .ok (.newarray .int, 2) := by decide +kernel
theorem dL_law_27 : decode cL_law 27 = .ok (.astore 5, 2) := by decide +kernel
theorem dL_law_29 : decode cL_law 29 = .ok (.bipush 36, 2) := by decide +kernel
theorem dL_law_31 : decode cL_law 31 = .ok (.newarray .int, 2) := by decide +kernel
theorem dL_law_33 : decode cL_law 33 = .ok (.astore 6, 2) := by decide +kernel
theorem dL_law_35 : decode cL_law 35 = .ok (.bipush 36, 2) := by decide +kernel
theorem dL_law_37 : decode cL_law 37 = .ok (.newarray .int, 2) := by decide +kernel
theorem dL_law_39 : decode cL_law 39 = .ok (.astore 7, 2) := by decide +kernel
theorem dL_law_41 : decode cL_law 41 = .ok (.aload_n 1, 1) := by decide +kernel
theorem dL_law_42 : decode cL_law 42 = .ok (.aload_n 2, 1) := by decide +kernel
theorem dL_law_43 : decode cL_law 43 = .ok (.aload_n 3, 1) := by decide +kernel
theorem dL_law_44 : decode cL_law 44 = .ok (.aload 4, 2) := by decide +kernel
theorem dL_law_46 : decode cL_law 46 = .ok (.aload 5, 2) := by decide +kernel
theorem dL_law_48 : decode cL_law 48 = .ok (.aload 6, 2) := by decide +kernel
theorem dL_law_50 : decode cL_law 50 = .ok (.aload 7, 2) := by decide +kernel
theorem dL_law_52 : decode cL_law 52 = .ok (.iconst 3, 1) := by decide +kernel
theorem dL_law_53 : decode cL_law 53 = .ok (.invokestatic 129, 3) := by decide +kernel
theorem dL_law_56 : decode cL_law 56 = .ok (.istore 8, 2) := by decide +kernel
theorem dL_law_58 : decode cL_law 58 = .ok (.iconst 0, 1) := by decide +kernel
theorem dL_law_59 : decode cL_law 59 = .ok (.istore 9, 2) := by decide +kernel
theorem dL_law_61 : decode cL_law 61 = .ok (.iload 9, 2) := by decide +kernel
theorem dL_law_63 : decode cL_law 63 = .ok (.bipush 120, 2) := by decide +kernel
theorem dL_law_65 : decode cL_law 65 = .ok (.if_icmp .ge 873, 3) := by decide +kernel
theorem dL_law_68 : decode cL_law 68 = .ok (.iload 8, 2) := by decide +kernel
theorem dL_law_70 : decode cL_law 70 = .ok (.ifCond .eq 868, 3) := by decide +kernel
theorem dL_law_73 : decode cL_law 73 = .ok (.iload 9, 2) := by decide +kernel
theorem dL_law_75 : decode cL_law 75 = .ok (.aload_n 0, 1) := by decide +kernel
theorem dL_law_76 : decode cL_law 76 = .ok (.arraylength, 1) := by decide +kernel
theorem dL_law_77 : decode cL_law 77 = .ok (.if_icmp .ge 13, 3) := by decide +kernel
theorem dL_law_80 : decode cL_law 80 = .ok (.aload_n 0, 1) := by decide +kernel
theorem dL_law_81 : decode cL_law 81 = .ok (.iload 9, 2) := by decide +kernel
theorem dL_law_83 : decode cL_law 83 = .ok (.iaload, 1) := by decide +kernel
theorem dL_law_84 : decode cL_law 84 = .ok (.ldc 133, 2) := by decide +kernel
theorem dL_law_86 : decode cL_law 86 = .ok (.iand, 1) := by decide +kernel
theorem dL_law_87 : decode cL_law 87 = .ok (.goto 24, 3) := by decide +kernel
