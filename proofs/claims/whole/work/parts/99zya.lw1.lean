/-! the law's calls, 2 -/
theorem l_344_472 : look 344 472 = some (.aload_n 1, 1, 0, 0, 0, 0) := by decide +kernel
theorem l_344_473 : look 344 473 = some (.aload_n 0, 1, 0, 0, 0, 0) := by decide +kernel
theorem l_344_474 : look 344 474 = some (.iload 4, 2, 0, 0, 0, 0) := by decide +kernel
theorem l_344_476 : look 344 476 = some (.iconst 1, 1, 0, 0, 0, 0) := by decide +kernel
theorem l_344_477 : look 344 477 = some (.iadd, 1, 0, 0, 0, 0) := by decide +kernel
theorem l_344_478 : look 344 478 = some (.iaload, 1, 0, 0, 0, 0) := by decide +kernel
theorem l_344_479 : look 344 479 = some (.aload_n 0, 1, 0, 0, 0, 0) := by decide +kernel
theorem l_344_480 : look 344 480 = some (.iload 4, 2, 0, 0, 0, 0) := by decide +kernel
theorem l_344_482 : look 344 482 = some (.iconst 2, 1, 0, 0, 0, 0) := by decide +kernel
theorem l_344_483 : look 344 483 = some (.iadd, 1, 0, 0, 0, 0) := by decide +kernel
theorem l_344_484 : look 344 484 = some (.iaload, 1, 0, 0, 0, 0) := by decide +kernel
theorem l_344_485 : look 344 485 = some (.aload_n 0, 1, 0, 0, 0, 0) := by decide +kernel
theorem l_344_486 : look 344 486 = some (.iload 4, 2, 0, 0, 0, 0) := by decide +kernel
theorem l_344_488 : look 344 488 = some (.iconst 3, 1, 0, 0, 0, 0) := by decide +kernel
theorem l_344_489 : look 344 489 = some (.iadd, 1, 0, 0, 0, 0) := by decide +kernel
theorem l_344_490 : look 344 490 = some (.iaload, 1, 0, 0, 0, 0) := by decide +kernel
theorem l_344_491 : look 344 491 = some (.aload_n 0, 1, 0, 0, 0, 0) := by decide +kernel
theorem l_344_492 : look 344 492 = some (.iload 4, 2, 0, 0, 0, 0) := by decide +kernel
theorem l_344_494 : look 344 494 = some (.iconst 4, 1, 0, 0, 0, 0) := by decide +kernel
theorem l_344_495 : look 344 495 = some (.iadd, 1, 0, 0, 0, 0) := by decide +kernel
theorem l_344_496 : look 344 496 = some (.iaload, 1, 0, 0, 0, 0) := by decide +kernel
theorem l_344_497 : look 344 497 = some (.aload_n 0, 1, 0, 0, 0, 0) := by decide +kernel
theorem l_344_498 : look 344 498 = some (.iload 4, 2, 0, 0, 0, 0) := by decide +kernel
theorem l_344_500 : look 344 500 = some (.iconst 5, 1, 0, 0, 0, 0) := by decide +kernel
theorem l_344_501 : look 344 501 = some (.iadd, 1, 0, 0, 0, 0) := by decide +kernel
theorem l_344_502 : look 344 502 = some (.iaload, 1, 0, 0, 0, 0) := by decide +kernel
theorem l_344_503 : look 344 503 = some (.aload_n 3, 1, 0, 0, 0, 0) := by decide +kernel
theorem l_344_504 : look 344 504 = some (.invokestatic 168, 3, 309, 7, 7, 1060) := by decide +kernel
theorem l_344_507 : look 344 507 = some (.istore 5, 2, 0, 0, 0, 0) := by decide +kernel
theorem l_344_509 : look 344 509 = some (.aload_n 2, 1, 0, 0, 0, 0) := by decide +kernel
theorem l_344_510 : look 344 510 = some (.aload_n 0, 1, 0, 0, 0, 0) := by decide +kernel
theorem l_344_511 : look 344 511 = some (.iload 4, 2, 0, 0, 0, 0) := by decide +kernel
theorem l_344_513 : look 344 513 = some (.iconst 1, 1, 0, 0, 0, 0) := by decide +kernel
theorem l_344_514 : look 344 514 = some (.iadd, 1, 0, 0, 0, 0) := by decide +kernel
theorem l_344_515 : look 344 515 = some (.iaload, 1, 0, 0, 0, 0) := by decide +kernel
theorem l_344_516 : look 344 516 = some (.aload_n 0, 1, 0, 0, 0, 0) := by decide +kernel
theorem l_344_517 : look 344 517 = some (.iload 4, 2, 0, 0, 0, 0) := by decide +kernel
theorem l_344_519 : look 344 519 = some (.iconst 2, 1, 0, 0, 0, 0) := by decide +kernel
theorem l_344_520 : look 344 520 = some (.iadd, 1, 0, 0, 0, 0) := by decide +kernel
theorem l_344_521 : look 344 521 = some (.iaload, 1, 0, 0, 0, 0) := by decide +kernel
theorem l_344_522 : look 344 522 = some (.aload_n 0, 1, 0, 0, 0, 0) := by decide +kernel
theorem l_344_523 : look 344 523 = some (.iload 4, 2, 0, 0, 0, 0) := by decide +kernel
theorem l_344_525 : look 344 525 = some (.iconst 3, 1, 0, 0, 0, 0) := by decide +kernel
theorem l_344_526 : look 344 526 = some (.iadd, 1, 0, 0, 0, 0) := by decide +kernel
theorem l_344_527 : look 344 527 = some (.iaload, 1, 0, 0, 0, 0) := by decide +kernel
theorem l_344_528 : look 344 528 = some (.aload_n 0, 1, 0, 0, 0, 0) := by decide +kernel
theorem l_344_529 : look 344 529 = some (.iload 4, 2, 0, 0, 0, 0) := by decide +kernel
theorem l_344_531 : look 344 531 = some (.iconst 4, 1, 0, 0, 0, 0) := by decide +kernel
theorem l_344_532 : look 344 532 = some (.iadd, 1, 0, 0, 0, 0) := by decide +kernel
theorem l_344_533 : look 344 533 = some (.iaload, 1, 0, 0, 0, 0) := by decide +kernel
theorem l_344_534 : look 344 534 = some (.aload_n 0, 1, 0, 0, 0, 0) := by decide +kernel
theorem l_344_535 : look 344 535 = some (.iload 4, 2, 0, 0, 0, 0) := by decide +kernel
theorem l_344_537 : look 344 537 = some (.iconst 5, 1, 0, 0, 0, 0) := by decide +kernel
theorem l_344_538 : look 344 538 = some (.iadd, 1, 0, 0, 0, 0) := by decide +kernel
theorem l_344_539 : look 344 539 = some (.iaload, 1, 0, 0, 0, 0) := by decide +kernel
theorem l_344_540 : look 344 540 = some (.invokevirtual 171, 3, 234, 6, 0, 1882) := by decide +kernel
theorem l_344_543 : look 344 543 = some (.istore 6, 2, 0, 0, 0, 0) := by decide +kernel
theorem l_344_545 : look 344 545 = some (.aload_n 2, 1, 0, 0, 0, 0) := by decide +kernel
theorem l_344_546 : look 344 546 = some (.invokevirtual 153, 3, 168, 1, 0, 1730) := by decide +kernel
theorem l_344_549 : look 344 549 = some (.iload 5, 2, 0, 0, 0, 0) := by decide +kernel
theorem l_344_551 : look 344 551 = some (.if_icmp .eq 5, 3, 0, 0, 0, 0) := by decide +kernel
theorem l_344_556 : look 344 556 = some (.iload 5, 2, 0, 0, 0, 0) := by decide +kernel
theorem l_344_558 : look 344 558 = some (.ifCond .ne 15, 3, 0, 0, 0, 0) := by decide +kernel
theorem l_344_561 : look 344 561 = some (.aload_n 3, 1, 0, 0, 0, 0) := by decide +kernel
theorem l_344_562 : look 344 562 = some (.iconst 0, 1, 0, 0, 0, 0) := by decide +kernel
theorem l_344_563 : look 344 563 = some (.laload, 1, 0, 0, 0, 0) := by decide +kernel
theorem l_344_564 : look 344 564 = some (.iload 6, 2, 0, 0, 0, 0) := by decide +kernel
theorem l_344_566 : look 344 566 = some (.i2l, 1, 0, 0, 0, 0) := by decide +kernel
theorem l_344_567 : look 344 567 = some (.lcmp, 1, 0, 0, 0, 0) := by decide +kernel
theorem l_344_568 : look 344 568 = some (.ifCond .eq 5, 3, 0, 0, 0, 0) := by decide +kernel
theorem l_344_573 : look 344 573 = some (.goto 2141, 3, 0, 0, 0, 0) := by decide +kernel
theorem l_344_576 : look 344 576 = some (.aload_n 1, 1, 0, 0, 0, 0) := by decide +kernel
theorem l_344_577 : look 344 577 = some (.aload_n 3, 1, 0, 0, 0, 0) := by decide +kernel
theorem l_344_578 : look 344 578 = some (.invokestatic 172, 3, 310, 2, 7, 1144) := by decide +kernel
theorem l_344_581 : look 344 581 = some (.istore 5, 2, 0, 0, 0, 0) := by decide +kernel
theorem l_344_583 : look 344 583 = some (.aload_n 2, 1, 0, 0, 0, 0) := by decide +kernel
theorem l_344_584 : look 344 584 = some (.invokevirtual 174, 3, 235, 1, 0, 1996) := by decide +kernel
theorem l_344_587 : look 344 587 = some (.istore 6, 2, 0, 0, 0, 0) := by decide +kernel
theorem l_344_589 : look 344 589 = some (.aload_n 2, 1, 0, 0, 0, 0) := by decide +kernel
theorem l_344_590 : look 344 590 = some (.invokevirtual 153, 3, 168, 1, 0, 1730) := by decide +kernel
theorem l_344_593 : look 344 593 = some (.iload 5, 2, 0, 0, 0, 0) := by decide +kernel
theorem l_344_595 : look 344 595 = some (.if_icmp .eq 5, 3, 0, 0, 0, 0) := by decide +kernel
theorem l_344_600 : look 344 600 = some (.iload 5, 2, 0, 0, 0, 0) := by decide +kernel
theorem l_344_602 : look 344 602 = some (.ifCond .ne 15, 3, 0, 0, 0, 0) := by decide +kernel
theorem l_344_605 : look 344 605 = some (.aload_n 3, 1, 0, 0, 0, 0) := by decide +kernel
theorem l_344_606 : look 344 606 = some (.iconst 0, 1, 0, 0, 0, 0) := by decide +kernel
theorem l_344_607 : look 344 607 = some (.laload, 1, 0, 0, 0, 0) := by decide +kernel
theorem l_344_608 : look 344 608 = some (.iload 6, 2, 0, 0, 0, 0) := by decide +kernel
theorem l_344_610 : look 344 610 = some (.i2l, 1, 0, 0, 0, 0) := by decide +kernel
theorem l_344_611 : look 344 611 = some (.lcmp, 1, 0, 0, 0, 0) := by decide +kernel
theorem l_344_612 : look 344 612 = some (.ifCond .eq 5, 3, 0, 0, 0, 0) := by decide +kernel
theorem l_344_617 : look 344 617 = some (.goto 2097, 3, 0, 0, 0, 0) := by decide +kernel
theorem l_344_620 : look 344 620 = some (.aload_n 1, 1, 0, 0, 0, 0) := by decide +kernel
theorem l_344_621 : look 344 621 = some (.aload_n 0, 1, 0, 0, 0, 0) := by decide +kernel
theorem l_344_622 : look 344 622 = some (.iload 4, 2, 0, 0, 0, 0) := by decide +kernel
theorem l_344_624 : look 344 624 = some (.iconst 1, 1, 0, 0, 0, 0) := by decide +kernel
theorem l_344_625 : look 344 625 = some (.iadd, 1, 0, 0, 0, 0) := by decide +kernel
theorem l_344_626 : look 344 626 = some (.iaload, 1, 0, 0, 0, 0) := by decide +kernel
theorem l_344_627 : look 344 627 = some (.aload_n 0, 1, 0, 0, 0, 0) := by decide +kernel
theorem l_344_628 : look 344 628 = some (.iload 4, 2, 0, 0, 0, 0) := by decide +kernel
theorem l_344_630 : look 344 630 = some (.iconst 2, 1, 0, 0, 0, 0) := by decide +kernel
theorem l_344_631 : look 344 631 = some (.iadd, 1, 0, 0, 0, 0) := by decide +kernel
theorem l_344_632 : look 344 632 = some (.iaload, 1, 0, 0, 0, 0) := by decide +kernel
theorem l_344_633 : look 344 633 = some (.ifCond .eq 7, 3, 0, 0, 0, 0) := by decide +kernel
theorem l_344_636 : look 344 636 = some (.iconst 1, 1, 0, 0, 0, 0) := by decide +kernel
theorem l_344_637 : look 344 637 = some (.goto 4, 3, 0, 0, 0, 0) := by decide +kernel
theorem l_344_640 : look 344 640 = some (.iconst 0, 1, 0, 0, 0, 0) := by decide +kernel
theorem l_344_641 : look 344 641 = some (.aload_n 3, 1, 0, 0, 0, 0) := by decide +kernel
theorem l_344_642 : look 344 642 = some (.invokestatic 175, 3, 311, 4, 7, 1152) := by decide +kernel
theorem l_344_645 : look 344 645 = some (.istore 5, 2, 0, 0, 0, 0) := by decide +kernel
theorem l_344_647 : look 344 647 = some (.aload_n 2, 1, 0, 0, 0, 0) := by decide +kernel
theorem l_344_648 : look 344 648 = some (.aload_n 0, 1, 0, 0, 0, 0) := by decide +kernel
theorem l_344_649 : look 344 649 = some (.iload 4, 2, 0, 0, 0, 0) := by decide +kernel
theorem l_344_651 : look 344 651 = some (.iconst 1, 1, 0, 0, 0, 0) := by decide +kernel
theorem l_344_652 : look 344 652 = some (.iadd, 1, 0, 0, 0, 0) := by decide +kernel
theorem l_344_653 : look 344 653 = some (.iaload, 1, 0, 0, 0, 0) := by decide +kernel
theorem l_344_654 : look 344 654 = some (.aload_n 0, 1, 0, 0, 0, 0) := by decide +kernel
theorem l_344_655 : look 344 655 = some (.iload 4, 2, 0, 0, 0, 0) := by decide +kernel
theorem l_344_657 : look 344 657 = some (.iconst 2, 1, 0, 0, 0, 0) := by decide +kernel
theorem l_344_658 : look 344 658 = some (.iadd, 1, 0, 0, 0, 0) := by decide +kernel
theorem l_344_659 : look 344 659 = some (.iaload, 1, 0, 0, 0, 0) := by decide +kernel
theorem l_344_660 : look 344 660 = some (.ifCond .eq 7, 3, 0, 0, 0, 0) := by decide +kernel
theorem l_344_663 : look 344 663 = some (.iconst 1, 1, 0, 0, 0, 0) := by decide +kernel
theorem l_344_664 : look 344 664 = some (.goto 4, 3, 0, 0, 0, 0) := by decide +kernel
theorem l_344_667 : look 344 667 = some (.iconst 0, 1, 0, 0, 0, 0) := by decide +kernel
theorem l_344_668 : look 344 668 = some (.invokevirtual 178, 3, 236, 3, 0, 2000) := by decide +kernel
theorem l_344_671 : look 344 671 = some (.istore 6, 2, 0, 0, 0, 0) := by decide +kernel
theorem l_344_673 : look 344 673 = some (.aload_n 2, 1, 0, 0, 0, 0) := by decide +kernel
theorem l_344_674 : look 344 674 = some (.invokevirtual 153, 3, 168, 1, 0, 1730) := by decide +kernel
theorem l_344_677 : look 344 677 = some (.iload 5, 2, 0, 0, 0, 0) := by decide +kernel
theorem l_344_679 : look 344 679 = some (.if_icmp .eq 5, 3, 0, 0, 0, 0) := by decide +kernel
theorem l_344_684 : look 344 684 = some (.iload 5, 2, 0, 0, 0, 0) := by decide +kernel
theorem l_344_686 : look 344 686 = some (.ifCond .ne 15, 3, 0, 0, 0, 0) := by decide +kernel
theorem l_344_689 : look 344 689 = some (.aload_n 3, 1, 0, 0, 0, 0) := by decide +kernel
theorem l_344_690 : look 344 690 = some (.iconst 0, 1, 0, 0, 0, 0) := by decide +kernel
theorem l_344_691 : look 344 691 = some (.laload, 1, 0, 0, 0, 0) := by decide +kernel
theorem l_344_692 : look 344 692 = some (.iload 6, 2, 0, 0, 0, 0) := by decide +kernel
theorem l_344_694 : look 344 694 = some (.i2l, 1, 0, 0, 0, 0) := by decide +kernel
theorem l_344_695 : look 344 695 = some (.lcmp, 1, 0, 0, 0, 0) := by decide +kernel
theorem l_344_696 : look 344 696 = some (.ifCond .eq 5, 3, 0, 0, 0, 0) := by decide +kernel
theorem l_344_701 : look 344 701 = some (.goto 2013, 3, 0, 0, 0, 0) := by decide +kernel
theorem l_344_704 : look 344 704 = some (.aload_n 1, 1, 0, 0, 0, 0) := by decide +kernel
theorem l_344_705 : look 344 705 = some (.aload_n 0, 1, 0, 0, 0, 0) := by decide +kernel
theorem l_344_706 : look 344 706 = some (.iload 4, 2, 0, 0, 0, 0) := by decide +kernel
theorem l_344_708 : look 344 708 = some (.iconst 1, 1, 0, 0, 0, 0) := by decide +kernel
theorem l_344_709 : look 344 709 = some (.iadd, 1, 0, 0, 0, 0) := by decide +kernel
theorem l_344_710 : look 344 710 = some (.iaload, 1, 0, 0, 0, 0) := by decide +kernel
theorem l_344_711 : look 344 711 = some (.aload_n 3, 1, 0, 0, 0, 0) := by decide +kernel
theorem l_344_712 : look 344 712 = some (.invokestatic 179, 3, 312, 3, 7, 1159) := by decide +kernel
theorem l_344_715 : look 344 715 = some (.istore 5, 2, 0, 0, 0, 0) := by decide +kernel
theorem l_344_717 : look 344 717 = some (.aload_n 2, 1, 0, 0, 0, 0) := by decide +kernel
theorem l_344_718 : look 344 718 = some (.aload_n 0, 1, 0, 0, 0, 0) := by decide +kernel
theorem l_344_719 : look 344 719 = some (.iload 4, 2, 0, 0, 0, 0) := by decide +kernel
theorem l_344_721 : look 344 721 = some (.iconst 1, 1, 0, 0, 0, 0) := by decide +kernel
theorem l_344_722 : look 344 722 = some (.iadd, 1, 0, 0, 0, 0) := by decide +kernel
theorem l_344_723 : look 344 723 = some (.iaload, 1, 0, 0, 0, 0) := by decide +kernel
theorem l_344_724 : look 344 724 = some (.invokevirtual 181, 3, 237, 2, 0, 2004) := by decide +kernel
theorem l_344_727 : look 344 727 = some (.istore 6, 2, 0, 0, 0, 0) := by decide +kernel
theorem l_344_729 : look 344 729 = some (.aload_n 2, 1, 0, 0, 0, 0) := by decide +kernel
theorem l_344_730 : look 344 730 = some (.invokevirtual 153, 3, 168, 1, 0, 1730) := by decide +kernel
theorem l_344_733 : look 344 733 = some (.iload 5, 2, 0, 0, 0, 0) := by decide +kernel
theorem l_344_735 : look 344 735 = some (.if_icmp .eq 5, 3, 0, 0, 0, 0) := by decide +kernel
theorem l_344_740 : look 344 740 = some (.iload 5, 2, 0, 0, 0, 0) := by decide +kernel
theorem l_344_742 : look 344 742 = some (.ifCond .ne 15, 3, 0, 0, 0, 0) := by decide +kernel
theorem l_344_745 : look 344 745 = some (.aload_n 3, 1, 0, 0, 0, 0) := by decide +kernel
theorem l_344_746 : look 344 746 = some (.iconst 0, 1, 0, 0, 0, 0) := by decide +kernel
theorem l_344_747 : look 344 747 = some (.laload, 1, 0, 0, 0, 0) := by decide +kernel
theorem l_344_748 : look 344 748 = some (.iload 6, 2, 0, 0, 0, 0) := by decide +kernel
theorem l_344_750 : look 344 750 = some (.i2l, 1, 0, 0, 0, 0) := by decide +kernel
theorem l_344_751 : look 344 751 = some (.lcmp, 1, 0, 0, 0, 0) := by decide +kernel
theorem l_344_752 : look 344 752 = some (.ifCond .eq 5, 3, 0, 0, 0, 0) := by decide +kernel
theorem l_344_757 : look 344 757 = some (.goto 1957, 3, 0, 0, 0, 0) := by decide +kernel
theorem l_344_760 : look 344 760 = some (.aload_n 1, 1, 0, 0, 0, 0) := by decide +kernel
theorem l_344_761 : look 344 761 = some (.aload_n 0, 1, 0, 0, 0, 0) := by decide +kernel
theorem l_344_762 : look 344 762 = some (.iload 4, 2, 0, 0, 0, 0) := by decide +kernel
theorem l_344_764 : look 344 764 = some (.iconst 1, 1, 0, 0, 0, 0) := by decide +kernel
theorem l_344_765 : look 344 765 = some (.iadd, 1, 0, 0, 0, 0) := by decide +kernel
theorem l_344_766 : look 344 766 = some (.iaload, 1, 0, 0, 0, 0) := by decide +kernel
theorem l_344_767 : look 344 767 = some (.aload_n 3, 1, 0, 0, 0, 0) := by decide +kernel
theorem l_344_768 : look 344 768 = some (.invokestatic 182, 3, 313, 3, 7, 1166) := by decide +kernel
theorem l_344_771 : look 344 771 = some (.istore 5, 2, 0, 0, 0, 0) := by decide +kernel
theorem l_344_773 : look 344 773 = some (.aload_n 2, 1, 0, 0, 0, 0) := by decide +kernel
theorem l_344_774 : look 344 774 = some (.aload_n 0, 1, 0, 0, 0, 0) := by decide +kernel
theorem l_344_775 : look 344 775 = some (.iload 4, 2, 0, 0, 0, 0) := by decide +kernel
theorem l_344_777 : look 344 777 = some (.iconst 1, 1, 0, 0, 0, 0) := by decide +kernel
theorem l_344_778 : look 344 778 = some (.iadd, 1, 0, 0, 0, 0) := by decide +kernel
theorem l_344_779 : look 344 779 = some (.iaload, 1, 0, 0, 0, 0) := by decide +kernel
theorem l_344_780 : look 344 780 = some (.invokevirtual 184, 3, 239, 2, 0, 2012) := by decide +kernel
theorem l_344_783 : look 344 783 = some (.istore 6, 2, 0, 0, 0, 0) := by decide +kernel
theorem l_344_785 : look 344 785 = some (.aload_n 2, 1, 0, 0, 0, 0) := by decide +kernel
theorem l_344_786 : look 344 786 = some (.invokevirtual 153, 3, 168, 1, 0, 1730) := by decide +kernel
theorem l_344_789 : look 344 789 = some (.iload 5, 2, 0, 0, 0, 0) := by decide +kernel
theorem l_344_791 : look 344 791 = some (.if_icmp .eq 5, 3, 0, 0, 0, 0) := by decide +kernel
theorem l_344_796 : look 344 796 = some (.iload 5, 2, 0, 0, 0, 0) := by decide +kernel
theorem l_344_798 : look 344 798 = some (.ifCond .ne 15, 3, 0, 0, 0, 0) := by decide +kernel
theorem l_344_801 : look 344 801 = some (.aload_n 3, 1, 0, 0, 0, 0) := by decide +kernel
theorem l_344_802 : look 344 802 = some (.iconst 0, 1, 0, 0, 0, 0) := by decide +kernel
theorem l_344_803 : look 344 803 = some (.laload, 1, 0, 0, 0, 0) := by decide +kernel
theorem l_344_804 : look 344 804 = some (.iload 6, 2, 0, 0, 0, 0) := by decide +kernel
theorem l_344_806 : look 344 806 = some (.i2l, 1, 0, 0, 0, 0) := by decide +kernel
theorem l_344_807 : look 344 807 = some (.lcmp, 1, 0, 0, 0, 0) := by decide +kernel
theorem l_344_808 : look 344 808 = some (.ifCond .eq 5, 3, 0, 0, 0, 0) := by decide +kernel
theorem l_344_813 : look 344 813 = some (.goto 1901, 3, 0, 0, 0, 0) := by decide +kernel
theorem l_344_816 : look 344 816 = some (.aload_n 1, 1, 0, 0, 0, 0) := by decide +kernel
theorem l_344_817 : look 344 817 = some (.aload_n 0, 1, 0, 0, 0, 0) := by decide +kernel
theorem l_344_818 : look 344 818 = some (.iload 4, 2, 0, 0, 0, 0) := by decide +kernel
theorem l_344_820 : look 344 820 = some (.iconst 1, 1, 0, 0, 0, 0) := by decide +kernel
theorem l_344_821 : look 344 821 = some (.iadd, 1, 0, 0, 0, 0) := by decide +kernel
theorem l_344_822 : look 344 822 = some (.iaload, 1, 0, 0, 0, 0) := by decide +kernel
theorem l_344_823 : look 344 823 = some (.aload_n 3, 1, 0, 0, 0, 0) := by decide +kernel
theorem l_344_824 : look 344 824 = some (.invokestatic 185, 3, 314, 3, 7, 1177) := by decide +kernel
theorem l_344_827 : look 344 827 = some (.istore 5, 2, 0, 0, 0, 0) := by decide +kernel
theorem l_344_829 : look 344 829 = some (.aload_n 2, 1, 0, 0, 0, 0) := by decide +kernel
theorem l_344_830 : look 344 830 = some (.aload_n 0, 1, 0, 0, 0, 0) := by decide +kernel
theorem l_344_831 : look 344 831 = some (.iload 4, 2, 0, 0, 0, 0) := by decide +kernel
theorem l_344_833 : look 344 833 = some (.iconst 1, 1, 0, 0, 0, 0) := by decide +kernel
theorem l_344_834 : look 344 834 = some (.iadd, 1, 0, 0, 0, 0) := by decide +kernel
theorem l_344_835 : look 344 835 = some (.iaload, 1, 0, 0, 0, 0) := by decide +kernel
theorem l_344_836 : look 344 836 = some (.invokevirtual 187, 3, 240, 2, 0, 2020) := by decide +kernel
theorem l_344_839 : look 344 839 = some (.istore 6, 2, 0, 0, 0, 0) := by decide +kernel
theorem l_344_841 : look 344 841 = some (.aload_n 2, 1, 0, 0, 0, 0) := by decide +kernel
theorem l_344_842 : look 344 842 = some (.invokevirtual 153, 3, 168, 1, 0, 1730) := by decide +kernel
theorem l_344_845 : look 344 845 = some (.iload 5, 2, 0, 0, 0, 0) := by decide +kernel
theorem l_344_847 : look 344 847 = some (.if_icmp .eq 5, 3, 0, 0, 0, 0) := by decide +kernel
theorem l_344_852 : look 344 852 = some (.iload 5, 2, 0, 0, 0, 0) := by decide +kernel
theorem l_344_854 : look 344 854 = some (.ifCond .ne 15, 3, 0, 0, 0, 0) := by decide +kernel
theorem l_344_857 : look 344 857 = some (.aload_n 3, 1, 0, 0, 0, 0) := by decide +kernel
theorem l_344_858 : look 344 858 = some (.iconst 0, 1, 0, 0, 0, 0) := by decide +kernel
theorem l_344_859 : look 344 859 = some (.laload, 1, 0, 0, 0, 0) := by decide +kernel
theorem l_344_860 : look 344 860 = some (.iload 6, 2, 0, 0, 0, 0) := by decide +kernel
theorem l_344_862 : look 344 862 = some (.i2l, 1, 0, 0, 0, 0) := by decide +kernel
theorem l_344_863 : look 344 863 = some (.lcmp, 1, 0, 0, 0, 0) := by decide +kernel
theorem l_344_864 : look 344 864 = some (.ifCond .eq 5, 3, 0, 0, 0, 0) := by decide +kernel
theorem l_344_869 : look 344 869 = some (.goto 1845, 3, 0, 0, 0, 0) := by decide +kernel
section LWA1
variable {xs : List Int} {S : List (Nat × Nat)} {T : Nat → Nat → Nat} {I : Ix} {cc zz s c i : Nat} {v5 v6 : AV} {Q : Res → Mem → Prop}
theorem cs_6 (IV : INV S T I s c) (hb : 1 ≤ cc ∧ 6 ≤ zz) (hc : c + 1 < 100000) (hi : i + 5 < xs.length) (hxl : xs.length ≤ 100000) (KK : KKP xs S s i cc zz c Q) : WP xs 344 35 472 [vs 3, vr s, vr (s + 163), vr (s + 203), vi ((i : Nat) : Int), v5, v6] [] (S, I, T, cc, zz) Q := by
  have hms := oModel_sh IV.1
  have h203 := IV.2.1
  have hds := IV.sh
  refine w_aln l_344_472 rfl ?_
  refine w_asn l_344_473 rfl ?_
  refine w_il l_344_474 rfl ?_
  refine w_ic l_344_476 (by decide) ?_
  refine w_add ((i + 1 : Nat) : Int) l_344_477 (by unfold wr; omega) ?_
  refine w_xs (i + 1) (xs.getD (i + 1) 0) l_344_478 rfl (by omega) rfl ?_
  refine w_asn l_344_479 rfl ?_
  refine w_il l_344_480 rfl ?_
  refine w_ic l_344_482 (by decide) ?_
  refine w_add ((i + 2 : Nat) : Int) l_344_483 (by unfold wr; omega) ?_
  refine w_xs (i + 2) (xs.getD (i + 2) 0) l_344_484 rfl (by omega) rfl ?_
  refine w_asn l_344_485 rfl ?_
  refine w_il l_344_486 rfl ?_
  refine w_ic l_344_488 (by decide) ?_
  refine w_add ((i + 3 : Nat) : Int) l_344_489 (by unfold wr; omega) ?_
  refine w_xs (i + 3) (xs.getD (i + 3) 0) l_344_490 rfl (by omega) rfl ?_
  refine w_asn l_344_491 rfl ?_
  refine w_il l_344_492 rfl ?_
  refine w_ic l_344_494 (by decide) ?_
  refine w_add ((i + 4 : Nat) : Int) l_344_495 (by unfold wr; omega) ?_
  refine w_xs (i + 4) (xs.getD (i + 4) 0) l_344_496 rfl (by omega) rfl ?_
  refine w_asn l_344_497 rfl ?_
  refine w_il l_344_498 rfl ?_
  refine w_ic l_344_500 (by decide) ?_
  refine w_add ((i + 5 : Nat) : Int) l_344_501 (by unfold wr; omega) ?_
  refine w_xs (i + 5) (xs.getD (i + 5) 0) l_344_502 rfl (by omega) rfl ?_
  refine w_aln l_344_503 rfl ?_
  refine w_st [vr s, vi (xs.getD (i + 1) 0), vi (xs.getD (i + 2) 0), vi (xs.getD (i + 3) 0), vi (xs.getD (i + 4) 0), vi (xs.getD (i + 5) 0), vr (s + 203)] [] l_344_504 (by decide) rfl rfl (Nat.le_of_ble_eq_true rfl) (by rw [mx_309]; exact Nat.le_of_ble_eq_true rfl) (by rw [rk_309]; decide) (CL_mono (pr_309 IV hb hc) fun r1 m1 hr1 => ?_)
  obtain ⟨k, I1, T1, c1, z1, rfl, rfl, hcc, hzz, hr2⟩ := hr1
  show WP xs 344 35 507 [vs 3, vr s, vr (s + 163), vr (s + 203), vi ((i : Nat) : Int), v5, v6] [vi k] (S, I1, T1, c1, z1) Q
  refine w_is l_344_507 ⟨Nat.le_of_ble_eq_true rfl, rfl⟩ ?_
  refine w_aln l_344_509 rfl ?_
  refine w_asn l_344_510 rfl ?_
  refine w_il l_344_511 rfl ?_
  refine w_ic l_344_513 (by decide) ?_
  refine w_add ((i + 1 : Nat) : Int) l_344_514 (by unfold wr; omega) ?_
  refine w_xs (i + 1) (xs.getD (i + 1) 0) l_344_515 rfl (by omega) rfl ?_
  refine w_asn l_344_516 rfl ?_
  refine w_il l_344_517 rfl ?_
  refine w_ic l_344_519 (by decide) ?_
  refine w_add ((i + 2 : Nat) : Int) l_344_520 (by unfold wr; omega) ?_
  refine w_xs (i + 2) (xs.getD (i + 2) 0) l_344_521 rfl (by omega) rfl ?_
  refine w_asn l_344_522 rfl ?_
  refine w_il l_344_523 rfl ?_
  refine w_ic l_344_525 (by decide) ?_
  refine w_add ((i + 3 : Nat) : Int) l_344_526 (by unfold wr; omega) ?_
  refine w_xs (i + 3) (xs.getD (i + 3) 0) l_344_527 rfl (by omega) rfl ?_
  refine w_asn l_344_528 rfl ?_
  refine w_il l_344_529 rfl ?_
  refine w_ic l_344_531 (by decide) ?_
  refine w_add ((i + 4 : Nat) : Int) l_344_532 (by unfold wr; omega) ?_
  refine w_xs (i + 4) (xs.getD (i + 4) 0) l_344_533 rfl (by omega) rfl ?_
  refine w_asn l_344_534 rfl ?_
  refine w_il l_344_535 rfl ?_
  refine w_ic l_344_537 (by decide) ?_
  refine w_add ((i + 5 : Nat) : Int) l_344_538 (by unfold wr; omega) ?_
  refine w_xs (i + 5) (xs.getD (i + 5) 0) l_344_539 rfl (by omega) rfl ?_
  refine w_iv [vi (xs.getD (i + 1) 0), vi (xs.getD (i + 2) 0), vi (xs.getD (i + 3) 0), vi (xs.getD (i + 4) 0), vi (xs.getD (i + 5) 0)] [] l_344_540 rfl rfl rfl (Nat.le_of_ble_eq_true rfl) (by rw [mx_234]; exact Nat.le_of_ble_eq_true rfl) (by rw [mt_234]; exact hms) (by rw [mt_234]; decide) (by rw [rk_234]; decide) (CL_mono hr2 fun r2 m2 h2 => ?_)
  obtain ⟨b, I2, c2, rfl, rfl, IV2, hc2, e0, eb, hB⟩ := h2
  show WP xs 344 35 543 [vs 3, vr s, vr (s + 163), vr (s + 203), vi ((i : Nat) : Int), vi k, v6] [vi b] (S, I2, T1, c1, z1) Q
  refine w_is l_344_543 ⟨Nat.le_of_ble_eq_true rfl, rfl⟩ ?_
  refine w_aln l_344_545 rfl ?_
  refine q_iv [] [] l_344_546 rfl rfl (Nat.le_of_ble_eq_true rfl) (by rw [mx_168]; exact Nat.le_of_ble_eq_true rfl) (by rw [mt_168]; exact oModel_sh IV2.1) (by rw [mt_168]; decide) (by rw [rk_168]; decide) (s_168 IV2.1) ?_
  refine w_il l_344_549 rfl ?_
  refine w_ceq 556 l_344_551 (by decide) (fun _ => ?_) (fun hx => absurd hx (by exact fun q => q e0))
  refine w_il l_344_556 rfl ?_
  refine w_zne 573 l_344_558 (by decide) (fun h1 => ?_) (fun h1 => ?_)
  · skip
    refine w_go 2714 l_344_573 (by decide) ?_
    exact KK _ _ _ _ _ _ _ IV2 (by omega) (by omega) (by omega)
  · skip
    refine w_aln l_344_561 rfl ?_
    refine w_ic l_344_562 (by decide) ?_
    refine w_la 0 (I2 (s + 203) 0) l_344_563 h203 rfl (by omega) rfl ?_
    refine w_il l_344_564 rfl ?_
    refine w_i2l l_344_566 ?_
    refine w_lcmp l_344_567 ?_
    refine w_zeq 573 l_344_568 (by decide) (fun _ => ?_) (fun hx => absurd hx (by exact fun q => q (by rw [eb h1]; exact cmpL_rf)))
    refine w_go 2714 l_344_573 (by decide) ?_
    exact KK _ _ _ _ _ _ _ IV2 (by omega) (by omega) (by omega)

theorem cs_7 (IV : INV S T I s c) (hb : 1 ≤ cc ∧ 6 ≤ zz) (hc : c + 1 < 100000) (hi : i + 5 < xs.length) (hxl : xs.length ≤ 100000) (KK : KKP xs S s i cc zz c Q) : WP xs 344 35 576 [vs 3, vr s, vr (s + 163), vr (s + 203), vi ((i : Nat) : Int), v5, v6] [] (S, I, T, cc, zz) Q := by
  have hms := oModel_sh IV.1
  have h203 := IV.2.1
  have hds := IV.sh
  refine w_aln l_344_576 rfl ?_
  refine w_aln l_344_577 rfl ?_
  refine w_st [vr s, vr (s + 203)] [] l_344_578 (by decide) rfl rfl (Nat.le_of_ble_eq_true rfl) (by rw [mx_310]; exact Nat.le_of_ble_eq_true rfl) (by rw [rk_310]; decide) (CL_mono (pr_310 IV hb hc) fun r1 m1 hr1 => ?_)
  obtain ⟨k, I1, T1, c1, z1, rfl, rfl, hcc, hzz, hr2⟩ := hr1
  show WP xs 344 35 581 [vs 3, vr s, vr (s + 163), vr (s + 203), vi ((i : Nat) : Int), v5, v6] [vi k] (S, I1, T1, c1, z1) Q
  refine w_is l_344_581 ⟨Nat.le_of_ble_eq_true rfl, rfl⟩ ?_
  refine w_aln l_344_583 rfl ?_
  refine w_iv [] [] l_344_584 rfl rfl rfl (Nat.le_of_ble_eq_true rfl) (by rw [mx_235]; exact Nat.le_of_ble_eq_true rfl) (by rw [mt_235]; exact hms) (by rw [mt_235]; decide) (by rw [rk_235]; decide) (CL_mono hr2 fun r2 m2 h2 => ?_)
  obtain ⟨b, I2, c2, rfl, rfl, IV2, hc2, e0, eb, hB⟩ := h2
  show WP xs 344 35 587 [vs 3, vr s, vr (s + 163), vr (s + 203), vi ((i : Nat) : Int), vi k, v6] [vi b] (S, I2, T1, c1, z1) Q
  refine w_is l_344_587 ⟨Nat.le_of_ble_eq_true rfl, rfl⟩ ?_
  refine w_aln l_344_589 rfl ?_
  refine q_iv [] [] l_344_590 rfl rfl (Nat.le_of_ble_eq_true rfl) (by rw [mx_168]; exact Nat.le_of_ble_eq_true rfl) (by rw [mt_168]; exact oModel_sh IV2.1) (by rw [mt_168]; decide) (by rw [rk_168]; decide) (s_168 IV2.1) ?_
  refine w_il l_344_593 rfl ?_
  refine w_ceq 600 l_344_595 (by decide) (fun _ => ?_) (fun hx => absurd hx (by exact fun q => q e0))
  refine w_il l_344_600 rfl ?_
  refine w_zne 617 l_344_602 (by decide) (fun h1 => ?_) (fun h1 => ?_)
  · skip
    refine w_go 2714 l_344_617 (by decide) ?_
    exact KK _ _ _ _ _ _ _ IV2 (by omega) (by omega) (by omega)
  · skip
    refine w_aln l_344_605 rfl ?_
    refine w_ic l_344_606 (by decide) ?_
    refine w_la 0 (I2 (s + 203) 0) l_344_607 h203 rfl (by omega) rfl ?_
    refine w_il l_344_608 rfl ?_
    refine w_i2l l_344_610 ?_
    refine w_lcmp l_344_611 ?_
    refine w_zeq 617 l_344_612 (by decide) (fun _ => ?_) (fun hx => absurd hx (by exact fun q => q (by rw [eb h1]; exact cmpL_rf)))
    refine w_go 2714 l_344_617 (by decide) ?_
    exact KK _ _ _ _ _ _ _ IV2 (by omega) (by omega) (by omega)

theorem cs_8_0 (IV : INV S T I s c) (hb : 1 ≤ cc ∧ 6 ≤ zz) (hc : c + 1 < 100000) (hi : i + 5 < xs.length) (hxl : xs.length ≤ 100000) (hz : xs.getD (i + 2) 0 = 0) (KK : KKP xs S s i cc zz c Q) : WP xs 344 35 620 [vs 3, vr s, vr (s + 163), vr (s + 203), vi ((i : Nat) : Int), v5, v6] [] (S, I, T, cc, zz) Q := by
  have hms := oModel_sh IV.1
  have h203 := IV.2.1
  have hds := IV.sh
  refine w_aln l_344_620 rfl ?_
  refine w_asn l_344_621 rfl ?_
  refine w_il l_344_622 rfl ?_
  refine w_ic l_344_624 (by decide) ?_
  refine w_add ((i + 1 : Nat) : Int) l_344_625 (by unfold wr; omega) ?_
  refine w_xs (i + 1) (xs.getD (i + 1) 0) l_344_626 rfl (by omega) rfl ?_
  refine w_asn l_344_627 rfl ?_
  refine w_il l_344_628 rfl ?_
  refine w_ic l_344_630 (by decide) ?_
  refine w_add ((i + 2 : Nat) : Int) l_344_631 (by unfold wr; omega) ?_
  refine w_xs (i + 2) (xs.getD (i + 2) 0) l_344_632 rfl (by omega) rfl ?_
  refine w_zeq 640 l_344_633 (by decide) (fun _ => ?_) (fun hx => absurd hx (by exact fun q => q hz))
  refine w_ic l_344_640 (by decide) ?_
  refine w_aln l_344_641 rfl ?_
  refine w_st [vr s, vi (xs.getD (i + 1) 0), vi 0, vr (s + 203)] [] l_344_642 (by decide) rfl rfl (Nat.le_of_ble_eq_true rfl) (by rw [mx_311]; exact Nat.le_of_ble_eq_true rfl) (by rw [rk_311]; decide) (CL_mono (pr_311_0 IV hb hc) fun r1 m1 hr1 => ?_)
  obtain ⟨k, I1, T1, c1, z1, rfl, rfl, hcc, hzz, hr2⟩ := hr1
  show WP xs 344 35 645 [vs 3, vr s, vr (s + 163), vr (s + 203), vi ((i : Nat) : Int), v5, v6] [vi k] (S, I1, T1, c1, z1) Q
  refine w_is l_344_645 ⟨Nat.le_of_ble_eq_true rfl, rfl⟩ ?_
  refine w_aln l_344_647 rfl ?_
  refine w_asn l_344_648 rfl ?_
  refine w_il l_344_649 rfl ?_
  refine w_ic l_344_651 (by decide) ?_
  refine w_add ((i + 1 : Nat) : Int) l_344_652 (by unfold wr; omega) ?_
  refine w_xs (i + 1) (xs.getD (i + 1) 0) l_344_653 rfl (by omega) rfl ?_
  refine w_asn l_344_654 rfl ?_
  refine w_il l_344_655 rfl ?_
  refine w_ic l_344_657 (by decide) ?_
  refine w_add ((i + 2 : Nat) : Int) l_344_658 (by unfold wr; omega) ?_
  refine w_xs (i + 2) (xs.getD (i + 2) 0) l_344_659 rfl (by omega) rfl ?_
  refine w_zeq 667 l_344_660 (by decide) (fun _ => ?_) (fun hx => absurd hx (by exact fun q => q hz))
  refine w_ic l_344_667 (by decide) ?_
  refine w_iv [vi (xs.getD (i + 1) 0), vi 0] [] l_344_668 rfl rfl rfl (Nat.le_of_ble_eq_true rfl) (by rw [mx_236]; exact Nat.le_of_ble_eq_true rfl) (by rw [mt_236]; exact hms) (by rw [mt_236]; decide) (by rw [rk_236]; decide) (CL_mono hr2 fun r2 m2 h2 => ?_)
  obtain ⟨b, I2, c2, rfl, rfl, IV2, hc2, e0, eb, hB⟩ := h2
  show WP xs 344 35 671 [vs 3, vr s, vr (s + 163), vr (s + 203), vi ((i : Nat) : Int), vi k, v6] [vi b] (S, I2, T1, c1, z1) Q
  refine w_is l_344_671 ⟨Nat.le_of_ble_eq_true rfl, rfl⟩ ?_
  refine w_aln l_344_673 rfl ?_
  refine q_iv [] [] l_344_674 rfl rfl (Nat.le_of_ble_eq_true rfl) (by rw [mx_168]; exact Nat.le_of_ble_eq_true rfl) (by rw [mt_168]; exact oModel_sh IV2.1) (by rw [mt_168]; decide) (by rw [rk_168]; decide) (s_168 IV2.1) ?_
  refine w_il l_344_677 rfl ?_
  refine w_ceq 684 l_344_679 (by decide) (fun _ => ?_) (fun hx => absurd hx (by exact fun q => q e0))
  refine w_il l_344_684 rfl ?_
  refine w_zne 701 l_344_686 (by decide) (fun h1 => ?_) (fun h1 => ?_)
  · skip
    refine w_go 2714 l_344_701 (by decide) ?_
    exact KK _ _ _ _ _ _ _ IV2 (by omega) (by omega) (by omega)
  · skip
    refine w_aln l_344_689 rfl ?_
    refine w_ic l_344_690 (by decide) ?_
    refine w_la 0 (I2 (s + 203) 0) l_344_691 h203 rfl (by omega) rfl ?_
    refine w_il l_344_692 rfl ?_
    refine w_i2l l_344_694 ?_
    refine w_lcmp l_344_695 ?_
    refine w_zeq 701 l_344_696 (by decide) (fun _ => ?_) (fun hx => absurd hx (by exact fun q => q (by rw [eb h1]; exact cmpL_rf)))
    refine w_go 2714 l_344_701 (by decide) ?_
    exact KK _ _ _ _ _ _ _ IV2 (by omega) (by omega) (by omega)

theorem cs_8_1 (IV : INV S T I s c) (hb : 1 ≤ cc ∧ 6 ≤ zz) (hc : c + 1 < 100000) (hi : i + 5 < xs.length) (hxl : xs.length ≤ 100000) (hz : xs.getD (i + 2) 0 ≠ 0) (KK : KKP xs S s i cc zz c Q) : WP xs 344 35 620 [vs 3, vr s, vr (s + 163), vr (s + 203), vi ((i : Nat) : Int), v5, v6] [] (S, I, T, cc, zz) Q := by
  have hms := oModel_sh IV.1
  have h203 := IV.2.1
  have hds := IV.sh
  refine w_aln l_344_620 rfl ?_
  refine w_asn l_344_621 rfl ?_
  refine w_il l_344_622 rfl ?_
  refine w_ic l_344_624 (by decide) ?_
  refine w_add ((i + 1 : Nat) : Int) l_344_625 (by unfold wr; omega) ?_
  refine w_xs (i + 1) (xs.getD (i + 1) 0) l_344_626 rfl (by omega) rfl ?_
  refine w_asn l_344_627 rfl ?_
  refine w_il l_344_628 rfl ?_
  refine w_ic l_344_630 (by decide) ?_
  refine w_add ((i + 2 : Nat) : Int) l_344_631 (by unfold wr; omega) ?_
  refine w_xs (i + 2) (xs.getD (i + 2) 0) l_344_632 rfl (by omega) rfl ?_
  refine w_zeq 640 l_344_633 (by decide) (fun hx => absurd hx (by exact hz)) (fun _ => ?_)
  refine w_ic l_344_636 (by decide) ?_
  refine w_go 641 l_344_637 (by decide) ?_
  refine w_aln l_344_641 rfl ?_
  refine w_st [vr s, vi (xs.getD (i + 1) 0), vi 1, vr (s + 203)] [] l_344_642 (by decide) rfl rfl (Nat.le_of_ble_eq_true rfl) (by rw [mx_311]; exact Nat.le_of_ble_eq_true rfl) (by rw [rk_311]; decide) (CL_mono (pr_311_1 IV hb hc) fun r1 m1 hr1 => ?_)
  obtain ⟨k, I1, T1, c1, z1, rfl, rfl, hcc, hzz, hr2⟩ := hr1
  show WP xs 344 35 645 [vs 3, vr s, vr (s + 163), vr (s + 203), vi ((i : Nat) : Int), v5, v6] [vi k] (S, I1, T1, c1, z1) Q
  refine w_is l_344_645 ⟨Nat.le_of_ble_eq_true rfl, rfl⟩ ?_
  refine w_aln l_344_647 rfl ?_
  refine w_asn l_344_648 rfl ?_
  refine w_il l_344_649 rfl ?_
  refine w_ic l_344_651 (by decide) ?_
  refine w_add ((i + 1 : Nat) : Int) l_344_652 (by unfold wr; omega) ?_
  refine w_xs (i + 1) (xs.getD (i + 1) 0) l_344_653 rfl (by omega) rfl ?_
  refine w_asn l_344_654 rfl ?_
  refine w_il l_344_655 rfl ?_
  refine w_ic l_344_657 (by decide) ?_
  refine w_add ((i + 2 : Nat) : Int) l_344_658 (by unfold wr; omega) ?_
  refine w_xs (i + 2) (xs.getD (i + 2) 0) l_344_659 rfl (by omega) rfl ?_
  refine w_zeq 667 l_344_660 (by decide) (fun hx => absurd hx (by exact hz)) (fun _ => ?_)
  refine w_ic l_344_663 (by decide) ?_
  refine w_go 668 l_344_664 (by decide) ?_
  refine w_iv [vi (xs.getD (i + 1) 0), vi 1] [] l_344_668 rfl rfl rfl (Nat.le_of_ble_eq_true rfl) (by rw [mx_236]; exact Nat.le_of_ble_eq_true rfl) (by rw [mt_236]; exact hms) (by rw [mt_236]; decide) (by rw [rk_236]; decide) (CL_mono hr2 fun r2 m2 h2 => ?_)
  obtain ⟨b, I2, c2, rfl, rfl, IV2, hc2, e0, eb, hB⟩ := h2
  show WP xs 344 35 671 [vs 3, vr s, vr (s + 163), vr (s + 203), vi ((i : Nat) : Int), vi k, v6] [vi b] (S, I2, T1, c1, z1) Q
  refine w_is l_344_671 ⟨Nat.le_of_ble_eq_true rfl, rfl⟩ ?_
  refine w_aln l_344_673 rfl ?_
  refine q_iv [] [] l_344_674 rfl rfl (Nat.le_of_ble_eq_true rfl) (by rw [mx_168]; exact Nat.le_of_ble_eq_true rfl) (by rw [mt_168]; exact oModel_sh IV2.1) (by rw [mt_168]; decide) (by rw [rk_168]; decide) (s_168 IV2.1) ?_
  refine w_il l_344_677 rfl ?_
  refine w_ceq 684 l_344_679 (by decide) (fun _ => ?_) (fun hx => absurd hx (by exact fun q => q e0))
  refine w_il l_344_684 rfl ?_
  refine w_zne 701 l_344_686 (by decide) (fun h1 => ?_) (fun h1 => ?_)
  · skip
    refine w_go 2714 l_344_701 (by decide) ?_
    exact KK _ _ _ _ _ _ _ IV2 (by omega) (by omega) (by omega)
  · skip
    refine w_aln l_344_689 rfl ?_
    refine w_ic l_344_690 (by decide) ?_
    refine w_la 0 (I2 (s + 203) 0) l_344_691 h203 rfl (by omega) rfl ?_
    refine w_il l_344_692 rfl ?_
    refine w_i2l l_344_694 ?_
    refine w_lcmp l_344_695 ?_
    refine w_zeq 701 l_344_696 (by decide) (fun _ => ?_) (fun hx => absurd hx (by exact fun q => q (by rw [eb h1]; exact cmpL_rf)))
    refine w_go 2714 l_344_701 (by decide) ?_
    exact KK _ _ _ _ _ _ _ IV2 (by omega) (by omega) (by omega)

theorem cs_9 (IV : INV S T I s c) (hb : 1 ≤ cc ∧ 6 ≤ zz) (hc : c + 1 < 100000) (hi : i + 5 < xs.length) (hxl : xs.length ≤ 100000) (KK : KKP xs S s i cc zz c Q) : WP xs 344 35 704 [vs 3, vr s, vr (s + 163), vr (s + 203), vi ((i : Nat) : Int), v5, v6] [] (S, I, T, cc, zz) Q := by
  have hms := oModel_sh IV.1
  have h203 := IV.2.1
  have hds := IV.sh
  refine w_aln l_344_704 rfl ?_
  refine w_asn l_344_705 rfl ?_
  refine w_il l_344_706 rfl ?_
  refine w_ic l_344_708 (by decide) ?_
  refine w_add ((i + 1 : Nat) : Int) l_344_709 (by unfold wr; omega) ?_
  refine w_xs (i + 1) (xs.getD (i + 1) 0) l_344_710 rfl (by omega) rfl ?_
  refine w_aln l_344_711 rfl ?_
  refine w_st [vr s, vi (xs.getD (i + 1) 0), vr (s + 203)] [] l_344_712 (by decide) rfl rfl (Nat.le_of_ble_eq_true rfl) (by rw [mx_312]; exact Nat.le_of_ble_eq_true rfl) (by rw [rk_312]; decide) (CL_mono (pr_312 IV hb hc) fun r1 m1 hr1 => ?_)
  obtain ⟨k, I1, T1, c1, z1, rfl, rfl, hcc, hzz, hr2⟩ := hr1
  show WP xs 344 35 715 [vs 3, vr s, vr (s + 163), vr (s + 203), vi ((i : Nat) : Int), v5, v6] [vi k] (S, I1, T1, c1, z1) Q
  refine w_is l_344_715 ⟨Nat.le_of_ble_eq_true rfl, rfl⟩ ?_
  refine w_aln l_344_717 rfl ?_
  refine w_asn l_344_718 rfl ?_
  refine w_il l_344_719 rfl ?_
  refine w_ic l_344_721 (by decide) ?_
  refine w_add ((i + 1 : Nat) : Int) l_344_722 (by unfold wr; omega) ?_
  refine w_xs (i + 1) (xs.getD (i + 1) 0) l_344_723 rfl (by omega) rfl ?_
  refine w_iv [vi (xs.getD (i + 1) 0)] [] l_344_724 rfl rfl rfl (Nat.le_of_ble_eq_true rfl) (by rw [mx_237]; exact Nat.le_of_ble_eq_true rfl) (by rw [mt_237]; exact hms) (by rw [mt_237]; decide) (by rw [rk_237]; decide) (CL_mono hr2 fun r2 m2 h2 => ?_)
  obtain ⟨b, I2, c2, rfl, rfl, IV2, hc2, e0, eb, hB⟩ := h2
  show WP xs 344 35 727 [vs 3, vr s, vr (s + 163), vr (s + 203), vi ((i : Nat) : Int), vi k, v6] [vi b] (S, I2, T1, c1, z1) Q
  refine w_is l_344_727 ⟨Nat.le_of_ble_eq_true rfl, rfl⟩ ?_
  refine w_aln l_344_729 rfl ?_
  refine q_iv [] [] l_344_730 rfl rfl (Nat.le_of_ble_eq_true rfl) (by rw [mx_168]; exact Nat.le_of_ble_eq_true rfl) (by rw [mt_168]; exact oModel_sh IV2.1) (by rw [mt_168]; decide) (by rw [rk_168]; decide) (s_168 IV2.1) ?_
  refine w_il l_344_733 rfl ?_
  refine w_ceq 740 l_344_735 (by decide) (fun _ => ?_) (fun hx => absurd hx (by exact fun q => q e0))
  refine w_il l_344_740 rfl ?_
  refine w_zne 757 l_344_742 (by decide) (fun h1 => ?_) (fun h1 => ?_)
  · skip
    refine w_go 2714 l_344_757 (by decide) ?_
    exact KK _ _ _ _ _ _ _ IV2 (by omega) (by omega) (by omega)
  · skip
    refine w_aln l_344_745 rfl ?_
    refine w_ic l_344_746 (by decide) ?_
    refine w_la 0 (I2 (s + 203) 0) l_344_747 h203 rfl (by omega) rfl ?_
    refine w_il l_344_748 rfl ?_
    refine w_i2l l_344_750 ?_
    refine w_lcmp l_344_751 ?_
    refine w_zeq 757 l_344_752 (by decide) (fun _ => ?_) (fun hx => absurd hx (by exact fun q => q (by rw [eb h1]; exact cmpL_rf)))
    refine w_go 2714 l_344_757 (by decide) ?_
    exact KK _ _ _ _ _ _ _ IV2 (by omega) (by omega) (by omega)

theorem cs_10 (IV : INV S T I s c) (hb : 1 ≤ cc ∧ 6 ≤ zz) (hc : c + 1 < 100000) (hi : i + 5 < xs.length) (hxl : xs.length ≤ 100000) (KK : KKP xs S s i cc zz c Q) : WP xs 344 35 760 [vs 3, vr s, vr (s + 163), vr (s + 203), vi ((i : Nat) : Int), v5, v6] [] (S, I, T, cc, zz) Q := by
  have hms := oModel_sh IV.1
  have h203 := IV.2.1
  have hds := IV.sh
  refine w_aln l_344_760 rfl ?_
  refine w_asn l_344_761 rfl ?_
  refine w_il l_344_762 rfl ?_
  refine w_ic l_344_764 (by decide) ?_
  refine w_add ((i + 1 : Nat) : Int) l_344_765 (by unfold wr; omega) ?_
  refine w_xs (i + 1) (xs.getD (i + 1) 0) l_344_766 rfl (by omega) rfl ?_
  refine w_aln l_344_767 rfl ?_
  refine w_st [vr s, vi (xs.getD (i + 1) 0), vr (s + 203)] [] l_344_768 (by decide) rfl rfl (Nat.le_of_ble_eq_true rfl) (by rw [mx_313]; exact Nat.le_of_ble_eq_true rfl) (by rw [rk_313]; decide) (CL_mono (pr_313 IV hb hc) fun r1 m1 hr1 => ?_)
  obtain ⟨k, I1, T1, c1, z1, rfl, rfl, hcc, hzz, hr2⟩ := hr1
  show WP xs 344 35 771 [vs 3, vr s, vr (s + 163), vr (s + 203), vi ((i : Nat) : Int), v5, v6] [vi k] (S, I1, T1, c1, z1) Q
  refine w_is l_344_771 ⟨Nat.le_of_ble_eq_true rfl, rfl⟩ ?_
  refine w_aln l_344_773 rfl ?_
  refine w_asn l_344_774 rfl ?_
  refine w_il l_344_775 rfl ?_
  refine w_ic l_344_777 (by decide) ?_
  refine w_add ((i + 1 : Nat) : Int) l_344_778 (by unfold wr; omega) ?_
  refine w_xs (i + 1) (xs.getD (i + 1) 0) l_344_779 rfl (by omega) rfl ?_
  refine w_iv [vi (xs.getD (i + 1) 0)] [] l_344_780 rfl rfl rfl (Nat.le_of_ble_eq_true rfl) (by rw [mx_239]; exact Nat.le_of_ble_eq_true rfl) (by rw [mt_239]; exact hms) (by rw [mt_239]; decide) (by rw [rk_239]; decide) (CL_mono hr2 fun r2 m2 h2 => ?_)
  obtain ⟨b, I2, c2, rfl, rfl, IV2, hc2, e0, eb, hB⟩ := h2
  show WP xs 344 35 783 [vs 3, vr s, vr (s + 163), vr (s + 203), vi ((i : Nat) : Int), vi k, v6] [vi b] (S, I2, T1, c1, z1) Q
  refine w_is l_344_783 ⟨Nat.le_of_ble_eq_true rfl, rfl⟩ ?_
  refine w_aln l_344_785 rfl ?_
  refine q_iv [] [] l_344_786 rfl rfl (Nat.le_of_ble_eq_true rfl) (by rw [mx_168]; exact Nat.le_of_ble_eq_true rfl) (by rw [mt_168]; exact oModel_sh IV2.1) (by rw [mt_168]; decide) (by rw [rk_168]; decide) (s_168 IV2.1) ?_
  refine w_il l_344_789 rfl ?_
  refine w_ceq 796 l_344_791 (by decide) (fun _ => ?_) (fun hx => absurd hx (by exact fun q => q e0))
  refine w_il l_344_796 rfl ?_
  refine w_zne 813 l_344_798 (by decide) (fun h1 => ?_) (fun h1 => ?_)
  · skip
    refine w_go 2714 l_344_813 (by decide) ?_
    exact KK _ _ _ _ _ _ _ IV2 (by omega) (by omega) (by omega)
  · skip
    refine w_aln l_344_801 rfl ?_
    refine w_ic l_344_802 (by decide) ?_
    refine w_la 0 (I2 (s + 203) 0) l_344_803 h203 rfl (by omega) rfl ?_
    refine w_il l_344_804 rfl ?_
    refine w_i2l l_344_806 ?_
    refine w_lcmp l_344_807 ?_
    refine w_zeq 813 l_344_808 (by decide) (fun _ => ?_) (fun hx => absurd hx (by exact fun q => q (by rw [eb h1]; exact cmpL_rf)))
    refine w_go 2714 l_344_813 (by decide) ?_
    exact KK _ _ _ _ _ _ _ IV2 (by omega) (by omega) (by omega)

theorem cs_11 (IV : INV S T I s c) (hb : 1 ≤ cc ∧ 6 ≤ zz) (hc : c + 1 < 100000) (hi : i + 5 < xs.length) (hxl : xs.length ≤ 100000) (KK : KKP xs S s i cc zz c Q) : WP xs 344 35 816 [vs 3, vr s, vr (s + 163), vr (s + 203), vi ((i : Nat) : Int), v5, v6] [] (S, I, T, cc, zz) Q := by
  have hms := oModel_sh IV.1
  have h203 := IV.2.1
  have hds := IV.sh
  refine w_aln l_344_816 rfl ?_
  refine w_asn l_344_817 rfl ?_
  refine w_il l_344_818 rfl ?_
  refine w_ic l_344_820 (by decide) ?_
  refine w_add ((i + 1 : Nat) : Int) l_344_821 (by unfold wr; omega) ?_
  refine w_xs (i + 1) (xs.getD (i + 1) 0) l_344_822 rfl (by omega) rfl ?_
  refine w_aln l_344_823 rfl ?_
  refine w_st [vr s, vi (xs.getD (i + 1) 0), vr (s + 203)] [] l_344_824 (by decide) rfl rfl (Nat.le_of_ble_eq_true rfl) (by rw [mx_314]; exact Nat.le_of_ble_eq_true rfl) (by rw [rk_314]; decide) (CL_mono (pr_314 IV hb hc) fun r1 m1 hr1 => ?_)
  obtain ⟨k, I1, T1, c1, z1, rfl, rfl, hcc, hzz, hr2⟩ := hr1
  show WP xs 344 35 827 [vs 3, vr s, vr (s + 163), vr (s + 203), vi ((i : Nat) : Int), v5, v6] [vi k] (S, I1, T1, c1, z1) Q
  refine w_is l_344_827 ⟨Nat.le_of_ble_eq_true rfl, rfl⟩ ?_
  refine w_aln l_344_829 rfl ?_
  refine w_asn l_344_830 rfl ?_
  refine w_il l_344_831 rfl ?_
  refine w_ic l_344_833 (by decide) ?_
  refine w_add ((i + 1 : Nat) : Int) l_344_834 (by unfold wr; omega) ?_
  refine w_xs (i + 1) (xs.getD (i + 1) 0) l_344_835 rfl (by omega) rfl ?_
  refine w_iv [vi (xs.getD (i + 1) 0)] [] l_344_836 rfl rfl rfl (Nat.le_of_ble_eq_true rfl) (by rw [mx_240]; exact Nat.le_of_ble_eq_true rfl) (by rw [mt_240]; exact hms) (by rw [mt_240]; decide) (by rw [rk_240]; decide) (CL_mono hr2 fun r2 m2 h2 => ?_)
  obtain ⟨b, I2, c2, rfl, rfl, IV2, hc2, e0, eb, hB⟩ := h2
  show WP xs 344 35 839 [vs 3, vr s, vr (s + 163), vr (s + 203), vi ((i : Nat) : Int), vi k, v6] [vi b] (S, I2, T1, c1, z1) Q
  refine w_is l_344_839 ⟨Nat.le_of_ble_eq_true rfl, rfl⟩ ?_
  refine w_aln l_344_841 rfl ?_
  refine q_iv [] [] l_344_842 rfl rfl (Nat.le_of_ble_eq_true rfl) (by rw [mx_168]; exact Nat.le_of_ble_eq_true rfl) (by rw [mt_168]; exact oModel_sh IV2.1) (by rw [mt_168]; decide) (by rw [rk_168]; decide) (s_168 IV2.1) ?_
  refine w_il l_344_845 rfl ?_
  refine w_ceq 852 l_344_847 (by decide) (fun _ => ?_) (fun hx => absurd hx (by exact fun q => q e0))
  refine w_il l_344_852 rfl ?_
  refine w_zne 869 l_344_854 (by decide) (fun h1 => ?_) (fun h1 => ?_)
  · skip
    refine w_go 2714 l_344_869 (by decide) ?_
    exact KK _ _ _ _ _ _ _ IV2 (by omega) (by omega) (by omega)
  · skip
    refine w_aln l_344_857 rfl ?_
    refine w_ic l_344_858 (by decide) ?_
    refine w_la 0 (I2 (s + 203) 0) l_344_859 h203 rfl (by omega) rfl ?_
    refine w_il l_344_860 rfl ?_
    refine w_i2l l_344_862 ?_
    refine w_lcmp l_344_863 ?_
    refine w_zeq 869 l_344_864 (by decide) (fun _ => ?_) (fun hx => absurd hx (by exact fun q => q (by rw [eb h1]; exact cmpL_rf)))
    refine w_go 2714 l_344_869 (by decide) ?_
    exact KK _ _ _ _ _ _ _ IV2 (by omega) (by omega) (by omega)
end LWA1
