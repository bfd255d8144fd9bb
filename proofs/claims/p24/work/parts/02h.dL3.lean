theorem dL_law_452 : decode cL_law 452 = .ok (.iload 15, 2) := by decide +kernel
theorem dL_law_454 : decode cL_law 454 = .ok (.iconst 1, 1) := by decide +kernel
theorem dL_law_455 : decode cL_law 455 = .ok (.if_icmp .ne 42, 3) := by decide +kernel
theorem dL_law_458 : decode cL_law 458 = .ok (.iload 16, 2) := by decide +kernel
theorem dL_law_460 : decode cL_law 460 = .ok (.aload_n 1, 1) := by decide +kernel
theorem dL_law_461 : decode cL_law 461 = .ok (.iload 14, 2) := by decide +kernel
theorem dL_law_463 : decode cL_law 463 = .ok (.invokestatic 90, 3) := by decide +kernel
theorem dL_law_466 : decode cL_law 466 = .ok (.ifCond .ne 7, 3) := by decide +kernel
theorem dL_law_469 : decode cL_law 469 = .ok (.iconst 1, 1) := by decide +kernel
theorem dL_law_470 : decode cL_law 470 = .ok (.goto 4, 3) := by decide +kernel
theorem dL_law_473 : decode cL_law 473 = .ok (.iconst 0, 1) := by decide +kernel
theorem dL_law_474 : decode cL_law 474 = .ok (.if_icmp .ne 19, 3) := by decide +kernel
theorem dL_law_477 : decode cL_law 477 = .ok (.iload 16, 2) := by decide +kernel
theorem dL_law_479 : decode cL_law 479 = .ok (.ifCond .eq 10, 3) := by decide +kernel
theorem dL_law_482 : decode cL_law 482 = .ok (.aload_n 1, 1) := by decide +kernel
theorem dL_law_483 : decode cL_law 483 = .ok (.invokestatic 86, 3) := by decide +kernel
theorem dL_law_486 : decode cL_law 486 = .ok (.ifCond .eq 7, 3) := by decide +kernel
theorem dL_law_489 : decode cL_law 489 = .ok (.iconst 1, 1) := by decide +kernel
theorem dL_law_490 : decode cL_law 490 = .ok (.goto 19, 3) := by decide +kernel
theorem dL_law_493 : decode cL_law 493 = .ok (.iconst 0, 1) := by decide +kernel
theorem dL_law_494 : decode cL_law 494 = .ok (.goto 15, 3) := by decide +kernel
theorem dL_law_497 : decode cL_law 497 = .ok (.iload 16, 2) := by decide +kernel
theorem dL_law_499 : decode cL_law 499 = .ok (.bipush (-103), 2) := by decide +kernel
theorem dL_law_501 : decode cL_law 501 = .ok (.if_icmp .ne 7, 3) := by decide +kernel
theorem dL_law_504 : decode cL_law 504 = .ok (.iconst 1, 1) := by decide +kernel
theorem dL_law_505 : decode cL_law 505 = .ok (.goto 4, 3) := by decide +kernel
theorem dL_law_508 : decode cL_law 508 = .ok (.iconst 0, 1) := by decide +kernel
theorem dL_law_509 : decode cL_law 509 = .ok (.istore 9, 2) := by decide +kernel
theorem dL_law_511 : decode cL_law 511 = .ok (.goto 726, 3) := by decide +kernel
theorem dL_law_514 : decode cL_law 514 = .ok (.iload 13, 2) := by decide +kernel
theorem dL_law_516 : decode cL_law 516 = .ok (.bipush 9, 2) := by decide +kernel
theorem dL_law_518 : decode cL_law 518 = .ok (.if_icmp .ne 159, 3) := by decide +kernel
theorem dL_law_521 : decode cL_law 521 = .ok (.iload 12, 2) := by decide +kernel
theorem dL_law_523 : decode cL_law 523 = .ok (.bipush 7, 2) := by decide +kernel
theorem dL_law_525 : decode cL_law 525 = .ok (.idiv, 1) := by decide +kernel
theorem dL_law_526 : decode cL_law 526 = .ok (.iload 5, 2) := by decide +kernel
theorem dL_law_528 : decode cL_law 528 = .ok (.irem, 1) := by decide +kernel
theorem dL_law_529 : decode cL_law 529 = .ok (.istore 15, 2) := by decide +kernel
theorem dL_law_531 : decode cL_law 531 = .ok (.aload_n 1, 1) := by decide +kernel
theorem dL_law_532 : decode cL_law 532 = .ok (.iconst 0, 1) := by decide +kernel
theorem dL_law_533 : decode cL_law 533 = .ok (.invokestatic 74, 3) := by decide +kernel
theorem dL_law_536 : decode cL_law 536 = .ok (.iconst 2, 1) := by decide +kernel
theorem dL_law_537 : decode cL_law 537 = .ok (.aload_n 1, 1) := by decide +kernel
theorem dL_law_538 : decode cL_law 538 = .ok (.iconst 1, 1) := by decide +kernel
theorem dL_law_539 : decode cL_law 539 = .ok (.invokestatic 74, 3) := by decide +kernel
theorem dL_law_542 : decode cL_law 542 = .ok (.imul, 1) := by decide +kernel
theorem dL_law_543 : decode cL_law 543 = .ok (.iadd, 1) := by decide +kernel
theorem dL_law_544 : decode cL_law 544 = .ok (.iconst 4, 1) := by decide +kernel
theorem dL_law_545 : decode cL_law 545 = .ok (.aload_n 1, 1) := by decide +kernel
theorem dL_law_546 : decode cL_law 546 = .ok (.iconst 2, 1) := by decide +kernel
theorem dL_law_547 : decode cL_law 547 = .ok (.invokestatic 74, 3) := by decide +kernel
theorem dL_law_550 : decode cL_law 550 = .ok (.imul, 1) := by decide +kernel
theorem dL_law_551 : decode cL_law 551 = .ok (.iadd, 1) := by decide +kernel
theorem dL_law_552 : decode cL_law 552 = .ok (.istore 16, 2) := by decide +kernel
theorem dL_law_554 : decode cL_law 554 = .ok (.aload_n 1, 1) := by decide +kernel
theorem dL_law_555 : decode cL_law 555 = .ok (.iload 14, 2) := by decide +kernel
theorem dL_law_557 : decode cL_law 557 = .ok (.invokestatic 90, 3) := by decide +kernel
theorem dL_law_560 : decode cL_law 560 = .ok (.iconst 1, 1) := by decide +kernel
theorem dL_law_561 : decode cL_law 561 = .ok (.if_icmp .ne 16, 3) := by decide +kernel
theorem dL_law_564 : decode cL_law 564 = .ok (.aload_n 1, 1) := by decide +kernel
theorem dL_law_565 : decode cL_law 565 = .ok (.iload 15, 2) := by decide +kernel
theorem dL_law_567 : decode cL_law 567 = .ok (.invokestatic 90, 3) := by decide +kernel
theorem dL_law_570 : decode cL_law 570 = .ok (.ifCond .ne 7, 3) := by decide +kernel
theorem dL_law_573 : decode cL_law 573 = .ok (.iconst 1, 1) := by decide +kernel
theorem dL_law_574 : decode cL_law 574 = .ok (.goto 4, 3) := by decide +kernel
theorem dL_law_577 : decode cL_law 577 = .ok (.iconst 0, 1) := by decide +kernel
theorem dL_law_578 : decode cL_law 578 = .ok (.istore 17, 2) := by decide +kernel
theorem dL_law_580 : decode cL_law 580 = .ok (.aload_n 1, 1) := by decide +kernel
theorem dL_law_581 : decode cL_law 581 = .ok (.iload 14, 2) := by decide +kernel
theorem dL_law_583 : decode cL_law 583 = .ok (.iload 15, 2) := by decide +kernel
theorem dL_law_585 : decode cL_law 585 = .ok (.invokestatic 110, 3) := by decide +kernel
theorem dL_law_588 : decode cL_law 588 = .ok (.istore 18, 2) := by decide +kernel
theorem dL_law_590 : decode cL_law 590 = .ok (.aload_n 1, 1) := by decide +kernel
theorem dL_law_591 : decode cL_law 591 = .ok (.iconst 0, 1) := by decide +kernel
theorem dL_law_592 : decode cL_law 592 = .ok (.invokestatic 74, 3) := by decide +kernel
theorem dL_law_595 : decode cL_law 595 = .ok (.iconst 2, 1) := by decide +kernel
theorem dL_law_596 : decode cL_law 596 = .ok (.aload_n 1, 1) := by decide +kernel
theorem dL_law_597 : decode cL_law 597 = .ok (.iconst 1, 1) := by decide +kernel
theorem dL_law_598 : decode cL_law 598 = .ok (.invokestatic 74, 3) := by decide +kernel
theorem dL_law_601 : decode cL_law 601 = .ok (.imul, 1) := by decide +kernel
theorem dL_law_602 : decode cL_law 602 = .ok (.iadd, 1) := by decide +kernel
theorem dL_law_603 : decode cL_law 603 = .ok (.iconst 4, 1) := by decide +kernel
theorem dL_law_604 : decode cL_law 604 = .ok (.aload_n 1, 1) := by decide +kernel
theorem dL_law_605 : decode cL_law 605 = .ok (.iconst 2, 1) := by decide +kernel
theorem dL_law_606 : decode cL_law 606 = .ok (.invokestatic 74, 3) := by decide +kernel
theorem dL_law_609 : decode cL_law 609 = .ok (.imul, 1) := by decide +kernel
theorem dL_law_610 : decode cL_law 610 = .ok (.iadd, 1) := by decide +kernel
theorem dL_law_611 : decode cL_law 611 = .ok (.istore 19, 2) := by decide +kernel
theorem dL_law_613 : decode cL_law 613 = .ok (.iload 17, 2) := by decide +kernel
theorem dL_law_615 : decode cL_law 615 = .ok (.ifCond .eq 45, 3) := by decide +kernel
theorem dL_law_618 : decode cL_law 618 = .ok (.iload 16, 2) := by decide +kernel
theorem dL_law_620 : decode cL_law 620 = .ok (.iload 19, 2) := by decide +kernel
theorem dL_law_622 : decode cL_law 622 = .ok (.iconst (-1), 1) := by decide +kernel
theorem dL_law_623 : decode cL_law 623 = .ok (.ixor, 1) := by decide +kernel
theorem dL_law_624 : decode cL_law 624 = .ok (.iand, 1) := by decide +kernel
theorem dL_law_625 : decode cL_law 625 = .ok (.ifCond .ne 31, 3) := by decide +kernel
theorem dL_law_628 : decode cL_law 628 = .ok (.aload_n 1, 1) := by decide +kernel
theorem dL_law_629 : decode cL_law 629 = .ok (.iload 14, 2) := by decide +kernel
theorem dL_law_631 : decode cL_law 631 = .ok (.invokestatic 90, 3) := by decide +kernel
theorem dL_law_634 : decode cL_law 634 = .ok (.iconst 1, 1) := by decide +kernel
theorem dL_law_635 : decode cL_law 635 = .ok (.iload 18, 2) := by decide +kernel
theorem dL_law_637 : decode cL_law 637 = .ok (.isub, 1) := by decide +kernel
theorem dL_law_638 : decode cL_law 638 = .ok (.if_icmp .ne 18, 3) := by decide +kernel
theorem dL_law_641 : decode cL_law 641 = .ok (.aload_n 1, 1) := by decide +kernel
theorem dL_law_642 : decode cL_law 642 = .ok (.iload 15, 2) := by decide +kernel
theorem dL_law_644 : decode cL_law 644 = .ok (.invokestatic 90, 3) := by decide +kernel
theorem dL_law_647 : decode cL_law 647 = .ok (.iload 18, 2) := by decide +kernel
theorem dL_law_649 : decode cL_law 649 = .ok (.if_icmp .ne 7, 3) := by decide +kernel
theorem dL_law_652 : decode cL_law 652 = .ok (.iconst 1, 1) := by decide +kernel
theorem dL_law_653 : decode cL_law 653 = .ok (.goto 19, 3) := by decide +kernel
theorem dL_law_656 : decode cL_law 656 = .ok (.iconst 0, 1) := by decide +kernel
theorem dL_law_657 : decode cL_law 657 = .ok (.goto 15, 3) := by decide +kernel
theorem dL_law_660 : decode cL_law 660 = .ok (.iload 18, 2) := by decide +kernel
theorem dL_law_662 : decode cL_law 662 = .ok (.bipush (-103), 2) := by decide +kernel
theorem dL_law_664 : decode cL_law 664 = .ok (.if_icmp .ne 7, 3) := by decide +kernel
theorem dL_law_667 : decode cL_law 667 = .ok (.iconst 1, 1) := by decide +kernel
theorem dL_law_668 : decode cL_law 668 = .ok (.goto 4, 3) := by decide +kernel
theorem dL_law_671 : decode cL_law 671 = .ok (.iconst 0, 1) := by decide +kernel
theorem dL_law_672 : decode cL_law 672 = .ok (.istore 9, 2) := by decide +kernel
theorem dL_law_674 : decode cL_law 674 = .ok (.goto 563, 3) := by decide +kernel
theorem dL_law_677 : decode cL_law 677 = .ok (.iload 13, 2) := by decide +kernel
theorem dL_law_679 : decode cL_law 679 = .ok (.bipush 10, 2) := by decide +kernel
theorem dL_law_681 : decode cL_law 681 = .ok (.if_icmp .ne 78, 3) := by decide +kernel
theorem dL_law_684 : decode cL_law 684 = .ok (.aload_n 1, 1) := by decide +kernel
theorem dL_law_685 : decode cL_law 685 = .ok (.iload 14, 2) := by decide +kernel
theorem dL_law_687 : decode cL_law 687 = .ok (.invokestatic 90, 3) := by decide +kernel
theorem dL_law_690 : decode cL_law 690 = .ok (.istore 15, 2) := by decide +kernel
theorem dL_law_692 : decode cL_law 692 = .ok (.aload_n 1, 1) := by decide +kernel
theorem dL_law_693 : decode cL_law 693 = .ok (.iload 14, 2) := by decide +kernel
theorem dL_law_695 : decode cL_law 695 = .ok (.iload 12, 2) := by decide +kernel
theorem dL_law_697 : decode cL_law 697 = .ok (.bipush 6, 2) := by decide +kernel
theorem dL_law_699 : decode cL_law 699 = .ok (.irem, 1) := by decide +kernel
theorem dL_law_700 : decode cL_law 700 = .ok (.invokestatic 112, 3) := by decide +kernel
theorem dL_law_703 : decode cL_law 703 = .ok (.istore 16, 2) := by decide +kernel
theorem dL_law_705 : decode cL_law 705 = .ok (.iload 15, 2) := by decide +kernel
theorem dL_law_707 : decode cL_law 707 = .ok (.iconst 2, 1) := by decide +kernel
theorem dL_law_708 : decode cL_law 708 = .ok (.if_icmp .ne 18, 3) := by decide +kernel
theorem dL_law_711 : decode cL_law 711 = .ok (.iload 16, 2) := by decide +kernel
theorem dL_law_713 : decode cL_law 713 = .ok (.bipush (-103), 2) := by decide +kernel
theorem dL_law_715 : decode cL_law 715 = .ok (.if_icmp .ne 7, 3) := by decide +kernel
theorem dL_law_718 : decode cL_law 718 = .ok (.iconst 1, 1) := by decide +kernel
theorem dL_law_719 : decode cL_law 719 = .ok (.goto 35, 3) := by decide +kernel
theorem dL_law_722 : decode cL_law 722 = .ok (.iconst 0, 1) := by decide +kernel
theorem dL_law_723 : decode cL_law 723 = .ok (.goto 31, 3) := by decide +kernel
theorem dL_law_726 : decode cL_law 726 = .ok (.iload 16, 2) := by decide +kernel
theorem dL_law_728 : decode cL_law 728 = .ok (.ifCond .lt 25, 3) := by decide +kernel
theorem dL_law_731 : decode cL_law 731 = .ok (.iload 12, 2) := by decide +kernel
theorem dL_law_733 : decode cL_law 733 = .ok (.bipush 6, 2) := by decide +kernel
theorem dL_law_735 : decode cL_law 735 = .ok (.irem, 1) := by decide +kernel
theorem dL_law_736 : decode cL_law 736 = .ok (.iconst 3, 1) := by decide +kernel
theorem dL_law_737 : decode cL_law 737 = .ok (.if_icmp .lt 12, 3) := by decide +kernel
theorem dL_law_740 : decode cL_law 740 = .ok (.aload_n 1, 1) := by decide +kernel
theorem dL_law_741 : decode cL_law 741 = .ok (.iload 14, 2) := by decide +kernel
theorem dL_law_743 : decode cL_law 743 = .ok (.invokestatic 95, 3) := by decide +kernel
theorem dL_law_746 : decode cL_law 746 = .ok (.ifCond .ne 7, 3) := by decide +kernel
theorem dL_law_749 : decode cL_law 749 = .ok (.iconst 1, 1) := by decide +kernel
theorem dL_law_750 : decode cL_law 750 = .ok (.goto 4, 3) := by decide +kernel
theorem dL_law_753 : decode cL_law 753 = .ok (.iconst 0, 1) := by decide +kernel
theorem dL_law_754 : decode cL_law 754 = .ok (.istore 9, 2) := by decide +kernel
theorem dL_law_756 : decode cL_law 756 = .ok (.goto 481, 3) := by decide +kernel
theorem dL_law_759 : decode cL_law 759 = .ok (.iload 13, 2) := by decide +kernel
theorem dL_law_761 : decode cL_law 761 = .ok (.bipush 11, 2) := by decide +kernel
theorem dL_law_763 : decode cL_law 763 = .ok (.if_icmp .ne 89, 3) := by decide +kernel
theorem dL_law_766 : decode cL_law 766 = .ok (.aload_n 1, 1) := by decide +kernel
theorem dL_law_767 : decode cL_law 767 = .ok (.iload 14, 2) := by decide +kernel
theorem dL_law_769 : decode cL_law 769 = .ok (.invokestatic 95, 3) := by decide +kernel
theorem dL_law_772 : decode cL_law 772 = .ok (.istore 15, 2) := by decide +kernel
theorem dL_law_774 : decode cL_law 774 = .ok (.aload_n 1, 1) := by decide +kernel
theorem dL_law_775 : decode cL_law 775 = .ok (.iload 14, 2) := by decide +kernel
theorem dL_law_777 : decode cL_law 777 = .ok (.iload 12, 2) := by decide +kernel
theorem dL_law_779 : decode cL_law 779 = .ok (.sipush 3000, 3) := by decide +kernel
theorem dL_law_782 : decode cL_law 782 = .ok (.irem, 1) := by decide +kernel
theorem dL_law_783 : decode cL_law 783 = .ok (.invokestatic 115, 3) := by decide +kernel
theorem dL_law_786 : decode cL_law 786 = .ok (.istore 16, 2) := by decide +kernel
theorem dL_law_788 : decode cL_law 788 = .ok (.iload 16, 2) := by decide +kernel
theorem dL_law_790 : decode cL_law 790 = .ok (.ifCond .lt 56, 3) := by decide +kernel
theorem dL_law_793 : decode cL_law 793 = .ok (.iload 12, 2) := by decide +kernel
theorem dL_law_795 : decode cL_law 795 = .ok (.sipush 3000, 3) := by decide +kernel
theorem dL_law_798 : decode cL_law 798 = .ok (.irem, 1) := by decide +kernel
theorem dL_law_799 : decode cL_law 799 = .ok (.iload 16, 2) := by decide +kernel
theorem dL_law_801 : decode cL_law 801 = .ok (.if_icmp .lt 17, 3) := by decide +kernel
theorem dL_law_804 : decode cL_law 804 = .ok (.aload_n 1, 1) := by decide +kernel
theorem dL_law_805 : decode cL_law 805 = .ok (.iload 14, 2) := by decide +kernel
theorem dL_law_807 : decode cL_law 807 = .ok (.invokestatic 95, 3) := by decide +kernel
theorem dL_law_810 : decode cL_law 810 = .ok (.iload 15, 2) := by decide +kernel
theorem dL_law_812 : decode cL_law 812 = .ok (.if_icmp .lt 34, 3) := by decide +kernel
theorem dL_law_815 : decode cL_law 815 = .ok (.goto 14, 3) := by decide +kernel
theorem dL_law_818 : decode cL_law 818 = .ok (.aload_n 1, 1) := by decide +kernel
theorem dL_law_819 : decode cL_law 819 = .ok (.iload 14, 2) := by decide +kernel
theorem dL_law_821 : decode cL_law 821 = .ok (.invokestatic 95, 3) := by decide +kernel
theorem dL_law_824 : decode cL_law 824 = .ok (.iload 15, 2) := by decide +kernel
theorem dL_law_826 : decode cL_law 826 = .ok (.if_icmp .gt 20, 3) := by decide +kernel
theorem dL_law_829 : decode cL_law 829 = .ok (.aload_n 1, 1) := by decide +kernel
theorem dL_law_830 : decode cL_law 830 = .ok (.iload 14, 2) := by decide +kernel
theorem dL_law_832 : decode cL_law 832 = .ok (.invokestatic 95, 3) := by decide +kernel
theorem dL_law_835 : decode cL_law 835 = .ok (.aload_n 2, 1) := by decide +kernel
theorem dL_law_836 : decode cL_law 836 = .ok (.iload 14, 2) := by decide +kernel
theorem dL_law_838 : decode cL_law 838 = .ok (.iaload, 1) := by decide +kernel
theorem dL_law_839 : decode cL_law 839 = .ok (.if_icmp .gt 7, 3) := by decide +kernel
theorem dL_law_842 : decode cL_law 842 = .ok (.iconst 1, 1) := by decide +kernel
theorem dL_law_843 : decode cL_law 843 = .ok (.goto 4, 3) := by decide +kernel
theorem dL_law_846 : decode cL_law 846 = .ok (.iconst 0, 1) := by decide +kernel
theorem dL_law_847 : decode cL_law 847 = .ok (.istore 9, 2) := by decide +kernel
theorem dL_law_849 : decode cL_law 849 = .ok (.goto 388, 3) := by decide +kernel
theorem dL_law_852 : decode cL_law 852 = .ok (.iload 13, 2) := by decide +kernel
theorem dL_law_854 : decode cL_law 854 = .ok (.bipush 12, 2) := by decide +kernel
theorem dL_law_856 : decode cL_law 856 = .ok (.if_icmp .ne 42, 3) := by decide +kernel
theorem dL_law_859 : decode cL_law 859 = .ok (.aload_n 1, 1) := by decide +kernel
theorem dL_law_860 : decode cL_law 860 = .ok (.iconst 1, 1) := by decide +kernel
theorem dL_law_861 : decode cL_law 861 = .ok (.iload 12, 2) := by decide +kernel
theorem dL_law_863 : decode cL_law 863 = .ok (.iconst 5, 1) := by decide +kernel
theorem dL_law_864 : decode cL_law 864 = .ok (.irem, 1) := by decide +kernel
theorem dL_law_865 : decode cL_law 865 = .ok (.iadd, 1) := by decide +kernel
theorem dL_law_866 : decode cL_law 866 = .ok (.iload 12, 2) := by decide +kernel
theorem dL_law_868 : decode cL_law 868 = .ok (.iconst 5, 1) := by decide +kernel
theorem dL_law_869 : decode cL_law 869 = .ok (.idiv, 1) := by decide +kernel
theorem dL_law_870 : decode cL_law 870 = .ok (.bipush 51, 2) := by decide +kernel
theorem dL_law_872 : decode cL_law 872 = .ok (.irem, 1) := by decide +kernel
theorem dL_law_873 : decode cL_law 873 = .ok (.iload 12, 2) := by decide +kernel
theorem dL_law_875 : decode cL_law 875 = .ok (.sipush 255, 3) := by decide +kernel
theorem dL_law_878 : decode cL_law 878 = .ok (.idiv, 1) := by decide +kernel
theorem dL_law_879 : decode cL_law 879 = .ok (.bipush 21, 2) := by decide +kernel
theorem dL_law_881 : decode cL_law 881 = .ok (.irem, 1) := by decide +kernel
theorem dL_law_882 : decode cL_law 882 = .ok (.invokestatic 117, 3) := by decide +kernel
theorem dL_law_885 : decode cL_law 885 = .ok (.ifCond .ne 7, 3) := by decide +kernel
theorem dL_law_888 : decode cL_law 888 = .ok (.iconst 1, 1) := by decide +kernel
theorem dL_law_889 : decode cL_law 889 = .ok (.goto 4, 3) := by decide +kernel
theorem dL_law_892 : decode cL_law 892 = .ok (.iconst 0, 1) := by decide +kernel
theorem dL_law_893 : decode cL_law 893 = .ok (.istore 9, 2) := by decide +kernel
theorem dL_law_895 : decode cL_law 895 = .ok (.goto 342, 3) := by decide +kernel
theorem dL_law_898 : decode cL_law 898 = .ok (.iload 13, 2) := by decide +kernel
theorem dL_law_900 : decode cL_law 900 = .ok (.bipush 13, 2) := by decide +kernel
theorem dL_law_902 : decode cL_law 902 = .ok (.if_icmp .ne 67, 3) := by decide +kernel
theorem dL_law_905 : decode cL_law 905 = .ok (.iconst 1, 1) := by decide +kernel
theorem dL_law_906 : decode cL_law 906 = .ok (.iload 12, 2) := by decide +kernel
theorem dL_law_908 : decode cL_law 908 = .ok (.sipush 3000, 3) := by decide +kernel
theorem dL_law_911 : decode cL_law 911 = .ok (.irem, 1) := by decide +kernel
theorem dL_law_912 : decode cL_law 912 = .ok (.iadd, 1) := by decide +kernel
theorem dL_law_913 : decode cL_law 913 = .ok (.istore 15, 2) := by decide +kernel
theorem dL_law_915 : decode cL_law 915 = .ok (.aload_n 1, 1) := by decide +kernel
theorem dL_law_916 : decode cL_law 916 = .ok (.iload 15, 2) := by decide +kernel
theorem dL_law_918 : decode cL_law 918 = .ok (.invokestatic 121, 3) := by decide +kernel
theorem dL_law_921 : decode cL_law 921 = .ok (.iload 7, 2) := by decide +kernel
theorem dL_law_923 : decode cL_law 923 = .ok (.iload 15, 2) := by decide +kernel
theorem dL_law_925 : decode cL_law 925 = .ok (.if_icmp .lt 11, 3) := by decide +kernel
theorem dL_law_928 : decode cL_law 928 = .ok (.iload 7, 2) := by decide +kernel
theorem dL_law_930 : decode cL_law 930 = .ok (.iload 15, 2) := by decide +kernel
theorem dL_law_932 : decode cL_law 932 = .ok (.isub, 1) := by decide +kernel
theorem dL_law_933 : decode cL_law 933 = .ok (.goto 5, 3) := by decide +kernel
theorem dL_law_936 : decode cL_law 936 = .ok (.bipush (-103), 2) := by decide +kernel
theorem dL_law_938 : decode cL_law 938 = .ok (.if_icmp .ne 7, 3) := by decide +kernel
theorem dL_law_941 : decode cL_law 941 = .ok (.iconst 1, 1) := by decide +kernel
theorem dL_law_942 : decode cL_law 942 = .ok (.goto 4, 3) := by decide +kernel
theorem dL_law_945 : decode cL_law 945 = .ok (.iconst 0, 1) := by decide +kernel
theorem dL_law_946 : decode cL_law 946 = .ok (.istore 9, 2) := by decide +kernel
