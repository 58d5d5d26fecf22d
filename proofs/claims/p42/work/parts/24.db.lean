/-! The law's instructions, 2. -/
theorem dL_law_460 : decode cL_law 460 = .ok (.if_icmp .ne 7, 3) := by decide +kernel
theorem dL_law_463 : decode cL_law 463 = .ok (.iconst 1, 1) := by decide +kernel
theorem dL_law_464 : decode cL_law 464 = .ok (.goto 4, 3) := by decide +kernel
theorem dL_law_467 : decode cL_law 467 = .ok (.iconst 0, 1) := by decide +kernel
theorem dL_law_468 : decode cL_law 468 = .ok (.iand, 1) := by decide +kernel
theorem dL_law_469 : decode cL_law 469 = .ok (.istore 14, 2) := by decide +kernel
theorem dL_law_471 : decode cL_law 471 = .ok (.aload 6, 2) := by decide +kernel
theorem dL_law_473 : decode cL_law 473 = .ok (.iload 19, 2) := by decide +kernel
theorem dL_law_475 : decode cL_law 475 = .ok (.aload 10, 2) := by decide +kernel
theorem dL_law_477 : decode cL_law 477 = .ok (.iload 19, 2) := by decide +kernel
theorem dL_law_479 : decode cL_law 479 = .ok (.baload, 1) := by decide +kernel
theorem dL_law_480 : decode cL_law 480 = .ok (.ifCond .eq 11, 3) := by decide +kernel
theorem dL_law_483 : decode cL_law 483 = .ok (.aload 6, 2) := by decide +kernel
theorem dL_law_485 : decode cL_law 485 = .ok (.iload 19, 2) := by decide +kernel
theorem dL_law_487 : decode cL_law 487 = .ok (.iaload, 1) := by decide +kernel
theorem dL_law_488 : decode cL_law 488 = .ok (.goto 5, 3) := by decide +kernel
theorem dL_law_491 : decode cL_law 491 = .ok (.iload 23, 2) := by decide +kernel
theorem dL_law_493 : decode cL_law 493 = .ok (.iastore, 1) := by decide +kernel
theorem dL_law_494 : decode cL_law 494 = .ok (.goto 1064, 3) := by decide +kernel
theorem dL_law_497 : decode cL_law 497 = .ok (.iload 18, 2) := by decide +kernel
theorem dL_law_499 : decode cL_law 499 = .ok (.iconst 1, 1) := by decide +kernel
theorem dL_law_500 : decode cL_law 500 = .ok (.if_icmp .ne 97, 3) := by decide +kernel
theorem dL_law_503 : decode cL_law 503 = .ok (.iload 20, 2) := by decide +kernel
theorem dL_law_505 : decode cL_law 505 = .ok (.aload 8, 2) := by decide +kernel
theorem dL_law_507 : decode cL_law 507 = .ok (.iload 19, 2) := by decide +kernel
theorem dL_law_509 : decode cL_law 509 = .ok (.iaload, 1) := by decide +kernel
theorem dL_law_510 : decode cL_law 510 = .ok (.irem, 1) := by decide +kernel
theorem dL_law_511 : decode cL_law 511 = .ok (.istore 22, 2) := by decide +kernel
theorem dL_law_513 : decode cL_law 513 = .ok (.iload 21, 2) := by decide +kernel
theorem dL_law_515 : decode cL_law 515 = .ok (.bipush 21, 2) := by decide +kernel
theorem dL_law_517 : decode cL_law 517 = .ok (.irem, 1) := by decide +kernel
theorem dL_law_518 : decode cL_law 518 = .ok (.iconst 1, 1) := by decide +kernel
theorem dL_law_519 : decode cL_law 519 = .ok (.isub, 1) := by decide +kernel
theorem dL_law_520 : decode cL_law 520 = .ok (.istore 23, 2) := by decide +kernel
theorem dL_law_522 : decode cL_law 522 = .ok (.iload 14, 2) := by decide +kernel
theorem dL_law_524 : decode cL_law 524 = .ok (.aload_n 1, 1) := by decide +kernel
theorem dL_law_525 : decode cL_law 525 = .ok (.iload 19, 2) := by decide +kernel
theorem dL_law_527 : decode cL_law 527 = .ok (.iload 22, 2) := by decide +kernel
theorem dL_law_529 : decode cL_law 529 = .ok (.iload 23, 2) := by decide +kernel
theorem dL_law_531 : decode cL_law 531 = .ok (.invokestatic 147, 3) := by decide +kernel
theorem dL_law_534 : decode cL_law 534 = .ok (.aload 12, 2) := by decide +kernel
theorem dL_law_536 : decode cL_law 536 = .ok (.iload 19, 2) := by decide +kernel
theorem dL_law_538 : decode cL_law 538 = .ok (.aaload, 1) := by decide +kernel
theorem dL_law_539 : decode cL_law 539 = .ok (.iload 22, 2) := by decide +kernel
theorem dL_law_541 : decode cL_law 541 = .ok (.iaload, 1) := by decide +kernel
theorem dL_law_542 : decode cL_law 542 = .ok (.if_icmp .ne 38, 3) := by decide +kernel
theorem dL_law_545 : decode cL_law 545 = .ok (.aload_n 1, 1) := by decide +kernel
theorem dL_law_546 : decode cL_law 546 = .ok (.iload 19, 2) := by decide +kernel
theorem dL_law_548 : decode cL_law 548 = .ok (.aload 8, 2) := by decide +kernel
theorem dL_law_550 : decode cL_law 550 = .ok (.iload 19, 2) := by decide +kernel
theorem dL_law_552 : decode cL_law 552 = .ok (.iaload, 1) := by decide +kernel
theorem dL_law_553 : decode cL_law 553 = .ok (.iconst 0, 1) := by decide +kernel
theorem dL_law_554 : decode cL_law 554 = .ok (.invokestatic 147, 3) := by decide +kernel
theorem dL_law_557 : decode cL_law 557 = .ok (.ldc 17, 2) := by decide +kernel
theorem dL_law_559 : decode cL_law 559 = .ok (.if_icmp .ne 21, 3) := by decide +kernel
theorem dL_law_562 : decode cL_law 562 = .ok (.aload_n 1, 1) := by decide +kernel
theorem dL_law_563 : decode cL_law 563 = .ok (.iload 19, 2) := by decide +kernel
theorem dL_law_565 : decode cL_law 565 = .ok (.iconst 0, 1) := by decide +kernel
theorem dL_law_566 : decode cL_law 566 = .ok (.bipush 20, 2) := by decide +kernel
theorem dL_law_568 : decode cL_law 568 = .ok (.invokestatic 147, 3) := by decide +kernel
theorem dL_law_571 : decode cL_law 571 = .ok (.ldc 20, 2) := by decide +kernel
theorem dL_law_573 : decode cL_law 573 = .ok (.if_icmp .ne 7, 3) := by decide +kernel
theorem dL_law_576 : decode cL_law 576 = .ok (.iconst 1, 1) := by decide +kernel
theorem dL_law_577 : decode cL_law 577 = .ok (.goto 4, 3) := by decide +kernel
theorem dL_law_580 : decode cL_law 580 = .ok (.iconst 0, 1) := by decide +kernel
theorem dL_law_581 : decode cL_law 581 = .ok (.iand, 1) := by decide +kernel
theorem dL_law_582 : decode cL_law 582 = .ok (.istore 14, 2) := by decide +kernel
theorem dL_law_584 : decode cL_law 584 = .ok (.aload 12, 2) := by decide +kernel
theorem dL_law_586 : decode cL_law 586 = .ok (.iload 19, 2) := by decide +kernel
theorem dL_law_588 : decode cL_law 588 = .ok (.aaload, 1) := by decide +kernel
theorem dL_law_589 : decode cL_law 589 = .ok (.iload 22, 2) := by decide +kernel
theorem dL_law_591 : decode cL_law 591 = .ok (.iload 23, 2) := by decide +kernel
theorem dL_law_593 : decode cL_law 593 = .ok (.iastore, 1) := by decide +kernel
theorem dL_law_594 : decode cL_law 594 = .ok (.goto 964, 3) := by decide +kernel
theorem dL_law_597 : decode cL_law 597 = .ok (.iload 18, 2) := by decide +kernel
theorem dL_law_599 : decode cL_law 599 = .ok (.iconst 2, 1) := by decide +kernel
theorem dL_law_600 : decode cL_law 600 = .ok (.if_icmp .ne 139, 3) := by decide +kernel
theorem dL_law_603 : decode cL_law 603 = .ok (.iconst 1, 1) := by decide +kernel
theorem dL_law_604 : decode cL_law 604 = .ok (.iload 20, 2) := by decide +kernel
theorem dL_law_606 : decode cL_law 606 = .ok (.bipush 9, 2) := by decide +kernel
theorem dL_law_608 : decode cL_law 608 = .ok (.irem, 1) := by decide +kernel
theorem dL_law_609 : decode cL_law 609 = .ok (.iadd, 1) := by decide +kernel
theorem dL_law_610 : decode cL_law 610 = .ok (.istore 22, 2) := by decide +kernel
theorem dL_law_612 : decode cL_law 612 = .ok (.aload 10, 2) := by decide +kernel
theorem dL_law_614 : decode cL_law 614 = .ok (.iload 19, 2) := by decide +kernel
theorem dL_law_616 : decode cL_law 616 = .ok (.baload, 1) := by decide +kernel
theorem dL_law_617 : decode cL_law 617 = .ok (.ifCond .ne 20, 3) := by decide +kernel
theorem dL_law_620 : decode cL_law 620 = .ok (.aload 7, 2) := by decide +kernel
theorem dL_law_622 : decode cL_law 622 = .ok (.iload 19, 2) := by decide +kernel
theorem dL_law_624 : decode cL_law 624 = .ok (.iaload, 1) := by decide +kernel
theorem dL_law_625 : decode cL_law 625 = .ok (.iload 22, 2) := by decide +kernel
theorem dL_law_627 : decode cL_law 627 = .ok (.iadd, 1) := by decide +kernel
theorem dL_law_628 : decode cL_law 628 = .ok (.bipush 9, 2) := by decide +kernel
theorem dL_law_630 : decode cL_law 630 = .ok (.if_icmp .gt 7, 3) := by decide +kernel
theorem dL_law_633 : decode cL_law 633 = .ok (.iconst 1, 1) := by decide +kernel
theorem dL_law_634 : decode cL_law 634 = .ok (.goto 4, 3) := by decide +kernel
theorem dL_law_637 : decode cL_law 637 = .ok (.iconst 0, 1) := by decide +kernel
theorem dL_law_638 : decode cL_law 638 = .ok (.istore 23, 2) := by decide +kernel
theorem dL_law_640 : decode cL_law 640 = .ok (.iload 14, 2) := by decide +kernel
theorem dL_law_642 : decode cL_law 642 = .ok (.aload_n 1, 1) := by decide +kernel
theorem dL_law_643 : decode cL_law 643 = .ok (.iload 19, 2) := by decide +kernel
theorem dL_law_645 : decode cL_law 645 = .ok (.iload 22, 2) := by decide +kernel
theorem dL_law_647 : decode cL_law 647 = .ok (.invokestatic 149, 3) := by decide +kernel
theorem dL_law_650 : decode cL_law 650 = .ok (.iload 23, 2) := by decide +kernel
theorem dL_law_652 : decode cL_law 652 = .ok (.ifCond .eq 14, 3) := by decide +kernel
theorem dL_law_655 : decode cL_law 655 = .ok (.aload 7, 2) := by decide +kernel
theorem dL_law_657 : decode cL_law 657 = .ok (.iload 19, 2) := by decide +kernel
theorem dL_law_659 : decode cL_law 659 = .ok (.iaload, 1) := by decide +kernel
theorem dL_law_660 : decode cL_law 660 = .ok (.iload 22, 2) := by decide +kernel
theorem dL_law_662 : decode cL_law 662 = .ok (.iadd, 1) := by decide +kernel
theorem dL_law_663 : decode cL_law 663 = .ok (.goto 5, 3) := by decide +kernel
theorem dL_law_666 : decode cL_law 666 = .ok (.ldc 29, 2) := by decide +kernel
theorem dL_law_668 : decode cL_law 668 = .ok (.if_icmp .ne 7, 3) := by decide +kernel
theorem dL_law_671 : decode cL_law 671 = .ok (.iconst 1, 1) := by decide +kernel
theorem dL_law_672 : decode cL_law 672 = .ok (.goto 4, 3) := by decide +kernel
theorem dL_law_675 : decode cL_law 675 = .ok (.iconst 0, 1) := by decide +kernel
theorem dL_law_676 : decode cL_law 676 = .ok (.iand, 1) := by decide +kernel
theorem dL_law_677 : decode cL_law 677 = .ok (.istore 14, 2) := by decide +kernel
theorem dL_law_679 : decode cL_law 679 = .ok (.aload 7, 2) := by decide +kernel
theorem dL_law_681 : decode cL_law 681 = .ok (.iload 19, 2) := by decide +kernel
theorem dL_law_683 : decode cL_law 683 = .ok (.dup2, 1) := by decide +kernel
theorem dL_law_684 : decode cL_law 684 = .ok (.iaload, 1) := by decide +kernel
theorem dL_law_685 : decode cL_law 685 = .ok (.iload 23, 2) := by decide +kernel
theorem dL_law_687 : decode cL_law 687 = .ok (.ifCond .eq 8, 3) := by decide +kernel
theorem dL_law_690 : decode cL_law 690 = .ok (.iload 22, 2) := by decide +kernel
theorem dL_law_692 : decode cL_law 692 = .ok (.goto 4, 3) := by decide +kernel
theorem dL_law_695 : decode cL_law 695 = .ok (.iconst 0, 1) := by decide +kernel
theorem dL_law_696 : decode cL_law 696 = .ok (.iadd, 1) := by decide +kernel
theorem dL_law_697 : decode cL_law 697 = .ok (.iastore, 1) := by decide +kernel
theorem dL_law_698 : decode cL_law 698 = .ok (.aload_n 3, 1) := by decide +kernel
theorem dL_law_699 : decode cL_law 699 = .ok (.iload 19, 2) := by decide +kernel
theorem dL_law_701 : decode cL_law 701 = .ok (.dup2, 1) := by decide +kernel
theorem dL_law_702 : decode cL_law 702 = .ok (.iaload, 1) := by decide +kernel
theorem dL_law_703 : decode cL_law 703 = .ok (.iload 23, 2) := by decide +kernel
theorem dL_law_705 : decode cL_law 705 = .ok (.ifCond .eq 10, 3) := by decide +kernel
theorem dL_law_708 : decode cL_law 708 = .ok (.iconst 2, 1) := by decide +kernel
theorem dL_law_709 : decode cL_law 709 = .ok (.iload 22, 2) := by decide +kernel
theorem dL_law_711 : decode cL_law 711 = .ok (.imul, 1) := by decide +kernel
theorem dL_law_712 : decode cL_law 712 = .ok (.goto 4, 3) := by decide +kernel
theorem dL_law_715 : decode cL_law 715 = .ok (.iconst 0, 1) := by decide +kernel
theorem dL_law_716 : decode cL_law 716 = .ok (.isub, 1) := by decide +kernel
theorem dL_law_717 : decode cL_law 717 = .ok (.iastore, 1) := by decide +kernel
theorem dL_law_718 : decode cL_law 718 = .ok (.iload 15, 2) := by decide +kernel
theorem dL_law_720 : decode cL_law 720 = .ok (.iload 23, 2) := by decide +kernel
theorem dL_law_722 : decode cL_law 722 = .ok (.ifCond .eq 10, 3) := by decide +kernel
theorem dL_law_725 : decode cL_law 725 = .ok (.iconst 2, 1) := by decide +kernel
theorem dL_law_726 : decode cL_law 726 = .ok (.iload 22, 2) := by decide +kernel
theorem dL_law_728 : decode cL_law 728 = .ok (.imul, 1) := by decide +kernel
theorem dL_law_729 : decode cL_law 729 = .ok (.goto 4, 3) := by decide +kernel
theorem dL_law_732 : decode cL_law 732 = .ok (.iconst 0, 1) := by decide +kernel
theorem dL_law_733 : decode cL_law 733 = .ok (.iadd, 1) := by decide +kernel
theorem dL_law_734 : decode cL_law 734 = .ok (.istore 15, 2) := by decide +kernel
theorem dL_law_736 : decode cL_law 736 = .ok (.goto 822, 3) := by decide +kernel
theorem dL_law_739 : decode cL_law 739 = .ok (.iload 18, 2) := by decide +kernel
theorem dL_law_741 : decode cL_law 741 = .ok (.iconst 3, 1) := by decide +kernel
theorem dL_law_742 : decode cL_law 742 = .ok (.if_icmp .ne 128, 3) := by decide +kernel
theorem dL_law_745 : decode cL_law 745 = .ok (.iload 21, 2) := by decide +kernel
theorem dL_law_747 : decode cL_law 747 = .ok (.iload_n 2, 1) := by decide +kernel
theorem dL_law_748 : decode cL_law 748 = .ok (.irem, 1) := by decide +kernel
theorem dL_law_749 : decode cL_law 749 = .ok (.istore 22, 2) := by decide +kernel
theorem dL_law_751 : decode cL_law 751 = .ok (.aload 10, 2) := by decide +kernel
theorem dL_law_753 : decode cL_law 753 = .ok (.iload 19, 2) := by decide +kernel
theorem dL_law_755 : decode cL_law 755 = .ok (.baload, 1) := by decide +kernel
theorem dL_law_756 : decode cL_law 756 = .ok (.ifCond .ne 15, 3) := by decide +kernel
theorem dL_law_759 : decode cL_law 759 = .ok (.aload 10, 2) := by decide +kernel
theorem dL_law_761 : decode cL_law 761 = .ok (.iload 22, 2) := by decide +kernel
theorem dL_law_763 : decode cL_law 763 = .ok (.baload, 1) := by decide +kernel
theorem dL_law_764 : decode cL_law 764 = .ok (.ifCond .ne 7, 3) := by decide +kernel
theorem dL_law_767 : decode cL_law 767 = .ok (.iconst 1, 1) := by decide +kernel
theorem dL_law_768 : decode cL_law 768 = .ok (.goto 4, 3) := by decide +kernel
theorem dL_law_771 : decode cL_law 771 = .ok (.iconst 0, 1) := by decide +kernel
theorem dL_law_772 : decode cL_law 772 = .ok (.istore 23, 2) := by decide +kernel
theorem dL_law_774 : decode cL_law 774 = .ok (.iload 14, 2) := by decide +kernel
theorem dL_law_776 : decode cL_law 776 = .ok (.aload_n 1, 1) := by decide +kernel
theorem dL_law_777 : decode cL_law 777 = .ok (.iload 19, 2) := by decide +kernel
theorem dL_law_779 : decode cL_law 779 = .ok (.iload 22, 2) := by decide +kernel
theorem dL_law_781 : decode cL_law 781 = .ok (.invokestatic 151, 3) := by decide +kernel
theorem dL_law_784 : decode cL_law 784 = .ok (.iload 19, 2) := by decide +kernel
theorem dL_law_786 : decode cL_law 786 = .ok (.iload 22, 2) := by decide +kernel
theorem dL_law_788 : decode cL_law 788 = .ok (.if_icmp .ne 8, 3) := by decide +kernel
theorem dL_law_791 : decode cL_law 791 = .ok (.ldc 20, 2) := by decide +kernel
theorem dL_law_793 : decode cL_law 793 = .ok (.goto 22, 3) := by decide +kernel
theorem dL_law_796 : decode cL_law 796 = .ok (.iload 23, 2) := by decide +kernel
theorem dL_law_798 : decode cL_law 798 = .ok (.ifCond .eq 15, 3) := by decide +kernel
theorem dL_law_801 : decode cL_law 801 = .ok (.aload_n 3, 1) := by decide +kernel
theorem dL_law_802 : decode cL_law 802 = .ok (.iload 19, 2) := by decide +kernel
theorem dL_law_804 : decode cL_law 804 = .ok (.iaload, 1) := by decide +kernel
theorem dL_law_805 : decode cL_law 805 = .ok (.aload_n 3, 1) := by decide +kernel
theorem dL_law_806 : decode cL_law 806 = .ok (.iload 22, 2) := by decide +kernel
theorem dL_law_808 : decode cL_law 808 = .ok (.iaload, 1) := by decide +kernel
theorem dL_law_809 : decode cL_law 809 = .ok (.iadd, 1) := by decide +kernel
theorem dL_law_810 : decode cL_law 810 = .ok (.goto 5, 3) := by decide +kernel
theorem dL_law_813 : decode cL_law 813 = .ok (.ldc 29, 2) := by decide +kernel
theorem dL_law_815 : decode cL_law 815 = .ok (.if_icmp .ne 7, 3) := by decide +kernel
theorem dL_law_818 : decode cL_law 818 = .ok (.iconst 1, 1) := by decide +kernel
theorem dL_law_819 : decode cL_law 819 = .ok (.goto 4, 3) := by decide +kernel
theorem dL_law_822 : decode cL_law 822 = .ok (.iconst 0, 1) := by decide +kernel
theorem dL_law_823 : decode cL_law 823 = .ok (.iand, 1) := by decide +kernel
theorem dL_law_824 : decode cL_law 824 = .ok (.istore 14, 2) := by decide +kernel
theorem dL_law_826 : decode cL_law 826 = .ok (.iload 19, 2) := by decide +kernel
theorem dL_law_828 : decode cL_law 828 = .ok (.iload 22, 2) := by decide +kernel
theorem dL_law_830 : decode cL_law 830 = .ok (.if_icmp .eq 37, 3) := by decide +kernel
theorem dL_law_833 : decode cL_law 833 = .ok (.iload 23, 2) := by decide +kernel
theorem dL_law_835 : decode cL_law 835 = .ok (.ifCond .eq 32, 3) := by decide +kernel
theorem dL_law_838 : decode cL_law 838 = .ok (.iload 20, 2) := by decide +kernel
theorem dL_law_840 : decode cL_law 840 = .ok (.iconst 3, 1) := by decide +kernel
theorem dL_law_841 : decode cL_law 841 = .ok (.irem, 1) := by decide +kernel
theorem dL_law_842 : decode cL_law 842 = .ok (.ifCond .lt 25, 3) := by decide +kernel
theorem dL_law_845 : decode cL_law 845 = .ok (.aload_n 3, 1) := by decide +kernel
theorem dL_law_846 : decode cL_law 846 = .ok (.iload 22, 2) := by decide +kernel
theorem dL_law_848 : decode cL_law 848 = .ok (.dup2, 1) := by decide +kernel
theorem dL_law_849 : decode cL_law 849 = .ok (.iaload, 1) := by decide +kernel
theorem dL_law_850 : decode cL_law 850 = .ok (.aload_n 3, 1) := by decide +kernel
theorem dL_law_851 : decode cL_law 851 = .ok (.iload 19, 2) := by decide +kernel
theorem dL_law_853 : decode cL_law 853 = .ok (.iaload, 1) := by decide +kernel
theorem dL_law_854 : decode cL_law 854 = .ok (.iadd, 1) := by decide +kernel
theorem dL_law_855 : decode cL_law 855 = .ok (.iastore, 1) := by decide +kernel
theorem dL_law_856 : decode cL_law 856 = .ok (.aload_n 3, 1) := by decide +kernel
theorem dL_law_857 : decode cL_law 857 = .ok (.iload 19, 2) := by decide +kernel
theorem dL_law_859 : decode cL_law 859 = .ok (.iconst 0, 1) := by decide +kernel
theorem dL_law_860 : decode cL_law 860 = .ok (.iastore, 1) := by decide +kernel
theorem dL_law_861 : decode cL_law 861 = .ok (.aload 10, 2) := by decide +kernel
theorem dL_law_863 : decode cL_law 863 = .ok (.iload 19, 2) := by decide +kernel
theorem dL_law_865 : decode cL_law 865 = .ok (.iconst 1, 1) := by decide +kernel
theorem dL_law_866 : decode cL_law 866 = .ok (.bastore, 1) := by decide +kernel
theorem dL_law_867 : decode cL_law 867 = .ok (.goto 691, 3) := by decide +kernel
theorem dL_law_870 : decode cL_law 870 = .ok (.iload 18, 2) := by decide +kernel
theorem dL_law_872 : decode cL_law 872 = .ok (.iconst 4, 1) := by decide +kernel
theorem dL_law_873 : decode cL_law 873 = .ok (.if_icmp .ne 121, 3) := by decide +kernel
theorem dL_law_876 : decode cL_law 876 = .ok (.iconst 1, 1) := by decide +kernel
theorem dL_law_877 : decode cL_law 877 = .ok (.iload 20, 2) := by decide +kernel
theorem dL_law_879 : decode cL_law 879 = .ok (.bipush 99, 2) := by decide +kernel
theorem dL_law_881 : decode cL_law 881 = .ok (.irem, 1) := by decide +kernel
theorem dL_law_882 : decode cL_law 882 = .ok (.iadd, 1) := by decide +kernel
theorem dL_law_883 : decode cL_law 883 = .ok (.istore 22, 2) := by decide +kernel
theorem dL_law_885 : decode cL_law 885 = .ok (.aload 10, 2) := by decide +kernel
theorem dL_law_887 : decode cL_law 887 = .ok (.iload 19, 2) := by decide +kernel
theorem dL_law_889 : decode cL_law 889 = .ok (.baload, 1) := by decide +kernel
theorem dL_law_890 : decode cL_law 890 = .ok (.ifCond .ne 27, 3) := by decide +kernel
theorem dL_law_893 : decode cL_law 893 = .ok (.aload 4, 2) := by decide +kernel
theorem dL_law_895 : decode cL_law 895 = .ok (.iload 19, 2) := by decide +kernel
theorem dL_law_897 : decode cL_law 897 = .ok (.iaload, 1) := by decide +kernel
theorem dL_law_898 : decode cL_law 898 = .ok (.aload 5, 2) := by decide +kernel
theorem dL_law_900 : decode cL_law 900 = .ok (.iload 19, 2) := by decide +kernel
theorem dL_law_902 : decode cL_law 902 = .ok (.iaload, 1) := by decide +kernel
theorem dL_law_903 : decode cL_law 903 = .ok (.iadd, 1) := by decide +kernel
theorem dL_law_904 : decode cL_law 904 = .ok (.iload 22, 2) := by decide +kernel
theorem dL_law_906 : decode cL_law 906 = .ok (.iadd, 1) := by decide +kernel
theorem dL_law_907 : decode cL_law 907 = .ok (.sipush 600, 3) := by decide +kernel
theorem dL_law_910 : decode cL_law 910 = .ok (.if_icmp .gt 7, 3) := by decide +kernel
