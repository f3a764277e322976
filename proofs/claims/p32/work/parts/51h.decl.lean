theorem dL_follows_536 : decode cL_follows 536 = .ok (.aload_n 0, 1) := by decide +kernel
theorem dL_follows_537 : decode cL_follows 537 = .ok (.iload 9, 2) := by decide +kernel
theorem dL_follows_539 : decode cL_follows 539 = .ok (.iload 10, 2) := by decide +kernel
theorem dL_follows_541 : decode cL_follows 541 = .ok (.iconst 2, 1) := by decide +kernel
theorem dL_follows_542 : decode cL_follows 542 = .ok (.invokestatic 122, 3) := by decide +kernel
theorem dL_follows_545 : decode cL_follows 545 = .ok (.lload 13, 2) := by decide +kernel
theorem dL_follows_547 : decode cL_follows 547 = .ok (.lconst 1, 1) := by decide +kernel
theorem dL_follows_548 : decode cL_follows 548 = .ok (.lsub, 1) := by decide +kernel
theorem dL_follows_549 : decode cL_follows 549 = .ok (.lload 19, 2) := by decide +kernel
theorem dL_follows_551 : decode cL_follows 551 = .ok (.ladd, 1) := by decide +kernel
theorem dL_follows_552 : decode cL_follows 552 = .ok (.lcmp, 1) := by decide +kernel
theorem dL_follows_553 : decode cL_follows 553 = .ok (.ifCond .ne 68, 3) := by decide +kernel
theorem dL_follows_556 : decode cL_follows 556 = .ok (.aload_n 0, 1) := by decide +kernel
theorem dL_follows_557 : decode cL_follows 557 = .ok (.iload 10, 2) := by decide +kernel
theorem dL_follows_559 : decode cL_follows 559 = .ok (.iconst 2, 1) := by decide +kernel
theorem dL_follows_560 : decode cL_follows 560 = .ok (.invokestatic 127, 3) := by decide +kernel
theorem dL_follows_563 : decode cL_follows 563 = .ok (.lload 17, 2) := by decide +kernel
theorem dL_follows_565 : decode cL_follows 565 = .ok (.lload 19, 2) := by decide +kernel
theorem dL_follows_567 : decode cL_follows 567 = .ok (.lsub, 1) := by decide +kernel
theorem dL_follows_568 : decode cL_follows 568 = .ok (.lcmp, 1) := by decide +kernel
theorem dL_follows_569 : decode cL_follows 569 = .ok (.ifCond .ne 52, 3) := by decide +kernel
theorem dL_follows_572 : decode cL_follows 572 = .ok (.aload_n 0, 1) := by decide +kernel
theorem dL_follows_573 : decode cL_follows 573 = .ok (.iload 9, 2) := by decide +kernel
theorem dL_follows_575 : decode cL_follows 575 = .ok (.iconst 1, 1) := by decide +kernel
theorem dL_follows_576 : decode cL_follows 576 = .ok (.invokestatic 117, 3) := by decide +kernel
theorem dL_follows_579 : decode cL_follows 579 = .ok (.lload 15, 2) := by decide +kernel
theorem dL_follows_581 : decode cL_follows 581 = .ok (.lload 19, 2) := by decide +kernel
theorem dL_follows_583 : decode cL_follows 583 = .ok (.lconst 1, 1) := by decide +kernel
theorem dL_follows_584 : decode cL_follows 584 = .ok (.lcmp, 1) := by decide +kernel
theorem dL_follows_585 : decode cL_follows 585 = .ok (.ifCond .ne 7, 3) := by decide +kernel
theorem dL_follows_588 : decode cL_follows 588 = .ok (.lconst 0, 1) := by decide +kernel
theorem dL_follows_589 : decode cL_follows 589 = .ok (.goto 5, 3) := by decide +kernel
theorem dL_follows_592 : decode cL_follows 592 = .ok (.lload 11, 2) := by decide +kernel
theorem dL_follows_594 : decode cL_follows 594 = .ok (.lsub, 1) := by decide +kernel
theorem dL_follows_595 : decode cL_follows 595 = .ok (.lcmp, 1) := by decide +kernel
theorem dL_follows_596 : decode cL_follows 596 = .ok (.ifCond .ne 25, 3) := by decide +kernel
theorem dL_follows_599 : decode cL_follows 599 = .ok (.aload_n 0, 1) := by decide +kernel
theorem dL_follows_600 : decode cL_follows 600 = .ok (.invokestatic 198, 3) := by decide +kernel
theorem dL_follows_603 : decode cL_follows 603 = .ok (.lconst 0, 1) := by decide +kernel
theorem dL_follows_604 : decode cL_follows 604 = .ok (.lcmp, 1) := by decide +kernel
theorem dL_follows_605 : decode cL_follows 605 = .ok (.ifCond .lt 16, 3) := by decide +kernel
theorem dL_follows_608 : decode cL_follows 608 = .ok (.aload_n 0, 1) := by decide +kernel
theorem dL_follows_609 : decode cL_follows 609 = .ok (.invokestatic 131, 3) := by decide +kernel
theorem dL_follows_612 : decode cL_follows 612 = .ok (.lload_n 2, 1) := by decide +kernel
theorem dL_follows_613 : decode cL_follows 613 = .ok (.lcmp, 1) := by decide +kernel
theorem dL_follows_614 : decode cL_follows 614 = .ok (.ifCond .ne 7, 3) := by decide +kernel
theorem dL_follows_617 : decode cL_follows 617 = .ok (.iconst 1, 1) := by decide +kernel
theorem dL_follows_618 : decode cL_follows 618 = .ok (.goto 4, 3) := by decide +kernel
theorem dL_follows_621 : decode cL_follows 621 = .ok (.iconst 0, 1) := by decide +kernel
theorem dL_follows_622 : decode cL_follows 622 = .ok (.istore 8, 2) := by decide +kernel
theorem dL_follows_624 : decode cL_follows 624 = .ok (.iconst 1, 1) := by decide +kernel
theorem dL_follows_625 : decode cL_follows 625 = .ok (.iload_n 1, 1) := by decide +kernel
theorem dL_follows_626 : decode cL_follows 626 = .ok (.bipush 36, 2) := by decide +kernel
theorem dL_follows_628 : decode cL_follows 628 = .ok (.idiv, 1) := by decide +kernel
theorem dL_follows_629 : decode cL_follows 629 = .ok (.lload 13, 2) := by decide +kernel
theorem dL_follows_631 : decode cL_follows 631 = .ok (.l2i, 1) := by decide +kernel
theorem dL_follows_632 : decode cL_follows 632 = .ok (.irem, 1) := by decide +kernel
theorem dL_follows_633 : decode cL_follows 633 = .ok (.iadd, 1) := by decide +kernel
theorem dL_follows_634 : decode cL_follows 634 = .ok (.istore 21, 2) := by decide +kernel
theorem dL_follows_636 : decode cL_follows 636 = .ok (.iload 8, 2) := by decide +kernel
theorem dL_follows_638 : decode cL_follows 638 = .ok (.ifCond .eq 60, 3) := by decide +kernel
theorem dL_follows_641 : decode cL_follows 641 = .ok (.aload_n 0, 1) := by decide +kernel
theorem dL_follows_642 : decode cL_follows 642 = .ok (.iload 9, 2) := by decide +kernel
theorem dL_follows_644 : decode cL_follows 644 = .ok (.iload 10, 2) := by decide +kernel
theorem dL_follows_646 : decode cL_follows 646 = .ok (.iload 21, 2) := by decide +kernel
theorem dL_follows_648 : decode cL_follows 648 = .ok (.invokestatic 139, 3) := by decide +kernel
theorem dL_follows_651 : decode cL_follows 651 = .ok (.lload 13, 2) := by decide +kernel
theorem dL_follows_653 : decode cL_follows 653 = .ok (.iload 21, 2) := by decide +kernel
theorem dL_follows_655 : decode cL_follows 655 = .ok (.i2l, 1) := by decide +kernel
theorem dL_follows_656 : decode cL_follows 656 = .ok (.lsub, 1) := by decide +kernel
theorem dL_follows_657 : decode cL_follows 657 = .ok (.lcmp, 1) := by decide +kernel
theorem dL_follows_658 : decode cL_follows 658 = .ok (.ifCond .ne 40, 3) := by decide +kernel
theorem dL_follows_661 : decode cL_follows 661 = .ok (.aload_n 0, 1) := by decide +kernel
theorem dL_follows_662 : decode cL_follows 662 = .ok (.iconst 3, 1) := by decide +kernel
theorem dL_follows_663 : decode cL_follows 663 = .ok (.invokestatic 112, 3) := by decide +kernel
theorem dL_follows_666 : decode cL_follows 666 = .ok (.lload 6, 2) := by decide +kernel
theorem dL_follows_668 : decode cL_follows 668 = .ok (.iload 21, 2) := by decide +kernel
theorem dL_follows_670 : decode cL_follows 670 = .ok (.i2l, 1) := by decide +kernel
theorem dL_follows_671 : decode cL_follows 671 = .ok (.lsub, 1) := by decide +kernel
theorem dL_follows_672 : decode cL_follows 672 = .ok (.lcmp, 1) := by decide +kernel
theorem dL_follows_673 : decode cL_follows 673 = .ok (.ifCond .ne 25, 3) := by decide +kernel
theorem dL_follows_676 : decode cL_follows 676 = .ok (.aload_n 0, 1) := by decide +kernel
theorem dL_follows_677 : decode cL_follows 677 = .ok (.invokestatic 198, 3) := by decide +kernel
theorem dL_follows_680 : decode cL_follows 680 = .ok (.lconst 0, 1) := by decide +kernel
theorem dL_follows_681 : decode cL_follows 681 = .ok (.lcmp, 1) := by decide +kernel
theorem dL_follows_682 : decode cL_follows 682 = .ok (.ifCond .lt 16, 3) := by decide +kernel
theorem dL_follows_685 : decode cL_follows 685 = .ok (.aload_n 0, 1) := by decide +kernel
theorem dL_follows_686 : decode cL_follows 686 = .ok (.invokestatic 131, 3) := by decide +kernel
theorem dL_follows_689 : decode cL_follows 689 = .ok (.lload_n 2, 1) := by decide +kernel
theorem dL_follows_690 : decode cL_follows 690 = .ok (.lcmp, 1) := by decide +kernel
theorem dL_follows_691 : decode cL_follows 691 = .ok (.ifCond .ne 7, 3) := by decide +kernel
theorem dL_follows_694 : decode cL_follows 694 = .ok (.iconst 1, 1) := by decide +kernel
theorem dL_follows_695 : decode cL_follows 695 = .ok (.goto 4, 3) := by decide +kernel
theorem dL_follows_698 : decode cL_follows 698 = .ok (.iconst 0, 1) := by decide +kernel
theorem dL_follows_699 : decode cL_follows 699 = .ok (.istore 8, 2) := by decide +kernel
theorem dL_follows_701 : decode cL_follows 701 = .ok (.iload_n 1, 1) := by decide +kernel
theorem dL_follows_702 : decode cL_follows 702 = .ok (.bipush 7, 2) := by decide +kernel
theorem dL_follows_704 : decode cL_follows 704 = .ok (.idiv, 1) := by decide +kernel
theorem dL_follows_705 : decode cL_follows 705 = .ok (.iload 4, 2) := by decide +kernel
theorem dL_follows_707 : decode cL_follows 707 = .ok (.irem, 1) := by decide +kernel
theorem dL_follows_708 : decode cL_follows 708 = .ok (.istore 22, 2) := by decide +kernel
theorem dL_follows_710 : decode cL_follows 710 = .ok (.iload 8, 2) := by decide +kernel
theorem dL_follows_712 : decode cL_follows 712 = .ok (.ifCond .eq 108, 3) := by decide +kernel
theorem dL_follows_715 : decode cL_follows 715 = .ok (.iload 22, 2) := by decide +kernel
theorem dL_follows_717 : decode cL_follows 717 = .ok (.iload 9, 2) := by decide +kernel
theorem dL_follows_719 : decode cL_follows 719 = .ok (.if_icmp .eq 88, 3) := by decide +kernel
theorem dL_follows_722 : decode cL_follows 722 = .ok (.aload_n 0, 1) := by decide +kernel
theorem dL_follows_723 : decode cL_follows 723 = .ok (.iload 9, 2) := by decide +kernel
theorem dL_follows_725 : decode cL_follows 725 = .ok (.iload 22, 2) := by decide +kernel
theorem dL_follows_727 : decode cL_follows 727 = .ok (.iload 10, 2) := by decide +kernel
theorem dL_follows_729 : decode cL_follows 729 = .ok (.iload 21, 2) := by decide +kernel
theorem dL_follows_731 : decode cL_follows 731 = .ok (.invokestatic 141, 3) := by decide +kernel
theorem dL_follows_734 : decode cL_follows 734 = .ok (.iload 21, 2) := by decide +kernel
theorem dL_follows_736 : decode cL_follows 736 = .ok (.i2l, 1) := by decide +kernel
theorem dL_follows_737 : decode cL_follows 737 = .ok (.lcmp, 1) := by decide +kernel
theorem dL_follows_738 : decode cL_follows 738 = .ok (.ifCond .lt 82, 3) := by decide +kernel
theorem dL_follows_741 : decode cL_follows 741 = .ok (.aload_n 0, 1) := by decide +kernel
theorem dL_follows_742 : decode cL_follows 742 = .ok (.iload 9, 2) := by decide +kernel
theorem dL_follows_744 : decode cL_follows 744 = .ok (.iload 10, 2) := by decide +kernel
theorem dL_follows_746 : decode cL_follows 746 = .ok (.iconst 2, 1) := by decide +kernel
theorem dL_follows_747 : decode cL_follows 747 = .ok (.invokestatic 122, 3) := by decide +kernel
theorem dL_follows_750 : decode cL_follows 750 = .ok (.lload 13, 2) := by decide +kernel
theorem dL_follows_752 : decode cL_follows 752 = .ok (.iload 21, 2) := by decide +kernel
theorem dL_follows_754 : decode cL_follows 754 = .ok (.i2l, 1) := by decide +kernel
theorem dL_follows_755 : decode cL_follows 755 = .ok (.lsub, 1) := by decide +kernel
theorem dL_follows_756 : decode cL_follows 756 = .ok (.lcmp, 1) := by decide +kernel
theorem dL_follows_757 : decode cL_follows 757 = .ok (.ifCond .ne 63, 3) := by decide +kernel
theorem dL_follows_760 : decode cL_follows 760 = .ok (.aload_n 0, 1) := by decide +kernel
theorem dL_follows_761 : decode cL_follows 761 = .ok (.iconst 3, 1) := by decide +kernel
theorem dL_follows_762 : decode cL_follows 762 = .ok (.invokestatic 112, 3) := by decide +kernel
theorem dL_follows_765 : decode cL_follows 765 = .ok (.lload 6, 2) := by decide +kernel
theorem dL_follows_767 : decode cL_follows 767 = .ok (.lcmp, 1) := by decide +kernel
theorem dL_follows_768 : decode cL_follows 768 = .ok (.ifCond .ne 52, 3) := by decide +kernel
theorem dL_follows_771 : decode cL_follows 771 = .ok (.aload_n 0, 1) := by decide +kernel
theorem dL_follows_772 : decode cL_follows 772 = .ok (.iload 22, 2) := by decide +kernel
theorem dL_follows_774 : decode cL_follows 774 = .ok (.iload 9, 2) := by decide +kernel
theorem dL_follows_776 : decode cL_follows 776 = .ok (.iload 10, 2) := by decide +kernel
theorem dL_follows_778 : decode cL_follows 778 = .ok (.iload 21, 2) := by decide +kernel
theorem dL_follows_780 : decode cL_follows 780 = .ok (.invokestatic 141, 3) := by decide +kernel
theorem dL_follows_783 : decode cL_follows 783 = .ok (.lload 13, 2) := by decide +kernel
theorem dL_follows_785 : decode cL_follows 785 = .ok (.lcmp, 1) := by decide +kernel
theorem dL_follows_786 : decode cL_follows 786 = .ok (.ifCond .ne 34, 3) := by decide +kernel
theorem dL_follows_789 : decode cL_follows 789 = .ok (.aload_n 0, 1) := by decide +kernel
theorem dL_follows_790 : decode cL_follows 790 = .ok (.invokestatic 198, 3) := by decide +kernel
theorem dL_follows_793 : decode cL_follows 793 = .ok (.lconst 0, 1) := by decide +kernel
theorem dL_follows_794 : decode cL_follows 794 = .ok (.lcmp, 1) := by decide +kernel
theorem dL_follows_795 : decode cL_follows 795 = .ok (.ifCond .lt 25, 3) := by decide +kernel
theorem dL_follows_798 : decode cL_follows 798 = .ok (.aload_n 0, 1) := by decide +kernel
theorem dL_follows_799 : decode cL_follows 799 = .ok (.invokestatic 198, 3) := by decide +kernel
theorem dL_follows_802 : decode cL_follows 802 = .ok (.lconst 0, 1) := by decide +kernel
theorem dL_follows_803 : decode cL_follows 803 = .ok (.lcmp, 1) := by decide +kernel
theorem dL_follows_804 : decode cL_follows 804 = .ok (.ifCond .lt 16, 3) := by decide +kernel
theorem dL_follows_807 : decode cL_follows 807 = .ok (.aload_n 0, 1) := by decide +kernel
theorem dL_follows_808 : decode cL_follows 808 = .ok (.invokestatic 131, 3) := by decide +kernel
theorem dL_follows_811 : decode cL_follows 811 = .ok (.lload_n 2, 1) := by decide +kernel
theorem dL_follows_812 : decode cL_follows 812 = .ok (.lcmp, 1) := by decide +kernel
theorem dL_follows_813 : decode cL_follows 813 = .ok (.ifCond .ne 7, 3) := by decide +kernel
theorem dL_follows_816 : decode cL_follows 816 = .ok (.iconst 1, 1) := by decide +kernel
theorem dL_follows_817 : decode cL_follows 817 = .ok (.goto 4, 3) := by decide +kernel
theorem dL_follows_820 : decode cL_follows 820 = .ok (.iconst 0, 1) := by decide +kernel
theorem dL_follows_821 : decode cL_follows 821 = .ok (.istore 8, 2) := by decide +kernel
theorem dL_follows_823 : decode cL_follows 823 = .ok (.aload_n 0, 1) := by decide +kernel
theorem dL_follows_824 : decode cL_follows 824 = .ok (.iload 9, 2) := by decide +kernel
theorem dL_follows_826 : decode cL_follows 826 = .ok (.iconst 1, 1) := by decide +kernel
theorem dL_follows_827 : decode cL_follows 827 = .ok (.invokestatic 117, 3) := by decide +kernel
theorem dL_follows_830 : decode cL_follows 830 = .ok (.lstore 15, 2) := by decide +kernel
theorem dL_follows_832 : decode cL_follows 832 = .ok (.iload 8, 2) := by decide +kernel
theorem dL_follows_834 : decode cL_follows 834 = .ok (.ifCond .eq 49, 3) := by decide +kernel
theorem dL_follows_837 : decode cL_follows 837 = .ok (.aload_n 0, 1) := by decide +kernel
theorem dL_follows_838 : decode cL_follows 838 = .ok (.iload 9, 2) := by decide +kernel
theorem dL_follows_840 : decode cL_follows 840 = .ok (.invokestatic 156, 3) := by decide +kernel
theorem dL_follows_843 : decode cL_follows 843 = .ok (.lload 15, 2) := by decide +kernel
theorem dL_follows_845 : decode cL_follows 845 = .ok (.lcmp, 1) := by decide +kernel
theorem dL_follows_846 : decode cL_follows 846 = .ok (.ifCond .ne 37, 3) := by decide +kernel
theorem dL_follows_849 : decode cL_follows 849 = .ok (.aload_n 0, 1) := by decide +kernel
theorem dL_follows_850 : decode cL_follows 850 = .ok (.iload 9, 2) := by decide +kernel
theorem dL_follows_852 : decode cL_follows 852 = .ok (.iconst 1, 1) := by decide +kernel
theorem dL_follows_853 : decode cL_follows 853 = .ok (.invokestatic 117, 3) := by decide +kernel
theorem dL_follows_856 : decode cL_follows 856 = .ok (.lconst 0, 1) := by decide +kernel
theorem dL_follows_857 : decode cL_follows 857 = .ok (.lcmp, 1) := by decide +kernel
theorem dL_follows_858 : decode cL_follows 858 = .ok (.ifCond .ne 25, 3) := by decide +kernel
theorem dL_follows_861 : decode cL_follows 861 = .ok (.aload_n 0, 1) := by decide +kernel
theorem dL_follows_862 : decode cL_follows 862 = .ok (.invokestatic 198, 3) := by decide +kernel
theorem dL_follows_865 : decode cL_follows 865 = .ok (.lconst 0, 1) := by decide +kernel
theorem dL_follows_866 : decode cL_follows 866 = .ok (.lcmp, 1) := by decide +kernel
theorem dL_follows_867 : decode cL_follows 867 = .ok (.ifCond .lt 16, 3) := by decide +kernel
theorem dL_follows_870 : decode cL_follows 870 = .ok (.aload_n 0, 1) := by decide +kernel
theorem dL_follows_871 : decode cL_follows 871 = .ok (.invokestatic 131, 3) := by decide +kernel
theorem dL_follows_874 : decode cL_follows 874 = .ok (.lload_n 2, 1) := by decide +kernel
theorem dL_follows_875 : decode cL_follows 875 = .ok (.lcmp, 1) := by decide +kernel
theorem dL_follows_876 : decode cL_follows 876 = .ok (.ifCond .ne 7, 3) := by decide +kernel
theorem dL_follows_879 : decode cL_follows 879 = .ok (.iconst 1, 1) := by decide +kernel
theorem dL_follows_880 : decode cL_follows 880 = .ok (.goto 4, 3) := by decide +kernel
theorem dL_follows_883 : decode cL_follows 883 = .ok (.iconst 0, 1) := by decide +kernel
theorem dL_follows_884 : decode cL_follows 884 = .ok (.istore 8, 2) := by decide +kernel
theorem dL_follows_886 : decode cL_follows 886 = .ok (.iload 8, 2) := by decide +kernel
theorem dL_follows_888 : decode cL_follows 888 = .ok (.ifCond .eq 38, 3) := by decide +kernel
theorem dL_follows_891 : decode cL_follows 891 = .ok (.aload_n 0, 1) := by decide +kernel
theorem dL_follows_892 : decode cL_follows 892 = .ok (.iconst 1, 1) := by decide +kernel
theorem dL_follows_893 : decode cL_follows 893 = .ok (.invokestatic 179, 3) := by decide +kernel
theorem dL_follows_896 : decode cL_follows 896 = .ok (.lload 6, 2) := by decide +kernel
theorem dL_follows_898 : decode cL_follows 898 = .ok (.lcmp, 1) := by decide +kernel
theorem dL_follows_899 : decode cL_follows 899 = .ok (.ifCond .ne 27, 3) := by decide +kernel
theorem dL_follows_902 : decode cL_follows 902 = .ok (.aload_n 0, 1) := by decide +kernel
theorem dL_follows_903 : decode cL_follows 903 = .ok (.invokestatic 131, 3) := by decide +kernel
theorem dL_follows_906 : decode cL_follows 906 = .ok (.lload_n 2, 1) := by decide +kernel
theorem dL_follows_907 : decode cL_follows 907 = .ok (.lcmp, 1) := by decide +kernel
theorem dL_follows_908 : decode cL_follows 908 = .ok (.ifCond .ne 18, 3) := by decide +kernel
theorem dL_follows_911 : decode cL_follows 911 = .ok (.aload_n 0, 1) := by decide +kernel
theorem dL_follows_912 : decode cL_follows 912 = .ok (.invokestatic 198, 3) := by decide +kernel
theorem dL_follows_915 : decode cL_follows 915 = .ok (.ldc2_w 21, 3) := by decide +kernel
theorem dL_follows_918 : decode cL_follows 918 = .ok (.lcmp, 1) := by decide +kernel
theorem dL_follows_919 : decode cL_follows 919 = .ok (.ifCond .ne 7, 3) := by decide +kernel
theorem dL_follows_922 : decode cL_follows 922 = .ok (.iconst 1, 1) := by decide +kernel
theorem dL_follows_923 : decode cL_follows 923 = .ok (.goto 4, 3) := by decide +kernel
theorem dL_follows_926 : decode cL_follows 926 = .ok (.iconst 0, 1) := by decide +kernel
theorem dL_follows_927 : decode cL_follows 927 = .ok (.ireturn, 1) := by decide +kernel
