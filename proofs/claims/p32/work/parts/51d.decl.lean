theorem dL_errors_560 : decode cL_errors 560 = .ok (.lcmp, 1) := by decide +kernel
theorem dL_errors_561 : decode cL_errors 561 = .ok (.ifCond .ne 91, 3) := by decide +kernel
theorem dL_errors_564 : decode cL_errors 564 = .ok (.iload_n 3, 1) := by decide +kernel
theorem dL_errors_565 : decode cL_errors 565 = .ok (.ifCond .eq 32, 3) := by decide +kernel
theorem dL_errors_568 : decode cL_errors 568 = .ok (.aload_n 0, 1) := by decide +kernel
theorem dL_errors_569 : decode cL_errors 569 = .ok (.iconst 0, 1) := by decide +kernel
theorem dL_errors_570 : decode cL_errors 570 = .ok (.iload 7, 2) := by decide +kernel
theorem dL_errors_572 : decode cL_errors 572 = .ok (.iconst 1, 1) := by decide +kernel
theorem dL_errors_573 : decode cL_errors 573 = .ok (.invokestatic 137, 3) := by decide +kernel
theorem dL_errors_576 : decode cL_errors 576 = .ok (.ldc2_w 21, 3) := by decide +kernel
theorem dL_errors_579 : decode cL_errors 579 = .ok (.lcmp, 1) := by decide +kernel
theorem dL_errors_580 : decode cL_errors 580 = .ok (.ifCond .ne 72, 3) := by decide +kernel
theorem dL_errors_583 : decode cL_errors 583 = .ok (.aload_n 0, 1) := by decide +kernel
theorem dL_errors_584 : decode cL_errors 584 = .ok (.iconst 0, 1) := by decide +kernel
theorem dL_errors_585 : decode cL_errors 585 = .ok (.iload 7, 2) := by decide +kernel
theorem dL_errors_587 : decode cL_errors 587 = .ok (.invokestatic 158, 3) := by decide +kernel
theorem dL_errors_590 : decode cL_errors 590 = .ok (.ldc2_w 160, 3) := by decide +kernel
theorem dL_errors_593 : decode cL_errors 593 = .ok (.lcmp, 1) := by decide +kernel
theorem dL_errors_594 : decode cL_errors 594 = .ok (.ifCond .ne 58, 3) := by decide +kernel
theorem dL_errors_597 : decode cL_errors 597 = .ok (.aload_n 0, 1) := by decide +kernel
theorem dL_errors_598 : decode cL_errors 598 = .ok (.iload 7, 2) := by decide +kernel
theorem dL_errors_600 : decode cL_errors 600 = .ok (.invokestatic 162, 3) := by decide +kernel
theorem dL_errors_603 : decode cL_errors 603 = .ok (.ldc2_w 160, 3) := by decide +kernel
theorem dL_errors_606 : decode cL_errors 606 = .ok (.lcmp, 1) := by decide +kernel
theorem dL_errors_607 : decode cL_errors 607 = .ok (.ifCond .ne 45, 3) := by decide +kernel
theorem dL_errors_610 : decode cL_errors 610 = .ok (.lload 8, 2) := by decide +kernel
theorem dL_errors_612 : decode cL_errors 612 = .ok (.lconst 1, 1) := by decide +kernel
theorem dL_errors_613 : decode cL_errors 613 = .ok (.lcmp, 1) := by decide +kernel
theorem dL_errors_614 : decode cL_errors 614 = .ok (.ifCond .ne 21, 3) := by decide +kernel
theorem dL_errors_617 : decode cL_errors 617 = .ok (.aload_n 0, 1) := by decide +kernel
theorem dL_errors_618 : decode cL_errors 618 = .ok (.iload 7, 2) := by decide +kernel
theorem dL_errors_620 : decode cL_errors 620 = .ok (.invokestatic 164, 3) := by decide +kernel
theorem dL_errors_623 : decode cL_errors 623 = .ok (.aload_n 0, 1) := by decide +kernel
theorem dL_errors_624 : decode cL_errors 624 = .ok (.iload 7, 2) := by decide +kernel
theorem dL_errors_626 : decode cL_errors 626 = .ok (.bipush 7, 2) := by decide +kernel
theorem dL_errors_628 : decode cL_errors 628 = .ok (.invokestatic 127, 3) := by decide +kernel
theorem dL_errors_631 : decode cL_errors 631 = .ok (.lcmp, 1) := by decide +kernel
theorem dL_errors_632 : decode cL_errors 632 = .ok (.ifCond .ge 16, 3) := by decide +kernel
theorem dL_errors_635 : decode cL_errors 635 = .ok (.aload_n 0, 1) := by decide +kernel
theorem dL_errors_636 : decode cL_errors 636 = .ok (.iload 7, 2) := by decide +kernel
theorem dL_errors_638 : decode cL_errors 638 = .ok (.invokestatic 152, 3) := by decide +kernel
theorem dL_errors_641 : decode cL_errors 641 = .ok (.ldc2_w 21, 3) := by decide +kernel
theorem dL_errors_644 : decode cL_errors 644 = .ok (.lcmp, 1) := by decide +kernel
theorem dL_errors_645 : decode cL_errors 645 = .ok (.ifCond .ne 7, 3) := by decide +kernel
theorem dL_errors_648 : decode cL_errors 648 = .ok (.iconst 1, 1) := by decide +kernel
theorem dL_errors_649 : decode cL_errors 649 = .ok (.goto 4, 3) := by decide +kernel
theorem dL_errors_652 : decode cL_errors 652 = .ok (.iconst 0, 1) := by decide +kernel
theorem dL_errors_653 : decode cL_errors 653 = .ok (.istore 6, 2) := by decide +kernel
theorem dL_errors_655 : decode cL_errors 655 = .ok (.iconst 0, 1) := by decide +kernel
theorem dL_errors_656 : decode cL_errors 656 = .ok (.istore 10, 2) := by decide +kernel
theorem dL_errors_658 : decode cL_errors 658 = .ok (.iload 10, 2) := by decide +kernel
theorem dL_errors_660 : decode cL_errors 660 = .ok (.iload_n 3, 1) := by decide +kernel
theorem dL_errors_661 : decode cL_errors 661 = .ok (.if_icmp .ge 129, 3) := by decide +kernel
theorem dL_errors_664 : decode cL_errors 664 = .ok (.iload 6, 2) := by decide +kernel
theorem dL_errors_666 : decode cL_errors 666 = .ok (.ifCond .eq 124, 3) := by decide +kernel
theorem dL_errors_669 : decode cL_errors 669 = .ok (.aload_n 0, 1) := by decide +kernel
theorem dL_errors_670 : decode cL_errors 670 = .ok (.iload 10, 2) := by decide +kernel
theorem dL_errors_672 : decode cL_errors 672 = .ok (.iload 7, 2) := by decide +kernel
theorem dL_errors_674 : decode cL_errors 674 = .ok (.iconst 2, 1) := by decide +kernel
theorem dL_errors_675 : decode cL_errors 675 = .ok (.invokestatic 122, 3) := by decide +kernel
theorem dL_errors_678 : decode cL_errors 678 = .ok (.lstore 11, 2) := by decide +kernel
theorem dL_errors_680 : decode cL_errors 680 = .ok (.lload 11, 2) := by decide +kernel
theorem dL_errors_682 : decode cL_errors 682 = .ok (.ldc2_w 166, 3) := by decide +kernel
theorem dL_errors_685 : decode cL_errors 685 = .ok (.lcmp, 1) := by decide +kernel
theorem dL_errors_686 : decode cL_errors 686 = .ok (.ifCond .gt 69, 3) := by decide +kernel
theorem dL_errors_689 : decode cL_errors 689 = .ok (.aload_n 0, 1) := by decide +kernel
theorem dL_errors_690 : decode cL_errors 690 = .ok (.iload 10, 2) := by decide +kernel
theorem dL_errors_692 : decode cL_errors 692 = .ok (.iload 7, 2) := by decide +kernel
theorem dL_errors_694 : decode cL_errors 694 = .ok (.lload 11, 2) := by decide +kernel
theorem dL_errors_696 : decode cL_errors 696 = .ok (.l2i, 1) := by decide +kernel
theorem dL_errors_697 : decode cL_errors 697 = .ok (.iconst 1, 1) := by decide +kernel
theorem dL_errors_698 : decode cL_errors 698 = .ok (.iadd, 1) := by decide +kernel
theorem dL_errors_699 : decode cL_errors 699 = .ok (.invokestatic 139, 3) := by decide +kernel
theorem dL_errors_702 : decode cL_errors 702 = .ok (.ldc2_w 21, 3) := by decide +kernel
theorem dL_errors_705 : decode cL_errors 705 = .ok (.lcmp, 1) := by decide +kernel
theorem dL_errors_706 : decode cL_errors 706 = .ok (.ifCond .ne 75, 3) := by decide +kernel
theorem dL_errors_709 : decode cL_errors 709 = .ok (.aload_n 0, 1) := by decide +kernel
theorem dL_errors_710 : decode cL_errors 710 = .ok (.iload 10, 2) := by decide +kernel
theorem dL_errors_712 : decode cL_errors 712 = .ok (.iload 10, 2) := by decide +kernel
theorem dL_errors_714 : decode cL_errors 714 = .ok (.ifCond .ne 12, 3) := by decide +kernel
theorem dL_errors_717 : decode cL_errors 717 = .ok (.iload_n 3, 1) := by decide +kernel
theorem dL_errors_718 : decode cL_errors 718 = .ok (.iconst 1, 1) := by decide +kernel
theorem dL_errors_719 : decode cL_errors 719 = .ok (.if_icmp .le 7, 3) := by decide +kernel
theorem dL_errors_722 : decode cL_errors 722 = .ok (.iconst 1, 1) := by decide +kernel
theorem dL_errors_723 : decode cL_errors 723 = .ok (.goto 4, 3) := by decide +kernel
theorem dL_errors_726 : decode cL_errors 726 = .ok (.iconst 0, 1) := by decide +kernel
theorem dL_errors_727 : decode cL_errors 727 = .ok (.iload 7, 2) := by decide +kernel
theorem dL_errors_729 : decode cL_errors 729 = .ok (.lload 11, 2) := by decide +kernel
theorem dL_errors_731 : decode cL_errors 731 = .ok (.l2i, 1) := by decide +kernel
theorem dL_errors_732 : decode cL_errors 732 = .ok (.iconst 1, 1) := by decide +kernel
theorem dL_errors_733 : decode cL_errors 733 = .ok (.iadd, 1) := by decide +kernel
theorem dL_errors_734 : decode cL_errors 734 = .ok (.invokestatic 141, 3) := by decide +kernel
theorem dL_errors_737 : decode cL_errors 737 = .ok (.iload_n 3, 1) := by decide +kernel
theorem dL_errors_738 : decode cL_errors 738 = .ok (.iconst 1, 1) := by decide +kernel
theorem dL_errors_739 : decode cL_errors 739 = .ok (.if_icmp .ne 9, 3) := by decide +kernel
theorem dL_errors_742 : decode cL_errors 742 = .ok (.ldc2_w 17, 3) := by decide +kernel
theorem dL_errors_745 : decode cL_errors 745 = .ok (.goto 6, 3) := by decide +kernel
theorem dL_errors_748 : decode cL_errors 748 = .ok (.ldc2_w 21, 3) := by decide +kernel
theorem dL_errors_751 : decode cL_errors 751 = .ok (.lcmp, 1) := by decide +kernel
theorem dL_errors_752 : decode cL_errors 752 = .ok (.ifCond .ne 29, 3) := by decide +kernel
theorem dL_errors_755 : decode cL_errors 755 = .ok (.lload 11, 2) := by decide +kernel
theorem dL_errors_757 : decode cL_errors 757 = .ok (.lconst 0, 1) := by decide +kernel
theorem dL_errors_758 : decode cL_errors 758 = .ok (.lcmp, 1) := by decide +kernel
theorem dL_errors_759 : decode cL_errors 759 = .ok (.ifCond .gt 18, 3) := by decide +kernel
theorem dL_errors_762 : decode cL_errors 762 = .ok (.aload_n 0, 1) := by decide +kernel
theorem dL_errors_763 : decode cL_errors 763 = .ok (.iload 10, 2) := by decide +kernel
theorem dL_errors_765 : decode cL_errors 765 = .ok (.iload 7, 2) := by decide +kernel
theorem dL_errors_767 : decode cL_errors 767 = .ok (.invokestatic 154, 3) := by decide +kernel
theorem dL_errors_770 : decode cL_errors 770 = .ok (.ldc2_w 21, 3) := by decide +kernel
theorem dL_errors_773 : decode cL_errors 773 = .ok (.lcmp, 1) := by decide +kernel
theorem dL_errors_774 : decode cL_errors 774 = .ok (.ifCond .ne 7, 3) := by decide +kernel
theorem dL_errors_777 : decode cL_errors 777 = .ok (.iconst 1, 1) := by decide +kernel
theorem dL_errors_778 : decode cL_errors 778 = .ok (.goto 4, 3) := by decide +kernel
theorem dL_errors_781 : decode cL_errors 781 = .ok (.iconst 0, 1) := by decide +kernel
theorem dL_errors_782 : decode cL_errors 782 = .ok (.istore 6, 2) := by decide +kernel
theorem dL_errors_784 : decode cL_errors 784 = .ok (.iinc 10 1, 3) := by decide +kernel
theorem dL_errors_787 : decode cL_errors 787 = .ok (.goto (-129), 3) := by decide +kernel
theorem dL_errors_790 : decode cL_errors 790 = .ok (.iinc 7 1, 3) := by decide +kernel
theorem dL_errors_793 : decode cL_errors 793 = .ok (.goto (-270), 3) := by decide +kernel
theorem dL_errors_796 : decode cL_errors 796 = .ok (.iload 6, 2) := by decide +kernel
theorem dL_errors_798 : decode cL_errors 798 = .ok (.ifCond .eq 132, 3) := by decide +kernel
theorem dL_errors_801 : decode cL_errors 801 = .ok (.aload_n 0, 1) := by decide +kernel
theorem dL_errors_802 : decode cL_errors 802 = .ok (.iload_n 3, 1) := by decide +kernel
theorem dL_errors_803 : decode cL_errors 803 = .ok (.iconst 0, 1) := by decide +kernel
theorem dL_errors_804 : decode cL_errors 804 = .ok (.invokestatic 158, 3) := by decide +kernel
theorem dL_errors_807 : decode cL_errors 807 = .ok (.ldc2_w 36, 3) := by decide +kernel
theorem dL_errors_810 : decode cL_errors 810 = .ok (.lcmp, 1) := by decide +kernel
theorem dL_errors_811 : decode cL_errors 811 = .ok (.ifCond .ne 119, 3) := by decide +kernel
theorem dL_errors_814 : decode cL_errors 814 = .ok (.aload_n 0, 1) := by decide +kernel
theorem dL_errors_815 : decode cL_errors 815 = .ok (.iload 4, 2) := by decide +kernel
theorem dL_errors_817 : decode cL_errors 817 = .ok (.invokestatic 164, 3) := by decide +kernel
theorem dL_errors_820 : decode cL_errors 820 = .ok (.ldc2_w 36, 3) := by decide +kernel
theorem dL_errors_823 : decode cL_errors 823 = .ok (.lcmp, 1) := by decide +kernel
theorem dL_errors_824 : decode cL_errors 824 = .ok (.ifCond .ne 106, 3) := by decide +kernel
theorem dL_errors_827 : decode cL_errors 827 = .ok (.aload_n 0, 1) := by decide +kernel
theorem dL_errors_828 : decode cL_errors 828 = .ok (.iload 4, 2) := by decide +kernel
theorem dL_errors_830 : decode cL_errors 830 = .ok (.invokestatic 162, 3) := by decide +kernel
theorem dL_errors_833 : decode cL_errors 833 = .ok (.ldc2_w 36, 3) := by decide +kernel
theorem dL_errors_836 : decode cL_errors 836 = .ok (.lcmp, 1) := by decide +kernel
theorem dL_errors_837 : decode cL_errors 837 = .ok (.ifCond .ne 93, 3) := by decide +kernel
theorem dL_errors_840 : decode cL_errors 840 = .ok (.aload_n 0, 1) := by decide +kernel
theorem dL_errors_841 : decode cL_errors 841 = .ok (.iconst 0, 1) := by decide +kernel
theorem dL_errors_842 : decode cL_errors 842 = .ok (.lconst 0, 1) := by decide +kernel
theorem dL_errors_843 : decode cL_errors 843 = .ok (.invokestatic 168, 3) := by decide +kernel
theorem dL_errors_846 : decode cL_errors 846 = .ok (.ldc2_w 17, 3) := by decide +kernel
theorem dL_errors_849 : decode cL_errors 849 = .ok (.lcmp, 1) := by decide +kernel
theorem dL_errors_850 : decode cL_errors 850 = .ok (.ifCond .ne 80, 3) := by decide +kernel
theorem dL_errors_853 : decode cL_errors 853 = .ok (.aload_n 0, 1) := by decide +kernel
theorem dL_errors_854 : decode cL_errors 854 = .ok (.iconst 3, 1) := by decide +kernel
theorem dL_errors_855 : decode cL_errors 855 = .ok (.ldc2_w 172, 3) := by decide +kernel
theorem dL_errors_858 : decode cL_errors 858 = .ok (.invokestatic 168, 3) := by decide +kernel
theorem dL_errors_861 : decode cL_errors 861 = .ok (.ldc2_w 17, 3) := by decide +kernel
theorem dL_errors_864 : decode cL_errors 864 = .ok (.lcmp, 1) := by decide +kernel
theorem dL_errors_865 : decode cL_errors 865 = .ok (.ifCond .ne 65, 3) := by decide +kernel
theorem dL_errors_868 : decode cL_errors 868 = .ok (.aload_n 0, 1) := by decide +kernel
theorem dL_errors_869 : decode cL_errors 869 = .ok (.lconst 1, 1) := by decide +kernel
theorem dL_errors_870 : decode cL_errors 870 = .ok (.iconst 0, 1) := by decide +kernel
theorem dL_errors_871 : decode cL_errors 871 = .ok (.invokestatic 174, 3) := by decide +kernel
theorem dL_errors_874 : decode cL_errors 874 = .ok (.ldc2_w 17, 3) := by decide +kernel
theorem dL_errors_877 : decode cL_errors 877 = .ok (.lcmp, 1) := by decide +kernel
theorem dL_errors_878 : decode cL_errors 878 = .ok (.ifCond .ne 52, 3) := by decide +kernel
theorem dL_errors_881 : decode cL_errors 881 = .ok (.aload_n 0, 1) := by decide +kernel
theorem dL_errors_882 : decode cL_errors 882 = .ok (.iconst 2, 1) := by decide +kernel
theorem dL_errors_883 : decode cL_errors 883 = .ok (.invokestatic 177, 3) := by decide +kernel
theorem dL_errors_886 : decode cL_errors 886 = .ok (.ldc2_w 36, 3) := by decide +kernel
theorem dL_errors_889 : decode cL_errors 889 = .ok (.lcmp, 1) := by decide +kernel
theorem dL_errors_890 : decode cL_errors 890 = .ok (.ifCond .ne 40, 3) := by decide +kernel
theorem dL_errors_893 : decode cL_errors 893 = .ok (.aload_n 0, 1) := by decide +kernel
theorem dL_errors_894 : decode cL_errors 894 = .ok (.iconst 2, 1) := by decide +kernel
theorem dL_errors_895 : decode cL_errors 895 = .ok (.invokestatic 179, 3) := by decide +kernel
theorem dL_errors_898 : decode cL_errors 898 = .ok (.ldc2_w 36, 3) := by decide +kernel
theorem dL_errors_901 : decode cL_errors 901 = .ok (.lcmp, 1) := by decide +kernel
theorem dL_errors_902 : decode cL_errors 902 = .ok (.ifCond .ne 28, 3) := by decide +kernel
theorem dL_errors_905 : decode cL_errors 905 = .ok (.aload_n 0, 1) := by decide +kernel
theorem dL_errors_906 : decode cL_errors 906 = .ok (.iconst (-1), 1) := by decide +kernel
theorem dL_errors_907 : decode cL_errors 907 = .ok (.invokestatic 181, 3) := by decide +kernel
theorem dL_errors_910 : decode cL_errors 910 = .ok (.ldc2_w 17, 3) := by decide +kernel
theorem dL_errors_913 : decode cL_errors 913 = .ok (.lcmp, 1) := by decide +kernel
theorem dL_errors_914 : decode cL_errors 914 = .ok (.ifCond .ne 16, 3) := by decide +kernel
theorem dL_errors_917 : decode cL_errors 917 = .ok (.aload_n 0, 1) := by decide +kernel
theorem dL_errors_918 : decode cL_errors 918 = .ok (.invokestatic 131, 3) := by decide +kernel
theorem dL_errors_921 : decode cL_errors 921 = .ok (.lload_n 1, 1) := by decide +kernel
theorem dL_errors_922 : decode cL_errors 922 = .ok (.lcmp, 1) := by decide +kernel
theorem dL_errors_923 : decode cL_errors 923 = .ok (.ifCond .ne 7, 3) := by decide +kernel
theorem dL_errors_926 : decode cL_errors 926 = .ok (.iconst 1, 1) := by decide +kernel
theorem dL_errors_927 : decode cL_errors 927 = .ok (.goto 4, 3) := by decide +kernel
theorem dL_errors_930 : decode cL_errors 930 = .ok (.iconst 0, 1) := by decide +kernel
theorem dL_errors_931 : decode cL_errors 931 = .ok (.ireturn, 1) := by decide +kernel
