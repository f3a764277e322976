theorem dL_kept_517 : decode cL_kept 517 = .ok (.invokestatic 127, 3) := by decide +kernel
theorem dL_kept_520 : decode cL_kept 520 = .ok (.lcmp, 1) := by decide +kernel
theorem dL_kept_521 : decode cL_kept 521 = .ok (.ifCond .ge 10, 3) := by decide +kernel
theorem dL_kept_524 : decode cL_kept 524 = .ok (.aload 14, 2) := by decide +kernel
theorem dL_kept_526 : decode cL_kept 526 = .ok (.iconst 0, 1) := by decide +kernel
theorem dL_kept_527 : decode cL_kept 527 = .ok (.laload, 1) := by decide +kernel
theorem dL_kept_528 : decode cL_kept 528 = .ok (.goto 10, 3) := by decide +kernel
theorem dL_kept_531 : decode cL_kept 531 = .ok (.aload_n 0, 1) := by decide +kernel
theorem dL_kept_532 : decode cL_kept 532 = .ok (.iload 13, 2) := by decide +kernel
theorem dL_kept_534 : decode cL_kept 534 = .ok (.iconst 2, 1) := by decide +kernel
theorem dL_kept_535 : decode cL_kept 535 = .ok (.invokestatic 127, 3) := by decide +kernel
theorem dL_kept_538 : decode cL_kept 538 = .ok (.lcmp, 1) := by decide +kernel
theorem dL_kept_539 : decode cL_kept 539 = .ok (.ifCond .ne 78, 3) := by decide +kernel
theorem dL_kept_542 : decode cL_kept 542 = .ok (.aload_n 0, 1) := by decide +kernel
theorem dL_kept_543 : decode cL_kept 543 = .ok (.iload 13, 2) := by decide +kernel
theorem dL_kept_545 : decode cL_kept 545 = .ok (.invokestatic 162, 3) := by decide +kernel
theorem dL_kept_548 : decode cL_kept 548 = .ok (.ldc2_w 160, 3) := by decide +kernel
theorem dL_kept_551 : decode cL_kept 551 = .ok (.lcmp, 1) := by decide +kernel
theorem dL_kept_552 : decode cL_kept 552 = .ok (.ifCond .ne 7, 3) := by decide +kernel
theorem dL_kept_555 : decode cL_kept 555 = .ok (.iconst 1, 1) := by decide +kernel
theorem dL_kept_556 : decode cL_kept 556 = .ok (.goto 4, 3) := by decide +kernel
theorem dL_kept_559 : decode cL_kept 559 = .ok (.iconst 0, 1) := by decide +kernel
theorem dL_kept_560 : decode cL_kept 560 = .ok (.lload 15, 2) := by decide +kernel
theorem dL_kept_562 : decode cL_kept 562 = .ok (.aload 14, 2) := by decide +kernel
theorem dL_kept_564 : decode cL_kept 564 = .ok (.iconst 0, 1) := by decide +kernel
theorem dL_kept_565 : decode cL_kept 565 = .ok (.laload, 1) := by decide +kernel
theorem dL_kept_566 : decode cL_kept 566 = .ok (.lcmp, 1) := by decide +kernel
theorem dL_kept_567 : decode cL_kept 567 = .ok (.ifCond .ne 7, 3) := by decide +kernel
theorem dL_kept_570 : decode cL_kept 570 = .ok (.iconst 1, 1) := by decide +kernel
theorem dL_kept_571 : decode cL_kept 571 = .ok (.goto 4, 3) := by decide +kernel
theorem dL_kept_574 : decode cL_kept 574 = .ok (.iconst 0, 1) := by decide +kernel
theorem dL_kept_575 : decode cL_kept 575 = .ok (.if_icmp .ne 42, 3) := by decide +kernel
theorem dL_kept_578 : decode cL_kept 578 = .ok (.aload_n 0, 1) := by decide +kernel
theorem dL_kept_579 : decode cL_kept 579 = .ok (.iload 13, 2) := by decide +kernel
theorem dL_kept_581 : decode cL_kept 581 = .ok (.iconst 3, 1) := by decide +kernel
theorem dL_kept_582 : decode cL_kept 582 = .ok (.invokestatic 127, 3) := by decide +kernel
theorem dL_kept_585 : decode cL_kept 585 = .ok (.ldc2_w 191, 3) := by decide +kernel
theorem dL_kept_588 : decode cL_kept 588 = .ok (.lcmp, 1) := by decide +kernel
theorem dL_kept_589 : decode cL_kept 589 = .ok (.ifCond .ne 15, 3) := by decide +kernel
theorem dL_kept_592 : decode cL_kept 592 = .ok (.aload 14, 2) := by decide +kernel
theorem dL_kept_594 : decode cL_kept 594 = .ok (.iconst 1, 1) := by decide +kernel
theorem dL_kept_595 : decode cL_kept 595 = .ok (.laload, 1) := by decide +kernel
theorem dL_kept_596 : decode cL_kept 596 = .ok (.lconst 0, 1) := by decide +kernel
theorem dL_kept_597 : decode cL_kept 597 = .ok (.lcmp, 1) := by decide +kernel
theorem dL_kept_598 : decode cL_kept 598 = .ok (.ifCond .ne 19, 3) := by decide +kernel
theorem dL_kept_601 : decode cL_kept 601 = .ok (.goto 12, 3) := by decide +kernel
theorem dL_kept_604 : decode cL_kept 604 = .ok (.aload 14, 2) := by decide +kernel
theorem dL_kept_606 : decode cL_kept 606 = .ok (.iconst 2, 1) := by decide +kernel
theorem dL_kept_607 : decode cL_kept 607 = .ok (.laload, 1) := by decide +kernel
theorem dL_kept_608 : decode cL_kept 608 = .ok (.lconst 0, 1) := by decide +kernel
theorem dL_kept_609 : decode cL_kept 609 = .ok (.lcmp, 1) := by decide +kernel
theorem dL_kept_610 : decode cL_kept 610 = .ok (.ifCond .ne 7, 3) := by decide +kernel
theorem dL_kept_613 : decode cL_kept 613 = .ok (.iconst 1, 1) := by decide +kernel
theorem dL_kept_614 : decode cL_kept 614 = .ok (.goto 4, 3) := by decide +kernel
theorem dL_kept_617 : decode cL_kept 617 = .ok (.iconst 0, 1) := by decide +kernel
theorem dL_kept_618 : decode cL_kept 618 = .ok (.istore 4, 2) := by decide +kernel
theorem dL_kept_620 : decode cL_kept 620 = .ok (.lload 5, 2) := by decide +kernel
theorem dL_kept_622 : decode cL_kept 622 = .ok (.aload 14, 2) := by decide +kernel
theorem dL_kept_624 : decode cL_kept 624 = .ok (.iconst 2, 1) := by decide +kernel
theorem dL_kept_625 : decode cL_kept 625 = .ok (.laload, 1) := by decide +kernel
theorem dL_kept_626 : decode cL_kept 626 = .ok (.ladd, 1) := by decide +kernel
theorem dL_kept_627 : decode cL_kept 627 = .ok (.lstore 5, 2) := by decide +kernel
theorem dL_kept_629 : decode cL_kept 629 = .ok (.lload 7, 2) := by decide +kernel
theorem dL_kept_631 : decode cL_kept 631 = .ok (.aload_n 0, 1) := by decide +kernel
theorem dL_kept_632 : decode cL_kept 632 = .ok (.iload 13, 2) := by decide +kernel
theorem dL_kept_634 : decode cL_kept 634 = .ok (.iconst 5, 1) := by decide +kernel
theorem dL_kept_635 : decode cL_kept 635 = .ok (.invokestatic 127, 3) := by decide +kernel
theorem dL_kept_638 : decode cL_kept 638 = .ok (.ladd, 1) := by decide +kernel
theorem dL_kept_639 : decode cL_kept 639 = .ok (.lstore 7, 2) := by decide +kernel
theorem dL_kept_641 : decode cL_kept 641 = .ok (.lload 9, 2) := by decide +kernel
theorem dL_kept_643 : decode cL_kept 643 = .ok (.aload_n 0, 1) := by decide +kernel
theorem dL_kept_644 : decode cL_kept 644 = .ok (.iload 13, 2) := by decide +kernel
theorem dL_kept_646 : decode cL_kept 646 = .ok (.bipush 6, 2) := by decide +kernel
theorem dL_kept_648 : decode cL_kept 648 = .ok (.invokestatic 127, 3) := by decide +kernel
theorem dL_kept_651 : decode cL_kept 651 = .ok (.ladd, 1) := by decide +kernel
theorem dL_kept_652 : decode cL_kept 652 = .ok (.lstore 9, 2) := by decide +kernel
theorem dL_kept_654 : decode cL_kept 654 = .ok (.lload 11, 2) := by decide +kernel
theorem dL_kept_656 : decode cL_kept 656 = .ok (.aload_n 0, 1) := by decide +kernel
theorem dL_kept_657 : decode cL_kept 657 = .ok (.iload 13, 2) := by decide +kernel
theorem dL_kept_659 : decode cL_kept 659 = .ok (.iconst 2, 1) := by decide +kernel
theorem dL_kept_660 : decode cL_kept 660 = .ok (.invokestatic 127, 3) := by decide +kernel
theorem dL_kept_663 : decode cL_kept 663 = .ok (.ladd, 1) := by decide +kernel
theorem dL_kept_664 : decode cL_kept 664 = .ok (.lstore 11, 2) := by decide +kernel
theorem dL_kept_666 : decode cL_kept 666 = .ok (.iinc 13 1, 3) := by decide +kernel
theorem dL_kept_669 : decode cL_kept 669 = .ok (.goto (-590), 3) := by decide +kernel
theorem dL_kept_672 : decode cL_kept 672 = .ok (.lconst 0, 1) := by decide +kernel
theorem dL_kept_673 : decode cL_kept 673 = .ok (.lstore 13, 2) := by decide +kernel
theorem dL_kept_675 : decode cL_kept 675 = .ok (.lconst 0, 1) := by decide +kernel
theorem dL_kept_676 : decode cL_kept 676 = .ok (.lstore 15, 2) := by decide +kernel
theorem dL_kept_678 : decode cL_kept 678 = .ok (.lconst 0, 1) := by decide +kernel
theorem dL_kept_679 : decode cL_kept 679 = .ok (.lstore 17, 2) := by decide +kernel
theorem dL_kept_681 : decode cL_kept 681 = .ok (.iconst 0, 1) := by decide +kernel
theorem dL_kept_682 : decode cL_kept 682 = .ok (.istore 19, 2) := by decide +kernel
theorem dL_kept_684 : decode cL_kept 684 = .ok (.iload 19, 2) := by decide +kernel
theorem dL_kept_686 : decode cL_kept 686 = .ok (.iload_n 3, 1) := by decide +kernel
theorem dL_kept_687 : decode cL_kept 687 = .ok (.if_icmp .ge 129, 3) := by decide +kernel
theorem dL_kept_690 : decode cL_kept 690 = .ok (.iload 4, 2) := by decide +kernel
theorem dL_kept_692 : decode cL_kept 692 = .ok (.ifCond .eq 124, 3) := by decide +kernel
theorem dL_kept_695 : decode cL_kept 695 = .ok (.aload_n 0, 1) := by decide +kernel
theorem dL_kept_696 : decode cL_kept 696 = .ok (.iload 19, 2) := by decide +kernel
theorem dL_kept_698 : decode cL_kept 698 = .ok (.iconst 2, 1) := by decide +kernel
theorem dL_kept_699 : decode cL_kept 699 = .ok (.invokestatic 129, 3) := by decide +kernel
theorem dL_kept_702 : decode cL_kept 702 = .ok (.lstore 20, 2) := by decide +kernel
theorem dL_kept_704 : decode cL_kept 704 = .ok (.lload 13, 2) := by decide +kernel
theorem dL_kept_706 : decode cL_kept 706 = .ok (.lload 20, 2) := by decide +kernel
theorem dL_kept_708 : decode cL_kept 708 = .ok (.lconst 0, 1) := by decide +kernel
theorem dL_kept_709 : decode cL_kept 709 = .ok (.lcmp, 1) := by decide +kernel
theorem dL_kept_710 : decode cL_kept 710 = .ok (.ifCond .ne 7, 3) := by decide +kernel
theorem dL_kept_713 : decode cL_kept 713 = .ok (.lconst 1, 1) := by decide +kernel
theorem dL_kept_714 : decode cL_kept 714 = .ok (.goto 4, 3) := by decide +kernel
theorem dL_kept_717 : decode cL_kept 717 = .ok (.lconst 0, 1) := by decide +kernel
theorem dL_kept_718 : decode cL_kept 718 = .ok (.ladd, 1) := by decide +kernel
theorem dL_kept_719 : decode cL_kept 719 = .ok (.lstore 13, 2) := by decide +kernel
theorem dL_kept_721 : decode cL_kept 721 = .ok (.lload 17, 2) := by decide +kernel
theorem dL_kept_723 : decode cL_kept 723 = .ok (.lload 20, 2) := by decide +kernel
theorem dL_kept_725 : decode cL_kept 725 = .ok (.lconst 0, 1) := by decide +kernel
theorem dL_kept_726 : decode cL_kept 726 = .ok (.lcmp, 1) := by decide +kernel
theorem dL_kept_727 : decode cL_kept 727 = .ok (.ifCond .le 7, 3) := by decide +kernel
theorem dL_kept_730 : decode cL_kept 730 = .ok (.lconst 1, 1) := by decide +kernel
theorem dL_kept_731 : decode cL_kept 731 = .ok (.goto 4, 3) := by decide +kernel
theorem dL_kept_734 : decode cL_kept 734 = .ok (.lconst 0, 1) := by decide +kernel
theorem dL_kept_735 : decode cL_kept 735 = .ok (.ladd, 1) := by decide +kernel
theorem dL_kept_736 : decode cL_kept 736 = .ok (.lstore 17, 2) := by decide +kernel
theorem dL_kept_738 : decode cL_kept 738 = .ok (.lload 15, 2) := by decide +kernel
theorem dL_kept_740 : decode cL_kept 740 = .ok (.aload_n 0, 1) := by decide +kernel
theorem dL_kept_741 : decode cL_kept 741 = .ok (.iload 19, 2) := by decide +kernel
theorem dL_kept_743 : decode cL_kept 743 = .ok (.iconst 0, 1) := by decide +kernel
theorem dL_kept_744 : decode cL_kept 744 = .ok (.invokestatic 129, 3) := by decide +kernel
theorem dL_kept_747 : decode cL_kept 747 = .ok (.lload 20, 2) := by decide +kernel
theorem dL_kept_749 : decode cL_kept 749 = .ok (.lsub, 1) := by decide +kernel
theorem dL_kept_750 : decode cL_kept 750 = .ok (.ladd, 1) := by decide +kernel
theorem dL_kept_751 : decode cL_kept 751 = .ok (.lstore 15, 2) := by decide +kernel
theorem dL_kept_753 : decode cL_kept 753 = .ok (.lload 20, 2) := by decide +kernel
theorem dL_kept_755 : decode cL_kept 755 = .ok (.lconst 0, 1) := by decide +kernel
theorem dL_kept_756 : decode cL_kept 756 = .ok (.aload_n 0, 1) := by decide +kernel
theorem dL_kept_757 : decode cL_kept 757 = .ok (.iload 19, 2) := by decide +kernel
theorem dL_kept_759 : decode cL_kept 759 = .ok (.iconst 0, 1) := by decide +kernel
theorem dL_kept_760 : decode cL_kept 760 = .ok (.invokestatic 129, 3) := by decide +kernel
theorem dL_kept_763 : decode cL_kept 763 = .ok (.invokestatic 185, 3) := by decide +kernel
theorem dL_kept_766 : decode cL_kept 766 = .ok (.ifCond .eq 41, 3) := by decide +kernel
theorem dL_kept_769 : decode cL_kept 769 = .ok (.lload 20, 2) := by decide +kernel
theorem dL_kept_771 : decode cL_kept 771 = .ok (.lconst 0, 1) := by decide +kernel
theorem dL_kept_772 : decode cL_kept 772 = .ok (.lcmp, 1) := by decide +kernel
theorem dL_kept_773 : decode cL_kept 773 = .ok (.ifCond .ne 7, 3) := by decide +kernel
theorem dL_kept_776 : decode cL_kept 776 = .ok (.iconst 1, 1) := by decide +kernel
theorem dL_kept_777 : decode cL_kept 777 = .ok (.goto 4, 3) := by decide +kernel
theorem dL_kept_780 : decode cL_kept 780 = .ok (.iconst 0, 1) := by decide +kernel
theorem dL_kept_781 : decode cL_kept 781 = .ok (.aload_n 0, 1) := by decide +kernel
theorem dL_kept_782 : decode cL_kept 782 = .ok (.iload 19, 2) := by decide +kernel
theorem dL_kept_784 : decode cL_kept 784 = .ok (.iconst 1, 1) := by decide +kernel
theorem dL_kept_785 : decode cL_kept 785 = .ok (.invokestatic 129, 3) := by decide +kernel
theorem dL_kept_788 : decode cL_kept 788 = .ok (.ldc2_w 160, 3) := by decide +kernel
theorem dL_kept_791 : decode cL_kept 791 = .ok (.lcmp, 1) := by decide +kernel
theorem dL_kept_792 : decode cL_kept 792 = .ok (.ifCond .ne 7, 3) := by decide +kernel
theorem dL_kept_795 : decode cL_kept 795 = .ok (.iconst 1, 1) := by decide +kernel
theorem dL_kept_796 : decode cL_kept 796 = .ok (.goto 4, 3) := by decide +kernel
theorem dL_kept_799 : decode cL_kept 799 = .ok (.iconst 0, 1) := by decide +kernel
theorem dL_kept_800 : decode cL_kept 800 = .ok (.if_icmp .ne 7, 3) := by decide +kernel
theorem dL_kept_803 : decode cL_kept 803 = .ok (.iconst 1, 1) := by decide +kernel
theorem dL_kept_804 : decode cL_kept 804 = .ok (.goto 4, 3) := by decide +kernel
theorem dL_kept_807 : decode cL_kept 807 = .ok (.iconst 0, 1) := by decide +kernel
theorem dL_kept_808 : decode cL_kept 808 = .ok (.istore 4, 2) := by decide +kernel
theorem dL_kept_810 : decode cL_kept 810 = .ok (.iinc 19 1, 3) := by decide +kernel
theorem dL_kept_813 : decode cL_kept 813 = .ok (.goto (-129), 3) := by decide +kernel
theorem dL_kept_816 : decode cL_kept 816 = .ok (.lconst 0, 1) := by decide +kernel
theorem dL_kept_817 : decode cL_kept 817 = .ok (.lstore 19, 2) := by decide +kernel
theorem dL_kept_819 : decode cL_kept 819 = .ok (.lconst 0, 1) := by decide +kernel
theorem dL_kept_820 : decode cL_kept 820 = .ok (.lstore 21, 2) := by decide +kernel
theorem dL_kept_822 : decode cL_kept 822 = .ok (.lconst 0, 1) := by decide +kernel
theorem dL_kept_823 : decode cL_kept 823 = .ok (.lstore 23, 2) := by decide +kernel
theorem dL_kept_825 : decode cL_kept 825 = .ok (.iconst 0, 1) := by decide +kernel
theorem dL_kept_826 : decode cL_kept 826 = .ok (.istore 25, 2) := by decide +kernel
theorem dL_kept_828 : decode cL_kept 828 = .ok (.iload 25, 2) := by decide +kernel
theorem dL_kept_830 : decode cL_kept 830 = .ok (.iload_n 1, 1) := by decide +kernel
theorem dL_kept_831 : decode cL_kept 831 = .ok (.if_icmp .ge 45, 3) := by decide +kernel
theorem dL_kept_834 : decode cL_kept 834 = .ok (.lload 19, 2) := by decide +kernel
theorem dL_kept_836 : decode cL_kept 836 = .ok (.aload_n 0, 1) := by decide +kernel
theorem dL_kept_837 : decode cL_kept 837 = .ok (.iload 25, 2) := by decide +kernel
theorem dL_kept_839 : decode cL_kept 839 = .ok (.iconst 1, 1) := by decide +kernel
theorem dL_kept_840 : decode cL_kept 840 = .ok (.invokestatic 117, 3) := by decide +kernel
theorem dL_kept_843 : decode cL_kept 843 = .ok (.ladd, 1) := by decide +kernel
theorem dL_kept_844 : decode cL_kept 844 = .ok (.lstore 19, 2) := by decide +kernel
theorem dL_kept_846 : decode cL_kept 846 = .ok (.lload 21, 2) := by decide +kernel
theorem dL_kept_848 : decode cL_kept 848 = .ok (.aload_n 0, 1) := by decide +kernel
theorem dL_kept_849 : decode cL_kept 849 = .ok (.iload 25, 2) := by decide +kernel
theorem dL_kept_851 : decode cL_kept 851 = .ok (.iconst 2, 1) := by decide +kernel
theorem dL_kept_852 : decode cL_kept 852 = .ok (.invokestatic 117, 3) := by decide +kernel
theorem dL_kept_855 : decode cL_kept 855 = .ok (.ladd, 1) := by decide +kernel
theorem dL_kept_856 : decode cL_kept 856 = .ok (.lstore 21, 2) := by decide +kernel
theorem dL_kept_858 : decode cL_kept 858 = .ok (.lload 23, 2) := by decide +kernel
theorem dL_kept_860 : decode cL_kept 860 = .ok (.aload_n 0, 1) := by decide +kernel
theorem dL_kept_861 : decode cL_kept 861 = .ok (.iload 25, 2) := by decide +kernel
theorem dL_kept_863 : decode cL_kept 863 = .ok (.iconst 3, 1) := by decide +kernel
theorem dL_kept_864 : decode cL_kept 864 = .ok (.invokestatic 117, 3) := by decide +kernel
theorem dL_kept_867 : decode cL_kept 867 = .ok (.ladd, 1) := by decide +kernel
theorem dL_kept_868 : decode cL_kept 868 = .ok (.lstore 23, 2) := by decide +kernel
theorem dL_kept_870 : decode cL_kept 870 = .ok (.iinc 25 1, 3) := by decide +kernel
theorem dL_kept_873 : decode cL_kept 873 = .ok (.goto (-45), 3) := by decide +kernel
theorem dL_kept_876 : decode cL_kept 876 = .ok (.iload 4, 2) := by decide +kernel
theorem dL_kept_878 : decode cL_kept 878 = .ok (.ifCond .eq 142, 3) := by decide +kernel
theorem dL_kept_881 : decode cL_kept 881 = .ok (.aload_n 0, 1) := by decide +kernel
theorem dL_kept_882 : decode cL_kept 882 = .ok (.iconst 3, 1) := by decide +kernel
theorem dL_kept_883 : decode cL_kept 883 = .ok (.invokestatic 112, 3) := by decide +kernel
theorem dL_kept_886 : decode cL_kept 886 = .ok (.lload 5, 2) := by decide +kernel
theorem dL_kept_888 : decode cL_kept 888 = .ok (.lcmp, 1) := by decide +kernel
theorem dL_kept_889 : decode cL_kept 889 = .ok (.ifCond .ne 131, 3) := by decide +kernel
theorem dL_kept_892 : decode cL_kept 892 = .ok (.lload 21, 2) := by decide +kernel
theorem dL_kept_894 : decode cL_kept 894 = .ok (.lload 5, 2) := by decide +kernel
theorem dL_kept_896 : decode cL_kept 896 = .ok (.lcmp, 1) := by decide +kernel
theorem dL_kept_897 : decode cL_kept 897 = .ok (.ifCond .ne 123, 3) := by decide +kernel
theorem dL_kept_900 : decode cL_kept 900 = .ok (.aload_n 0, 1) := by decide +kernel
theorem dL_kept_901 : decode cL_kept 901 = .ok (.iconst 4, 1) := by decide +kernel
theorem dL_kept_902 : decode cL_kept 902 = .ok (.invokestatic 112, 3) := by decide +kernel
theorem dL_kept_905 : decode cL_kept 905 = .ok (.lload 7, 2) := by decide +kernel
theorem dL_kept_907 : decode cL_kept 907 = .ok (.lcmp, 1) := by decide +kernel
theorem dL_kept_908 : decode cL_kept 908 = .ok (.ifCond .ne 112, 3) := by decide +kernel
theorem dL_kept_911 : decode cL_kept 911 = .ok (.lload 23, 2) := by decide +kernel
theorem dL_kept_913 : decode cL_kept 913 = .ok (.lload 7, 2) := by decide +kernel
theorem dL_kept_915 : decode cL_kept 915 = .ok (.lcmp, 1) := by decide +kernel
theorem dL_kept_916 : decode cL_kept 916 = .ok (.ifCond .ne 104, 3) := by decide +kernel
theorem dL_kept_919 : decode cL_kept 919 = .ok (.aload_n 0, 1) := by decide +kernel
theorem dL_kept_920 : decode cL_kept 920 = .ok (.iconst 5, 1) := by decide +kernel
theorem dL_kept_921 : decode cL_kept 921 = .ok (.invokestatic 112, 3) := by decide +kernel
theorem dL_kept_924 : decode cL_kept 924 = .ok (.lload 9, 2) := by decide +kernel
theorem dL_kept_926 : decode cL_kept 926 = .ok (.lcmp, 1) := by decide +kernel
theorem dL_kept_927 : decode cL_kept 927 = .ok (.ifCond .ne 93, 3) := by decide +kernel
theorem dL_kept_930 : decode cL_kept 930 = .ok (.aload_n 0, 1) := by decide +kernel
theorem dL_kept_931 : decode cL_kept 931 = .ok (.bipush 6, 2) := by decide +kernel
theorem dL_kept_933 : decode cL_kept 933 = .ok (.invokestatic 112, 3) := by decide +kernel
theorem dL_kept_936 : decode cL_kept 936 = .ok (.lload 11, 2) := by decide +kernel
theorem dL_kept_938 : decode cL_kept 938 = .ok (.lcmp, 1) := by decide +kernel
theorem dL_kept_939 : decode cL_kept 939 = .ok (.ifCond .ne 81, 3) := by decide +kernel
theorem dL_kept_942 : decode cL_kept 942 = .ok (.aload_n 0, 1) := by decide +kernel
theorem dL_kept_943 : decode cL_kept 943 = .ok (.bipush 7, 2) := by decide +kernel
theorem dL_kept_945 : decode cL_kept 945 = .ok (.invokestatic 112, 3) := by decide +kernel
theorem dL_kept_948 : decode cL_kept 948 = .ok (.lload 19, 2) := by decide +kernel
theorem dL_kept_950 : decode cL_kept 950 = .ok (.lcmp, 1) := by decide +kernel
theorem dL_kept_951 : decode cL_kept 951 = .ok (.ifCond .ne 69, 3) := by decide +kernel
theorem dL_kept_954 : decode cL_kept 954 = .ok (.aload_n 0, 1) := by decide +kernel
theorem dL_kept_955 : decode cL_kept 955 = .ok (.bipush 8, 2) := by decide +kernel
theorem dL_kept_957 : decode cL_kept 957 = .ok (.invokestatic 112, 3) := by decide +kernel
theorem dL_kept_960 : decode cL_kept 960 = .ok (.lload 13, 2) := by decide +kernel
theorem dL_kept_962 : decode cL_kept 962 = .ok (.lcmp, 1) := by decide +kernel
theorem dL_kept_963 : decode cL_kept 963 = .ok (.ifCond .ne 57, 3) := by decide +kernel
theorem dL_kept_966 : decode cL_kept 966 = .ok (.aload_n 0, 1) := by decide +kernel
theorem dL_kept_967 : decode cL_kept 967 = .ok (.bipush 9, 2) := by decide +kernel
theorem dL_kept_969 : decode cL_kept 969 = .ok (.invokestatic 112, 3) := by decide +kernel
theorem dL_kept_972 : decode cL_kept 972 = .ok (.lload 15, 2) := by decide +kernel
theorem dL_kept_974 : decode cL_kept 974 = .ok (.lcmp, 1) := by decide +kernel
theorem dL_kept_975 : decode cL_kept 975 = .ok (.ifCond .ne 45, 3) := by decide +kernel
theorem dL_kept_978 : decode cL_kept 978 = .ok (.aload_n 0, 1) := by decide +kernel
theorem dL_kept_979 : decode cL_kept 979 = .ok (.invokevirtual 193, 3) := by decide +kernel
theorem dL_kept_982 : decode cL_kept 982 = .ok (.i2l, 1) := by decide +kernel
theorem dL_kept_983 : decode cL_kept 983 = .ok (.lload 17, 2) := by decide +kernel
theorem dL_kept_985 : decode cL_kept 985 = .ok (.lcmp, 1) := by decide +kernel
theorem dL_kept_986 : decode cL_kept 986 = .ok (.ifCond .gt 34, 3) := by decide +kernel
theorem dL_kept_989 : decode cL_kept 989 = .ok (.lload 5, 2) := by decide +kernel
theorem dL_kept_991 : decode cL_kept 991 = .ok (.lconst 0, 1) := by decide +kernel
theorem dL_kept_992 : decode cL_kept 992 = .ok (.lcmp, 1) := by decide +kernel
theorem dL_kept_993 : decode cL_kept 993 = .ok (.ifCond .ne 7, 3) := by decide +kernel
theorem dL_kept_996 : decode cL_kept 996 = .ok (.iconst 1, 1) := by decide +kernel
theorem dL_kept_997 : decode cL_kept 997 = .ok (.goto 4, 3) := by decide +kernel
theorem dL_kept_1000 : decode cL_kept 1000 = .ok (.iconst 0, 1) := by decide +kernel
theorem dL_kept_1001 : decode cL_kept 1001 = .ok (.aload_n 0, 1) := by decide +kernel
theorem dL_kept_1002 : decode cL_kept 1002 = .ok (.invokevirtual 193, 3) := by decide +kernel
theorem dL_kept_1005 : decode cL_kept 1005 = .ok (.ifCond .ne 7, 3) := by decide +kernel
theorem dL_kept_1008 : decode cL_kept 1008 = .ok (.iconst 1, 1) := by decide +kernel
theorem dL_kept_1009 : decode cL_kept 1009 = .ok (.goto 4, 3) := by decide +kernel
theorem dL_kept_1012 : decode cL_kept 1012 = .ok (.iconst 0, 1) := by decide +kernel
theorem dL_kept_1013 : decode cL_kept 1013 = .ok (.if_icmp .ne 7, 3) := by decide +kernel
theorem dL_kept_1016 : decode cL_kept 1016 = .ok (.iconst 1, 1) := by decide +kernel
theorem dL_kept_1017 : decode cL_kept 1017 = .ok (.goto 4, 3) := by decide +kernel
theorem dL_kept_1020 : decode cL_kept 1020 = .ok (.iconst 0, 1) := by decide +kernel
theorem dL_kept_1021 : decode cL_kept 1021 = .ok (.ireturn, 1) := by decide +kernel
