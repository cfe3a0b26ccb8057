theorem dL_law_537 : decode cL_law 537 = .ok (.istore 8, 2) := by decide +kernel
theorem dL_law_539 : decode cL_law 539 = .ok (.iload 8, 2) := by decide +kernel
theorem dL_law_541 : decode cL_law 541 = .ok (.iconst 3, 1) := by decide +kernel
theorem dL_law_542 : decode cL_law 542 = .ok (.iand, 1) := by decide +kernel
theorem dL_law_543 : decode cL_law 543 = .ok (.istore 9, 2) := by decide +kernel
theorem dL_law_545 : decode cL_law 545 = .ok (.iload 9, 2) := by decide +kernel
theorem dL_law_547 : decode cL_law 547 = .ok (.iconst 1, 1) := by decide +kernel
theorem dL_law_548 : decode cL_law 548 = .ok (.iadd, 1) := by decide +kernel
theorem dL_law_549 : decode cL_law 549 = .ok (.iconst 3, 1) := by decide +kernel
theorem dL_law_550 : decode cL_law 550 = .ok (.iand, 1) := by decide +kernel
theorem dL_law_551 : decode cL_law 551 = .ok (.istore 10, 2) := by decide +kernel
theorem dL_law_553 : decode cL_law 553 = .ok (.new 18, 3) := by decide +kernel
theorem dL_law_556 : decode cL_law 556 = .ok (.dup, 1) := by decide +kernel
theorem dL_law_557 : decode cL_law 557 = .ok (.invokespecial 23, 3) := by decide +kernel
theorem dL_law_560 : decode cL_law 560 = .ok (.astore 11, 2) := by decide +kernel
theorem dL_law_562 : decode cL_law 562 = .ok (.aload 11, 2) := by decide +kernel
theorem dL_law_564 : decode cL_law 564 = .ok (.invokevirtual 217, 3) := by decide +kernel
theorem dL_law_567 : decode cL_law 567 = .ok (.ifCond .eq 96, 3) := by decide +kernel
theorem dL_law_570 : decode cL_law 570 = .ok (.aload 11, 2) := by decide +kernel
theorem dL_law_572 : decode cL_law 572 = .ok (.iconst 0, 1) := by decide +kernel
theorem dL_law_573 : decode cL_law 573 = .ok (.invokevirtual 220, 3) := by decide +kernel
theorem dL_law_576 : decode cL_law 576 = .ok (.ifCond .ne 87, 3) := by decide +kernel
theorem dL_law_579 : decode cL_law 579 = .ok (.aload 11, 2) := by decide +kernel
theorem dL_law_581 : decode cL_law 581 = .ok (.iconst 1, 1) := by decide +kernel
theorem dL_law_582 : decode cL_law 582 = .ok (.invokevirtual 223, 3) := by decide +kernel
theorem dL_law_585 : decode cL_law 585 = .ok (.iconst 2, 1) := by decide +kernel
theorem dL_law_586 : decode cL_law 586 = .ok (.if_icmp .ne 77, 3) := by decide +kernel
theorem dL_law_589 : decode cL_law 589 = .ok (.aload 11, 2) := by decide +kernel
theorem dL_law_591 : decode cL_law 591 = .ok (.iconst 2, 1) := by decide +kernel
theorem dL_law_592 : decode cL_law 592 = .ok (.invokevirtual 225, 3) := by decide +kernel
theorem dL_law_595 : decode cL_law 595 = .ok (.iconst 2, 1) := by decide +kernel
theorem dL_law_596 : decode cL_law 596 = .ok (.if_icmp .ne 67, 3) := by decide +kernel
theorem dL_law_599 : decode cL_law 599 = .ok (.aload 11, 2) := by decide +kernel
theorem dL_law_601 : decode cL_law 601 = .ok (.iconst 0, 1) := by decide +kernel
theorem dL_law_602 : decode cL_law 602 = .ok (.invokevirtual 228, 3) := by decide +kernel
theorem dL_law_605 : decode cL_law 605 = .ok (.ifCond .ne 58, 3) := by decide +kernel
theorem dL_law_608 : decode cL_law 608 = .ok (.aload 11, 2) := by decide +kernel
theorem dL_law_610 : decode cL_law 610 = .ok (.iconst 2, 1) := by decide +kernel
theorem dL_law_611 : decode cL_law 611 = .ok (.invokevirtual 231, 3) := by decide +kernel
theorem dL_law_614 : decode cL_law 614 = .ok (.ifCond .ne 49, 3) := by decide +kernel
theorem dL_law_617 : decode cL_law 617 = .ok (.aload 11, 2) := by decide +kernel
theorem dL_law_619 : decode cL_law 619 = .ok (.iconst 0, 1) := by decide +kernel
theorem dL_law_620 : decode cL_law 620 = .ok (.invokevirtual 235, 3) := by decide +kernel
theorem dL_law_623 : decode cL_law 623 = .ok (.ifCond .ne 40, 3) := by decide +kernel
theorem dL_law_626 : decode cL_law 626 = .ok (.aload 11, 2) := by decide +kernel
theorem dL_law_628 : decode cL_law 628 = .ok (.bipush 8, 2) := by decide +kernel
theorem dL_law_630 : decode cL_law 630 = .ok (.iconst 0, 1) := by decide +kernel
theorem dL_law_631 : decode cL_law 631 = .ok (.iconst 0, 1) := by decide +kernel
theorem dL_law_632 : decode cL_law 632 = .ok (.iconst 0, 1) := by decide +kernel
theorem dL_law_633 : decode cL_law 633 = .ok (.invokestatic 30, 3) := by decide +kernel
theorem dL_law_636 : decode cL_law 636 = .ok (.bipush (-2), 2) := by decide +kernel
theorem dL_law_638 : decode cL_law 638 = .ok (.if_icmp .ne 25, 3) := by decide +kernel
theorem dL_law_641 : decode cL_law 641 = .ok (.aload 11, 2) := by decide +kernel
theorem dL_law_643 : decode cL_law 643 = .ok (.iconst 0, 1) := by decide +kernel
theorem dL_law_644 : decode cL_law 644 = .ok (.iconst 0, 1) := by decide +kernel
theorem dL_law_645 : decode cL_law 645 = .ok (.invokevirtual 182, 3) := by decide +kernel
theorem dL_law_648 : decode cL_law 648 = .ok (.bipush 8, 2) := by decide +kernel
theorem dL_law_650 : decode cL_law 650 = .ok (.if_icmp .ne 13, 3) := by decide +kernel
theorem dL_law_653 : decode cL_law 653 = .ok (.aload 11, 2) := by decide +kernel
theorem dL_law_655 : decode cL_law 655 = .ok (.iconst 0, 1) := by decide +kernel
theorem dL_law_656 : decode cL_law 656 = .ok (.iconst 1, 1) := by decide +kernel
theorem dL_law_657 : decode cL_law 657 = .ok (.invokevirtual 182, 3) := by decide +kernel
theorem dL_law_660 : decode cL_law 660 = .ok (.ifCond .eq 5, 3) := by decide +kernel
theorem dL_law_663 : decode cL_law 663 = .ok (.iconst 0, 1) := by decide +kernel
theorem dL_law_664 : decode cL_law 664 = .ok (.ireturn, 1) := by decide +kernel
theorem dL_law_665 : decode cL_law 665 = .ok (.aload 11, 2) := by decide +kernel
theorem dL_law_667 : decode cL_law 667 = .ok (.new 123, 3) := by decide +kernel
theorem dL_law_670 : decode cL_law 670 = .ok (.dup, 1) := by decide +kernel
theorem dL_law_671 : decode cL_law 671 = .ok (.invokespecial 125, 3) := by decide +kernel
theorem dL_law_674 : decode cL_law 674 = .ok (.ldc 238, 2) := by decide +kernel
theorem dL_law_676 : decode cL_law 676 = .ok (.invokevirtual 126, 3) := by decide +kernel
theorem dL_law_679 : decode cL_law 679 = .ok (.iload 9, 2) := by decide +kernel
theorem dL_law_681 : decode cL_law 681 = .ok (.invokevirtual 160, 3) := by decide +kernel
theorem dL_law_684 : decode cL_law 684 = .ok (.ldc 240, 2) := by decide +kernel
theorem dL_law_686 : decode cL_law 686 = .ok (.invokevirtual 126, 3) := by decide +kernel
theorem dL_law_689 : decode cL_law 689 = .ok (.iload 10, 2) := by decide +kernel
theorem dL_law_691 : decode cL_law 691 = .ok (.invokevirtual 160, 3) := by decide +kernel
theorem dL_law_694 : decode cL_law 694 = .ok (.ldc 242, 2) := by decide +kernel
theorem dL_law_696 : decode cL_law 696 = .ok (.invokevirtual 126, 3) := by decide +kernel
theorem dL_law_699 : decode cL_law 699 = .ok (.invokevirtual 135, 3) := by decide +kernel
theorem dL_law_702 : decode cL_law 702 = .ok (.invokestatic 167, 3) := by decide +kernel
theorem dL_law_705 : decode cL_law 705 = .ok (.aload 11, 2) := by decide +kernel
theorem dL_law_707 : decode cL_law 707 = .ok (.invokevirtual 171, 3) := by decide +kernel
theorem dL_law_710 : decode cL_law 710 = .ok (.bipush 7, 2) := by decide +kernel
theorem dL_law_712 : decode cL_law 712 = .ok (.if_icmp .ne 220, 3) := by decide +kernel
theorem dL_law_715 : decode cL_law 715 = .ok (.aload 11, 2) := by decide +kernel
theorem dL_law_717 : decode cL_law 717 = .ok (.iconst 1, 1) := by decide +kernel
theorem dL_law_718 : decode cL_law 718 = .ok (.invokevirtual 231, 3) := by decide +kernel
theorem dL_law_721 : decode cL_law 721 = .ok (.ifCond .eq 211, 3) := by decide +kernel
theorem dL_law_724 : decode cL_law 724 = .ok (.aload 11, 2) := by decide +kernel
theorem dL_law_726 : decode cL_law 726 = .ok (.iconst 1, 1) := by decide +kernel
theorem dL_law_727 : decode cL_law 727 = .ok (.invokevirtual 244, 3) := by decide +kernel
theorem dL_law_730 : decode cL_law 730 = .ok (.iconst (-1), 1) := by decide +kernel
theorem dL_law_731 : decode cL_law 731 = .ok (.if_icmp .ne 201, 3) := by decide +kernel
theorem dL_law_734 : decode cL_law 734 = .ok (.aload 11, 2) := by decide +kernel
theorem dL_law_736 : decode cL_law 736 = .ok (.iconst 1, 1) := by decide +kernel
theorem dL_law_737 : decode cL_law 737 = .ok (.invokevirtual 235, 3) := by decide +kernel
theorem dL_law_740 : decode cL_law 740 = .ok (.iconst 1, 1) := by decide +kernel
theorem dL_law_741 : decode cL_law 741 = .ok (.if_icmp .ne 191, 3) := by decide +kernel
theorem dL_law_744 : decode cL_law 744 = .ok (.aload 11, 2) := by decide +kernel
theorem dL_law_746 : decode cL_law 746 = .ok (.iconst 1, 1) := by decide +kernel
theorem dL_law_747 : decode cL_law 747 = .ok (.iconst 0, 1) := by decide +kernel
theorem dL_law_748 : decode cL_law 748 = .ok (.iconst 0, 1) := by decide +kernel
theorem dL_law_749 : decode cL_law 749 = .ok (.invokevirtual 247, 3) := by decide +kernel
theorem dL_law_752 : decode cL_law 752 = .ok (.iconst 1, 1) := by decide +kernel
theorem dL_law_753 : decode cL_law 753 = .ok (.if_icmp .ne 179, 3) := by decide +kernel
theorem dL_law_756 : decode cL_law 756 = .ok (.aload 11, 2) := by decide +kernel
theorem dL_law_758 : decode cL_law 758 = .ok (.iconst 1, 1) := by decide +kernel
theorem dL_law_759 : decode cL_law 759 = .ok (.iconst 0, 1) := by decide +kernel
theorem dL_law_760 : decode cL_law 760 = .ok (.iconst 1, 1) := by decide +kernel
theorem dL_law_761 : decode cL_law 761 = .ok (.invokevirtual 247, 3) := by decide +kernel
theorem dL_law_764 : decode cL_law 764 = .ok (.iconst 1, 1) := by decide +kernel
theorem dL_law_765 : decode cL_law 765 = .ok (.if_icmp .ne 167, 3) := by decide +kernel
theorem dL_law_768 : decode cL_law 768 = .ok (.aload 11, 2) := by decide +kernel
theorem dL_law_770 : decode cL_law 770 = .ok (.iconst 1, 1) := by decide +kernel
theorem dL_law_771 : decode cL_law 771 = .ok (.iconst 0, 1) := by decide +kernel
theorem dL_law_772 : decode cL_law 772 = .ok (.iconst 2, 1) := by decide +kernel
theorem dL_law_773 : decode cL_law 773 = .ok (.invokevirtual 247, 3) := by decide +kernel
theorem dL_law_776 : decode cL_law 776 = .ok (.iconst (-1), 1) := by decide +kernel
theorem dL_law_777 : decode cL_law 777 = .ok (.if_icmp .ne 155, 3) := by decide +kernel
theorem dL_law_780 : decode cL_law 780 = .ok (.aload 11, 2) := by decide +kernel
theorem dL_law_782 : decode cL_law 782 = .ok (.iconst 1, 1) := by decide +kernel
theorem dL_law_783 : decode cL_law 783 = .ok (.iconst 0, 1) := by decide +kernel
theorem dL_law_784 : decode cL_law 784 = .ok (.iconst 3, 1) := by decide +kernel
theorem dL_law_785 : decode cL_law 785 = .ok (.invokevirtual 247, 3) := by decide +kernel
theorem dL_law_788 : decode cL_law 788 = .ok (.ifCond .ne 144, 3) := by decide +kernel
theorem dL_law_791 : decode cL_law 791 = .ok (.aload 11, 2) := by decide +kernel
theorem dL_law_793 : decode cL_law 793 = .ok (.iconst 1, 1) := by decide +kernel
theorem dL_law_794 : decode cL_law 794 = .ok (.invokevirtual 223, 3) := by decide +kernel
theorem dL_law_797 : decode cL_law 797 = .ok (.bipush 24, 2) := by decide +kernel
theorem dL_law_799 : decode cL_law 799 = .ok (.if_icmp .ne 133, 3) := by decide +kernel
theorem dL_law_802 : decode cL_law 802 = .ok (.aload 11, 2) := by decide +kernel
theorem dL_law_804 : decode cL_law 804 = .ok (.iconst 1, 1) := by decide +kernel
theorem dL_law_805 : decode cL_law 805 = .ok (.invokevirtual 228, 3) := by decide +kernel
theorem dL_law_808 : decode cL_law 808 = .ok (.iconst 3, 1) := by decide +kernel
theorem dL_law_809 : decode cL_law 809 = .ok (.if_icmp .ne 123, 3) := by decide +kernel
theorem dL_law_812 : decode cL_law 812 = .ok (.aload 11, 2) := by decide +kernel
theorem dL_law_814 : decode cL_law 814 = .ok (.iconst 1, 1) := by decide +kernel
theorem dL_law_815 : decode cL_law 815 = .ok (.invokevirtual 250, 3) := by decide +kernel
theorem dL_law_818 : decode cL_law 818 = .ok (.bipush 85, 2) := by decide +kernel
theorem dL_law_820 : decode cL_law 820 = .ok (.if_icmp .ne 112, 3) := by decide +kernel
theorem dL_law_823 : decode cL_law 823 = .ok (.aload 11, 2) := by decide +kernel
theorem dL_law_825 : decode cL_law 825 = .ok (.iconst 1, 1) := by decide +kernel
theorem dL_law_826 : decode cL_law 826 = .ok (.invokevirtual 253, 3) := by decide +kernel
theorem dL_law_829 : decode cL_law 829 = .ok (.ifCond .ne 103, 3) := by decide +kernel
theorem dL_law_832 : decode cL_law 832 = .ok (.aload 11, 2) := by decide +kernel
theorem dL_law_834 : decode cL_law 834 = .ok (.aload 11, 2) := by decide +kernel
theorem dL_law_836 : decode cL_law 836 = .ok (.iconst 1, 1) := by decide +kernel
theorem dL_law_837 : decode cL_law 837 = .ok (.invokevirtual 256, 3) := by decide +kernel
theorem dL_law_840 : decode cL_law 840 = .ok (.ldc_w 259, 3) := by decide +kernel
theorem dL_law_843 : decode cL_law 843 = .ok (.invokestatic 261, 3) := by decide +kernel
theorem dL_law_846 : decode cL_law 846 = .ok (.ifCond .eq 86, 3) := by decide +kernel
theorem dL_law_849 : decode cL_law 849 = .ok (.aload 11, 2) := by decide +kernel
theorem dL_law_851 : decode cL_law 851 = .ok (.aload 11, 2) := by decide +kernel
theorem dL_law_853 : decode cL_law 853 = .ok (.iconst 1, 1) := by decide +kernel
theorem dL_law_854 : decode cL_law 854 = .ok (.invokevirtual 265, 3) := by decide +kernel
theorem dL_law_857 : decode cL_law 857 = .ok (.new 123, 3) := by decide +kernel
theorem dL_law_860 : decode cL_law 860 = .ok (.dup, 1) := by decide +kernel
theorem dL_law_861 : decode cL_law 861 = .ok (.invokespecial 125, 3) := by decide +kernel
theorem dL_law_864 : decode cL_law 864 = .ok (.ldc_w 268, 3) := by decide +kernel
theorem dL_law_867 : decode cL_law 867 = .ok (.invokevirtual 126, 3) := by decide +kernel
theorem dL_law_870 : decode cL_law 870 = .ok (.iload 9, 2) := by decide +kernel
theorem dL_law_872 : decode cL_law 872 = .ok (.invokevirtual 160, 3) := by decide +kernel
theorem dL_law_875 : decode cL_law 875 = .ok (.ldc_w 270, 3) := by decide +kernel
theorem dL_law_878 : decode cL_law 878 = .ok (.invokevirtual 126, 3) := by decide +kernel
theorem dL_law_881 : decode cL_law 881 = .ok (.iload 10, 2) := by decide +kernel
theorem dL_law_883 : decode cL_law 883 = .ok (.invokevirtual 160, 3) := by decide +kernel
theorem dL_law_886 : decode cL_law 886 = .ok (.ldc_w 272, 3) := by decide +kernel
theorem dL_law_889 : decode cL_law 889 = .ok (.invokevirtual 126, 3) := by decide +kernel
theorem dL_law_892 : decode cL_law 892 = .ok (.invokevirtual 135, 3) := by decide +kernel
theorem dL_law_895 : decode cL_law 895 = .ok (.invokestatic 261, 3) := by decide +kernel
theorem dL_law_898 : decode cL_law 898 = .ok (.ifCond .eq 34, 3) := by decide +kernel
theorem dL_law_901 : decode cL_law 901 = .ok (.aload 11, 2) := by decide +kernel
theorem dL_law_903 : decode cL_law 903 = .ok (.iconst 1, 1) := by decide +kernel
theorem dL_law_904 : decode cL_law 904 = .ok (.invokevirtual 69, 3) := by decide +kernel
theorem dL_law_907 : decode cL_law 907 = .ok (.iconst 1, 1) := by decide +kernel
theorem dL_law_908 : decode cL_law 908 = .ok (.if_icmp .ne 24, 3) := by decide +kernel
theorem dL_law_911 : decode cL_law 911 = .ok (.aload 11, 2) := by decide +kernel
theorem dL_law_913 : decode cL_law 913 = .ok (.bipush 6, 2) := by decide +kernel
theorem dL_law_915 : decode cL_law 915 = .ok (.invokevirtual 34, 3) := by decide +kernel
theorem dL_law_918 : decode cL_law 918 = .ok (.iconst 1, 1) := by decide +kernel
theorem dL_law_919 : decode cL_law 919 = .ok (.if_icmp .ne 13, 3) := by decide +kernel
theorem dL_law_922 : decode cL_law 922 = .ok (.aload 11, 2) := by decide +kernel
theorem dL_law_924 : decode cL_law 924 = .ok (.iconst 0, 1) := by decide +kernel
theorem dL_law_925 : decode cL_law 925 = .ok (.invokevirtual 225, 3) := by decide +kernel
theorem dL_law_928 : decode cL_law 928 = .ok (.iconst 1, 1) := by decide +kernel
theorem dL_law_929 : decode cL_law 929 = .ok (.if_icmp .eq 5, 3) := by decide +kernel
theorem dL_law_932 : decode cL_law 932 = .ok (.iconst 0, 1) := by decide +kernel
theorem dL_law_933 : decode cL_law 933 = .ok (.ireturn, 1) := by decide +kernel
theorem dL_law_934 : decode cL_law 934 = .ok (.aload 11, 2) := by decide +kernel
theorem dL_law_936 : decode cL_law 936 = .ok (.new 123, 3) := by decide +kernel
theorem dL_law_939 : decode cL_law 939 = .ok (.dup, 1) := by decide +kernel
theorem dL_law_940 : decode cL_law 940 = .ok (.invokespecial 125, 3) := by decide +kernel
theorem dL_law_943 : decode cL_law 943 = .ok (.ldc 238, 2) := by decide +kernel
theorem dL_law_945 : decode cL_law 945 = .ok (.invokevirtual 126, 3) := by decide +kernel
theorem dL_law_948 : decode cL_law 948 = .ok (.iload 10, 2) := by decide +kernel
theorem dL_law_950 : decode cL_law 950 = .ok (.invokevirtual 160, 3) := by decide +kernel
theorem dL_law_953 : decode cL_law 953 = .ok (.ldc_w 274, 3) := by decide +kernel
theorem dL_law_956 : decode cL_law 956 = .ok (.invokevirtual 126, 3) := by decide +kernel
theorem dL_law_959 : decode cL_law 959 = .ok (.invokevirtual 135, 3) := by decide +kernel
theorem dL_law_962 : decode cL_law 962 = .ok (.invokestatic 167, 3) := by decide +kernel
theorem dL_law_965 : decode cL_law 965 = .ok (.aload 11, 2) := by decide +kernel
theorem dL_law_967 : decode cL_law 967 = .ok (.invokevirtual 171, 3) := by decide +kernel
theorem dL_law_970 : decode cL_law 970 = .ok (.bipush 7, 2) := by decide +kernel
theorem dL_law_972 : decode cL_law 972 = .ok (.if_icmp .ne 200, 3) := by decide +kernel
theorem dL_law_975 : decode cL_law 975 = .ok (.aload 11, 2) := by decide +kernel
theorem dL_law_977 : decode cL_law 977 = .ok (.iconst 1, 1) := by decide +kernel
theorem dL_law_978 : decode cL_law 978 = .ok (.invokevirtual 220, 3) := by decide +kernel
theorem dL_law_981 : decode cL_law 981 = .ok (.iconst 2, 1) := by decide +kernel
theorem dL_law_982 : decode cL_law 982 = .ok (.if_icmp .ne 190, 3) := by decide +kernel
theorem dL_law_985 : decode cL_law 985 = .ok (.aload 11, 2) := by decide +kernel
theorem dL_law_987 : decode cL_law 987 = .ok (.iconst 1, 1) := by decide +kernel
theorem dL_law_988 : decode cL_law 988 = .ok (.invokevirtual 244, 3) := by decide +kernel
theorem dL_law_991 : decode cL_law 991 = .ok (.iconst 2, 1) := by decide +kernel
theorem dL_law_992 : decode cL_law 992 = .ok (.if_icmp .ne 180, 3) := by decide +kernel
theorem dL_law_995 : decode cL_law 995 = .ok (.aload 11, 2) := by decide +kernel
theorem dL_law_997 : decode cL_law 997 = .ok (.iconst 1, 1) := by decide +kernel
theorem dL_law_998 : decode cL_law 998 = .ok (.invokevirtual 231, 3) := by decide +kernel
theorem dL_law_1001 : decode cL_law 1001 = .ok (.ifCond .ne 171, 3) := by decide +kernel
theorem dL_law_1004 : decode cL_law 1004 = .ok (.aload 11, 2) := by decide +kernel
theorem dL_law_1006 : decode cL_law 1006 = .ok (.iconst 1, 1) := by decide +kernel
theorem dL_law_1007 : decode cL_law 1007 = .ok (.invokevirtual 223, 3) := by decide +kernel
theorem dL_law_1010 : decode cL_law 1010 = .ok (.ifCond .ne 162, 3) := by decide +kernel
theorem dL_law_1013 : decode cL_law 1013 = .ok (.aload 11, 2) := by decide +kernel
theorem dL_law_1015 : decode cL_law 1015 = .ok (.iconst 1, 1) := by decide +kernel
theorem dL_law_1016 : decode cL_law 1016 = .ok (.invokevirtual 253, 3) := by decide +kernel
theorem dL_law_1019 : decode cL_law 1019 = .ok (.iconst 1, 1) := by decide +kernel
theorem dL_law_1020 : decode cL_law 1020 = .ok (.if_icmp .ne 152, 3) := by decide +kernel
theorem dL_law_1023 : decode cL_law 1023 = .ok (.aload 11, 2) := by decide +kernel
theorem dL_law_1025 : decode cL_law 1025 = .ok (.iconst 1, 1) := by decide +kernel
theorem dL_law_1026 : decode cL_law 1026 = .ok (.invokevirtual 276, 3) := by decide +kernel
theorem dL_law_1029 : decode cL_law 1029 = .ok (.iconst 1, 1) := by decide +kernel
theorem dL_law_1030 : decode cL_law 1030 = .ok (.if_icmp .ne 142, 3) := by decide +kernel
theorem dL_law_1033 : decode cL_law 1033 = .ok (.aload 11, 2) := by decide +kernel
theorem dL_law_1035 : decode cL_law 1035 = .ok (.iconst 1, 1) := by decide +kernel
theorem dL_law_1036 : decode cL_law 1036 = .ok (.invokevirtual 69, 3) := by decide +kernel
theorem dL_law_1039 : decode cL_law 1039 = .ok (.ifCond .ne 133, 3) := by decide +kernel
theorem dL_law_1042 : decode cL_law 1042 = .ok (.aload 11, 2) := by decide +kernel
theorem dL_law_1044 : decode cL_law 1044 = .ok (.iconst 1, 1) := by decide +kernel
theorem dL_law_1045 : decode cL_law 1045 = .ok (.iconst 5, 1) := by decide +kernel
theorem dL_law_1046 : decode cL_law 1046 = .ok (.invokevirtual 81, 3) := by decide +kernel
theorem dL_law_1049 : decode cL_law 1049 = .ok (.iconst 1, 1) := by decide +kernel
theorem dL_law_1050 : decode cL_law 1050 = .ok (.if_icmp .ne 122, 3) := by decide +kernel
theorem dL_law_1053 : decode cL_law 1053 = .ok (.aload 11, 2) := by decide +kernel
theorem dL_law_1055 : decode cL_law 1055 = .ok (.iconst 1, 1) := by decide +kernel
theorem dL_law_1056 : decode cL_law 1056 = .ok (.iconst 4, 1) := by decide +kernel
theorem dL_law_1057 : decode cL_law 1057 = .ok (.invokevirtual 81, 3) := by decide +kernel
theorem dL_law_1060 : decode cL_law 1060 = .ok (.iconst 2, 1) := by decide +kernel
theorem dL_law_1061 : decode cL_law 1061 = .ok (.if_icmp .ne 111, 3) := by decide +kernel
theorem dL_law_1064 : decode cL_law 1064 = .ok (.aload 11, 2) := by decide +kernel
theorem dL_law_1066 : decode cL_law 1066 = .ok (.iconst 1, 1) := by decide +kernel
theorem dL_law_1067 : decode cL_law 1067 = .ok (.iconst 2, 1) := by decide +kernel
theorem dL_law_1068 : decode cL_law 1068 = .ok (.iconst 0, 1) := by decide +kernel
theorem dL_law_1069 : decode cL_law 1069 = .ok (.invokevirtual 59, 3) := by decide +kernel
theorem dL_law_1072 : decode cL_law 1072 = .ok (.iconst 2, 1) := by decide +kernel
theorem dL_law_1073 : decode cL_law 1073 = .ok (.if_icmp .ne 99, 3) := by decide +kernel
theorem dL_law_1076 : decode cL_law 1076 = .ok (.aload 11, 2) := by decide +kernel
theorem dL_law_1078 : decode cL_law 1078 = .ok (.iconst 1, 1) := by decide +kernel
theorem dL_law_1079 : decode cL_law 1079 = .ok (.iconst 0, 1) := by decide +kernel
theorem dL_law_1080 : decode cL_law 1080 = .ok (.iconst 0, 1) := by decide +kernel
