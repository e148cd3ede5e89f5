theorem dL_hands_565 : decode cL_hands 565 = .ok (.iconst 1, 1) := by decide +kernel
theorem dL_hands_566 : decode cL_hands 566 = .ok (.goto 4, 3) := by decide +kernel
theorem dL_hands_569 : decode cL_hands 569 = .ok (.iconst 0, 1) := by decide +kernel
theorem dL_hands_570 : decode cL_hands 570 = .ok (.if_icmp .ne 23, 3) := by decide +kernel
theorem dL_hands_573 : decode cL_hands 573 = .ok (.aload_n 0, 1) := by decide +kernel
theorem dL_hands_574 : decode cL_hands 574 = .ok (.invokestatic 202, 3) := by decide +kernel
theorem dL_hands_577 : decode cL_hands 577 = .ok (.ifCond .eq 16, 3) := by decide +kernel
theorem dL_hands_580 : decode cL_hands 580 = .ok (.aload_n 0, 1) := by decide +kernel
theorem dL_hands_581 : decode cL_hands 581 = .ok (.iconst 0, 1) := by decide +kernel
theorem dL_hands_582 : decode cL_hands 582 = .ok (.invokestatic 133, 3) := by decide +kernel
theorem dL_hands_585 : decode cL_hands 585 = .ok (.iload_n 2, 1) := by decide +kernel
theorem dL_hands_586 : decode cL_hands 586 = .ok (.if_icmp .ne 7, 3) := by decide +kernel
theorem dL_hands_589 : decode cL_hands 589 = .ok (.iconst 1, 1) := by decide +kernel
theorem dL_hands_590 : decode cL_hands 590 = .ok (.goto 4, 3) := by decide +kernel
theorem dL_hands_593 : decode cL_hands 593 = .ok (.iconst 0, 1) := by decide +kernel
theorem dL_hands_594 : decode cL_hands 594 = .ok (.istore 9, 2) := by decide +kernel
theorem dL_hands_596 : decode cL_hands 596 = .ok (.iload 9, 2) := by decide +kernel
theorem dL_hands_598 : decode cL_hands 598 = .ok (.ifCond .eq 67, 3) := by decide +kernel
theorem dL_hands_601 : decode cL_hands 601 = .ok (.aload_n 0, 1) := by decide +kernel
theorem dL_hands_602 : decode cL_hands 602 = .ok (.iload 6, 2) := by decide +kernel
theorem dL_hands_604 : decode cL_hands 604 = .ok (.invokestatic 162, 3) := by decide +kernel
theorem dL_hands_607 : decode cL_hands 607 = .ok (.iload 10, 2) := by decide +kernel
theorem dL_hands_609 : decode cL_hands 609 = .ok (.if_icmp .ne 56, 3) := by decide +kernel
theorem dL_hands_612 : decode cL_hands 612 = .ok (.aload_n 0, 1) := by decide +kernel
theorem dL_hands_613 : decode cL_hands 613 = .ok (.invokevirtual 206, 3) := by decide +kernel
theorem dL_hands_616 : decode cL_hands 616 = .ok (.iload 5, 2) := by decide +kernel
theorem dL_hands_618 : decode cL_hands 618 = .ok (.iconst 1, 1) := by decide +kernel
theorem dL_hands_619 : decode cL_hands 619 = .ok (.iadd, 1) := by decide +kernel
theorem dL_hands_620 : decode cL_hands 620 = .ok (.if_icmp .ne 45, 3) := by decide +kernel
theorem dL_hands_623 : decode cL_hands 623 = .ok (.aload_n 0, 1) := by decide +kernel
theorem dL_hands_624 : decode cL_hands 624 = .ok (.bipush 18, 2) := by decide +kernel
theorem dL_hands_626 : decode cL_hands 626 = .ok (.invokestatic 127, 3) := by decide +kernel
theorem dL_hands_629 : decode cL_hands 629 = .ok (.ifCond .ne 36, 3) := by decide +kernel
theorem dL_hands_632 : decode cL_hands 632 = .ok (.aload_n 0, 1) := by decide +kernel
theorem dL_hands_633 : decode cL_hands 633 = .ok (.bipush 8, 2) := by decide +kernel
theorem dL_hands_635 : decode cL_hands 635 = .ok (.invokestatic 127, 3) := by decide +kernel
theorem dL_hands_638 : decode cL_hands 638 = .ok (.iload 10, 2) := by decide +kernel
theorem dL_hands_640 : decode cL_hands 640 = .ok (.if_icmp .ne 25, 3) := by decide +kernel
theorem dL_hands_643 : decode cL_hands 643 = .ok (.aload_n 0, 1) := by decide +kernel
theorem dL_hands_644 : decode cL_hands 644 = .ok (.invokestatic 164, 3) := by decide +kernel
theorem dL_hands_647 : decode cL_hands 647 = .ok (.ldc 18, 2) := by decide +kernel
theorem dL_hands_649 : decode cL_hands 649 = .ok (.if_icmp .ne 16, 3) := by decide +kernel
theorem dL_hands_652 : decode cL_hands 652 = .ok (.aload_n 0, 1) := by decide +kernel
theorem dL_hands_653 : decode cL_hands 653 = .ok (.iconst 0, 1) := by decide +kernel
theorem dL_hands_654 : decode cL_hands 654 = .ok (.invokestatic 133, 3) := by decide +kernel
theorem dL_hands_657 : decode cL_hands 657 = .ok (.iload_n 2, 1) := by decide +kernel
theorem dL_hands_658 : decode cL_hands 658 = .ok (.if_icmp .ne 7, 3) := by decide +kernel
theorem dL_hands_661 : decode cL_hands 661 = .ok (.iconst 1, 1) := by decide +kernel
theorem dL_hands_662 : decode cL_hands 662 = .ok (.goto 4, 3) := by decide +kernel
theorem dL_hands_665 : decode cL_hands 665 = .ok (.iconst 0, 1) := by decide +kernel
theorem dL_hands_666 : decode cL_hands 666 = .ok (.istore 9, 2) := by decide +kernel
theorem dL_hands_668 : decode cL_hands 668 = .ok (.iload_n 3, 1) := by decide +kernel
theorem dL_hands_669 : decode cL_hands 669 = .ok (.ifCond .le 115, 3) := by decide +kernel
theorem dL_hands_672 : decode cL_hands 672 = .ok (.iload 9, 2) := by decide +kernel
theorem dL_hands_674 : decode cL_hands 674 = .ok (.ifCond .eq 110, 3) := by decide +kernel
theorem dL_hands_677 : decode cL_hands 677 = .ok (.iload_n 1, 1) := by decide +kernel
theorem dL_hands_678 : decode cL_hands 678 = .ok (.sipush 256, 3) := by decide +kernel
theorem dL_hands_681 : decode cL_hands 681 = .ok (.idiv, 1) := by decide +kernel
theorem dL_hands_682 : decode cL_hands 682 = .ok (.iload_n 3, 1) := by decide +kernel
theorem dL_hands_683 : decode cL_hands 683 = .ok (.irem, 1) := by decide +kernel
theorem dL_hands_684 : decode cL_hands 684 = .ok (.istore 15, 2) := by decide +kernel
theorem dL_hands_686 : decode cL_hands 686 = .ok (.aload_n 0, 1) := by decide +kernel
theorem dL_hands_687 : decode cL_hands 687 = .ok (.iload 15, 2) := by decide +kernel
theorem dL_hands_689 : decode cL_hands 689 = .ok (.iconst 0, 1) := by decide +kernel
theorem dL_hands_690 : decode cL_hands 690 = .ok (.invokestatic 142, 3) := by decide +kernel
theorem dL_hands_693 : decode cL_hands 693 = .ok (.istore 16, 2) := by decide +kernel
theorem dL_hands_695 : decode cL_hands 695 = .ok (.iload 15, 2) := by decide +kernel
theorem dL_hands_697 : decode cL_hands 697 = .ok (.iconst 1, 1) := by decide +kernel
theorem dL_hands_698 : decode cL_hands 698 = .ok (.iadd, 1) := by decide +kernel
theorem dL_hands_699 : decode cL_hands 699 = .ok (.iload_n 3, 1) := by decide +kernel
theorem dL_hands_700 : decode cL_hands 700 = .ok (.if_icmp .ge 15, 3) := by decide +kernel
theorem dL_hands_703 : decode cL_hands 703 = .ok (.aload_n 0, 1) := by decide +kernel
theorem dL_hands_704 : decode cL_hands 704 = .ok (.iload 15, 2) := by decide +kernel
theorem dL_hands_706 : decode cL_hands 706 = .ok (.iconst 1, 1) := by decide +kernel
theorem dL_hands_707 : decode cL_hands 707 = .ok (.iadd, 1) := by decide +kernel
theorem dL_hands_708 : decode cL_hands 708 = .ok (.iconst 4, 1) := by decide +kernel
theorem dL_hands_709 : decode cL_hands 709 = .ok (.invokestatic 142, 3) := by decide +kernel
theorem dL_hands_712 : decode cL_hands 712 = .ok (.goto 4, 3) := by decide +kernel
theorem dL_hands_715 : decode cL_hands 715 = .ok (.iconst 0, 1) := by decide +kernel
theorem dL_hands_716 : decode cL_hands 716 = .ok (.istore 17, 2) := by decide +kernel
theorem dL_hands_718 : decode cL_hands 718 = .ok (.aload_n 0, 1) := by decide +kernel
theorem dL_hands_719 : decode cL_hands 719 = .ok (.iload 15, 2) := by decide +kernel
theorem dL_hands_721 : decode cL_hands 721 = .ok (.invokestatic 159, 3) := by decide +kernel
theorem dL_hands_724 : decode cL_hands 724 = .ok (.iload 16, 2) := by decide +kernel
theorem dL_hands_726 : decode cL_hands 726 = .ok (.if_icmp .ne 55, 3) := by decide +kernel
theorem dL_hands_729 : decode cL_hands 729 = .ok (.aload_n 0, 1) := by decide +kernel
theorem dL_hands_730 : decode cL_hands 730 = .ok (.bipush 16, 2) := by decide +kernel
theorem dL_hands_732 : decode cL_hands 732 = .ok (.invokestatic 127, 3) := by decide +kernel
theorem dL_hands_735 : decode cL_hands 735 = .ok (.iload_n 3, 1) := by decide +kernel
theorem dL_hands_736 : decode cL_hands 736 = .ok (.iconst 1, 1) := by decide +kernel
theorem dL_hands_737 : decode cL_hands 737 = .ok (.isub, 1) := by decide +kernel
theorem dL_hands_738 : decode cL_hands 738 = .ok (.if_icmp .ne 43, 3) := by decide +kernel
theorem dL_hands_741 : decode cL_hands 741 = .ok (.iload 15, 2) := by decide +kernel
theorem dL_hands_743 : decode cL_hands 743 = .ok (.iconst 1, 1) := by decide +kernel
theorem dL_hands_744 : decode cL_hands 744 = .ok (.iadd, 1) := by decide +kernel
theorem dL_hands_745 : decode cL_hands 745 = .ok (.iload_n 3, 1) := by decide +kernel
theorem dL_hands_746 : decode cL_hands 746 = .ok (.if_icmp .eq 15, 3) := by decide +kernel
theorem dL_hands_749 : decode cL_hands 749 = .ok (.aload_n 0, 1) := by decide +kernel
theorem dL_hands_750 : decode cL_hands 750 = .ok (.iload 15, 2) := by decide +kernel
theorem dL_hands_752 : decode cL_hands 752 = .ok (.iconst 4, 1) := by decide +kernel
theorem dL_hands_753 : decode cL_hands 753 = .ok (.invokestatic 142, 3) := by decide +kernel
theorem dL_hands_756 : decode cL_hands 756 = .ok (.iload 17, 2) := by decide +kernel
theorem dL_hands_758 : decode cL_hands 758 = .ok (.if_icmp .ne 23, 3) := by decide +kernel
theorem dL_hands_761 : decode cL_hands 761 = .ok (.aload_n 0, 1) := by decide +kernel
theorem dL_hands_762 : decode cL_hands 762 = .ok (.invokestatic 202, 3) := by decide +kernel
theorem dL_hands_765 : decode cL_hands 765 = .ok (.ifCond .eq 16, 3) := by decide +kernel
theorem dL_hands_768 : decode cL_hands 768 = .ok (.aload_n 0, 1) := by decide +kernel
theorem dL_hands_769 : decode cL_hands 769 = .ok (.iconst 0, 1) := by decide +kernel
theorem dL_hands_770 : decode cL_hands 770 = .ok (.invokestatic 133, 3) := by decide +kernel
theorem dL_hands_773 : decode cL_hands 773 = .ok (.iload_n 2, 1) := by decide +kernel
theorem dL_hands_774 : decode cL_hands 774 = .ok (.if_icmp .ne 7, 3) := by decide +kernel
theorem dL_hands_777 : decode cL_hands 777 = .ok (.iconst 1, 1) := by decide +kernel
theorem dL_hands_778 : decode cL_hands 778 = .ok (.goto 4, 3) := by decide +kernel
theorem dL_hands_781 : decode cL_hands 781 = .ok (.iconst 0, 1) := by decide +kernel
theorem dL_hands_782 : decode cL_hands 782 = .ok (.istore 9, 2) := by decide +kernel
theorem dL_hands_784 : decode cL_hands 784 = .ok (.iconst 1, 1) := by decide +kernel
theorem dL_hands_785 : decode cL_hands 785 = .ok (.iload_n 1, 1) := by decide +kernel
theorem dL_hands_786 : decode cL_hands 786 = .ok (.bipush 8, 2) := by decide +kernel
theorem dL_hands_788 : decode cL_hands 788 = .ok (.idiv, 1) := by decide +kernel
theorem dL_hands_789 : decode cL_hands 789 = .ok (.bipush 20, 2) := by decide +kernel
theorem dL_hands_791 : decode cL_hands 791 = .ok (.irem, 1) := by decide +kernel
theorem dL_hands_792 : decode cL_hands 792 = .ok (.iadd, 1) := by decide +kernel
theorem dL_hands_793 : decode cL_hands 793 = .ok (.istore 15, 2) := by decide +kernel
theorem dL_hands_795 : decode cL_hands 795 = .ok (.aload_n 0, 1) := by decide +kernel
theorem dL_hands_796 : decode cL_hands 796 = .ok (.iload 15, 2) := by decide +kernel
theorem dL_hands_798 : decode cL_hands 798 = .ok (.invokestatic 170, 3) := by decide +kernel
theorem dL_hands_801 : decode cL_hands 801 = .ok (.istore 16, 2) := by decide +kernel
theorem dL_hands_803 : decode cL_hands 803 = .ok (.iload 9, 2) := by decide +kernel
theorem dL_hands_805 : decode cL_hands 805 = .ok (.ifCond .eq 105, 3) := by decide +kernel
theorem dL_hands_808 : decode cL_hands 808 = .ok (.iload 16, 2) := by decide +kernel
theorem dL_hands_810 : decode cL_hands 810 = .ok (.ldc 119, 2) := by decide +kernel
theorem dL_hands_812 : decode cL_hands 812 = .ok (.if_icmp .ne 25, 3) := by decide +kernel
theorem dL_hands_815 : decode cL_hands 815 = .ok (.aload_n 0, 1) := by decide +kernel
theorem dL_hands_816 : decode cL_hands 816 = .ok (.bipush 7, 2) := by decide +kernel
theorem dL_hands_818 : decode cL_hands 818 = .ok (.bipush 99, 2) := by decide +kernel
theorem dL_hands_820 : decode cL_hands 820 = .ok (.invokestatic 153, 3) := by decide +kernel
theorem dL_hands_823 : decode cL_hands 823 = .ok (.ifCond .lt 87, 3) := by decide +kernel
theorem dL_hands_826 : decode cL_hands 826 = .ok (.aload_n 0, 1) := by decide +kernel
theorem dL_hands_827 : decode cL_hands 827 = .ok (.bipush 17, 2) := by decide +kernel
theorem dL_hands_829 : decode cL_hands 829 = .ok (.invokestatic 127, 3) := by decide +kernel
theorem dL_hands_832 : decode cL_hands 832 = .ok (.iload 15, 2) := by decide +kernel
theorem dL_hands_834 : decode cL_hands 834 = .ok (.if_icmp .ge 76, 3) := by decide +kernel
theorem dL_hands_837 : decode cL_hands 837 = .ok (.iload 16, 2) := by decide +kernel
theorem dL_hands_839 : decode cL_hands 839 = .ok (.ldc 119, 2) := by decide +kernel
theorem dL_hands_841 : decode cL_hands 841 = .ok (.if_icmp .eq 56, 3) := by decide +kernel
theorem dL_hands_844 : decode cL_hands 844 = .ok (.aload_n 0, 1) := by decide +kernel
theorem dL_hands_845 : decode cL_hands 845 = .ok (.bipush 7, 2) := by decide +kernel
theorem dL_hands_847 : decode cL_hands 847 = .ok (.iload 16, 2) := by decide +kernel
theorem dL_hands_849 : decode cL_hands 849 = .ok (.invokestatic 153, 3) := by decide +kernel
theorem dL_hands_852 : decode cL_hands 852 = .ok (.ifCond .lt 58, 3) := by decide +kernel
theorem dL_hands_855 : decode cL_hands 855 = .ok (.aload_n 0, 1) := by decide +kernel
theorem dL_hands_856 : decode cL_hands 856 = .ok (.bipush 17, 2) := by decide +kernel
theorem dL_hands_858 : decode cL_hands 858 = .ok (.invokestatic 127, 3) := by decide +kernel
theorem dL_hands_861 : decode cL_hands 861 = .ok (.iload 15, 2) := by decide +kernel
theorem dL_hands_863 : decode cL_hands 863 = .ok (.if_icmp .lt 47, 3) := by decide +kernel
theorem dL_hands_866 : decode cL_hands 866 = .ok (.iload 16, 2) := by decide +kernel
theorem dL_hands_868 : decode cL_hands 868 = .ok (.ifCond .eq 29, 3) := by decide +kernel
theorem dL_hands_871 : decode cL_hands 871 = .ok (.aload_n 0, 1) := by decide +kernel
theorem dL_hands_872 : decode cL_hands 872 = .ok (.bipush 7, 2) := by decide +kernel
theorem dL_hands_874 : decode cL_hands 874 = .ok (.iload 16, 2) := by decide +kernel
theorem dL_hands_876 : decode cL_hands 876 = .ok (.iconst 1, 1) := by decide +kernel
theorem dL_hands_877 : decode cL_hands 877 = .ok (.isub, 1) := by decide +kernel
theorem dL_hands_878 : decode cL_hands 878 = .ok (.invokestatic 153, 3) := by decide +kernel
theorem dL_hands_881 : decode cL_hands 881 = .ok (.iload 16, 2) := by decide +kernel
theorem dL_hands_883 : decode cL_hands 883 = .ok (.if_icmp .ne 27, 3) := by decide +kernel
theorem dL_hands_886 : decode cL_hands 886 = .ok (.aload_n 0, 1) := by decide +kernel
theorem dL_hands_887 : decode cL_hands 887 = .ok (.bipush 17, 2) := by decide +kernel
theorem dL_hands_889 : decode cL_hands 889 = .ok (.invokestatic 127, 3) := by decide +kernel
theorem dL_hands_892 : decode cL_hands 892 = .ok (.iload 15, 2) := by decide +kernel
theorem dL_hands_894 : decode cL_hands 894 = .ok (.if_icmp .ge 16, 3) := by decide +kernel
theorem dL_hands_897 : decode cL_hands 897 = .ok (.aload_n 0, 1) := by decide +kernel
theorem dL_hands_898 : decode cL_hands 898 = .ok (.iconst 0, 1) := by decide +kernel
theorem dL_hands_899 : decode cL_hands 899 = .ok (.invokestatic 133, 3) := by decide +kernel
theorem dL_hands_902 : decode cL_hands 902 = .ok (.iload_n 2, 1) := by decide +kernel
theorem dL_hands_903 : decode cL_hands 903 = .ok (.if_icmp .ne 7, 3) := by decide +kernel
theorem dL_hands_906 : decode cL_hands 906 = .ok (.iconst 1, 1) := by decide +kernel
theorem dL_hands_907 : decode cL_hands 907 = .ok (.goto 4, 3) := by decide +kernel
theorem dL_hands_910 : decode cL_hands 910 = .ok (.iconst 0, 1) := by decide +kernel
theorem dL_hands_911 : decode cL_hands 911 = .ok (.istore 9, 2) := by decide +kernel
theorem dL_hands_913 : decode cL_hands 913 = .ok (.iload_n 1, 1) := by decide +kernel
theorem dL_hands_914 : decode cL_hands 914 = .ok (.bipush 16, 2) := by decide +kernel
theorem dL_hands_916 : decode cL_hands 916 = .ok (.idiv, 1) := by decide +kernel
theorem dL_hands_917 : decode cL_hands 917 = .ok (.bipush 100, 2) := by decide +kernel
theorem dL_hands_919 : decode cL_hands 919 = .ok (.irem, 1) := by decide +kernel
theorem dL_hands_920 : decode cL_hands 920 = .ok (.istore 17, 2) := by decide +kernel
theorem dL_hands_922 : decode cL_hands 922 = .ok (.aload_n 0, 1) := by decide +kernel
theorem dL_hands_923 : decode cL_hands 923 = .ok (.iload 17, 2) := by decide +kernel
theorem dL_hands_925 : decode cL_hands 925 = .ok (.invokestatic 183, 3) := by decide +kernel
theorem dL_hands_928 : decode cL_hands 928 = .ok (.istore 18, 2) := by decide +kernel
theorem dL_hands_930 : decode cL_hands 930 = .ok (.aload_n 0, 1) := by decide +kernel
theorem dL_hands_931 : decode cL_hands 931 = .ok (.iconst 5, 1) := by decide +kernel
theorem dL_hands_932 : decode cL_hands 932 = .ok (.invokestatic 127, 3) := by decide +kernel
theorem dL_hands_935 : decode cL_hands 935 = .ok (.istore 19, 2) := by decide +kernel
theorem dL_hands_937 : decode cL_hands 937 = .ok (.iload 9, 2) := by decide +kernel
theorem dL_hands_939 : decode cL_hands 939 = .ok (.ifCond .eq 87, 3) := by decide +kernel
theorem dL_hands_942 : decode cL_hands 942 = .ok (.iload 18, 2) := by decide +kernel
theorem dL_hands_944 : decode cL_hands 944 = .ok (.sipush 201, 3) := by decide +kernel
theorem dL_hands_947 : decode cL_hands 947 = .ok (.if_icmp .eq 79, 3) := by decide +kernel
theorem dL_hands_950 : decode cL_hands 950 = .ok (.iload 18, 2) := by decide +kernel
theorem dL_hands_952 : decode cL_hands 952 = .ok (.ldc 119, 2) := by decide +kernel
theorem dL_hands_954 : decode cL_hands 954 = .ok (.if_icmp .ne 25, 3) := by decide +kernel
theorem dL_hands_957 : decode cL_hands 957 = .ok (.aload_n 0, 1) := by decide +kernel
theorem dL_hands_958 : decode cL_hands 958 = .ok (.sipush 200, 3) := by decide +kernel
theorem dL_hands_961 : decode cL_hands 961 = .ok (.iconst 0, 1) := by decide +kernel
theorem dL_hands_962 : decode cL_hands 962 = .ok (.invokestatic 173, 3) := by decide +kernel
theorem dL_hands_965 : decode cL_hands 965 = .ok (.iload 19, 2) := by decide +kernel
theorem dL_hands_967 : decode cL_hands 967 = .ok (.isub, 1) := by decide +kernel
theorem dL_hands_968 : decode cL_hands 968 = .ok (.invokestatic 120, 3) := by decide +kernel
theorem dL_hands_971 : decode cL_hands 971 = .ok (.iload 17, 2) := by decide +kernel
theorem dL_hands_973 : decode cL_hands 973 = .ok (.if_icmp .le 53, 3) := by decide +kernel
theorem dL_hands_976 : decode cL_hands 976 = .ok (.goto 46, 3) := by decide +kernel
theorem dL_hands_979 : decode cL_hands 979 = .ok (.aload_n 0, 1) := by decide +kernel
theorem dL_hands_980 : decode cL_hands 980 = .ok (.iload 18, 2) := by decide +kernel
theorem dL_hands_982 : decode cL_hands 982 = .ok (.iconst 0, 1) := by decide +kernel
theorem dL_hands_983 : decode cL_hands 983 = .ok (.invokestatic 173, 3) := by decide +kernel
theorem dL_hands_986 : decode cL_hands 986 = .ok (.iload 19, 2) := by decide +kernel
theorem dL_hands_988 : decode cL_hands 988 = .ok (.isub, 1) := by decide +kernel
theorem dL_hands_989 : decode cL_hands 989 = .ok (.invokestatic 120, 3) := by decide +kernel
theorem dL_hands_992 : decode cL_hands 992 = .ok (.iload 17, 2) := by decide +kernel
theorem dL_hands_994 : decode cL_hands 994 = .ok (.if_icmp .gt 32, 3) := by decide +kernel
theorem dL_hands_997 : decode cL_hands 997 = .ok (.iload 18, 2) := by decide +kernel
theorem dL_hands_999 : decode cL_hands 999 = .ok (.ifCond .eq 23, 3) := by decide +kernel
theorem dL_hands_1002 : decode cL_hands 1002 = .ok (.aload_n 0, 1) := by decide +kernel
theorem dL_hands_1003 : decode cL_hands 1003 = .ok (.iload 18, 2) := by decide +kernel
theorem dL_hands_1005 : decode cL_hands 1005 = .ok (.iconst 1, 1) := by decide +kernel
theorem dL_hands_1006 : decode cL_hands 1006 = .ok (.isub, 1) := by decide +kernel
theorem dL_hands_1007 : decode cL_hands 1007 = .ok (.iconst 0, 1) := by decide +kernel
theorem dL_hands_1008 : decode cL_hands 1008 = .ok (.invokestatic 173, 3) := by decide +kernel
theorem dL_hands_1011 : decode cL_hands 1011 = .ok (.iload 19, 2) := by decide +kernel
theorem dL_hands_1013 : decode cL_hands 1013 = .ok (.isub, 1) := by decide +kernel
theorem dL_hands_1014 : decode cL_hands 1014 = .ok (.invokestatic 120, 3) := by decide +kernel
theorem dL_hands_1017 : decode cL_hands 1017 = .ok (.iload 17, 2) := by decide +kernel
theorem dL_hands_1019 : decode cL_hands 1019 = .ok (.if_icmp .le 7, 3) := by decide +kernel
theorem dL_hands_1022 : decode cL_hands 1022 = .ok (.iconst 1, 1) := by decide +kernel
theorem dL_hands_1023 : decode cL_hands 1023 = .ok (.goto 4, 3) := by decide +kernel
theorem dL_hands_1026 : decode cL_hands 1026 = .ok (.iconst 0, 1) := by decide +kernel
theorem dL_hands_1027 : decode cL_hands 1027 = .ok (.istore 9, 2) := by decide +kernel
theorem dL_hands_1029 : decode cL_hands 1029 = .ok (.iload_n 1, 1) := by decide +kernel
theorem dL_hands_1030 : decode cL_hands 1030 = .ok (.bipush 32, 2) := by decide +kernel
theorem dL_hands_1032 : decode cL_hands 1032 = .ok (.idiv, 1) := by decide +kernel
theorem dL_hands_1033 : decode cL_hands 1033 = .ok (.sipush 201, 3) := by decide +kernel
theorem dL_hands_1036 : decode cL_hands 1036 = .ok (.irem, 1) := by decide +kernel
theorem dL_hands_1037 : decode cL_hands 1037 = .ok (.bipush 100, 2) := by decide +kernel
theorem dL_hands_1039 : decode cL_hands 1039 = .ok (.isub, 1) := by decide +kernel
theorem dL_hands_1040 : decode cL_hands 1040 = .ok (.istore 20, 2) := by decide +kernel
theorem dL_hands_1042 : decode cL_hands 1042 = .ok (.aload_n 0, 1) := by decide +kernel
theorem dL_hands_1043 : decode cL_hands 1043 = .ok (.bipush 12, 2) := by decide +kernel
theorem dL_hands_1045 : decode cL_hands 1045 = .ok (.invokestatic 127, 3) := by decide +kernel
theorem dL_hands_1048 : decode cL_hands 1048 = .ok (.istore 21, 2) := by decide +kernel
theorem dL_hands_1050 : decode cL_hands 1050 = .ok (.aload_n 0, 1) := by decide +kernel
theorem dL_hands_1051 : decode cL_hands 1051 = .ok (.bipush 6, 2) := by decide +kernel
theorem dL_hands_1053 : decode cL_hands 1053 = .ok (.invokestatic 139, 3) := by decide +kernel
theorem dL_hands_1056 : decode cL_hands 1056 = .ok (.istore 22, 2) := by decide +kernel
theorem dL_hands_1058 : decode cL_hands 1058 = .ok (.iload 9, 2) := by decide +kernel
theorem dL_hands_1060 : decode cL_hands 1060 = .ok (.ifCond .eq 53, 3) := by decide +kernel
theorem dL_hands_1063 : decode cL_hands 1063 = .ok (.aload_n 0, 1) := by decide +kernel
theorem dL_hands_1064 : decode cL_hands 1064 = .ok (.iload 20, 2) := by decide +kernel
theorem dL_hands_1066 : decode cL_hands 1066 = .ok (.invokestatic 156, 3) := by decide +kernel
theorem dL_hands_1069 : decode cL_hands 1069 = .ok (.iload 21, 2) := by decide +kernel
theorem dL_hands_1071 : decode cL_hands 1071 = .ok (.iload 20, 2) := by decide +kernel
theorem dL_hands_1073 : decode cL_hands 1073 = .ok (.iadd, 1) := by decide +kernel
theorem dL_hands_1074 : decode cL_hands 1074 = .ok (.if_icmp .ne 39, 3) := by decide +kernel
theorem dL_hands_1077 : decode cL_hands 1077 = .ok (.aload_n 0, 1) := by decide +kernel
theorem dL_hands_1078 : decode cL_hands 1078 = .ok (.bipush 6, 2) := by decide +kernel
theorem dL_hands_1080 : decode cL_hands 1080 = .ok (.invokestatic 139, 3) := by decide +kernel
theorem dL_hands_1083 : decode cL_hands 1083 = .ok (.iload 22, 2) := by decide +kernel
theorem dL_hands_1085 : decode cL_hands 1085 = .ok (.iconst 1, 1) := by decide +kernel
theorem dL_hands_1086 : decode cL_hands 1086 = .ok (.iadd, 1) := by decide +kernel
theorem dL_hands_1087 : decode cL_hands 1087 = .ok (.if_icmp .ne 26, 3) := by decide +kernel
theorem dL_hands_1090 : decode cL_hands 1090 = .ok (.aload_n 0, 1) := by decide +kernel
theorem dL_hands_1091 : decode cL_hands 1091 = .ok (.bipush 13, 2) := by decide +kernel
theorem dL_hands_1093 : decode cL_hands 1093 = .ok (.invokestatic 127, 3) := by decide +kernel
theorem dL_hands_1096 : decode cL_hands 1096 = .ok (.iload_n 2, 1) := by decide +kernel
theorem dL_hands_1097 : decode cL_hands 1097 = .ok (.if_icmp .ne 16, 3) := by decide +kernel
theorem dL_hands_1100 : decode cL_hands 1100 = .ok (.aload_n 0, 1) := by decide +kernel
theorem dL_hands_1101 : decode cL_hands 1101 = .ok (.iconst 0, 1) := by decide +kernel
theorem dL_hands_1102 : decode cL_hands 1102 = .ok (.invokestatic 133, 3) := by decide +kernel
theorem dL_hands_1105 : decode cL_hands 1105 = .ok (.iload_n 2, 1) := by decide +kernel
theorem dL_hands_1106 : decode cL_hands 1106 = .ok (.if_icmp .ne 7, 3) := by decide +kernel
theorem dL_hands_1109 : decode cL_hands 1109 = .ok (.iconst 1, 1) := by decide +kernel
theorem dL_hands_1110 : decode cL_hands 1110 = .ok (.goto 4, 3) := by decide +kernel
theorem dL_hands_1113 : decode cL_hands 1113 = .ok (.iconst 0, 1) := by decide +kernel
theorem dL_hands_1114 : decode cL_hands 1114 = .ok (.istore 9, 2) := by decide +kernel
theorem dL_hands_1116 : decode cL_hands 1116 = .ok (.iload 9, 2) := by decide +kernel
theorem dL_hands_1118 : decode cL_hands 1118 = .ok (.ifCond .eq 32, 3) := by decide +kernel
theorem dL_hands_1121 : decode cL_hands 1121 = .ok (.aload_n 0, 1) := by decide +kernel
theorem dL_hands_1122 : decode cL_hands 1122 = .ok (.invokestatic 209, 3) := by decide +kernel
theorem dL_hands_1125 : decode cL_hands 1125 = .ok (.ifCond .eq 25, 3) := by decide +kernel
theorem dL_hands_1128 : decode cL_hands 1128 = .ok (.aload_n 0, 1) := by decide +kernel
theorem dL_hands_1129 : decode cL_hands 1129 = .ok (.iconst 0, 1) := by decide +kernel
theorem dL_hands_1130 : decode cL_hands 1130 = .ok (.invokestatic 133, 3) := by decide +kernel
theorem dL_hands_1133 : decode cL_hands 1133 = .ok (.iload_n 2, 1) := by decide +kernel
theorem dL_hands_1134 : decode cL_hands 1134 = .ok (.if_icmp .ne 16, 3) := by decide +kernel
theorem dL_hands_1137 : decode cL_hands 1137 = .ok (.aload_n 0, 1) := by decide +kernel
theorem dL_hands_1138 : decode cL_hands 1138 = .ok (.invokestatic 130, 3) := by decide +kernel
theorem dL_hands_1141 : decode cL_hands 1141 = .ok (.ldc 18, 2) := by decide +kernel
theorem dL_hands_1143 : decode cL_hands 1143 = .ok (.if_icmp .ne 7, 3) := by decide +kernel
theorem dL_hands_1146 : decode cL_hands 1146 = .ok (.iconst 1, 1) := by decide +kernel
theorem dL_hands_1147 : decode cL_hands 1147 = .ok (.goto 4, 3) := by decide +kernel
theorem dL_hands_1150 : decode cL_hands 1150 = .ok (.iconst 0, 1) := by decide +kernel
theorem dL_hands_1151 : decode cL_hands 1151 = .ok (.ireturn, 1) := by decide +kernel
theorem dL_scripts_0 : decode cL_scripts 0 = .ok (.aload_n 0, 1) := by decide +kernel
theorem dL_scripts_1 : decode cL_scripts 1 = .ok (.bipush 12, 2) := by decide +kernel
theorem dL_scripts_3 : decode cL_scripts 3 = .ok (.invokestatic 127, 3) := by decide +kernel
theorem dL_scripts_6 : decode cL_scripts 6 = .ok (.istore_n 2, 1) := by decide +kernel
theorem dL_scripts_7 : decode cL_scripts 7 = .ok (.aload_n 0, 1) := by decide +kernel
theorem dL_scripts_8 : decode cL_scripts 8 = .ok (.bipush 17, 2) := by decide +kernel
theorem dL_scripts_10 : decode cL_scripts 10 = .ok (.invokestatic 127, 3) := by decide +kernel
theorem dL_scripts_13 : decode cL_scripts 13 = .ok (.istore_n 3, 1) := by decide +kernel
theorem dL_scripts_14 : decode cL_scripts 14 = .ok (.aload_n 0, 1) := by decide +kernel
theorem dL_scripts_15 : decode cL_scripts 15 = .ok (.bipush 18, 2) := by decide +kernel
theorem dL_scripts_17 : decode cL_scripts 17 = .ok (.invokestatic 127, 3) := by decide +kernel
theorem dL_scripts_20 : decode cL_scripts 20 = .ok (.istore 4, 2) := by decide +kernel
theorem dL_scripts_22 : decode cL_scripts 22 = .ok (.aload_n 0, 1) := by decide +kernel
theorem dL_scripts_23 : decode cL_scripts 23 = .ok (.iload_n 1, 1) := by decide +kernel
theorem dL_scripts_24 : decode cL_scripts 24 = .ok (.i2l, 1) := by decide +kernel
theorem dL_scripts_25 : decode cL_scripts 25 = .ok (.ldc2_w 212, 3) := by decide +kernel
theorem dL_scripts_28 : decode cL_scripts 28 = .ok (.lmul, 1) := by decide +kernel
theorem dL_scripts_29 : decode cL_scripts 29 = .ok (.bipush 15, 2) := by decide +kernel
theorem dL_scripts_31 : decode cL_scripts 31 = .ok (.invokestatic 192, 3) := by decide +kernel
theorem dL_scripts_34 : decode cL_scripts 34 = .ok (.istore 5, 2) := by decide +kernel
theorem dL_scripts_36 : decode cL_scripts 36 = .ok (.aload_n 0, 1) := by decide +kernel
theorem dL_scripts_37 : decode cL_scripts 37 = .ok (.iconst 1, 1) := by decide +kernel
theorem dL_scripts_38 : decode cL_scripts 38 = .ok (.ldc2_w 214, 3) := by decide +kernel
theorem dL_scripts_41 : decode cL_scripts 41 = .ok (.invokestatic 186, 3) := by decide +kernel
theorem dL_scripts_44 : decode cL_scripts 44 = .ok (.ifCond .ne 226, 3) := by decide +kernel
theorem dL_scripts_47 : decode cL_scripts 47 = .ok (.aload_n 0, 1) := by decide +kernel
theorem dL_scripts_48 : decode cL_scripts 48 = .ok (.iconst 1, 1) := by decide +kernel
theorem dL_scripts_49 : decode cL_scripts 49 = .ok (.ldc2_w 216, 3) := by decide +kernel
theorem dL_scripts_52 : decode cL_scripts 52 = .ok (.invokestatic 186, 3) := by decide +kernel
theorem dL_scripts_55 : decode cL_scripts 55 = .ok (.ldc 119, 2) := by decide +kernel
theorem dL_scripts_57 : decode cL_scripts 57 = .ok (.if_icmp .ne 213, 3) := by decide +kernel
theorem dL_scripts_60 : decode cL_scripts 60 = .ok (.aload_n 0, 1) := by decide +kernel
theorem dL_scripts_61 : decode cL_scripts 61 = .ok (.iconst 1, 1) := by decide +kernel
theorem dL_scripts_62 : decode cL_scripts 62 = .ok (.ldc2_w 218, 3) := by decide +kernel
theorem dL_scripts_65 : decode cL_scripts 65 = .ok (.invokestatic 186, 3) := by decide +kernel
theorem dL_scripts_68 : decode cL_scripts 68 = .ok (.ifCond .ne 202, 3) := by decide +kernel
theorem dL_scripts_71 : decode cL_scripts 71 = .ok (.aload_n 0, 1) := by decide +kernel
theorem dL_scripts_72 : decode cL_scripts 72 = .ok (.iconst 1, 1) := by decide +kernel
theorem dL_scripts_73 : decode cL_scripts 73 = .ok (.ldc2_w 220, 3) := by decide +kernel
theorem dL_scripts_76 : decode cL_scripts 76 = .ok (.invokestatic 186, 3) := by decide +kernel
theorem dL_scripts_79 : decode cL_scripts 79 = .ok (.ifCond .ne 191, 3) := by decide +kernel
theorem dL_scripts_82 : decode cL_scripts 82 = .ok (.aload_n 0, 1) := by decide +kernel
theorem dL_scripts_83 : decode cL_scripts 83 = .ok (.iconst 1, 1) := by decide +kernel
theorem dL_scripts_84 : decode cL_scripts 84 = .ok (.ldc2_w 222, 3) := by decide +kernel
theorem dL_scripts_87 : decode cL_scripts 87 = .ok (.invokestatic 186, 3) := by decide +kernel
theorem dL_scripts_90 : decode cL_scripts 90 = .ok (.ldc 119, 2) := by decide +kernel
theorem dL_scripts_92 : decode cL_scripts 92 = .ok (.if_icmp .ne 178, 3) := by decide +kernel
theorem dL_scripts_95 : decode cL_scripts 95 = .ok (.aload_n 0, 1) := by decide +kernel
theorem dL_scripts_96 : decode cL_scripts 96 = .ok (.iconst 1, 1) := by decide +kernel
theorem dL_scripts_97 : decode cL_scripts 97 = .ok (.ldc2_w 224, 3) := by decide +kernel
theorem dL_scripts_100 : decode cL_scripts 100 = .ok (.invokestatic 186, 3) := by decide +kernel
theorem dL_scripts_103 : decode cL_scripts 103 = .ok (.ifCond .ne 167, 3) := by decide +kernel
theorem dL_scripts_106 : decode cL_scripts 106 = .ok (.aload_n 0, 1) := by decide +kernel
theorem dL_scripts_107 : decode cL_scripts 107 = .ok (.iconst 1, 1) := by decide +kernel
theorem dL_scripts_108 : decode cL_scripts 108 = .ok (.ldc2_w 226, 3) := by decide +kernel
theorem dL_scripts_111 : decode cL_scripts 111 = .ok (.invokestatic 186, 3) := by decide +kernel
theorem dL_scripts_114 : decode cL_scripts 114 = .ok (.ldc 119, 2) := by decide +kernel
theorem dL_scripts_116 : decode cL_scripts 116 = .ok (.if_icmp .ne 154, 3) := by decide +kernel
theorem dL_scripts_119 : decode cL_scripts 119 = .ok (.aload_n 0, 1) := by decide +kernel
theorem dL_scripts_120 : decode cL_scripts 120 = .ok (.iconst 1, 1) := by decide +kernel
theorem dL_scripts_121 : decode cL_scripts 121 = .ok (.ldc2_w 228, 3) := by decide +kernel
theorem dL_scripts_124 : decode cL_scripts 124 = .ok (.invokestatic 186, 3) := by decide +kernel
theorem dL_scripts_127 : decode cL_scripts 127 = .ok (.ifCond .ne 143, 3) := by decide +kernel
theorem dL_scripts_130 : decode cL_scripts 130 = .ok (.aload_n 0, 1) := by decide +kernel
theorem dL_scripts_131 : decode cL_scripts 131 = .ok (.iconst 1, 1) := by decide +kernel
theorem dL_scripts_132 : decode cL_scripts 132 = .ok (.ldc2_w 230, 3) := by decide +kernel
theorem dL_scripts_135 : decode cL_scripts 135 = .ok (.invokestatic 186, 3) := by decide +kernel
theorem dL_scripts_138 : decode cL_scripts 138 = .ok (.ifCond .ne 132, 3) := by decide +kernel
theorem dL_scripts_141 : decode cL_scripts 141 = .ok (.aload_n 0, 1) := by decide +kernel
theorem dL_scripts_142 : decode cL_scripts 142 = .ok (.iconst 1, 1) := by decide +kernel
theorem dL_scripts_143 : decode cL_scripts 143 = .ok (.ldc2_w 232, 3) := by decide +kernel
theorem dL_scripts_146 : decode cL_scripts 146 = .ok (.invokestatic 186, 3) := by decide +kernel
theorem dL_scripts_149 : decode cL_scripts 149 = .ok (.ldc 119, 2) := by decide +kernel
theorem dL_scripts_151 : decode cL_scripts 151 = .ok (.if_icmp .ne 119, 3) := by decide +kernel
theorem dL_scripts_154 : decode cL_scripts 154 = .ok (.aload_n 0, 1) := by decide +kernel
theorem dL_scripts_155 : decode cL_scripts 155 = .ok (.iconst 1, 1) := by decide +kernel
theorem dL_scripts_156 : decode cL_scripts 156 = .ok (.ldc2_w 234, 3) := by decide +kernel
theorem dL_scripts_159 : decode cL_scripts 159 = .ok (.invokestatic 186, 3) := by decide +kernel
theorem dL_scripts_162 : decode cL_scripts 162 = .ok (.ifCond .ne 108, 3) := by decide +kernel
theorem dL_scripts_165 : decode cL_scripts 165 = .ok (.aload_n 0, 1) := by decide +kernel
theorem dL_scripts_166 : decode cL_scripts 166 = .ok (.iconst 1, 1) := by decide +kernel
theorem dL_scripts_167 : decode cL_scripts 167 = .ok (.ldc2_w 236, 3) := by decide +kernel
theorem dL_scripts_170 : decode cL_scripts 170 = .ok (.invokestatic 186, 3) := by decide +kernel
theorem dL_scripts_173 : decode cL_scripts 173 = .ok (.ifCond .ne 97, 3) := by decide +kernel
theorem dL_scripts_176 : decode cL_scripts 176 = .ok (.aload_n 0, 1) := by decide +kernel
theorem dL_scripts_177 : decode cL_scripts 177 = .ok (.iconst 1, 1) := by decide +kernel
theorem dL_scripts_178 : decode cL_scripts 178 = .ok (.ldc2_w 238, 3) := by decide +kernel
theorem dL_scripts_181 : decode cL_scripts 181 = .ok (.invokestatic 186, 3) := by decide +kernel
theorem dL_scripts_184 : decode cL_scripts 184 = .ok (.ldc 119, 2) := by decide +kernel
theorem dL_scripts_186 : decode cL_scripts 186 = .ok (.if_icmp .ne 84, 3) := by decide +kernel
theorem dL_scripts_189 : decode cL_scripts 189 = .ok (.aload_n 0, 1) := by decide +kernel
theorem dL_scripts_190 : decode cL_scripts 190 = .ok (.iconst 1, 1) := by decide +kernel
theorem dL_scripts_191 : decode cL_scripts 191 = .ok (.ldc2_w 240, 3) := by decide +kernel
theorem dL_scripts_194 : decode cL_scripts 194 = .ok (.invokestatic 186, 3) := by decide +kernel
theorem dL_scripts_197 : decode cL_scripts 197 = .ok (.ifCond .ne 73, 3) := by decide +kernel
theorem dL_scripts_200 : decode cL_scripts 200 = .ok (.aload_n 0, 1) := by decide +kernel
theorem dL_scripts_201 : decode cL_scripts 201 = .ok (.iconst 1, 1) := by decide +kernel
theorem dL_scripts_202 : decode cL_scripts 202 = .ok (.ldc2_w 242, 3) := by decide +kernel
theorem dL_scripts_205 : decode cL_scripts 205 = .ok (.iload_n 1, 1) := by decide +kernel
theorem dL_scripts_206 : decode cL_scripts 206 = .ok (.iconst 4, 1) := by decide +kernel
theorem dL_scripts_207 : decode cL_scripts 207 = .ok (.irem, 1) := by decide +kernel
theorem dL_scripts_208 : decode cL_scripts 208 = .ok (.i2l, 1) := by decide +kernel
theorem dL_scripts_209 : decode cL_scripts 209 = .ok (.ladd, 1) := by decide +kernel
theorem dL_scripts_210 : decode cL_scripts 210 = .ok (.invokestatic 186, 3) := by decide +kernel
theorem dL_scripts_213 : decode cL_scripts 213 = .ok (.iload_n 3, 1) := by decide +kernel
theorem dL_scripts_214 : decode cL_scripts 214 = .ok (.ifCond .le 15, 3) := by decide +kernel
theorem dL_scripts_217 : decode cL_scripts 217 = .ok (.iload 4, 2) := by decide +kernel
theorem dL_scripts_219 : decode cL_scripts 219 = .ok (.bipush 8, 2) := by decide +kernel
theorem dL_scripts_221 : decode cL_scripts 221 = .ok (.if_icmp .ge 8, 3) := by decide +kernel
theorem dL_scripts_224 : decode cL_scripts 224 = .ok (.ldc 119, 2) := by decide +kernel
theorem dL_scripts_226 : decode cL_scripts 226 = .ok (.goto 4, 3) := by decide +kernel
theorem dL_scripts_229 : decode cL_scripts 229 = .ok (.iconst 0, 1) := by decide +kernel
theorem dL_scripts_230 : decode cL_scripts 230 = .ok (.if_icmp .ne 40, 3) := by decide +kernel
theorem dL_scripts_233 : decode cL_scripts 233 = .ok (.aload_n 0, 1) := by decide +kernel
theorem dL_scripts_234 : decode cL_scripts 234 = .ok (.iconst 1, 1) := by decide +kernel
theorem dL_scripts_235 : decode cL_scripts 235 = .ok (.ldc2_w 244, 3) := by decide +kernel
theorem dL_scripts_238 : decode cL_scripts 238 = .ok (.invokestatic 186, 3) := by decide +kernel
theorem dL_scripts_241 : decode cL_scripts 241 = .ok (.iload 4, 2) := by decide +kernel
theorem dL_scripts_243 : decode cL_scripts 243 = .ok (.ifCond .le 8, 3) := by decide +kernel
theorem dL_scripts_246 : decode cL_scripts 246 = .ok (.ldc 119, 2) := by decide +kernel
theorem dL_scripts_248 : decode cL_scripts 248 = .ok (.goto 4, 3) := by decide +kernel
theorem dL_scripts_251 : decode cL_scripts 251 = .ok (.iconst 0, 1) := by decide +kernel
theorem dL_scripts_252 : decode cL_scripts 252 = .ok (.if_icmp .ne 18, 3) := by decide +kernel
theorem dL_scripts_255 : decode cL_scripts 255 = .ok (.aload_n 0, 1) := by decide +kernel
theorem dL_scripts_256 : decode cL_scripts 256 = .ok (.iconst 1, 1) := by decide +kernel
theorem dL_scripts_257 : decode cL_scripts 257 = .ok (.ldc2_w 246, 3) := by decide +kernel
theorem dL_scripts_260 : decode cL_scripts 260 = .ok (.invokestatic 186, 3) := by decide +kernel
theorem dL_scripts_263 : decode cL_scripts 263 = .ok (.ifCond .ne 7, 3) := by decide +kernel
theorem dL_scripts_266 : decode cL_scripts 266 = .ok (.iconst 1, 1) := by decide +kernel
theorem dL_scripts_267 : decode cL_scripts 267 = .ok (.goto 4, 3) := by decide +kernel
theorem dL_scripts_270 : decode cL_scripts 270 = .ok (.iconst 0, 1) := by decide +kernel
theorem dL_scripts_271 : decode cL_scripts 271 = .ok (.istore 6, 2) := by decide +kernel
theorem dL_scripts_273 : decode cL_scripts 273 = .ok (.iload 6, 2) := by decide +kernel
theorem dL_scripts_275 : decode cL_scripts 275 = .ok (.ifCond .eq 102, 3) := by decide +kernel
theorem dL_scripts_278 : decode cL_scripts 278 = .ok (.aload_n 0, 1) := by decide +kernel
theorem dL_scripts_279 : decode cL_scripts 279 = .ok (.iconst 1, 1) := by decide +kernel
theorem dL_scripts_280 : decode cL_scripts 280 = .ok (.ldc2_w 248, 3) := by decide +kernel
theorem dL_scripts_283 : decode cL_scripts 283 = .ok (.iload_n 3, 1) := by decide +kernel
theorem dL_scripts_284 : decode cL_scripts 284 = .ok (.i2l, 1) := by decide +kernel
theorem dL_scripts_285 : decode cL_scripts 285 = .ok (.ladd, 1) := by decide +kernel
theorem dL_scripts_286 : decode cL_scripts 286 = .ok (.invokestatic 186, 3) := by decide +kernel
theorem dL_scripts_289 : decode cL_scripts 289 = .ok (.ldc 119, 2) := by decide +kernel
theorem dL_scripts_291 : decode cL_scripts 291 = .ok (.if_icmp .ne 86, 3) := by decide +kernel
theorem dL_scripts_294 : decode cL_scripts 294 = .ok (.aload_n 0, 1) := by decide +kernel
theorem dL_scripts_295 : decode cL_scripts 295 = .ok (.iconst 1, 1) := by decide +kernel
theorem dL_scripts_296 : decode cL_scripts 296 = .ok (.ldc2_w 250, 3) := by decide +kernel
theorem dL_scripts_299 : decode cL_scripts 299 = .ok (.iload_n 3, 1) := by decide +kernel
theorem dL_scripts_300 : decode cL_scripts 300 = .ok (.i2l, 1) := by decide +kernel
theorem dL_scripts_301 : decode cL_scripts 301 = .ok (.ladd, 1) := by decide +kernel
theorem dL_scripts_302 : decode cL_scripts 302 = .ok (.invokestatic 186, 3) := by decide +kernel
theorem dL_scripts_305 : decode cL_scripts 305 = .ok (.ifCond .ne 72, 3) := by decide +kernel
theorem dL_scripts_308 : decode cL_scripts 308 = .ok (.aload_n 0, 1) := by decide +kernel
theorem dL_scripts_309 : decode cL_scripts 309 = .ok (.iconst 1, 1) := by decide +kernel
theorem dL_scripts_310 : decode cL_scripts 310 = .ok (.ldc2_w 252, 3) := by decide +kernel
theorem dL_scripts_313 : decode cL_scripts 313 = .ok (.iload 4, 2) := by decide +kernel
theorem dL_scripts_315 : decode cL_scripts 315 = .ok (.i2l, 1) := by decide +kernel
