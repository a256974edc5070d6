theorem dL_law_664 : decode cL_law 664 = .ok (.goto 4, 3) := by decide +kernel
theorem dL_law_667 : decode cL_law 667 = .ok (.iconst 0, 1) := by decide +kernel
theorem dL_law_668 : decode cL_law 668 = .ok (.istore 9, 2) := by decide +kernel
theorem dL_law_670 : decode cL_law 670 = .ok (.goto 590, 3) := by decide +kernel
theorem dL_law_673 : decode cL_law 673 = .ok (.iload 12, 2) := by decide +kernel
theorem dL_law_675 : decode cL_law 675 = .ok (.iconst 3, 1) := by decide +kernel
theorem dL_law_676 : decode cL_law 676 = .ok (.if_icmp .ne 149, 3) := by decide +kernel
theorem dL_law_679 : decode cL_law 679 = .ok (.iload 16, 2) := by decide +kernel
theorem dL_law_681 : decode cL_law 681 = .ok (.ifCond .eq 11, 3) := by decide +kernel
theorem dL_law_684 : decode cL_law 684 = .ok (.aload_n 2, 1) := by decide +kernel
theorem dL_law_685 : decode cL_law 685 = .ok (.iconst 1, 1) := by decide +kernel
theorem dL_law_686 : decode cL_law 686 = .ok (.iaload, 1) := by decide +kernel
theorem dL_law_687 : decode cL_law 687 = .ok (.iconst 1, 1) := by decide +kernel
theorem dL_law_688 : decode cL_law 688 = .ok (.isub, 1) := by decide +kernel
theorem dL_law_689 : decode cL_law 689 = .ok (.goto 5, 3) := by decide +kernel
theorem dL_law_692 : decode cL_law 692 = .ok (.ldc 75, 2) := by decide +kernel
theorem dL_law_694 : decode cL_law 694 = .ok (.istore 17, 2) := by decide +kernel
theorem dL_law_696 : decode cL_law 696 = .ok (.iload 16, 2) := by decide +kernel
theorem dL_law_698 : decode cL_law 698 = .ok (.ifCond .eq 102, 3) := by decide +kernel
theorem dL_law_701 : decode cL_law 701 = .ok (.aload 4, 2) := by decide +kernel
theorem dL_law_703 : decode cL_law 703 = .ok (.iload 14, 2) := by decide +kernel
theorem dL_law_705 : decode cL_law 705 = .ok (.dup2, 1) := by decide +kernel
theorem dL_law_706 : decode cL_law 706 = .ok (.iaload, 1) := by decide +kernel
theorem dL_law_707 : decode cL_law 707 = .ok (.iconst 1, 1) := by decide +kernel
theorem dL_law_708 : decode cL_law 708 = .ok (.iload 15, 2) := by decide +kernel
theorem dL_law_710 : decode cL_law 710 = .ok (.ishl, 1) := by decide +kernel
theorem dL_law_711 : decode cL_law 711 = .ok (.iconst (-1), 1) := by decide +kernel
theorem dL_law_712 : decode cL_law 712 = .ok (.ixor, 1) := by decide +kernel
theorem dL_law_713 : decode cL_law 713 = .ok (.iand, 1) := by decide +kernel
theorem dL_law_714 : decode cL_law 714 = .ok (.iastore, 1) := by decide +kernel
theorem dL_law_715 : decode cL_law 715 = .ok (.aload 4, 2) := by decide +kernel
theorem dL_law_717 : decode cL_law 717 = .ok (.iload 15, 2) := by decide +kernel
theorem dL_law_719 : decode cL_law 719 = .ok (.dup2, 1) := by decide +kernel
theorem dL_law_720 : decode cL_law 720 = .ok (.iaload, 1) := by decide +kernel
theorem dL_law_721 : decode cL_law 721 = .ok (.iconst 1, 1) := by decide +kernel
theorem dL_law_722 : decode cL_law 722 = .ok (.iload 14, 2) := by decide +kernel
theorem dL_law_724 : decode cL_law 724 = .ok (.ishl, 1) := by decide +kernel
theorem dL_law_725 : decode cL_law 725 = .ok (.iconst (-1), 1) := by decide +kernel
theorem dL_law_726 : decode cL_law 726 = .ok (.ixor, 1) := by decide +kernel
theorem dL_law_727 : decode cL_law 727 = .ok (.iand, 1) := by decide +kernel
theorem dL_law_728 : decode cL_law 728 = .ok (.iastore, 1) := by decide +kernel
theorem dL_law_729 : decode cL_law 729 = .ok (.aload_n 2, 1) := by decide +kernel
theorem dL_law_730 : decode cL_law 730 = .ok (.iconst 1, 1) := by decide +kernel
theorem dL_law_731 : decode cL_law 731 = .ok (.dup2, 1) := by decide +kernel
theorem dL_law_732 : decode cL_law 732 = .ok (.iaload, 1) := by decide +kernel
theorem dL_law_733 : decode cL_law 733 = .ok (.iconst 1, 1) := by decide +kernel
theorem dL_law_734 : decode cL_law 734 = .ok (.isub, 1) := by decide +kernel
theorem dL_law_735 : decode cL_law 735 = .ok (.iastore, 1) := by decide +kernel
theorem dL_law_736 : decode cL_law 736 = .ok (.aload 7, 2) := by decide +kernel
theorem dL_law_738 : decode cL_law 738 = .ok (.iload 14, 2) := by decide +kernel
theorem dL_law_740 : decode cL_law 740 = .ok (.aload 7, 2) := by decide +kernel
theorem dL_law_742 : decode cL_law 742 = .ok (.iload 14, 2) := by decide +kernel
theorem dL_law_744 : decode cL_law 744 = .ok (.laload, 1) := by decide +kernel
theorem dL_law_745 : decode cL_law 745 = .ok (.invokestatic 35, 3) := by decide +kernel
theorem dL_law_748 : decode cL_law 748 = .ok (.iload 15, 2) := by decide +kernel
theorem dL_law_750 : decode cL_law 750 = .ok (.if_icmp .ne 12, 3) := by decide +kernel
theorem dL_law_753 : decode cL_law 753 = .ok (.aload_n 3, 1) := by decide +kernel
theorem dL_law_754 : decode cL_law 754 = .ok (.iload 14, 2) := by decide +kernel
theorem dL_law_756 : decode cL_law 756 = .ok (.invokestatic 23, 3) := by decide +kernel
theorem dL_law_759 : decode cL_law 759 = .ok (.goto 8, 3) := by decide +kernel
theorem dL_law_762 : decode cL_law 762 = .ok (.aload 7, 2) := by decide +kernel
theorem dL_law_764 : decode cL_law 764 = .ok (.iload 14, 2) := by decide +kernel
theorem dL_law_766 : decode cL_law 766 = .ok (.laload, 1) := by decide +kernel
theorem dL_law_767 : decode cL_law 767 = .ok (.lastore, 1) := by decide +kernel
theorem dL_law_768 : decode cL_law 768 = .ok (.aload 7, 2) := by decide +kernel
theorem dL_law_770 : decode cL_law 770 = .ok (.iload 15, 2) := by decide +kernel
theorem dL_law_772 : decode cL_law 772 = .ok (.aload 7, 2) := by decide +kernel
theorem dL_law_774 : decode cL_law 774 = .ok (.iload 15, 2) := by decide +kernel
theorem dL_law_776 : decode cL_law 776 = .ok (.laload, 1) := by decide +kernel
theorem dL_law_777 : decode cL_law 777 = .ok (.invokestatic 35, 3) := by decide +kernel
theorem dL_law_780 : decode cL_law 780 = .ok (.iload 14, 2) := by decide +kernel
theorem dL_law_782 : decode cL_law 782 = .ok (.if_icmp .ne 12, 3) := by decide +kernel
theorem dL_law_785 : decode cL_law 785 = .ok (.aload_n 3, 1) := by decide +kernel
theorem dL_law_786 : decode cL_law 786 = .ok (.iload 15, 2) := by decide +kernel
theorem dL_law_788 : decode cL_law 788 = .ok (.invokestatic 23, 3) := by decide +kernel
theorem dL_law_791 : decode cL_law 791 = .ok (.goto 8, 3) := by decide +kernel
theorem dL_law_794 : decode cL_law 794 = .ok (.aload 7, 2) := by decide +kernel
theorem dL_law_796 : decode cL_law 796 = .ok (.iload 15, 2) := by decide +kernel
theorem dL_law_798 : decode cL_law 798 = .ok (.laload, 1) := by decide +kernel
theorem dL_law_799 : decode cL_law 799 = .ok (.lastore, 1) := by decide +kernel
theorem dL_law_800 : decode cL_law 800 = .ok (.aload_n 1, 1) := by decide +kernel
theorem dL_law_801 : decode cL_law 801 = .ok (.iconst 0, 1) := by decide +kernel
theorem dL_law_802 : decode cL_law 802 = .ok (.iload 14, 2) := by decide +kernel
theorem dL_law_804 : decode cL_law 804 = .ok (.iload 15, 2) := by decide +kernel
theorem dL_law_806 : decode cL_law 806 = .ok (.iconst 0, 1) := by decide +kernel
theorem dL_law_807 : decode cL_law 807 = .ok (.invokestatic 133, 3) := by decide +kernel
theorem dL_law_810 : decode cL_law 810 = .ok (.iload 17, 2) := by decide +kernel
theorem dL_law_812 : decode cL_law 812 = .ok (.if_icmp .ne 7, 3) := by decide +kernel
theorem dL_law_815 : decode cL_law 815 = .ok (.iconst 1, 1) := by decide +kernel
theorem dL_law_816 : decode cL_law 816 = .ok (.goto 4, 3) := by decide +kernel
theorem dL_law_819 : decode cL_law 819 = .ok (.iconst 0, 1) := by decide +kernel
theorem dL_law_820 : decode cL_law 820 = .ok (.istore 9, 2) := by decide +kernel
theorem dL_law_822 : decode cL_law 822 = .ok (.goto 438, 3) := by decide +kernel
theorem dL_law_825 : decode cL_law 825 = .ok (.iload 12, 2) := by decide +kernel
theorem dL_law_827 : decode cL_law 827 = .ok (.bipush 6, 2) := by decide +kernel
theorem dL_law_829 : decode cL_law 829 = .ok (.if_icmp .ge 123, 3) := by decide +kernel
theorem dL_law_832 : decode cL_law 832 = .ok (.iload 13, 2) := by decide +kernel
theorem dL_law_834 : decode cL_law 834 = .ok (.iconst 3, 1) := by decide +kernel
theorem dL_law_835 : decode cL_law 835 = .ok (.irem, 1) := by decide +kernel
theorem dL_law_836 : decode cL_law 836 = .ok (.ifCond .ne 30, 3) := by decide +kernel
theorem dL_law_839 : decode cL_law 839 = .ok (.iload 16, 2) := by decide +kernel
theorem dL_law_841 : decode cL_law 841 = .ok (.ifCond .eq 25, 3) := by decide +kernel
theorem dL_law_844 : decode cL_law 844 = .ok (.aload 5, 2) := by decide +kernel
theorem dL_law_846 : decode cL_law 846 = .ok (.iload 14, 2) := by decide +kernel
theorem dL_law_848 : decode cL_law 848 = .ok (.iload 15, 2) := by decide +kernel
theorem dL_law_850 : decode cL_law 850 = .ok (.invokestatic 38, 3) := by decide +kernel
theorem dL_law_853 : decode cL_law 853 = .ok (.aload 5, 2) := by decide +kernel
theorem dL_law_855 : decode cL_law 855 = .ok (.iload 15, 2) := by decide +kernel
theorem dL_law_857 : decode cL_law 857 = .ok (.iload 14, 2) := by decide +kernel
theorem dL_law_859 : decode cL_law 859 = .ok (.invokestatic 38, 3) := by decide +kernel
theorem dL_law_862 : decode cL_law 862 = .ok (.isub, 1) := by decide +kernel
theorem dL_law_863 : decode cL_law 863 = .ok (.goto 14, 3) := by decide +kernel
theorem dL_law_866 : decode cL_law 866 = .ok (.iload 13, 2) := by decide +kernel
theorem dL_law_868 : decode cL_law 868 = .ok (.bipush 7, 2) := by decide +kernel
theorem dL_law_870 : decode cL_law 870 = .ok (.idiv, 1) := by decide +kernel
theorem dL_law_871 : decode cL_law 871 = .ok (.ldc 140, 2) := by decide +kernel
theorem dL_law_873 : decode cL_law 873 = .ok (.irem, 1) := by decide +kernel
theorem dL_law_874 : decode cL_law 874 = .ok (.ldc 141, 2) := by decide +kernel
theorem dL_law_876 : decode cL_law 876 = .ok (.isub, 1) := by decide +kernel
theorem dL_law_877 : decode cL_law 877 = .ok (.istore 17, 2) := by decide +kernel
theorem dL_law_879 : decode cL_law 879 = .ok (.aload_n 1, 1) := by decide +kernel
theorem dL_law_880 : decode cL_law 880 = .ok (.iconst 1, 1) := by decide +kernel
theorem dL_law_881 : decode cL_law 881 = .ok (.iload 14, 2) := by decide +kernel
theorem dL_law_883 : decode cL_law 883 = .ok (.iload 15, 2) := by decide +kernel
theorem dL_law_885 : decode cL_law 885 = .ok (.iload 17, 2) := by decide +kernel
theorem dL_law_887 : decode cL_law 887 = .ok (.invokestatic 133, 3) := by decide +kernel
theorem dL_law_890 : decode cL_law 890 = .ok (.iload 16, 2) := by decide +kernel
theorem dL_law_892 : decode cL_law 892 = .ok (.ifCond .eq 15, 3) := by decide +kernel
theorem dL_law_895 : decode cL_law 895 = .ok (.aload 6, 2) := by decide +kernel
theorem dL_law_897 : decode cL_law 897 = .ok (.iload 14, 2) := by decide +kernel
theorem dL_law_899 : decode cL_law 899 = .ok (.iload 15, 2) := by decide +kernel
theorem dL_law_901 : decode cL_law 901 = .ok (.invokestatic 42, 3) := by decide +kernel
theorem dL_law_904 : decode cL_law 904 = .ok (.goto 5, 3) := by decide +kernel
theorem dL_law_907 : decode cL_law 907 = .ok (.ldc 75, 2) := by decide +kernel
theorem dL_law_909 : decode cL_law 909 = .ok (.if_icmp .ne 7, 3) := by decide +kernel
theorem dL_law_912 : decode cL_law 912 = .ok (.iconst 1, 1) := by decide +kernel
theorem dL_law_913 : decode cL_law 913 = .ok (.goto 4, 3) := by decide +kernel
theorem dL_law_916 : decode cL_law 916 = .ok (.iconst 0, 1) := by decide +kernel
theorem dL_law_917 : decode cL_law 917 = .ok (.istore 9, 2) := by decide +kernel
theorem dL_law_919 : decode cL_law 919 = .ok (.iload 16, 2) := by decide +kernel
theorem dL_law_921 : decode cL_law 921 = .ok (.ifCond .eq 28, 3) := by decide +kernel
theorem dL_law_924 : decode cL_law 924 = .ok (.aload 6, 2) := by decide +kernel
theorem dL_law_926 : decode cL_law 926 = .ok (.iload 14, 2) := by decide +kernel
theorem dL_law_928 : decode cL_law 928 = .ok (.iload 15, 2) := by decide +kernel
theorem dL_law_930 : decode cL_law 930 = .ok (.invokestatic 15, 3) := by decide +kernel
theorem dL_law_933 : decode cL_law 933 = .ok (.iload 14, 2) := by decide +kernel
theorem dL_law_935 : decode cL_law 935 = .ok (.iload 15, 2) := by decide +kernel
theorem dL_law_937 : decode cL_law 937 = .ok (.if_icmp .ge 8, 3) := by decide +kernel
theorem dL_law_940 : decode cL_law 940 = .ok (.iload 17, 2) := by decide +kernel
theorem dL_law_942 : decode cL_law 942 = .ok (.goto 6, 3) := by decide +kernel
theorem dL_law_945 : decode cL_law 945 = .ok (.iload 17, 2) := by decide +kernel
theorem dL_law_947 : decode cL_law 947 = .ok (.ineg, 1) := by decide +kernel
theorem dL_law_948 : decode cL_law 948 = .ok (.iastore, 1) := by decide +kernel
theorem dL_law_949 : decode cL_law 949 = .ok (.goto 311, 3) := by decide +kernel
theorem dL_law_952 : decode cL_law 952 = .ok (.iload 12, 2) := by decide +kernel
theorem dL_law_954 : decode cL_law 954 = .ok (.bipush 6, 2) := by decide +kernel
theorem dL_law_956 : decode cL_law 956 = .ok (.if_icmp .ne 118, 3) := by decide +kernel
theorem dL_law_959 : decode cL_law 959 = .ok (.iload 13, 2) := by decide +kernel
theorem dL_law_961 : decode cL_law 961 = .ok (.bipush 7, 2) := by decide +kernel
theorem dL_law_963 : decode cL_law 963 = .ok (.idiv, 1) := by decide +kernel
theorem dL_law_964 : decode cL_law 964 = .ok (.iconst 4, 1) := by decide +kernel
theorem dL_law_965 : decode cL_law 965 = .ok (.irem, 1) := by decide +kernel
theorem dL_law_966 : decode cL_law 966 = .ok (.ifCond .ne 15, 3) := by decide +kernel
theorem dL_law_969 : decode cL_law 969 = .ok (.iload 13, 2) := by decide +kernel
theorem dL_law_971 : decode cL_law 971 = .ok (.bipush 28, 2) := by decide +kernel
theorem dL_law_973 : decode cL_law 973 = .ok (.idiv, 1) := by decide +kernel
theorem dL_law_974 : decode cL_law 974 = .ok (.sipush 256, 3) := by decide +kernel
theorem dL_law_977 : decode cL_law 977 = .ok (.irem, 1) := by decide +kernel
theorem dL_law_978 : decode cL_law 978 = .ok (.goto 10, 3) := by decide +kernel
theorem dL_law_981 : decode cL_law 981 = .ok (.iload 13, 2) := by decide +kernel
theorem dL_law_983 : decode cL_law 983 = .ok (.bipush 28, 2) := by decide +kernel
theorem dL_law_985 : decode cL_law 985 = .ok (.idiv, 1) := by decide +kernel
theorem dL_law_986 : decode cL_law 986 = .ok (.iconst 3, 1) := by decide +kernel
theorem dL_law_987 : decode cL_law 987 = .ok (.irem, 1) := by decide +kernel
theorem dL_law_988 : decode cL_law 988 = .ok (.istore 17, 2) := by decide +kernel
theorem dL_law_990 : decode cL_law 990 = .ok (.iload 13, 2) := by decide +kernel
theorem dL_law_992 : decode cL_law 992 = .ok (.bipush 90, 2) := by decide +kernel
theorem dL_law_994 : decode cL_law 994 = .ok (.idiv, 1) := by decide +kernel
theorem dL_law_995 : decode cL_law 995 = .ok (.iconst 3, 1) := by decide +kernel
theorem dL_law_996 : decode cL_law 996 = .ok (.irem, 1) := by decide +kernel
theorem dL_law_997 : decode cL_law 997 = .ok (.ifCond .ne 16, 3) := by decide +kernel
theorem dL_law_1000 : decode cL_law 1000 = .ok (.iload 13, 2) := by decide +kernel
theorem dL_law_1002 : decode cL_law 1002 = .ok (.sipush 270, 3) := by decide +kernel
theorem dL_law_1005 : decode cL_law 1005 = .ok (.idiv, 1) := by decide +kernel
theorem dL_law_1006 : decode cL_law 1006 = .ok (.sipush 1001, 3) := by decide +kernel
theorem dL_law_1009 : decode cL_law 1009 = .ok (.irem, 1) := by decide +kernel
theorem dL_law_1010 : decode cL_law 1010 = .ok (.goto 11, 3) := by decide +kernel
theorem dL_law_1013 : decode cL_law 1013 = .ok (.iload 13, 2) := by decide +kernel
theorem dL_law_1015 : decode cL_law 1015 = .ok (.sipush 270, 3) := by decide +kernel
theorem dL_law_1018 : decode cL_law 1018 = .ok (.idiv, 1) := by decide +kernel
theorem dL_law_1019 : decode cL_law 1019 = .ok (.iconst 2, 1) := by decide +kernel
theorem dL_law_1020 : decode cL_law 1020 = .ok (.irem, 1) := by decide +kernel
theorem dL_law_1021 : decode cL_law 1021 = .ok (.istore 18, 2) := by decide +kernel
theorem dL_law_1023 : decode cL_law 1023 = .ok (.aload_n 1, 1) := by decide +kernel
theorem dL_law_1024 : decode cL_law 1024 = .ok (.iload 14, 2) := by decide +kernel
theorem dL_law_1026 : decode cL_law 1026 = .ok (.iload 17, 2) := by decide +kernel
theorem dL_law_1028 : decode cL_law 1028 = .ok (.iload 18, 2) := by decide +kernel
theorem dL_law_1030 : decode cL_law 1030 = .ok (.invokevirtual 142, 3) := by decide +kernel
theorem dL_law_1033 : decode cL_law 1033 = .ok (.aload_n 3, 1) := by decide +kernel
theorem dL_law_1034 : decode cL_law 1034 = .ok (.iconst 4, 1) := by decide +kernel
theorem dL_law_1035 : decode cL_law 1035 = .ok (.iload 14, 2) := by decide +kernel
theorem dL_law_1037 : decode cL_law 1037 = .ok (.imul, 1) := by decide +kernel
theorem dL_law_1038 : decode cL_law 1038 = .ok (.iconst 1, 1) := by decide +kernel
theorem dL_law_1039 : decode cL_law 1039 = .ok (.iadd, 1) := by decide +kernel
theorem dL_law_1040 : decode cL_law 1040 = .ok (.iaload, 1) := by decide +kernel
theorem dL_law_1041 : decode cL_law 1041 = .ok (.if_icmp .ne 7, 3) := by decide +kernel
theorem dL_law_1044 : decode cL_law 1044 = .ok (.iconst 1, 1) := by decide +kernel
theorem dL_law_1045 : decode cL_law 1045 = .ok (.goto 4, 3) := by decide +kernel
theorem dL_law_1048 : decode cL_law 1048 = .ok (.iconst 0, 1) := by decide +kernel
theorem dL_law_1049 : decode cL_law 1049 = .ok (.istore 9, 2) := by decide +kernel
theorem dL_law_1051 : decode cL_law 1051 = .ok (.aload_n 3, 1) := by decide +kernel
theorem dL_law_1052 : decode cL_law 1052 = .ok (.iconst 4, 1) := by decide +kernel
theorem dL_law_1053 : decode cL_law 1053 = .ok (.iload 14, 2) := by decide +kernel
theorem dL_law_1055 : decode cL_law 1055 = .ok (.imul, 1) := by decide +kernel
theorem dL_law_1056 : decode cL_law 1056 = .ok (.iconst 1, 1) := by decide +kernel
theorem dL_law_1057 : decode cL_law 1057 = .ok (.iadd, 1) := by decide +kernel
theorem dL_law_1058 : decode cL_law 1058 = .ok (.iload 17, 2) := by decide +kernel
theorem dL_law_1060 : decode cL_law 1060 = .ok (.iastore, 1) := by decide +kernel
theorem dL_law_1061 : decode cL_law 1061 = .ok (.aload_n 3, 1) := by decide +kernel
theorem dL_law_1062 : decode cL_law 1062 = .ok (.iconst 4, 1) := by decide +kernel
theorem dL_law_1063 : decode cL_law 1063 = .ok (.iload 14, 2) := by decide +kernel
theorem dL_law_1065 : decode cL_law 1065 = .ok (.imul, 1) := by decide +kernel
theorem dL_law_1066 : decode cL_law 1066 = .ok (.iconst 2, 1) := by decide +kernel
theorem dL_law_1067 : decode cL_law 1067 = .ok (.iadd, 1) := by decide +kernel
theorem dL_law_1068 : decode cL_law 1068 = .ok (.iload 18, 2) := by decide +kernel
theorem dL_law_1070 : decode cL_law 1070 = .ok (.iastore, 1) := by decide +kernel
theorem dL_law_1071 : decode cL_law 1071 = .ok (.goto 189, 3) := by decide +kernel
theorem dL_law_1074 : decode cL_law 1074 = .ok (.iload 12, 2) := by decide +kernel
theorem dL_law_1076 : decode cL_law 1076 = .ok (.bipush 7, 2) := by decide +kernel
theorem dL_law_1078 : decode cL_law 1078 = .ok (.if_icmp .ne 56, 3) := by decide +kernel
theorem dL_law_1081 : decode cL_law 1081 = .ok (.iload 13, 2) := by decide +kernel
theorem dL_law_1083 : decode cL_law 1083 = .ok (.bipush 10, 2) := by decide +kernel
theorem dL_law_1085 : decode cL_law 1085 = .ok (.idiv, 1) := by decide +kernel
theorem dL_law_1086 : decode cL_law 1086 = .ok (.sipush 201, 3) := by decide +kernel
theorem dL_law_1089 : decode cL_law 1089 = .ok (.irem, 1) := by decide +kernel
theorem dL_law_1090 : decode cL_law 1090 = .ok (.bipush 100, 2) := by decide +kernel
theorem dL_law_1092 : decode cL_law 1092 = .ok (.isub, 1) := by decide +kernel
theorem dL_law_1093 : decode cL_law 1093 = .ok (.istore 17, 2) := by decide +kernel
theorem dL_law_1095 : decode cL_law 1095 = .ok (.aload_n 1, 1) := by decide +kernel
theorem dL_law_1096 : decode cL_law 1096 = .ok (.iload 14, 2) := by decide +kernel
theorem dL_law_1098 : decode cL_law 1098 = .ok (.iload 17, 2) := by decide +kernel
theorem dL_law_1100 : decode cL_law 1100 = .ok (.invokevirtual 145, 3) := by decide +kernel
theorem dL_law_1103 : decode cL_law 1103 = .ok (.aload_n 3, 1) := by decide +kernel
theorem dL_law_1104 : decode cL_law 1104 = .ok (.iconst 4, 1) := by decide +kernel
theorem dL_law_1105 : decode cL_law 1105 = .ok (.iload 14, 2) := by decide +kernel
theorem dL_law_1107 : decode cL_law 1107 = .ok (.imul, 1) := by decide +kernel
theorem dL_law_1108 : decode cL_law 1108 = .ok (.iconst 3, 1) := by decide +kernel
theorem dL_law_1109 : decode cL_law 1109 = .ok (.iadd, 1) := by decide +kernel
theorem dL_law_1110 : decode cL_law 1110 = .ok (.iaload, 1) := by decide +kernel
theorem dL_law_1111 : decode cL_law 1111 = .ok (.if_icmp .ne 7, 3) := by decide +kernel
theorem dL_law_1114 : decode cL_law 1114 = .ok (.iconst 1, 1) := by decide +kernel
theorem dL_law_1115 : decode cL_law 1115 = .ok (.goto 4, 3) := by decide +kernel
theorem dL_law_1118 : decode cL_law 1118 = .ok (.iconst 0, 1) := by decide +kernel
theorem dL_law_1119 : decode cL_law 1119 = .ok (.istore 9, 2) := by decide +kernel
theorem dL_law_1121 : decode cL_law 1121 = .ok (.aload_n 3, 1) := by decide +kernel
theorem dL_law_1122 : decode cL_law 1122 = .ok (.iconst 4, 1) := by decide +kernel
theorem dL_law_1123 : decode cL_law 1123 = .ok (.iload 14, 2) := by decide +kernel
theorem dL_law_1125 : decode cL_law 1125 = .ok (.imul, 1) := by decide +kernel
theorem dL_law_1126 : decode cL_law 1126 = .ok (.iconst 3, 1) := by decide +kernel
theorem dL_law_1127 : decode cL_law 1127 = .ok (.iadd, 1) := by decide +kernel
theorem dL_law_1128 : decode cL_law 1128 = .ok (.iload 17, 2) := by decide +kernel
theorem dL_law_1130 : decode cL_law 1130 = .ok (.iastore, 1) := by decide +kernel
theorem dL_law_1131 : decode cL_law 1131 = .ok (.goto 129, 3) := by decide +kernel
theorem dL_law_1134 : decode cL_law 1134 = .ok (.iload 12, 2) := by decide +kernel
theorem dL_law_1136 : decode cL_law 1136 = .ok (.bipush 8, 2) := by decide +kernel
theorem dL_law_1138 : decode cL_law 1138 = .ok (.if_icmp .ne 51, 3) := by decide +kernel
theorem dL_law_1141 : decode cL_law 1141 = .ok (.iload 13, 2) := by decide +kernel
theorem dL_law_1143 : decode cL_law 1143 = .ok (.bipush 10, 2) := by decide +kernel
theorem dL_law_1145 : decode cL_law 1145 = .ok (.idiv, 1) := by decide +kernel
theorem dL_law_1146 : decode cL_law 1146 = .ok (.ldc 148, 2) := by decide +kernel
theorem dL_law_1148 : decode cL_law 1148 = .ok (.irem, 1) := by decide +kernel
theorem dL_law_1149 : decode cL_law 1149 = .ok (.ldc 149, 2) := by decide +kernel
theorem dL_law_1151 : decode cL_law 1151 = .ok (.isub, 1) := by decide +kernel
theorem dL_law_1152 : decode cL_law 1152 = .ok (.istore 17, 2) := by decide +kernel
theorem dL_law_1154 : decode cL_law 1154 = .ok (.aload_n 1, 1) := by decide +kernel
theorem dL_law_1155 : decode cL_law 1155 = .ok (.iload 14, 2) := by decide +kernel
theorem dL_law_1157 : decode cL_law 1157 = .ok (.iload 17, 2) := by decide +kernel
theorem dL_law_1159 : decode cL_law 1159 = .ok (.invokevirtual 150, 3) := by decide +kernel
theorem dL_law_1162 : decode cL_law 1162 = .ok (.aload 8, 2) := by decide +kernel
theorem dL_law_1164 : decode cL_law 1164 = .ok (.iload 14, 2) := by decide +kernel
theorem dL_law_1166 : decode cL_law 1166 = .ok (.laload, 1) := by decide +kernel
theorem dL_law_1167 : decode cL_law 1167 = .ok (.lcmp, 1) := by decide +kernel
theorem dL_law_1168 : decode cL_law 1168 = .ok (.ifCond .ne 7, 3) := by decide +kernel
theorem dL_law_1171 : decode cL_law 1171 = .ok (.iconst 1, 1) := by decide +kernel
theorem dL_law_1172 : decode cL_law 1172 = .ok (.goto 4, 3) := by decide +kernel
theorem dL_law_1175 : decode cL_law 1175 = .ok (.iconst 0, 1) := by decide +kernel
theorem dL_law_1176 : decode cL_law 1176 = .ok (.istore 9, 2) := by decide +kernel
theorem dL_law_1178 : decode cL_law 1178 = .ok (.aload 8, 2) := by decide +kernel
theorem dL_law_1180 : decode cL_law 1180 = .ok (.iload 14, 2) := by decide +kernel
theorem dL_law_1182 : decode cL_law 1182 = .ok (.iload 17, 2) := by decide +kernel
theorem dL_law_1184 : decode cL_law 1184 = .ok (.i2l, 1) := by decide +kernel
theorem dL_law_1185 : decode cL_law 1185 = .ok (.lastore, 1) := by decide +kernel
theorem dL_law_1186 : decode cL_law 1186 = .ok (.goto 74, 3) := by decide +kernel
theorem dL_law_1189 : decode cL_law 1189 = .ok (.iconst 1, 1) := by decide +kernel
theorem dL_law_1190 : decode cL_law 1190 = .ok (.iload 13, 2) := by decide +kernel
theorem dL_law_1192 : decode cL_law 1192 = .ok (.iload 13, 2) := by decide +kernel
theorem dL_law_1194 : decode cL_law 1194 = .ok (.bipush 6, 2) := by decide +kernel
theorem dL_law_1196 : decode cL_law 1196 = .ok (.irem, 1) := by decide +kernel
theorem dL_law_1197 : decode cL_law 1197 = .ok (.ifCond .ne 8, 3) := by decide +kernel
theorem dL_law_1200 : decode cL_law 1200 = .ok (.bipush 50, 2) := by decide +kernel
theorem dL_law_1202 : decode cL_law 1202 = .ok (.goto 4, 3) := by decide +kernel
theorem dL_law_1205 : decode cL_law 1205 = .ok (.iconst 4, 1) := by decide +kernel
theorem dL_law_1206 : decode cL_law 1206 = .ok (.irem, 1) := by decide +kernel
theorem dL_law_1207 : decode cL_law 1207 = .ok (.iadd, 1) := by decide +kernel
theorem dL_law_1208 : decode cL_law 1208 = .ok (.istore 17, 2) := by decide +kernel
theorem dL_law_1210 : decode cL_law 1210 = .ok (.iconst 0, 1) := by decide +kernel
theorem dL_law_1211 : decode cL_law 1211 = .ok (.istore 18, 2) := by decide +kernel
theorem dL_law_1213 : decode cL_law 1213 = .ok (.iload 18, 2) := by decide +kernel
theorem dL_law_1215 : decode cL_law 1215 = .ok (.iload 17, 2) := by decide +kernel
theorem dL_law_1217 : decode cL_law 1217 = .ok (.if_icmp .ge 24, 3) := by decide +kernel
theorem dL_law_1220 : decode cL_law 1220 = .ok (.aload_n 2, 1) := by decide +kernel
theorem dL_law_1221 : decode cL_law 1221 = .ok (.aload_n 3, 1) := by decide +kernel
theorem dL_law_1222 : decode cL_law 1222 = .ok (.aload 4, 2) := by decide +kernel
theorem dL_law_1224 : decode cL_law 1224 = .ok (.aload 5, 2) := by decide +kernel
theorem dL_law_1226 : decode cL_law 1226 = .ok (.aload 6, 2) := by decide +kernel
theorem dL_law_1228 : decode cL_law 1228 = .ok (.aload 7, 2) := by decide +kernel
theorem dL_law_1230 : decode cL_law 1230 = .ok (.aload 8, 2) := by decide +kernel
theorem dL_law_1232 : decode cL_law 1232 = .ok (.invokestatic 154, 3) := by decide +kernel
theorem dL_law_1235 : decode cL_law 1235 = .ok (.iinc 18 1, 3) := by decide +kernel
theorem dL_law_1238 : decode cL_law 1238 = .ok (.goto (-25), 3) := by decide +kernel
theorem dL_law_1241 : decode cL_law 1241 = .ok (.aload_n 1, 1) := by decide +kernel
theorem dL_law_1242 : decode cL_law 1242 = .ok (.iload 17, 2) := by decide +kernel
theorem dL_law_1244 : decode cL_law 1244 = .ok (.invokevirtual 158, 3) := by decide +kernel
theorem dL_law_1247 : decode cL_law 1247 = .ok (.aload_n 2, 1) := by decide +kernel
theorem dL_law_1248 : decode cL_law 1248 = .ok (.iconst 2, 1) := by decide +kernel
theorem dL_law_1249 : decode cL_law 1249 = .ok (.iaload, 1) := by decide +kernel
theorem dL_law_1250 : decode cL_law 1250 = .ok (.if_icmp .ne 7, 3) := by decide +kernel
theorem dL_law_1253 : decode cL_law 1253 = .ok (.iconst 1, 1) := by decide +kernel
theorem dL_law_1254 : decode cL_law 1254 = .ok (.goto 4, 3) := by decide +kernel
theorem dL_law_1257 : decode cL_law 1257 = .ok (.iconst 0, 1) := by decide +kernel
theorem dL_law_1258 : decode cL_law 1258 = .ok (.istore 9, 2) := by decide +kernel
theorem dL_law_1260 : decode cL_law 1260 = .ok (.iload 9, 2) := by decide +kernel
theorem dL_law_1262 : decode cL_law 1262 = .ok (.ifCond .eq 32, 3) := by decide +kernel
theorem dL_law_1265 : decode cL_law 1265 = .ok (.iload 10, 2) := by decide +kernel
theorem dL_law_1267 : decode cL_law 1267 = .ok (.iconst 4, 1) := by decide +kernel
theorem dL_law_1268 : decode cL_law 1268 = .ok (.irem, 1) := by decide +kernel
theorem dL_law_1269 : decode cL_law 1269 = .ok (.iconst 3, 1) := by decide +kernel
theorem dL_law_1270 : decode cL_law 1270 = .ok (.if_icmp .lt 20, 3) := by decide +kernel
theorem dL_law_1273 : decode cL_law 1273 = .ok (.aload_n 1, 1) := by decide +kernel
theorem dL_law_1274 : decode cL_law 1274 = .ok (.aload_n 2, 1) := by decide +kernel
theorem dL_law_1275 : decode cL_law 1275 = .ok (.aload_n 3, 1) := by decide +kernel
theorem dL_law_1276 : decode cL_law 1276 = .ok (.aload 4, 2) := by decide +kernel
theorem dL_law_1278 : decode cL_law 1278 = .ok (.aload 7, 2) := by decide +kernel
theorem dL_law_1280 : decode cL_law 1280 = .ok (.aload 8, 2) := by decide +kernel
theorem dL_law_1282 : decode cL_law 1282 = .ok (.iload 13, 2) := by decide +kernel
theorem dL_law_1284 : decode cL_law 1284 = .ok (.invokestatic 127, 3) := by decide +kernel
theorem dL_law_1287 : decode cL_law 1287 = .ok (.ifCond .eq 7, 3) := by decide +kernel
theorem dL_law_1290 : decode cL_law 1290 = .ok (.iconst 1, 1) := by decide +kernel
theorem dL_law_1291 : decode cL_law 1291 = .ok (.goto 4, 3) := by decide +kernel
theorem dL_law_1294 : decode cL_law 1294 = .ok (.iconst 0, 1) := by decide +kernel
theorem dL_law_1295 : decode cL_law 1295 = .ok (.istore 9, 2) := by decide +kernel
theorem dL_law_1297 : decode cL_law 1297 = .ok (.iinc 10 1, 3) := by decide +kernel
theorem dL_law_1300 : decode cL_law 1300 = .ok (.goto (-1235), 3) := by decide +kernel
theorem dL_law_1303 : decode cL_law 1303 = .ok (.iload 9, 2) := by decide +kernel
theorem dL_law_1305 : decode cL_law 1305 = .ok (.ifCond .eq 23, 3) := by decide +kernel
theorem dL_law_1308 : decode cL_law 1308 = .ok (.aload_n 1, 1) := by decide +kernel
theorem dL_law_1309 : decode cL_law 1309 = .ok (.aload_n 2, 1) := by decide +kernel
theorem dL_law_1310 : decode cL_law 1310 = .ok (.aload_n 3, 1) := by decide +kernel
theorem dL_law_1311 : decode cL_law 1311 = .ok (.aload 4, 2) := by decide +kernel
theorem dL_law_1313 : decode cL_law 1313 = .ok (.aload 7, 2) := by decide +kernel
theorem dL_law_1315 : decode cL_law 1315 = .ok (.aload 8, 2) := by decide +kernel
theorem dL_law_1317 : decode cL_law 1317 = .ok (.iconst 1, 1) := by decide +kernel
theorem dL_law_1318 : decode cL_law 1318 = .ok (.invokestatic 127, 3) := by decide +kernel
theorem dL_law_1321 : decode cL_law 1321 = .ok (.ifCond .eq 7, 3) := by decide +kernel
theorem dL_law_1324 : decode cL_law 1324 = .ok (.iconst 1, 1) := by decide +kernel
theorem dL_law_1325 : decode cL_law 1325 = .ok (.goto 4, 3) := by decide +kernel
theorem dL_law_1328 : decode cL_law 1328 = .ok (.iconst 0, 1) := by decide +kernel
theorem dL_law_1329 : decode cL_law 1329 = .ok (.ireturn, 1) := by decide +kernel
