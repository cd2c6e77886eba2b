theorem dL_acts_704 : decode cL_acts 704 = .ok (.iconst 1, 1) := by decide +kernel
theorem dL_acts_705 : decode cL_acts 705 = .ok (.goto 4, 3) := by decide +kernel
theorem dL_acts_708 : decode cL_acts 708 = .ok (.iconst 0, 1) := by decide +kernel
theorem dL_acts_709 : decode cL_acts 709 = .ok (.ireturn, 1) := by decide +kernel
theorem dL_acts_710 : decode cL_acts 710 = .ok (.iload_n 3, 1) := by decide +kernel
theorem dL_acts_711 : decode cL_acts 711 = .ok (.bipush 13, 2) := by decide +kernel
theorem dL_acts_713 : decode cL_acts 713 = .ok (.if_icmp .ne 111, 3) := by decide +kernel
theorem dL_acts_716 : decode cL_acts 716 = .ok (.aload_n 0, 1) := by decide +kernel
theorem dL_acts_717 : decode cL_acts 717 = .ok (.iload 5, 2) := by decide +kernel
theorem dL_acts_719 : decode cL_acts 719 = .ok (.iconst 5, 1) := by decide +kernel
theorem dL_acts_720 : decode cL_acts 720 = .ok (.invokevirtual 18, 3) := by decide +kernel
theorem dL_acts_723 : decode cL_acts 723 = .ok (.ldc 27, 2) := by decide +kernel
theorem dL_acts_725 : decode cL_acts 725 = .ok (.if_icmp .ne 7, 3) := by decide +kernel
theorem dL_acts_728 : decode cL_acts 728 = .ok (.iconst 0, 1) := by decide +kernel
theorem dL_acts_729 : decode cL_acts 729 = .ok (.goto 4, 3) := by decide +kernel
theorem dL_acts_732 : decode cL_acts 732 = .ok (.iconst 1, 1) := by decide +kernel
theorem dL_acts_733 : decode cL_acts 733 = .ok (.istore 6, 2) := by decide +kernel
theorem dL_acts_735 : decode cL_acts 735 = .ok (.aload_n 0, 1) := by decide +kernel
theorem dL_acts_736 : decode cL_acts 736 = .ok (.iload 5, 2) := by decide +kernel
theorem dL_acts_738 : decode cL_acts 738 = .ok (.invokevirtual 108, 3) := by decide +kernel
theorem dL_acts_741 : decode cL_acts 741 = .ok (.iload 6, 2) := by decide +kernel
theorem dL_acts_743 : decode cL_acts 743 = .ok (.if_icmp .ne 79, 3) := by decide +kernel
theorem dL_acts_746 : decode cL_acts 746 = .ok (.aload_n 0, 1) := by decide +kernel
theorem dL_acts_747 : decode cL_acts 747 = .ok (.iload 5, 2) := by decide +kernel
theorem dL_acts_749 : decode cL_acts 749 = .ok (.iconst 5, 1) := by decide +kernel
theorem dL_acts_750 : decode cL_acts 750 = .ok (.invokevirtual 18, 3) := by decide +kernel
theorem dL_acts_753 : decode cL_acts 753 = .ok (.ldc 27, 2) := by decide +kernel
theorem dL_acts_755 : decode cL_acts 755 = .ok (.if_icmp .ne 67, 3) := by decide +kernel
theorem dL_acts_758 : decode cL_acts 758 = .ok (.aload_n 0, 1) := by decide +kernel
theorem dL_acts_759 : decode cL_acts 759 = .ok (.iload 5, 2) := by decide +kernel
theorem dL_acts_761 : decode cL_acts 761 = .ok (.bipush 7, 2) := by decide +kernel
theorem dL_acts_763 : decode cL_acts 763 = .ok (.invokevirtual 18, 3) := by decide +kernel
theorem dL_acts_766 : decode cL_acts 766 = .ok (.ldc 27, 2) := by decide +kernel
theorem dL_acts_768 : decode cL_acts 768 = .ok (.if_icmp .ne 54, 3) := by decide +kernel
theorem dL_acts_771 : decode cL_acts 771 = .ok (.iload_n 2, 1) := by decide +kernel
theorem dL_acts_772 : decode cL_acts 772 = .ok (.iconst 4, 1) := by decide +kernel
theorem dL_acts_773 : decode cL_acts 773 = .ok (.ishr, 1) := by decide +kernel
theorem dL_acts_774 : decode cL_acts 774 = .ok (.iconst 2, 1) := by decide +kernel
theorem dL_acts_775 : decode cL_acts 775 = .ok (.invokestatic 65, 3) := by decide +kernel
theorem dL_acts_778 : decode cL_acts 778 = .ok (.ifCond .eq 40, 3) := by decide +kernel
theorem dL_acts_781 : decode cL_acts 781 = .ok (.aload_n 0, 1) := by decide +kernel
theorem dL_acts_782 : decode cL_acts 782 = .ok (.invokevirtual 94, 3) := by decide +kernel
theorem dL_acts_785 : decode cL_acts 785 = .ok (.ifCond .lt 37, 3) := by decide +kernel
theorem dL_acts_788 : decode cL_acts 788 = .ok (.aload_n 0, 1) := by decide +kernel
theorem dL_acts_789 : decode cL_acts 789 = .ok (.iload 5, 2) := by decide +kernel
theorem dL_acts_791 : decode cL_acts 791 = .ok (.iconst 5, 1) := by decide +kernel
theorem dL_acts_792 : decode cL_acts 792 = .ok (.invokevirtual 18, 3) := by decide +kernel
theorem dL_acts_795 : decode cL_acts 795 = .ok (.ldc 27, 2) := by decide +kernel
theorem dL_acts_797 : decode cL_acts 797 = .ok (.if_icmp .ne 7, 3) := by decide +kernel
theorem dL_acts_800 : decode cL_acts 800 = .ok (.iconst 1, 1) := by decide +kernel
theorem dL_acts_801 : decode cL_acts 801 = .ok (.goto 4, 3) := by decide +kernel
theorem dL_acts_804 : decode cL_acts 804 = .ok (.iconst 0, 1) := by decide +kernel
theorem dL_acts_805 : decode cL_acts 805 = .ok (.iload 6, 2) := by decide +kernel
theorem dL_acts_807 : decode cL_acts 807 = .ok (.ifCond .ne 7, 3) := by decide +kernel
theorem dL_acts_810 : decode cL_acts 810 = .ok (.iconst 1, 1) := by decide +kernel
theorem dL_acts_811 : decode cL_acts 811 = .ok (.goto 4, 3) := by decide +kernel
theorem dL_acts_814 : decode cL_acts 814 = .ok (.iconst 0, 1) := by decide +kernel
theorem dL_acts_815 : decode cL_acts 815 = .ok (.if_icmp .ne 7, 3) := by decide +kernel
theorem dL_acts_818 : decode cL_acts 818 = .ok (.iconst 1, 1) := by decide +kernel
theorem dL_acts_819 : decode cL_acts 819 = .ok (.goto 4, 3) := by decide +kernel
theorem dL_acts_822 : decode cL_acts 822 = .ok (.iconst 0, 1) := by decide +kernel
theorem dL_acts_823 : decode cL_acts 823 = .ok (.ireturn, 1) := by decide +kernel
theorem dL_acts_824 : decode cL_acts 824 = .ok (.iload_n 3, 1) := by decide +kernel
theorem dL_acts_825 : decode cL_acts 825 = .ok (.bipush 14, 2) := by decide +kernel
theorem dL_acts_827 : decode cL_acts 827 = .ok (.if_icmp .ne 102, 3) := by decide +kernel
theorem dL_acts_830 : decode cL_acts 830 = .ok (.iload_n 2, 1) := by decide +kernel
theorem dL_acts_831 : decode cL_acts 831 = .ok (.iconst 2, 1) := by decide +kernel
theorem dL_acts_832 : decode cL_acts 832 = .ok (.invokestatic 65, 3) := by decide +kernel
theorem dL_acts_835 : decode cL_acts 835 = .ok (.istore 6, 2) := by decide +kernel
theorem dL_acts_837 : decode cL_acts 837 = .ok (.aload_n 0, 1) := by decide +kernel
theorem dL_acts_838 : decode cL_acts 838 = .ok (.iconst 3, 1) := by decide +kernel
theorem dL_acts_839 : decode cL_acts 839 = .ok (.invokevirtual 9, 3) := by decide +kernel
theorem dL_acts_842 : decode cL_acts 842 = .ok (.istore 7, 2) := by decide +kernel
theorem dL_acts_844 : decode cL_acts 844 = .ok (.aload_n 0, 1) := by decide +kernel
theorem dL_acts_845 : decode cL_acts 845 = .ok (.invokevirtual 44, 3) := by decide +kernel
theorem dL_acts_848 : decode cL_acts 848 = .ok (.istore 8, 2) := by decide +kernel
theorem dL_acts_850 : decode cL_acts 850 = .ok (.aload_n 0, 1) := by decide +kernel
theorem dL_acts_851 : decode cL_acts 851 = .ok (.iconst 2, 1) := by decide +kernel
theorem dL_acts_852 : decode cL_acts 852 = .ok (.invokevirtual 54, 3) := by decide +kernel
theorem dL_acts_855 : decode cL_acts 855 = .ok (.lstore 9, 2) := by decide +kernel
theorem dL_acts_857 : decode cL_acts 857 = .ok (.aload_n 0, 1) := by decide +kernel
theorem dL_acts_858 : decode cL_acts 858 = .ok (.iload 6, 2) := by decide +kernel
theorem dL_acts_860 : decode cL_acts 860 = .ok (.invokevirtual 111, 3) := by decide +kernel
theorem dL_acts_863 : decode cL_acts 863 = .ok (.iload 7, 2) := by decide +kernel
theorem dL_acts_865 : decode cL_acts 865 = .ok (.if_icmp .ne 62, 3) := by decide +kernel
theorem dL_acts_868 : decode cL_acts 868 = .ok (.aload_n 0, 1) := by decide +kernel
theorem dL_acts_869 : decode cL_acts 869 = .ok (.invokestatic 84, 3) := by decide +kernel
theorem dL_acts_872 : decode cL_acts 872 = .ok (.ifCond .eq 55, 3) := by decide +kernel
theorem dL_acts_875 : decode cL_acts 875 = .ok (.aload_n 0, 1) := by decide +kernel
theorem dL_acts_876 : decode cL_acts 876 = .ok (.invokevirtual 88, 3) := by decide +kernel
theorem dL_acts_879 : decode cL_acts 879 = .ok (.ifCond .lt 48, 3) := by decide +kernel
theorem dL_acts_882 : decode cL_acts 882 = .ok (.aload_n 0, 1) := by decide +kernel
theorem dL_acts_883 : decode cL_acts 883 = .ok (.iload 6, 2) := by decide +kernel
theorem dL_acts_885 : decode cL_acts 885 = .ok (.invokevirtual 114, 3) := by decide +kernel
theorem dL_acts_888 : decode cL_acts 888 = .ok (.iload 7, 2) := by decide +kernel
theorem dL_acts_890 : decode cL_acts 890 = .ok (.if_icmp .ne 37, 3) := by decide +kernel
theorem dL_acts_893 : decode cL_acts 893 = .ok (.aload_n 0, 1) := by decide +kernel
theorem dL_acts_894 : decode cL_acts 894 = .ok (.invokevirtual 44, 3) := by decide +kernel
theorem dL_acts_897 : decode cL_acts 897 = .ok (.iload 8, 2) := by decide +kernel
theorem dL_acts_899 : decode cL_acts 899 = .ok (.if_icmp .ne 28, 3) := by decide +kernel
theorem dL_acts_902 : decode cL_acts 902 = .ok (.aload_n 0, 1) := by decide +kernel
theorem dL_acts_903 : decode cL_acts 903 = .ok (.iconst 2, 1) := by decide +kernel
theorem dL_acts_904 : decode cL_acts 904 = .ok (.invokevirtual 54, 3) := by decide +kernel
theorem dL_acts_907 : decode cL_acts 907 = .ok (.lload 9, 2) := by decide +kernel
theorem dL_acts_909 : decode cL_acts 909 = .ok (.lcmp, 1) := by decide +kernel
theorem dL_acts_910 : decode cL_acts 910 = .ok (.ifCond .ne 17, 3) := by decide +kernel
theorem dL_acts_913 : decode cL_acts 913 = .ok (.aload_n 0, 1) := by decide +kernel
theorem dL_acts_914 : decode cL_acts 914 = .ok (.iconst 2, 1) := by decide +kernel
theorem dL_acts_915 : decode cL_acts 915 = .ok (.invokevirtual 111, 3) := by decide +kernel
theorem dL_acts_918 : decode cL_acts 918 = .ok (.ldc 43, 2) := by decide +kernel
theorem dL_acts_920 : decode cL_acts 920 = .ok (.if_icmp .ne 7, 3) := by decide +kernel
theorem dL_acts_923 : decode cL_acts 923 = .ok (.iconst 1, 1) := by decide +kernel
theorem dL_acts_924 : decode cL_acts 924 = .ok (.goto 4, 3) := by decide +kernel
theorem dL_acts_927 : decode cL_acts 927 = .ok (.iconst 0, 1) := by decide +kernel
theorem dL_acts_928 : decode cL_acts 928 = .ok (.ireturn, 1) := by decide +kernel
theorem dL_acts_929 : decode cL_acts 929 = .ok (.aload_n 0, 1) := by decide +kernel
theorem dL_acts_930 : decode cL_acts 930 = .ok (.iconst 3, 1) := by decide +kernel
theorem dL_acts_931 : decode cL_acts 931 = .ok (.invokevirtual 9, 3) := by decide +kernel
theorem dL_acts_934 : decode cL_acts 934 = .ok (.istore 6, 2) := by decide +kernel
theorem dL_acts_936 : decode cL_acts 936 = .ok (.aload_n 0, 1) := by decide +kernel
theorem dL_acts_937 : decode cL_acts 937 = .ok (.invokevirtual 44, 3) := by decide +kernel
theorem dL_acts_940 : decode cL_acts 940 = .ok (.istore 7, 2) := by decide +kernel
theorem dL_acts_942 : decode cL_acts 942 = .ok (.aload_n 0, 1) := by decide +kernel
theorem dL_acts_943 : decode cL_acts 943 = .ok (.bipush 8, 2) := by decide +kernel
theorem dL_acts_945 : decode cL_acts 945 = .ok (.invokevirtual 9, 3) := by decide +kernel
theorem dL_acts_948 : decode cL_acts 948 = .ok (.istore 8, 2) := by decide +kernel
theorem dL_acts_950 : decode cL_acts 950 = .ok (.aload_n 0, 1) := by decide +kernel
theorem dL_acts_951 : decode cL_acts 951 = .ok (.iload 4, 2) := by decide +kernel
theorem dL_acts_953 : decode cL_acts 953 = .ok (.sipush 5000, 3) := by decide +kernel
theorem dL_acts_956 : decode cL_acts 956 = .ok (.sipush 5000, 3) := by decide +kernel
theorem dL_acts_959 : decode cL_acts 959 = .ok (.bipush 50, 2) := by decide +kernel
theorem dL_acts_961 : decode cL_acts 961 = .ok (.invokevirtual 76, 3) := by decide +kernel
theorem dL_acts_964 : decode cL_acts 964 = .ok (.ldc 43, 2) := by decide +kernel
theorem dL_acts_966 : decode cL_acts 966 = .ok (.if_icmp .ne 103, 3) := by decide +kernel
theorem dL_acts_969 : decode cL_acts 969 = .ok (.aload_n 0, 1) := by decide +kernel
theorem dL_acts_970 : decode cL_acts 970 = .ok (.iload 5, 2) := by decide +kernel
theorem dL_acts_972 : decode cL_acts 972 = .ok (.sipush 999, 3) := by decide +kernel
theorem dL_acts_975 : decode cL_acts 975 = .ok (.sipush 9000, 3) := by decide +kernel
theorem dL_acts_978 : decode cL_acts 978 = .ok (.bipush 50, 2) := by decide +kernel
theorem dL_acts_980 : decode cL_acts 980 = .ok (.invokevirtual 76, 3) := by decide +kernel
theorem dL_acts_983 : decode cL_acts 983 = .ok (.ldc 107, 2) := by decide +kernel
theorem dL_acts_985 : decode cL_acts 985 = .ok (.if_icmp .ne 84, 3) := by decide +kernel
theorem dL_acts_988 : decode cL_acts 988 = .ok (.aload_n 0, 1) := by decide +kernel
theorem dL_acts_989 : decode cL_acts 989 = .ok (.iconst 5, 1) := by decide +kernel
theorem dL_acts_990 : decode cL_acts 990 = .ok (.iconst 1, 1) := by decide +kernel
theorem dL_acts_991 : decode cL_acts 991 = .ok (.invokevirtual 91, 3) := by decide +kernel
theorem dL_acts_994 : decode cL_acts 994 = .ok (.ldc 43, 2) := by decide +kernel
theorem dL_acts_996 : decode cL_acts 996 = .ok (.if_icmp .ne 73, 3) := by decide +kernel
theorem dL_acts_999 : decode cL_acts 999 = .ok (.aload_n 0, 1) := by decide +kernel
theorem dL_acts_1000 : decode cL_acts 1000 = .ok (.iconst 0, 1) := by decide +kernel
theorem dL_acts_1001 : decode cL_acts 1001 = .ok (.iconst 0, 1) := by decide +kernel
theorem dL_acts_1002 : decode cL_acts 1002 = .ok (.invokevirtual 97, 3) := by decide +kernel
theorem dL_acts_1005 : decode cL_acts 1005 = .ok (.ldc 107, 2) := by decide +kernel
theorem dL_acts_1007 : decode cL_acts 1007 = .ok (.if_icmp .ne 62, 3) := by decide +kernel
theorem dL_acts_1010 : decode cL_acts 1010 = .ok (.aload_n 0, 1) := by decide +kernel
theorem dL_acts_1011 : decode cL_acts 1011 = .ok (.iconst (-1), 1) := by decide +kernel
theorem dL_acts_1012 : decode cL_acts 1012 = .ok (.iconst 0, 1) := by decide +kernel
theorem dL_acts_1013 : decode cL_acts 1013 = .ok (.invokevirtual 48, 3) := by decide +kernel
theorem dL_acts_1016 : decode cL_acts 1016 = .ok (.ldc 43, 2) := by decide +kernel
theorem dL_acts_1018 : decode cL_acts 1018 = .ok (.if_icmp .ne 51, 3) := by decide +kernel
theorem dL_acts_1021 : decode cL_acts 1021 = .ok (.aload_n 0, 1) := by decide +kernel
theorem dL_acts_1022 : decode cL_acts 1022 = .ok (.bipush 8, 2) := by decide +kernel
theorem dL_acts_1024 : decode cL_acts 1024 = .ok (.invokevirtual 9, 3) := by decide +kernel
theorem dL_acts_1027 : decode cL_acts 1027 = .ok (.iload 8, 2) := by decide +kernel
theorem dL_acts_1029 : decode cL_acts 1029 = .ok (.if_icmp .ne 40, 3) := by decide +kernel
theorem dL_acts_1032 : decode cL_acts 1032 = .ok (.aload_n 0, 1) := by decide +kernel
theorem dL_acts_1033 : decode cL_acts 1033 = .ok (.invokestatic 84, 3) := by decide +kernel
theorem dL_acts_1036 : decode cL_acts 1036 = .ok (.ifCond .eq 33, 3) := by decide +kernel
theorem dL_acts_1039 : decode cL_acts 1039 = .ok (.aload_n 0, 1) := by decide +kernel
theorem dL_acts_1040 : decode cL_acts 1040 = .ok (.invokevirtual 94, 3) := by decide +kernel
theorem dL_acts_1043 : decode cL_acts 1043 = .ok (.ifCond .lt 26, 3) := by decide +kernel
theorem dL_acts_1046 : decode cL_acts 1046 = .ok (.aload_n 0, 1) := by decide +kernel
theorem dL_acts_1047 : decode cL_acts 1047 = .ok (.iconst 3, 1) := by decide +kernel
theorem dL_acts_1048 : decode cL_acts 1048 = .ok (.invokevirtual 9, 3) := by decide +kernel
theorem dL_acts_1051 : decode cL_acts 1051 = .ok (.iload 6, 2) := by decide +kernel
theorem dL_acts_1053 : decode cL_acts 1053 = .ok (.if_icmp .ne 16, 3) := by decide +kernel
theorem dL_acts_1056 : decode cL_acts 1056 = .ok (.aload_n 0, 1) := by decide +kernel
theorem dL_acts_1057 : decode cL_acts 1057 = .ok (.invokevirtual 44, 3) := by decide +kernel
theorem dL_acts_1060 : decode cL_acts 1060 = .ok (.iload 7, 2) := by decide +kernel
theorem dL_acts_1062 : decode cL_acts 1062 = .ok (.if_icmp .ne 7, 3) := by decide +kernel
theorem dL_acts_1065 : decode cL_acts 1065 = .ok (.iconst 1, 1) := by decide +kernel
theorem dL_acts_1066 : decode cL_acts 1066 = .ok (.goto 4, 3) := by decide +kernel
theorem dL_acts_1069 : decode cL_acts 1069 = .ok (.iconst 0, 1) := by decide +kernel
theorem dL_acts_1070 : decode cL_acts 1070 = .ok (.ireturn, 1) := by decide +kernel
theorem dL_law_0 : decode cL_law 0 = .ok (.new 10, 3) := by decide +kernel
theorem dL_law_3 : decode cL_law 3 = .ok (.dup, 1) := by decide +kernel
theorem dL_law_4 : decode cL_law 4 = .ok (.invokespecial 117, 3) := by decide +kernel
theorem dL_law_7 : decode cL_law 7 = .ok (.astore_n 1, 1) := by decide +kernel
theorem dL_law_8 : decode cL_law 8 = .ok (.aload_n 1, 1) := by decide +kernel
theorem dL_law_9 : decode cL_law 9 = .ok (.invokestatic 118, 3) := by decide +kernel
theorem dL_law_12 : decode cL_law 12 = .ok (.ifCond .eq 40, 3) := by decide +kernel
theorem dL_law_15 : decode cL_law 15 = .ok (.aload_n 1, 1) := by decide +kernel
theorem dL_law_16 : decode cL_law 16 = .ok (.invokestatic 121, 3) := by decide +kernel
theorem dL_law_19 : decode cL_law 19 = .ok (.ifCond .eq 33, 3) := by decide +kernel
theorem dL_law_22 : decode cL_law 22 = .ok (.aload_n 1, 1) := by decide +kernel
theorem dL_law_23 : decode cL_law 23 = .ok (.invokestatic 84, 3) := by decide +kernel
theorem dL_law_26 : decode cL_law 26 = .ok (.ifCond .eq 26, 3) := by decide +kernel
theorem dL_law_29 : decode cL_law 29 = .ok (.aload_n 1, 1) := by decide +kernel
theorem dL_law_30 : decode cL_law 30 = .ok (.invokevirtual 94, 3) := by decide +kernel
theorem dL_law_33 : decode cL_law 33 = .ok (.ldc 47, 2) := by decide +kernel
theorem dL_law_35 : decode cL_law 35 = .ok (.if_icmp .ne 17, 3) := by decide +kernel
theorem dL_law_38 : decode cL_law 38 = .ok (.aload_n 1, 1) := by decide +kernel
theorem dL_law_39 : decode cL_law 39 = .ok (.iconst 0, 1) := by decide +kernel
theorem dL_law_40 : decode cL_law 40 = .ok (.invokevirtual 114, 3) := by decide +kernel
theorem dL_law_43 : decode cL_law 43 = .ok (.ldc 47, 2) := by decide +kernel
theorem dL_law_45 : decode cL_law 45 = .ok (.if_icmp .ne 7, 3) := by decide +kernel
theorem dL_law_48 : decode cL_law 48 = .ok (.iconst 1, 1) := by decide +kernel
theorem dL_law_49 : decode cL_law 49 = .ok (.goto 4, 3) := by decide +kernel
theorem dL_law_52 : decode cL_law 52 = .ok (.iconst 0, 1) := by decide +kernel
theorem dL_law_53 : decode cL_law 53 = .ok (.istore_n 2, 1) := by decide +kernel
theorem dL_law_54 : decode cL_law 54 = .ok (.iconst 1, 1) := by decide +kernel
theorem dL_law_55 : decode cL_law 55 = .ok (.aload_n 0, 1) := by decide +kernel
theorem dL_law_56 : decode cL_law 56 = .ok (.iconst 0, 1) := by decide +kernel
theorem dL_law_57 : decode cL_law 57 = .ok (.invokestatic 124, 3) := by decide +kernel
theorem dL_law_60 : decode cL_law 60 = .ok (.iconst 4, 1) := by decide +kernel
theorem dL_law_61 : decode cL_law 61 = .ok (.invokestatic 65, 3) := by decide +kernel
theorem dL_law_64 : decode cL_law 64 = .ok (.iadd, 1) := by decide +kernel
theorem dL_law_65 : decode cL_law 65 = .ok (.istore_n 3, 1) := by decide +kernel
theorem dL_law_66 : decode cL_law 66 = .ok (.iconst 0, 1) := by decide +kernel
theorem dL_law_67 : decode cL_law 67 = .ok (.istore 4, 2) := by decide +kernel
theorem dL_law_69 : decode cL_law 69 = .ok (.iload 4, 2) := by decide +kernel
theorem dL_law_71 : decode cL_law 71 = .ok (.iload_n 3, 1) := by decide +kernel
theorem dL_law_72 : decode cL_law 72 = .ok (.if_icmp .ge 131, 3) := by decide +kernel
theorem dL_law_75 : decode cL_law 75 = .ok (.iload_n 2, 1) := by decide +kernel
theorem dL_law_76 : decode cL_law 76 = .ok (.ifCond .eq 127, 3) := by decide +kernel
theorem dL_law_79 : decode cL_law 79 = .ok (.aload_n 0, 1) := by decide +kernel
theorem dL_law_80 : decode cL_law 80 = .ok (.iconst 1, 1) := by decide +kernel
theorem dL_law_81 : decode cL_law 81 = .ok (.iload 4, 2) := by decide +kernel
theorem dL_law_83 : decode cL_law 83 = .ok (.iadd, 1) := by decide +kernel
theorem dL_law_84 : decode cL_law 84 = .ok (.invokestatic 124, 3) := by decide +kernel
theorem dL_law_87 : decode cL_law 87 = .ok (.istore 5, 2) := by decide +kernel
theorem dL_law_89 : decode cL_law 89 = .ok (.bipush 60, 2) := by decide +kernel
theorem dL_law_91 : decode cL_law 91 = .ok (.iload 5, 2) := by decide +kernel
theorem dL_law_93 : decode cL_law 93 = .ok (.sipush 500, 3) := by decide +kernel
theorem dL_law_96 : decode cL_law 96 = .ok (.invokestatic 65, 3) := by decide +kernel
theorem dL_law_99 : decode cL_law 99 = .ok (.iadd, 1) := by decide +kernel
theorem dL_law_100 : decode cL_law 100 = .ok (.istore 6, 2) := by decide +kernel
theorem dL_law_102 : decode cL_law 102 = .ok (.aload_n 1, 1) := by decide +kernel
theorem dL_law_103 : decode cL_law 103 = .ok (.iload 6, 2) := by decide +kernel
theorem dL_law_105 : decode cL_law 105 = .ok (.iload 6, 2) := by decide +kernel
theorem dL_law_107 : decode cL_law 107 = .ok (.iconst 2, 1) := by decide +kernel
theorem dL_law_108 : decode cL_law 108 = .ok (.idiv, 1) := by decide +kernel
theorem dL_law_109 : decode cL_law 109 = .ok (.iload 5, 2) := by decide +kernel
theorem dL_law_111 : decode cL_law 111 = .ok (.iconst 3, 1) := by decide +kernel
theorem dL_law_112 : decode cL_law 112 = .ok (.ishr, 1) := by decide +kernel
theorem dL_law_113 : decode cL_law 113 = .ok (.iload 6, 2) := by decide +kernel
theorem dL_law_115 : decode cL_law 115 = .ok (.iconst 3, 1) := by decide +kernel
theorem dL_law_116 : decode cL_law 116 = .ok (.idiv, 1) := by decide +kernel
theorem dL_law_117 : decode cL_law 117 = .ok (.invokestatic 65, 3) := by decide +kernel
theorem dL_law_120 : decode cL_law 120 = .ok (.iadd, 1) := by decide +kernel
theorem dL_law_121 : decode cL_law 121 = .ok (.iconst 1, 1) := by decide +kernel
theorem dL_law_122 : decode cL_law 122 = .ok (.iload 5, 2) := by decide +kernel
theorem dL_law_124 : decode cL_law 124 = .ok (.iconst 5, 1) := by decide +kernel
theorem dL_law_125 : decode cL_law 125 = .ok (.ishr, 1) := by decide +kernel
theorem dL_law_126 : decode cL_law 126 = .ok (.bipush 6, 2) := by decide +kernel
theorem dL_law_128 : decode cL_law 128 = .ok (.invokestatic 65, 3) := by decide +kernel
theorem dL_law_131 : decode cL_law 131 = .ok (.iadd, 1) := by decide +kernel
theorem dL_law_132 : decode cL_law 132 = .ok (.bipush 100, 2) := by decide +kernel
theorem dL_law_134 : decode cL_law 134 = .ok (.iload 5, 2) := by decide +kernel
theorem dL_law_136 : decode cL_law 136 = .ok (.bipush 8, 2) := by decide +kernel
theorem dL_law_138 : decode cL_law 138 = .ok (.ishr, 1) := by decide +kernel
theorem dL_law_139 : decode cL_law 139 = .ok (.sipush 900, 3) := by decide +kernel
theorem dL_law_142 : decode cL_law 142 = .ok (.invokestatic 65, 3) := by decide +kernel
theorem dL_law_145 : decode cL_law 145 = .ok (.iadd, 1) := by decide +kernel
theorem dL_law_146 : decode cL_law 146 = .ok (.iload 5, 2) := by decide +kernel
theorem dL_law_148 : decode cL_law 148 = .ok (.bipush 9, 2) := by decide +kernel
theorem dL_law_150 : decode cL_law 150 = .ok (.ishr, 1) := by decide +kernel
theorem dL_law_151 : decode cL_law 151 = .ok (.sipush 3000, 3) := by decide +kernel
theorem dL_law_154 : decode cL_law 154 = .ok (.invokestatic 65, 3) := by decide +kernel
theorem dL_law_157 : decode cL_law 157 = .ok (.invokevirtual 128, 3) := by decide +kernel
theorem dL_law_160 : decode cL_law 160 = .ok (.iload 4, 2) := by decide +kernel
theorem dL_law_162 : decode cL_law 162 = .ok (.if_icmp .ne 33, 3) := by decide +kernel
theorem dL_law_165 : decode cL_law 165 = .ok (.aload_n 1, 1) := by decide +kernel
theorem dL_law_166 : decode cL_law 166 = .ok (.iload 4, 2) := by decide +kernel
theorem dL_law_168 : decode cL_law 168 = .ok (.bipush 8, 2) := by decide +kernel
theorem dL_law_170 : decode cL_law 170 = .ok (.invokevirtual 18, 3) := by decide +kernel
theorem dL_law_173 : decode cL_law 173 = .ok (.ldc 27, 2) := by decide +kernel
theorem dL_law_175 : decode cL_law 175 = .ok (.if_icmp .ne 20, 3) := by decide +kernel
theorem dL_law_178 : decode cL_law 178 = .ok (.aload_n 1, 1) := by decide +kernel
theorem dL_law_179 : decode cL_law 179 = .ok (.iload 4, 2) := by decide +kernel
theorem dL_law_181 : decode cL_law 181 = .ok (.bipush 9, 2) := by decide +kernel
theorem dL_law_183 : decode cL_law 183 = .ok (.invokevirtual 18, 3) := by decide +kernel
theorem dL_law_186 : decode cL_law 186 = .ok (.ldc 27, 2) := by decide +kernel
theorem dL_law_188 : decode cL_law 188 = .ok (.if_icmp .ne 7, 3) := by decide +kernel
theorem dL_law_191 : decode cL_law 191 = .ok (.iconst 1, 1) := by decide +kernel
theorem dL_law_192 : decode cL_law 192 = .ok (.goto 4, 3) := by decide +kernel
theorem dL_law_195 : decode cL_law 195 = .ok (.iconst 0, 1) := by decide +kernel
theorem dL_law_196 : decode cL_law 196 = .ok (.istore_n 2, 1) := by decide +kernel
theorem dL_law_197 : decode cL_law 197 = .ok (.iinc 4 1, 3) := by decide +kernel
theorem dL_law_200 : decode cL_law 200 = .ok (.goto (-131), 3) := by decide +kernel
theorem dL_law_203 : decode cL_law 203 = .ok (.iconst 3, 1) := by decide +kernel
theorem dL_law_204 : decode cL_law 204 = .ok (.istore 4, 2) := by decide +kernel
theorem dL_law_206 : decode cL_law 206 = .ok (.iload 4, 2) := by decide +kernel
theorem dL_law_208 : decode cL_law 208 = .ok (.bipush 44, 2) := by decide +kernel
theorem dL_law_210 : decode cL_law 210 = .ok (.if_icmp .ge 65, 3) := by decide +kernel
theorem dL_law_213 : decode cL_law 213 = .ok (.iload_n 2, 1) := by decide +kernel
theorem dL_law_214 : decode cL_law 214 = .ok (.ifCond .eq 61, 3) := by decide +kernel
theorem dL_law_217 : decode cL_law 217 = .ok (.aload_n 1, 1) := by decide +kernel
theorem dL_law_218 : decode cL_law 218 = .ok (.aload_n 0, 1) := by decide +kernel
theorem dL_law_219 : decode cL_law 219 = .ok (.iconst 2, 1) := by decide +kernel
theorem dL_law_220 : decode cL_law 220 = .ok (.iload 4, 2) := by decide +kernel
theorem dL_law_222 : decode cL_law 222 = .ok (.imul, 1) := by decide +kernel
theorem dL_law_223 : decode cL_law 223 = .ok (.invokestatic 124, 3) := by decide +kernel
theorem dL_law_226 : decode cL_law 226 = .ok (.aload_n 0, 1) := by decide +kernel
theorem dL_law_227 : decode cL_law 227 = .ok (.iconst 2, 1) := by decide +kernel
theorem dL_law_228 : decode cL_law 228 = .ok (.iload 4, 2) := by decide +kernel
theorem dL_law_230 : decode cL_law 230 = .ok (.imul, 1) := by decide +kernel
theorem dL_law_231 : decode cL_law 231 = .ok (.iconst 1, 1) := by decide +kernel
theorem dL_law_232 : decode cL_law 232 = .ok (.iadd, 1) := by decide +kernel
theorem dL_law_233 : decode cL_law 233 = .ok (.invokestatic 124, 3) := by decide +kernel
theorem dL_law_236 : decode cL_law 236 = .ok (.invokestatic 132, 3) := by decide +kernel
theorem dL_law_239 : decode cL_law 239 = .ok (.ifCond .eq 28, 3) := by decide +kernel
theorem dL_law_242 : decode cL_law 242 = .ok (.aload_n 1, 1) := by decide +kernel
theorem dL_law_243 : decode cL_law 243 = .ok (.invokestatic 118, 3) := by decide +kernel
theorem dL_law_246 : decode cL_law 246 = .ok (.ifCond .eq 21, 3) := by decide +kernel
theorem dL_law_249 : decode cL_law 249 = .ok (.iload 4, 2) := by decide +kernel
theorem dL_law_251 : decode cL_law 251 = .ok (.iconst 2, 1) := by decide +kernel
theorem dL_law_252 : decode cL_law 252 = .ok (.irem, 1) := by decide +kernel
theorem dL_law_253 : decode cL_law 253 = .ok (.ifCond .eq 10, 3) := by decide +kernel
theorem dL_law_256 : decode cL_law 256 = .ok (.aload_n 1, 1) := by decide +kernel
theorem dL_law_257 : decode cL_law 257 = .ok (.invokestatic 121, 3) := by decide +kernel
theorem dL_law_260 : decode cL_law 260 = .ok (.ifCond .eq 7, 3) := by decide +kernel
theorem dL_law_263 : decode cL_law 263 = .ok (.iconst 1, 1) := by decide +kernel
theorem dL_law_264 : decode cL_law 264 = .ok (.goto 4, 3) := by decide +kernel
theorem dL_law_267 : decode cL_law 267 = .ok (.iconst 0, 1) := by decide +kernel
theorem dL_law_268 : decode cL_law 268 = .ok (.istore_n 2, 1) := by decide +kernel
theorem dL_law_269 : decode cL_law 269 = .ok (.iinc 4 1, 3) := by decide +kernel
theorem dL_law_272 : decode cL_law 272 = .ok (.goto (-66), 3) := by decide +kernel
theorem dL_law_275 : decode cL_law 275 = .ok (.iload_n 2, 1) := by decide +kernel
theorem dL_law_276 : decode cL_law 276 = .ok (.ireturn, 1) := by decide +kernel
