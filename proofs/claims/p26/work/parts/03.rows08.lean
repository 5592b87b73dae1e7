theorem dL_acts_700 : decode cL_acts 700 = .ok (.iload 5, 2) := by decide +kernel
theorem dL_acts_702 : decode cL_acts 702 = .ok (.aload_n 3, 1) := by decide +kernel
theorem dL_acts_703 : decode cL_acts 703 = .ok (.iconst 0, 1) := by decide +kernel
theorem dL_acts_704 : decode cL_acts 704 = .ok (.iaload, 1) := by decide +kernel
theorem dL_acts_705 : decode cL_acts 705 = .ok (.invokestatic 127, 3) := by decide +kernel
theorem dL_acts_708 : decode cL_acts 708 = .ok (.istore 7, 2) := by decide +kernel
theorem dL_acts_710 : decode cL_acts 710 = .ok (.iload 5, 2) := by decide +kernel
theorem dL_acts_712 : decode cL_acts 712 = .ok (.iconst 4, 1) := by decide +kernel
theorem dL_acts_713 : decode cL_acts 713 = .ok (.ishr, 1) := by decide +kernel
theorem dL_acts_714 : decode cL_acts 714 = .ok (.aload_n 3, 1) := by decide +kernel
theorem dL_acts_715 : decode cL_acts 715 = .ok (.iconst 0, 1) := by decide +kernel
theorem dL_acts_716 : decode cL_acts 716 = .ok (.iaload, 1) := by decide +kernel
theorem dL_acts_717 : decode cL_acts 717 = .ok (.invokestatic 127, 3) := by decide +kernel
theorem dL_acts_720 : decode cL_acts 720 = .ok (.istore 8, 2) := by decide +kernel
theorem dL_acts_722 : decode cL_acts 722 = .ok (.iload 7, 2) := by decide +kernel
theorem dL_acts_724 : decode cL_acts 724 = .ok (.iload 8, 2) := by decide +kernel
theorem dL_acts_726 : decode cL_acts 726 = .ok (.if_icmp .ne 8, 3) := by decide +kernel
theorem dL_acts_729 : decode cL_acts 729 = .ok (.ldc 18, 2) := by decide +kernel
theorem dL_acts_731 : decode cL_acts 731 = .ok (.goto 19, 3) := by decide +kernel
theorem dL_acts_734 : decode cL_acts 734 = .ok (.aload_n 3, 1) := by decide +kernel
theorem dL_acts_735 : decode cL_acts 735 = .ok (.iconst 1, 1) := by decide +kernel
theorem dL_acts_736 : decode cL_acts 736 = .ok (.iaload, 1) := by decide +kernel
theorem dL_acts_737 : decode cL_acts 737 = .ok (.bipush 60, 2) := by decide +kernel
theorem dL_acts_739 : decode cL_acts 739 = .ok (.if_icmp .ne 8, 3) := by decide +kernel
theorem dL_acts_742 : decode cL_acts 742 = .ok (.ldc 32, 2) := by decide +kernel
theorem dL_acts_744 : decode cL_acts 744 = .ok (.goto 6, 3) := by decide +kernel
theorem dL_acts_747 : decode cL_acts 747 = .ok (.aload_n 3, 1) := by decide +kernel
theorem dL_acts_748 : decode cL_acts 748 = .ok (.iconst 1, 1) := by decide +kernel
theorem dL_acts_749 : decode cL_acts 749 = .ok (.iaload, 1) := by decide +kernel
theorem dL_acts_750 : decode cL_acts 750 = .ok (.istore 9, 2) := by decide +kernel
theorem dL_acts_752 : decode cL_acts 752 = .ok (.iload 9, 2) := by decide +kernel
theorem dL_acts_754 : decode cL_acts 754 = .ok (.ifCond .lt 26, 3) := by decide +kernel
theorem dL_acts_757 : decode cL_acts 757 = .ok (.aload_n 3, 1) := by decide +kernel
theorem dL_acts_758 : decode cL_acts 758 = .ok (.iconst 2, 1) := by decide +kernel
theorem dL_acts_759 : decode cL_acts 759 = .ok (.iconst 1, 1) := by decide +kernel
theorem dL_acts_760 : decode cL_acts 760 = .ok (.iastore, 1) := by decide +kernel
theorem dL_acts_761 : decode cL_acts 761 = .ok (.aload_n 3, 1) := by decide +kernel
theorem dL_acts_762 : decode cL_acts 762 = .ok (.iconst 3, 1) := by decide +kernel
theorem dL_acts_763 : decode cL_acts 763 = .ok (.iconst 0, 1) := by decide +kernel
theorem dL_acts_764 : decode cL_acts 764 = .ok (.iastore, 1) := by decide +kernel
theorem dL_acts_765 : decode cL_acts 765 = .ok (.aload_n 3, 1) := by decide +kernel
theorem dL_acts_766 : decode cL_acts 766 = .ok (.iconst 4, 1) := by decide +kernel
theorem dL_acts_767 : decode cL_acts 767 = .ok (.iconst 0, 1) := by decide +kernel
theorem dL_acts_768 : decode cL_acts 768 = .ok (.iastore, 1) := by decide +kernel
theorem dL_acts_769 : decode cL_acts 769 = .ok (.aload_n 3, 1) := by decide +kernel
theorem dL_acts_770 : decode cL_acts 770 = .ok (.iconst 5, 1) := by decide +kernel
theorem dL_acts_771 : decode cL_acts 771 = .ok (.iload 7, 2) := by decide +kernel
theorem dL_acts_773 : decode cL_acts 773 = .ok (.iastore, 1) := by decide +kernel
theorem dL_acts_774 : decode cL_acts 774 = .ok (.aload_n 3, 1) := by decide +kernel
theorem dL_acts_775 : decode cL_acts 775 = .ok (.bipush 6, 2) := by decide +kernel
theorem dL_acts_777 : decode cL_acts 777 = .ok (.iload 8, 2) := by decide +kernel
theorem dL_acts_779 : decode cL_acts 779 = .ok (.iastore, 1) := by decide +kernel
theorem dL_acts_780 : decode cL_acts 780 = .ok (.aload_n 0, 1) := by decide +kernel
theorem dL_acts_781 : decode cL_acts 781 = .ok (.iconst 0, 1) := by decide +kernel
theorem dL_acts_782 : decode cL_acts 782 = .ok (.invokestatic 139, 3) := by decide +kernel
theorem dL_acts_785 : decode cL_acts 785 = .ok (.ldc 32, 2) := by decide +kernel
theorem dL_acts_787 : decode cL_acts 787 = .ok (.if_icmp .ne 70, 3) := by decide +kernel
theorem dL_acts_790 : decode cL_acts 790 = .ok (.aload_n 0, 1) := by decide +kernel
theorem dL_acts_791 : decode cL_acts 791 = .ok (.iconst 0, 1) := by decide +kernel
theorem dL_acts_792 : decode cL_acts 792 = .ok (.invokestatic 143, 3) := by decide +kernel
theorem dL_acts_795 : decode cL_acts 795 = .ok (.ldc 32, 2) := by decide +kernel
theorem dL_acts_797 : decode cL_acts 797 = .ok (.if_icmp .ne 60, 3) := by decide +kernel
theorem dL_acts_800 : decode cL_acts 800 = .ok (.aload_n 0, 1) := by decide +kernel
theorem dL_acts_801 : decode cL_acts 801 = .ok (.aload_n 3, 1) := by decide +kernel
theorem dL_acts_802 : decode cL_acts 802 = .ok (.iconst 0, 1) := by decide +kernel
theorem dL_acts_803 : decode cL_acts 803 = .ok (.iaload, 1) := by decide +kernel
theorem dL_acts_804 : decode cL_acts 804 = .ok (.iconst 0, 1) := by decide +kernel
theorem dL_acts_805 : decode cL_acts 805 = .ok (.invokestatic 141, 3) := by decide +kernel
theorem dL_acts_808 : decode cL_acts 808 = .ok (.ldc 38, 2) := by decide +kernel
theorem dL_acts_810 : decode cL_acts 810 = .ok (.if_icmp .ne 47, 3) := by decide +kernel
theorem dL_acts_813 : decode cL_acts 813 = .ok (.aload_n 0, 1) := by decide +kernel
theorem dL_acts_814 : decode cL_acts 814 = .ok (.iload 7, 2) := by decide +kernel
theorem dL_acts_816 : decode cL_acts 816 = .ok (.iload 8, 2) := by decide +kernel
theorem dL_acts_818 : decode cL_acts 818 = .ok (.invokestatic 141, 3) := by decide +kernel
theorem dL_acts_821 : decode cL_acts 821 = .ok (.iload 9, 2) := by decide +kernel
theorem dL_acts_823 : decode cL_acts 823 = .ok (.if_icmp .ne 34, 3) := by decide +kernel
theorem dL_acts_826 : decode cL_acts 826 = .ok (.aload_n 0, 1) := by decide +kernel
theorem dL_acts_827 : decode cL_acts 827 = .ok (.invokevirtual 133, 3) := by decide +kernel
theorem dL_acts_830 : decode cL_acts 830 = .ok (.iload 9, 2) := by decide +kernel
theorem dL_acts_832 : decode cL_acts 832 = .ok (.ifCond .ge 7, 3) := by decide +kernel
theorem dL_acts_835 : decode cL_acts 835 = .ok (.iconst (-1), 1) := by decide +kernel
theorem dL_acts_836 : decode cL_acts 836 = .ok (.goto 4, 3) := by decide +kernel
theorem dL_acts_839 : decode cL_acts 839 = .ok (.iconst 1, 1) := by decide +kernel
theorem dL_acts_840 : decode cL_acts 840 = .ok (.if_icmp .ne 17, 3) := by decide +kernel
theorem dL_acts_843 : decode cL_acts 843 = .ok (.aload_n 0, 1) := by decide +kernel
theorem dL_acts_844 : decode cL_acts 844 = .ok (.invokevirtual 149, 3) := by decide +kernel
theorem dL_acts_847 : decode cL_acts 847 = .ok (.aload_n 3, 1) := by decide +kernel
theorem dL_acts_848 : decode cL_acts 848 = .ok (.iconst 1, 1) := by decide +kernel
theorem dL_acts_849 : decode cL_acts 849 = .ok (.iaload, 1) := by decide +kernel
theorem dL_acts_850 : decode cL_acts 850 = .ok (.if_icmp .ne 7, 3) := by decide +kernel
theorem dL_acts_853 : decode cL_acts 853 = .ok (.iconst 1, 1) := by decide +kernel
theorem dL_acts_854 : decode cL_acts 854 = .ok (.goto 4, 3) := by decide +kernel
theorem dL_acts_857 : decode cL_acts 857 = .ok (.iconst 0, 1) := by decide +kernel
theorem dL_acts_858 : decode cL_acts 858 = .ok (.ireturn, 1) := by decide +kernel
theorem dL_acts_859 : decode cL_acts 859 = .ok (.iload 4, 2) := by decide +kernel
theorem dL_acts_861 : decode cL_acts 861 = .ok (.bipush 7, 2) := by decide +kernel
theorem dL_acts_863 : decode cL_acts 863 = .ok (.ishr, 1) := by decide +kernel
theorem dL_acts_864 : decode cL_acts 864 = .ok (.aload_n 3, 1) := by decide +kernel
theorem dL_acts_865 : decode cL_acts 865 = .ok (.iconst 0, 1) := by decide +kernel
theorem dL_acts_866 : decode cL_acts 866 = .ok (.iaload, 1) := by decide +kernel
theorem dL_acts_867 : decode cL_acts 867 = .ok (.invokestatic 127, 3) := by decide +kernel
theorem dL_acts_870 : decode cL_acts 870 = .ok (.istore 7, 2) := by decide +kernel
theorem dL_acts_872 : decode cL_acts 872 = .ok (.aload_n 0, 1) := by decide +kernel
theorem dL_acts_873 : decode cL_acts 873 = .ok (.invokevirtual 105, 3) := by decide +kernel
theorem dL_acts_876 : decode cL_acts 876 = .ok (.istore 8, 2) := by decide +kernel
theorem dL_acts_878 : decode cL_acts 878 = .ok (.iload 5, 2) := by decide +kernel
theorem dL_acts_880 : decode cL_acts 880 = .ok (.iconst 3, 1) := by decide +kernel
theorem dL_acts_881 : decode cL_acts 881 = .ok (.invokestatic 127, 3) := by decide +kernel
theorem dL_acts_884 : decode cL_acts 884 = .ok (.ifCond .le 21, 3) := by decide +kernel
theorem dL_acts_887 : decode cL_acts 887 = .ok (.aload_n 0, 1) := by decide +kernel
theorem dL_acts_888 : decode cL_acts 888 = .ok (.iload 7, 2) := by decide +kernel
theorem dL_acts_890 : decode cL_acts 890 = .ok (.invokestatic 112, 3) := by decide +kernel
theorem dL_acts_893 : decode cL_acts 893 = .ok (.ifCond .lt 12, 3) := by decide +kernel
theorem dL_acts_896 : decode cL_acts 896 = .ok (.aload_n 0, 1) := by decide +kernel
theorem dL_acts_897 : decode cL_acts 897 = .ok (.iload 7, 2) := by decide +kernel
theorem dL_acts_899 : decode cL_acts 899 = .ok (.invokestatic 112, 3) := by decide +kernel
theorem dL_acts_902 : decode cL_acts 902 = .ok (.goto 14, 3) := by decide +kernel
theorem dL_acts_905 : decode cL_acts 905 = .ok (.iload 5, 2) := by decide +kernel
theorem dL_acts_907 : decode cL_acts 907 = .ok (.iconst 2, 1) := by decide +kernel
theorem dL_acts_908 : decode cL_acts 908 = .ok (.ishr, 1) := by decide +kernel
theorem dL_acts_909 : decode cL_acts 909 = .ok (.iload 8, 2) := by decide +kernel
theorem dL_acts_911 : decode cL_acts 911 = .ok (.iconst 1, 1) := by decide +kernel
theorem dL_acts_912 : decode cL_acts 912 = .ok (.iadd, 1) := by decide +kernel
theorem dL_acts_913 : decode cL_acts 913 = .ok (.invokestatic 127, 3) := by decide +kernel
theorem dL_acts_916 : decode cL_acts 916 = .ok (.istore 9, 2) := by decide +kernel
theorem dL_acts_918 : decode cL_acts 918 = .ok (.iload 9, 2) := by decide +kernel
theorem dL_acts_920 : decode cL_acts 920 = .ok (.iload 8, 2) := by decide +kernel
theorem dL_acts_922 : decode cL_acts 922 = .ok (.if_icmp .ne 37, 3) := by decide +kernel
theorem dL_acts_925 : decode cL_acts 925 = .ok (.aload_n 0, 1) := by decide +kernel
theorem dL_acts_926 : decode cL_acts 926 = .ok (.iload 7, 2) := by decide +kernel
theorem dL_acts_928 : decode cL_acts 928 = .ok (.iload 8, 2) := by decide +kernel
theorem dL_acts_930 : decode cL_acts 930 = .ok (.iconst 4, 1) := by decide +kernel
theorem dL_acts_931 : decode cL_acts 931 = .ok (.invokestatic 152, 3) := by decide +kernel
theorem dL_acts_934 : decode cL_acts 934 = .ok (.ldc 38, 2) := by decide +kernel
theorem dL_acts_936 : decode cL_acts 936 = .ok (.if_icmp .ne 21, 3) := by decide +kernel
theorem dL_acts_939 : decode cL_acts 939 = .ok (.aload_n 0, 1) := by decide +kernel
theorem dL_acts_940 : decode cL_acts 940 = .ok (.aload_n 3, 1) := by decide +kernel
theorem dL_acts_941 : decode cL_acts 941 = .ok (.iconst 0, 1) := by decide +kernel
theorem dL_acts_942 : decode cL_acts 942 = .ok (.iaload, 1) := by decide +kernel
theorem dL_acts_943 : decode cL_acts 943 = .ok (.iconst 0, 1) := by decide +kernel
theorem dL_acts_944 : decode cL_acts 944 = .ok (.iconst 0, 1) := by decide +kernel
theorem dL_acts_945 : decode cL_acts 945 = .ok (.invokestatic 152, 3) := by decide +kernel
theorem dL_acts_948 : decode cL_acts 948 = .ok (.ldc 38, 2) := by decide +kernel
theorem dL_acts_950 : decode cL_acts 950 = .ok (.if_icmp .ne 7, 3) := by decide +kernel
theorem dL_acts_953 : decode cL_acts 953 = .ok (.iconst 1, 1) := by decide +kernel
theorem dL_acts_954 : decode cL_acts 954 = .ok (.goto 4, 3) := by decide +kernel
theorem dL_acts_957 : decode cL_acts 957 = .ok (.iconst 0, 1) := by decide +kernel
theorem dL_acts_958 : decode cL_acts 958 = .ok (.ireturn, 1) := by decide +kernel
theorem dL_acts_959 : decode cL_acts 959 = .ok (.aload_n 0, 1) := by decide +kernel
theorem dL_acts_960 : decode cL_acts 960 = .ok (.iload 9, 2) := by decide +kernel
theorem dL_acts_962 : decode cL_acts 962 = .ok (.invokestatic 108, 3) := by decide +kernel
theorem dL_acts_965 : decode cL_acts 965 = .ok (.iconst 5, 1) := by decide +kernel
theorem dL_acts_966 : decode cL_acts 966 = .ok (.irem, 1) := by decide +kernel
theorem dL_acts_967 : decode cL_acts 967 = .ok (.istore 10, 2) := by decide +kernel
theorem dL_acts_969 : decode cL_acts 969 = .ok (.aload_n 0, 1) := by decide +kernel
theorem dL_acts_970 : decode cL_acts 970 = .ok (.iload 7, 2) := by decide +kernel
theorem dL_acts_972 : decode cL_acts 972 = .ok (.iload 10, 2) := by decide +kernel
theorem dL_acts_974 : decode cL_acts 974 = .ok (.invokestatic 114, 3) := by decide +kernel
theorem dL_acts_977 : decode cL_acts 977 = .ok (.istore 11, 2) := by decide +kernel
theorem dL_acts_979 : decode cL_acts 979 = .ok (.iload 5, 2) := by decide +kernel
theorem dL_acts_981 : decode cL_acts 981 = .ok (.bipush 8, 2) := by decide +kernel
theorem dL_acts_983 : decode cL_acts 983 = .ok (.ishr, 1) := by decide +kernel
theorem dL_acts_984 : decode cL_acts 984 = .ok (.iconst 3, 1) := by decide +kernel
theorem dL_acts_985 : decode cL_acts 985 = .ok (.invokestatic 127, 3) := by decide +kernel
theorem dL_acts_988 : decode cL_acts 988 = .ok (.ifCond .le 16, 3) := by decide +kernel
theorem dL_acts_991 : decode cL_acts 991 = .ok (.aload_n 0, 1) := by decide +kernel
theorem dL_acts_992 : decode cL_acts 992 = .ok (.aload_n 0, 1) := by decide +kernel
theorem dL_acts_993 : decode cL_acts 993 = .ok (.iload 9, 2) := by decide +kernel
theorem dL_acts_995 : decode cL_acts 995 = .ok (.invokestatic 108, 3) := by decide +kernel
theorem dL_acts_998 : decode cL_acts 998 = .ok (.invokestatic 89, 3) := by decide +kernel
theorem dL_acts_1001 : decode cL_acts 1001 = .ok (.goto 12, 3) := by decide +kernel
theorem dL_acts_1004 : decode cL_acts 1004 = .ok (.iload 5, 2) := by decide +kernel
theorem dL_acts_1006 : decode cL_acts 1006 = .ok (.bipush 10, 2) := by decide +kernel
theorem dL_acts_1008 : decode cL_acts 1008 = .ok (.ishr, 1) := by decide +kernel
theorem dL_acts_1009 : decode cL_acts 1009 = .ok (.iconst 4, 1) := by decide +kernel
theorem dL_acts_1010 : decode cL_acts 1010 = .ok (.invokestatic 127, 3) := by decide +kernel
theorem dL_acts_1013 : decode cL_acts 1013 = .ok (.istore 12, 2) := by decide +kernel
theorem dL_acts_1015 : decode cL_acts 1015 = .ok (.aload_n 1, 1) := by decide +kernel
theorem dL_acts_1016 : decode cL_acts 1016 = .ok (.iconst 2, 1) := by decide +kernel
theorem dL_acts_1017 : decode cL_acts 1017 = .ok (.iload 7, 2) := by decide +kernel
theorem dL_acts_1019 : decode cL_acts 1019 = .ok (.imul, 1) := by decide +kernel
theorem dL_acts_1020 : decode cL_acts 1020 = .ok (.iload 9, 2) := by decide +kernel
theorem dL_acts_1022 : decode cL_acts 1022 = .ok (.bipush 20, 2) := by decide +kernel
theorem dL_acts_1024 : decode cL_acts 1024 = .ok (.idiv, 1) := by decide +kernel
theorem dL_acts_1025 : decode cL_acts 1025 = .ok (.iadd, 1) := by decide +kernel
theorem dL_acts_1026 : decode cL_acts 1026 = .ok (.iaload, 1) := by decide +kernel
theorem dL_acts_1027 : decode cL_acts 1027 = .ok (.iload 9, 2) := by decide +kernel
theorem dL_acts_1029 : decode cL_acts 1029 = .ok (.bipush 20, 2) := by decide +kernel
theorem dL_acts_1031 : decode cL_acts 1031 = .ok (.irem, 1) := by decide +kernel
theorem dL_acts_1032 : decode cL_acts 1032 = .ok (.ishr, 1) := by decide +kernel
theorem dL_acts_1033 : decode cL_acts 1033 = .ok (.iconst 1, 1) := by decide +kernel
theorem dL_acts_1034 : decode cL_acts 1034 = .ok (.iand, 1) := by decide +kernel
theorem dL_acts_1035 : decode cL_acts 1035 = .ok (.iconst 1, 1) := by decide +kernel
theorem dL_acts_1036 : decode cL_acts 1036 = .ok (.if_icmp .ne 7, 3) := by decide +kernel
theorem dL_acts_1039 : decode cL_acts 1039 = .ok (.iconst 1, 1) := by decide +kernel
theorem dL_acts_1040 : decode cL_acts 1040 = .ok (.goto 4, 3) := by decide +kernel
theorem dL_acts_1043 : decode cL_acts 1043 = .ok (.iconst 0, 1) := by decide +kernel
theorem dL_acts_1044 : decode cL_acts 1044 = .ok (.istore 13, 2) := by decide +kernel
theorem dL_acts_1046 : decode cL_acts 1046 = .ok (.iload 13, 2) := by decide +kernel
theorem dL_acts_1048 : decode cL_acts 1048 = .ok (.ifCond .eq 8, 3) := by decide +kernel
theorem dL_acts_1051 : decode cL_acts 1051 = .ok (.ldc 32, 2) := by decide +kernel
theorem dL_acts_1053 : decode cL_acts 1053 = .ok (.goto 23, 3) := by decide +kernel
theorem dL_acts_1056 : decode cL_acts 1056 = .ok (.iload 12, 2) := by decide +kernel
theorem dL_acts_1058 : decode cL_acts 1058 = .ok (.aload_n 0, 1) := by decide +kernel
theorem dL_acts_1059 : decode cL_acts 1059 = .ok (.aload_n 0, 1) := by decide +kernel
theorem dL_acts_1060 : decode cL_acts 1060 = .ok (.iload 9, 2) := by decide +kernel
theorem dL_acts_1062 : decode cL_acts 1062 = .ok (.invokestatic 108, 3) := by decide +kernel
theorem dL_acts_1065 : decode cL_acts 1065 = .ok (.invokestatic 89, 3) := by decide +kernel
theorem dL_acts_1068 : decode cL_acts 1068 = .ok (.if_icmp .ne 7, 3) := by decide +kernel
theorem dL_acts_1071 : decode cL_acts 1071 = .ok (.iconst 1, 1) := by decide +kernel
theorem dL_acts_1072 : decode cL_acts 1072 = .ok (.goto 4, 3) := by decide +kernel
theorem dL_acts_1075 : decode cL_acts 1075 = .ok (.iconst 0, 1) := by decide +kernel
theorem dL_acts_1076 : decode cL_acts 1076 = .ok (.istore 14, 2) := by decide +kernel
theorem dL_acts_1078 : decode cL_acts 1078 = .ok (.aload_n 1, 1) := by decide +kernel
theorem dL_acts_1079 : decode cL_acts 1079 = .ok (.iconst 2, 1) := by decide +kernel
theorem dL_acts_1080 : decode cL_acts 1080 = .ok (.iload 7, 2) := by decide +kernel
theorem dL_acts_1082 : decode cL_acts 1082 = .ok (.imul, 1) := by decide +kernel
theorem dL_acts_1083 : decode cL_acts 1083 = .ok (.iload 9, 2) := by decide +kernel
theorem dL_acts_1085 : decode cL_acts 1085 = .ok (.bipush 20, 2) := by decide +kernel
theorem dL_acts_1087 : decode cL_acts 1087 = .ok (.idiv, 1) := by decide +kernel
