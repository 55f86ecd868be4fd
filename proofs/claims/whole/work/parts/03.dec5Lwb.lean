theorem dL_law_750 : decode cL_law 750 = .ok (.laload, 1) := by decide +kernel
theorem dL_law_751 : decode cL_law 751 = .ok (.iload 6, 2) := by decide +kernel
theorem dL_law_753 : decode cL_law 753 = .ok (.i2l, 1) := by decide +kernel
theorem dL_law_754 : decode cL_law 754 = .ok (.lcmp, 1) := by decide +kernel
theorem dL_law_755 : decode cL_law 755 = .ok (.ifCond .eq 5, 3) := by decide +kernel
theorem dL_law_758 : decode cL_law 758 = .ok (.iconst 0, 1) := by decide +kernel
theorem dL_law_759 : decode cL_law 759 = .ok (.ireturn, 1) := by decide +kernel
theorem dL_law_760 : decode cL_law 760 = .ok (.goto 374, 3) := by decide +kernel
theorem dL_law_763 : decode cL_law 763 = .ok (.aload_n 1, 1) := by decide +kernel
theorem dL_law_764 : decode cL_law 764 = .ok (.aload_n 0, 1) := by decide +kernel
theorem dL_law_765 : decode cL_law 765 = .ok (.iload 4, 2) := by decide +kernel
theorem dL_law_767 : decode cL_law 767 = .ok (.iconst 1, 1) := by decide +kernel
theorem dL_law_768 : decode cL_law 768 = .ok (.iadd, 1) := by decide +kernel
theorem dL_law_769 : decode cL_law 769 = .ok (.iaload, 1) := by decide +kernel
theorem dL_law_770 : decode cL_law 770 = .ok (.aload_n 3, 1) := by decide +kernel
theorem dL_law_771 : decode cL_law 771 = .ok (.invokestatic 104, 3) := by decide +kernel
theorem dL_law_774 : decode cL_law 774 = .ok (.istore 5, 2) := by decide +kernel
theorem dL_law_776 : decode cL_law 776 = .ok (.aload_n 2, 1) := by decide +kernel
theorem dL_law_777 : decode cL_law 777 = .ok (.aload_n 0, 1) := by decide +kernel
theorem dL_law_778 : decode cL_law 778 = .ok (.iload 4, 2) := by decide +kernel
theorem dL_law_780 : decode cL_law 780 = .ok (.iconst 1, 1) := by decide +kernel
theorem dL_law_781 : decode cL_law 781 = .ok (.iadd, 1) := by decide +kernel
theorem dL_law_782 : decode cL_law 782 = .ok (.iaload, 1) := by decide +kernel
theorem dL_law_783 : decode cL_law 783 = .ok (.invokevirtual 106, 3) := by decide +kernel
theorem dL_law_786 : decode cL_law 786 = .ok (.istore 6, 2) := by decide +kernel
theorem dL_law_788 : decode cL_law 788 = .ok (.aload_n 2, 1) := by decide +kernel
theorem dL_law_789 : decode cL_law 789 = .ok (.invokevirtual 72, 3) := by decide +kernel
theorem dL_law_792 : decode cL_law 792 = .ok (.iload 5, 2) := by decide +kernel
theorem dL_law_794 : decode cL_law 794 = .ok (.if_icmp .eq 5, 3) := by decide +kernel
theorem dL_law_797 : decode cL_law 797 = .ok (.iconst 0, 1) := by decide +kernel
theorem dL_law_798 : decode cL_law 798 = .ok (.ireturn, 1) := by decide +kernel
theorem dL_law_799 : decode cL_law 799 = .ok (.iload 5, 2) := by decide +kernel
theorem dL_law_801 : decode cL_law 801 = .ok (.ifCond .ne 15, 3) := by decide +kernel
theorem dL_law_804 : decode cL_law 804 = .ok (.aload_n 3, 1) := by decide +kernel
theorem dL_law_805 : decode cL_law 805 = .ok (.iconst 0, 1) := by decide +kernel
theorem dL_law_806 : decode cL_law 806 = .ok (.laload, 1) := by decide +kernel
theorem dL_law_807 : decode cL_law 807 = .ok (.iload 6, 2) := by decide +kernel
theorem dL_law_809 : decode cL_law 809 = .ok (.i2l, 1) := by decide +kernel
theorem dL_law_810 : decode cL_law 810 = .ok (.lcmp, 1) := by decide +kernel
theorem dL_law_811 : decode cL_law 811 = .ok (.ifCond .eq 5, 3) := by decide +kernel
theorem dL_law_814 : decode cL_law 814 = .ok (.iconst 0, 1) := by decide +kernel
theorem dL_law_815 : decode cL_law 815 = .ok (.ireturn, 1) := by decide +kernel
theorem dL_law_816 : decode cL_law 816 = .ok (.goto 318, 3) := by decide +kernel
theorem dL_law_819 : decode cL_law 819 = .ok (.aload_n 1, 1) := by decide +kernel
theorem dL_law_820 : decode cL_law 820 = .ok (.aload_n 0, 1) := by decide +kernel
theorem dL_law_821 : decode cL_law 821 = .ok (.iload 4, 2) := by decide +kernel
theorem dL_law_823 : decode cL_law 823 = .ok (.iconst 1, 1) := by decide +kernel
theorem dL_law_824 : decode cL_law 824 = .ok (.iadd, 1) := by decide +kernel
theorem dL_law_825 : decode cL_law 825 = .ok (.iaload, 1) := by decide +kernel
theorem dL_law_826 : decode cL_law 826 = .ok (.aload_n 0, 1) := by decide +kernel
theorem dL_law_827 : decode cL_law 827 = .ok (.iload 4, 2) := by decide +kernel
theorem dL_law_829 : decode cL_law 829 = .ok (.iconst 2, 1) := by decide +kernel
theorem dL_law_830 : decode cL_law 830 = .ok (.iadd, 1) := by decide +kernel
theorem dL_law_831 : decode cL_law 831 = .ok (.iaload, 1) := by decide +kernel
theorem dL_law_832 : decode cL_law 832 = .ok (.aload_n 3, 1) := by decide +kernel
theorem dL_law_833 : decode cL_law 833 = .ok (.invokestatic 107, 3) := by decide +kernel
theorem dL_law_836 : decode cL_law 836 = .ok (.istore 5, 2) := by decide +kernel
theorem dL_law_838 : decode cL_law 838 = .ok (.aload_n 2, 1) := by decide +kernel
theorem dL_law_839 : decode cL_law 839 = .ok (.aload_n 0, 1) := by decide +kernel
theorem dL_law_840 : decode cL_law 840 = .ok (.iload 4, 2) := by decide +kernel
theorem dL_law_842 : decode cL_law 842 = .ok (.iconst 1, 1) := by decide +kernel
theorem dL_law_843 : decode cL_law 843 = .ok (.iadd, 1) := by decide +kernel
theorem dL_law_844 : decode cL_law 844 = .ok (.iaload, 1) := by decide +kernel
theorem dL_law_845 : decode cL_law 845 = .ok (.aload_n 0, 1) := by decide +kernel
theorem dL_law_846 : decode cL_law 846 = .ok (.iload 4, 2) := by decide +kernel
theorem dL_law_848 : decode cL_law 848 = .ok (.iconst 2, 1) := by decide +kernel
theorem dL_law_849 : decode cL_law 849 = .ok (.iadd, 1) := by decide +kernel
theorem dL_law_850 : decode cL_law 850 = .ok (.iaload, 1) := by decide +kernel
theorem dL_law_851 : decode cL_law 851 = .ok (.invokevirtual 109, 3) := by decide +kernel
theorem dL_law_854 : decode cL_law 854 = .ok (.istore 6, 2) := by decide +kernel
theorem dL_law_856 : decode cL_law 856 = .ok (.aload_n 2, 1) := by decide +kernel
theorem dL_law_857 : decode cL_law 857 = .ok (.invokevirtual 72, 3) := by decide +kernel
theorem dL_law_860 : decode cL_law 860 = .ok (.iload 5, 2) := by decide +kernel
theorem dL_law_862 : decode cL_law 862 = .ok (.if_icmp .eq 5, 3) := by decide +kernel
theorem dL_law_865 : decode cL_law 865 = .ok (.iconst 0, 1) := by decide +kernel
theorem dL_law_866 : decode cL_law 866 = .ok (.ireturn, 1) := by decide +kernel
theorem dL_law_867 : decode cL_law 867 = .ok (.iload 5, 2) := by decide +kernel
theorem dL_law_869 : decode cL_law 869 = .ok (.ifCond .ne 15, 3) := by decide +kernel
theorem dL_law_872 : decode cL_law 872 = .ok (.aload_n 3, 1) := by decide +kernel
theorem dL_law_873 : decode cL_law 873 = .ok (.iconst 0, 1) := by decide +kernel
theorem dL_law_874 : decode cL_law 874 = .ok (.laload, 1) := by decide +kernel
theorem dL_law_875 : decode cL_law 875 = .ok (.iload 6, 2) := by decide +kernel
theorem dL_law_877 : decode cL_law 877 = .ok (.i2l, 1) := by decide +kernel
theorem dL_law_878 : decode cL_law 878 = .ok (.lcmp, 1) := by decide +kernel
theorem dL_law_879 : decode cL_law 879 = .ok (.ifCond .eq 5, 3) := by decide +kernel
theorem dL_law_882 : decode cL_law 882 = .ok (.iconst 0, 1) := by decide +kernel
theorem dL_law_883 : decode cL_law 883 = .ok (.ireturn, 1) := by decide +kernel
theorem dL_law_884 : decode cL_law 884 = .ok (.goto 250, 3) := by decide +kernel
theorem dL_law_887 : decode cL_law 887 = .ok (.aload_n 1, 1) := by decide +kernel
theorem dL_law_888 : decode cL_law 888 = .ok (.aload_n 0, 1) := by decide +kernel
theorem dL_law_889 : decode cL_law 889 = .ok (.iload 4, 2) := by decide +kernel
theorem dL_law_891 : decode cL_law 891 = .ok (.iconst 1, 1) := by decide +kernel
theorem dL_law_892 : decode cL_law 892 = .ok (.iadd, 1) := by decide +kernel
theorem dL_law_893 : decode cL_law 893 = .ok (.iaload, 1) := by decide +kernel
theorem dL_law_894 : decode cL_law 894 = .ok (.aload_n 0, 1) := by decide +kernel
theorem dL_law_895 : decode cL_law 895 = .ok (.iload 4, 2) := by decide +kernel
theorem dL_law_897 : decode cL_law 897 = .ok (.iconst 2, 1) := by decide +kernel
theorem dL_law_898 : decode cL_law 898 = .ok (.iadd, 1) := by decide +kernel
theorem dL_law_899 : decode cL_law 899 = .ok (.iaload, 1) := by decide +kernel
theorem dL_law_900 : decode cL_law 900 = .ok (.aload_n 3, 1) := by decide +kernel
theorem dL_law_901 : decode cL_law 901 = .ok (.invokestatic 110, 3) := by decide +kernel
theorem dL_law_904 : decode cL_law 904 = .ok (.istore 5, 2) := by decide +kernel
theorem dL_law_906 : decode cL_law 906 = .ok (.aload_n 2, 1) := by decide +kernel
theorem dL_law_907 : decode cL_law 907 = .ok (.aload_n 0, 1) := by decide +kernel
theorem dL_law_908 : decode cL_law 908 = .ok (.iload 4, 2) := by decide +kernel
theorem dL_law_910 : decode cL_law 910 = .ok (.iconst 1, 1) := by decide +kernel
theorem dL_law_911 : decode cL_law 911 = .ok (.iadd, 1) := by decide +kernel
theorem dL_law_912 : decode cL_law 912 = .ok (.iaload, 1) := by decide +kernel
theorem dL_law_913 : decode cL_law 913 = .ok (.aload_n 0, 1) := by decide +kernel
theorem dL_law_914 : decode cL_law 914 = .ok (.iload 4, 2) := by decide +kernel
theorem dL_law_916 : decode cL_law 916 = .ok (.iconst 2, 1) := by decide +kernel
theorem dL_law_917 : decode cL_law 917 = .ok (.iadd, 1) := by decide +kernel
theorem dL_law_918 : decode cL_law 918 = .ok (.iaload, 1) := by decide +kernel
theorem dL_law_919 : decode cL_law 919 = .ok (.invokevirtual 112, 3) := by decide +kernel
theorem dL_law_922 : decode cL_law 922 = .ok (.istore 6, 2) := by decide +kernel
theorem dL_law_924 : decode cL_law 924 = .ok (.aload_n 2, 1) := by decide +kernel
theorem dL_law_925 : decode cL_law 925 = .ok (.invokevirtual 72, 3) := by decide +kernel
theorem dL_law_928 : decode cL_law 928 = .ok (.iload 5, 2) := by decide +kernel
theorem dL_law_930 : decode cL_law 930 = .ok (.if_icmp .eq 5, 3) := by decide +kernel
theorem dL_law_933 : decode cL_law 933 = .ok (.iconst 0, 1) := by decide +kernel
theorem dL_law_934 : decode cL_law 934 = .ok (.ireturn, 1) := by decide +kernel
theorem dL_law_935 : decode cL_law 935 = .ok (.iload 5, 2) := by decide +kernel
theorem dL_law_937 : decode cL_law 937 = .ok (.ifCond .ne 15, 3) := by decide +kernel
theorem dL_law_940 : decode cL_law 940 = .ok (.aload_n 3, 1) := by decide +kernel
theorem dL_law_941 : decode cL_law 941 = .ok (.iconst 0, 1) := by decide +kernel
theorem dL_law_942 : decode cL_law 942 = .ok (.laload, 1) := by decide +kernel
theorem dL_law_943 : decode cL_law 943 = .ok (.iload 6, 2) := by decide +kernel
theorem dL_law_945 : decode cL_law 945 = .ok (.i2l, 1) := by decide +kernel
theorem dL_law_946 : decode cL_law 946 = .ok (.lcmp, 1) := by decide +kernel
theorem dL_law_947 : decode cL_law 947 = .ok (.ifCond .eq 5, 3) := by decide +kernel
theorem dL_law_950 : decode cL_law 950 = .ok (.iconst 0, 1) := by decide +kernel
theorem dL_law_951 : decode cL_law 951 = .ok (.ireturn, 1) := by decide +kernel
theorem dL_law_952 : decode cL_law 952 = .ok (.goto 182, 3) := by decide +kernel
theorem dL_law_955 : decode cL_law 955 = .ok (.aload_n 1, 1) := by decide +kernel
theorem dL_law_956 : decode cL_law 956 = .ok (.aload_n 0, 1) := by decide +kernel
theorem dL_law_957 : decode cL_law 957 = .ok (.iload 4, 2) := by decide +kernel
theorem dL_law_959 : decode cL_law 959 = .ok (.iconst 1, 1) := by decide +kernel
theorem dL_law_960 : decode cL_law 960 = .ok (.iadd, 1) := by decide +kernel
theorem dL_law_961 : decode cL_law 961 = .ok (.iaload, 1) := by decide +kernel
theorem dL_law_962 : decode cL_law 962 = .ok (.aload_n 0, 1) := by decide +kernel
theorem dL_law_963 : decode cL_law 963 = .ok (.iload 4, 2) := by decide +kernel
theorem dL_law_965 : decode cL_law 965 = .ok (.iconst 2, 1) := by decide +kernel
theorem dL_law_966 : decode cL_law 966 = .ok (.iadd, 1) := by decide +kernel
theorem dL_law_967 : decode cL_law 967 = .ok (.iaload, 1) := by decide +kernel
theorem dL_law_968 : decode cL_law 968 = .ok (.aload_n 3, 1) := by decide +kernel
theorem dL_law_969 : decode cL_law 969 = .ok (.invokestatic 113, 3) := by decide +kernel
theorem dL_law_972 : decode cL_law 972 = .ok (.istore 5, 2) := by decide +kernel
theorem dL_law_974 : decode cL_law 974 = .ok (.aload_n 2, 1) := by decide +kernel
theorem dL_law_975 : decode cL_law 975 = .ok (.aload_n 0, 1) := by decide +kernel
theorem dL_law_976 : decode cL_law 976 = .ok (.iload 4, 2) := by decide +kernel
theorem dL_law_978 : decode cL_law 978 = .ok (.iconst 1, 1) := by decide +kernel
theorem dL_law_979 : decode cL_law 979 = .ok (.iadd, 1) := by decide +kernel
theorem dL_law_980 : decode cL_law 980 = .ok (.iaload, 1) := by decide +kernel
theorem dL_law_981 : decode cL_law 981 = .ok (.aload_n 0, 1) := by decide +kernel
theorem dL_law_982 : decode cL_law 982 = .ok (.iload 4, 2) := by decide +kernel
theorem dL_law_984 : decode cL_law 984 = .ok (.iconst 2, 1) := by decide +kernel
theorem dL_law_985 : decode cL_law 985 = .ok (.iadd, 1) := by decide +kernel
theorem dL_law_986 : decode cL_law 986 = .ok (.iaload, 1) := by decide +kernel
theorem dL_law_987 : decode cL_law 987 = .ok (.invokevirtual 115, 3) := by decide +kernel
theorem dL_law_990 : decode cL_law 990 = .ok (.istore 6, 2) := by decide +kernel
theorem dL_law_992 : decode cL_law 992 = .ok (.aload_n 2, 1) := by decide +kernel
theorem dL_law_993 : decode cL_law 993 = .ok (.invokevirtual 72, 3) := by decide +kernel
theorem dL_law_996 : decode cL_law 996 = .ok (.iload 5, 2) := by decide +kernel
theorem dL_law_998 : decode cL_law 998 = .ok (.if_icmp .eq 5, 3) := by decide +kernel
theorem dL_law_1001 : decode cL_law 1001 = .ok (.iconst 0, 1) := by decide +kernel
theorem dL_law_1002 : decode cL_law 1002 = .ok (.ireturn, 1) := by decide +kernel
theorem dL_law_1003 : decode cL_law 1003 = .ok (.iload 5, 2) := by decide +kernel
theorem dL_law_1005 : decode cL_law 1005 = .ok (.ifCond .ne 15, 3) := by decide +kernel
theorem dL_law_1008 : decode cL_law 1008 = .ok (.aload_n 3, 1) := by decide +kernel
theorem dL_law_1009 : decode cL_law 1009 = .ok (.iconst 0, 1) := by decide +kernel
theorem dL_law_1010 : decode cL_law 1010 = .ok (.laload, 1) := by decide +kernel
theorem dL_law_1011 : decode cL_law 1011 = .ok (.iload 6, 2) := by decide +kernel
theorem dL_law_1013 : decode cL_law 1013 = .ok (.i2l, 1) := by decide +kernel
theorem dL_law_1014 : decode cL_law 1014 = .ok (.lcmp, 1) := by decide +kernel
theorem dL_law_1015 : decode cL_law 1015 = .ok (.ifCond .eq 5, 3) := by decide +kernel
theorem dL_law_1018 : decode cL_law 1018 = .ok (.iconst 0, 1) := by decide +kernel
theorem dL_law_1019 : decode cL_law 1019 = .ok (.ireturn, 1) := by decide +kernel
theorem dL_law_1020 : decode cL_law 1020 = .ok (.goto 114, 3) := by decide +kernel
theorem dL_law_1023 : decode cL_law 1023 = .ok (.aload_n 1, 1) := by decide +kernel
theorem dL_law_1024 : decode cL_law 1024 = .ok (.aload_n 0, 1) := by decide +kernel
theorem dL_law_1025 : decode cL_law 1025 = .ok (.iload 4, 2) := by decide +kernel
theorem dL_law_1027 : decode cL_law 1027 = .ok (.iconst 1, 1) := by decide +kernel
theorem dL_law_1028 : decode cL_law 1028 = .ok (.iadd, 1) := by decide +kernel
theorem dL_law_1029 : decode cL_law 1029 = .ok (.iaload, 1) := by decide +kernel
theorem dL_law_1030 : decode cL_law 1030 = .ok (.aload_n 0, 1) := by decide +kernel
theorem dL_law_1031 : decode cL_law 1031 = .ok (.iload 4, 2) := by decide +kernel
theorem dL_law_1033 : decode cL_law 1033 = .ok (.iconst 2, 1) := by decide +kernel
theorem dL_law_1034 : decode cL_law 1034 = .ok (.iadd, 1) := by decide +kernel
theorem dL_law_1035 : decode cL_law 1035 = .ok (.iaload, 1) := by decide +kernel
theorem dL_law_1036 : decode cL_law 1036 = .ok (.aload_n 3, 1) := by decide +kernel
theorem dL_law_1037 : decode cL_law 1037 = .ok (.invokestatic 116, 3) := by decide +kernel
theorem dL_law_1040 : decode cL_law 1040 = .ok (.istore 5, 2) := by decide +kernel
theorem dL_law_1042 : decode cL_law 1042 = .ok (.aload_n 2, 1) := by decide +kernel
theorem dL_law_1043 : decode cL_law 1043 = .ok (.aload_n 0, 1) := by decide +kernel
theorem dL_law_1044 : decode cL_law 1044 = .ok (.iload 4, 2) := by decide +kernel
theorem dL_law_1046 : decode cL_law 1046 = .ok (.iconst 1, 1) := by decide +kernel
theorem dL_law_1047 : decode cL_law 1047 = .ok (.iadd, 1) := by decide +kernel
theorem dL_law_1048 : decode cL_law 1048 = .ok (.iaload, 1) := by decide +kernel
theorem dL_law_1049 : decode cL_law 1049 = .ok (.aload_n 0, 1) := by decide +kernel
theorem dL_law_1050 : decode cL_law 1050 = .ok (.iload 4, 2) := by decide +kernel
theorem dL_law_1052 : decode cL_law 1052 = .ok (.iconst 2, 1) := by decide +kernel
theorem dL_law_1053 : decode cL_law 1053 = .ok (.iadd, 1) := by decide +kernel
theorem dL_law_1054 : decode cL_law 1054 = .ok (.iaload, 1) := by decide +kernel
theorem dL_law_1055 : decode cL_law 1055 = .ok (.invokevirtual 118, 3) := by decide +kernel
theorem dL_law_1058 : decode cL_law 1058 = .ok (.istore 6, 2) := by decide +kernel
theorem dL_law_1060 : decode cL_law 1060 = .ok (.aload_n 2, 1) := by decide +kernel
theorem dL_law_1061 : decode cL_law 1061 = .ok (.invokevirtual 72, 3) := by decide +kernel
theorem dL_law_1064 : decode cL_law 1064 = .ok (.iload 5, 2) := by decide +kernel
theorem dL_law_1066 : decode cL_law 1066 = .ok (.if_icmp .eq 5, 3) := by decide +kernel
theorem dL_law_1069 : decode cL_law 1069 = .ok (.iconst 0, 1) := by decide +kernel
theorem dL_law_1070 : decode cL_law 1070 = .ok (.ireturn, 1) := by decide +kernel
theorem dL_law_1071 : decode cL_law 1071 = .ok (.iload 5, 2) := by decide +kernel
theorem dL_law_1073 : decode cL_law 1073 = .ok (.ifCond .ne 15, 3) := by decide +kernel
theorem dL_law_1076 : decode cL_law 1076 = .ok (.aload_n 3, 1) := by decide +kernel
theorem dL_law_1077 : decode cL_law 1077 = .ok (.iconst 0, 1) := by decide +kernel
theorem dL_law_1078 : decode cL_law 1078 = .ok (.laload, 1) := by decide +kernel
theorem dL_law_1079 : decode cL_law 1079 = .ok (.iload 6, 2) := by decide +kernel
theorem dL_law_1081 : decode cL_law 1081 = .ok (.i2l, 1) := by decide +kernel
theorem dL_law_1082 : decode cL_law 1082 = .ok (.lcmp, 1) := by decide +kernel
theorem dL_law_1083 : decode cL_law 1083 = .ok (.ifCond .eq 5, 3) := by decide +kernel
theorem dL_law_1086 : decode cL_law 1086 = .ok (.iconst 0, 1) := by decide +kernel
theorem dL_law_1087 : decode cL_law 1087 = .ok (.ireturn, 1) := by decide +kernel
theorem dL_law_1088 : decode cL_law 1088 = .ok (.goto 46, 3) := by decide +kernel
theorem dL_law_1091 : decode cL_law 1091 = .ok (.aload_n 1, 1) := by decide +kernel
theorem dL_law_1092 : decode cL_law 1092 = .ok (.invokevirtual 119, 3) := by decide +kernel
theorem dL_law_1095 : decode cL_law 1095 = .ok (.f2d, 1) := by decide +kernel
theorem dL_law_1096 : decode cL_law 1096 = .ok (.dstore 5, 2) := by decide +kernel
theorem dL_law_1098 : decode cL_law 1098 = .ok (.aload_n 2, 1) := by decide +kernel
theorem dL_law_1099 : decode cL_law 1099 = .ok (.invokevirtual 123, 3) := by decide +kernel
theorem dL_law_1102 : decode cL_law 1102 = .ok (.f2d, 1) := by decide +kernel
theorem dL_law_1103 : decode cL_law 1103 = .ok (.dstore 7, 2) := by decide +kernel
theorem dL_law_1105 : decode cL_law 1105 = .ok (.dload 5, 2) := by decide +kernel
theorem dL_law_1107 : decode cL_law 1107 = .ok (.dload 7, 2) := by decide +kernel
theorem dL_law_1109 : decode cL_law 1109 = .ok (.dcmp .l, 1) := by decide +kernel
theorem dL_law_1110 : decode cL_law 1110 = .ok (.ifCond .eq 21, 3) := by decide +kernel
theorem dL_law_1113 : decode cL_law 1113 = .ok (.dload 5, 2) := by decide +kernel
theorem dL_law_1115 : decode cL_law 1115 = .ok (.dload 5, 2) := by decide +kernel
theorem dL_law_1117 : decode cL_law 1117 = .ok (.dcmp .l, 1) := by decide +kernel
theorem dL_law_1118 : decode cL_law 1118 = .ok (.ifCond .eq 11, 3) := by decide +kernel
theorem dL_law_1121 : decode cL_law 1121 = .ok (.dload 7, 2) := by decide +kernel
theorem dL_law_1123 : decode cL_law 1123 = .ok (.dload 7, 2) := by decide +kernel
theorem dL_law_1125 : decode cL_law 1125 = .ok (.dcmp .l, 1) := by decide +kernel
theorem dL_law_1126 : decode cL_law 1126 = .ok (.ifCond .ne 5, 3) := by decide +kernel
theorem dL_law_1129 : decode cL_law 1129 = .ok (.iconst 0, 1) := by decide +kernel
theorem dL_law_1130 : decode cL_law 1130 = .ok (.ireturn, 1) := by decide +kernel
theorem dL_law_1131 : decode cL_law 1131 = .ok (.goto 3, 3) := by decide +kernel
theorem dL_law_1134 : decode cL_law 1134 = .ok (.iinc 4 5, 3) := by decide +kernel
theorem dL_law_1137 : decode cL_law 1137 = .ok (.goto (-1114), 3) := by decide +kernel
theorem dL_law_1140 : decode cL_law 1140 = .ok (.iconst 1, 1) := by decide +kernel
theorem dL_law_1141 : decode cL_law 1141 = .ok (.ireturn, 1) := by decide +kernel
