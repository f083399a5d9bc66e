/-! decode rows of the law -/
theorem d_l_law_806 : decode code 806 = .ok (.aload_n 2, 1) := by decide +kernel
theorem d_l_law_807 : decode code 807 = .ok (.aload_n 0, 1) := by decide +kernel
theorem d_l_law_808 : decode code 808 = .ok (.iload 4, 2) := by decide +kernel
theorem d_l_law_810 : decode code 810 = .ok (.iconst 1, 1) := by decide +kernel
theorem d_l_law_811 : decode code 811 = .ok (.iadd, 1) := by decide +kernel
theorem d_l_law_812 : decode code 812 = .ok (.iaload, 1) := by decide +kernel
theorem d_l_law_813 : decode code 813 = .ok (.invokevirtual 127, 3) := by decide +kernel
theorem d_l_law_816 : decode code 816 = .ok (.istore 6, 2) := by decide +kernel
theorem d_l_law_818 : decode code 818 = .ok (.aload_n 2, 1) := by decide +kernel
theorem d_l_law_819 : decode code 819 = .ok (.invokevirtual 92, 3) := by decide +kernel
theorem d_l_law_822 : decode code 822 = .ok (.iload 5, 2) := by decide +kernel
theorem d_l_law_824 : decode code 824 = .ok (.if_icmp .eq 5, 3) := by decide +kernel
theorem d_l_law_827 : decode code 827 = .ok (.iconst 0, 1) := by decide +kernel
theorem d_l_law_828 : decode code 828 = .ok (.ireturn, 1) := by decide +kernel
theorem d_l_law_829 : decode code 829 = .ok (.iload 5, 2) := by decide +kernel
theorem d_l_law_831 : decode code 831 = .ok (.ifCond .ne 15, 3) := by decide +kernel
theorem d_l_law_834 : decode code 834 = .ok (.aload_n 3, 1) := by decide +kernel
theorem d_l_law_835 : decode code 835 = .ok (.iconst 0, 1) := by decide +kernel
theorem d_l_law_836 : decode code 836 = .ok (.laload, 1) := by decide +kernel
theorem d_l_law_837 : decode code 837 = .ok (.iload 6, 2) := by decide +kernel
theorem d_l_law_839 : decode code 839 = .ok (.i2l, 1) := by decide +kernel
theorem d_l_law_840 : decode code 840 = .ok (.lcmp, 1) := by decide +kernel
theorem d_l_law_841 : decode code 841 = .ok (.ifCond .eq 5, 3) := by decide +kernel
theorem d_l_law_844 : decode code 844 = .ok (.iconst 0, 1) := by decide +kernel
theorem d_l_law_845 : decode code 845 = .ok (.ireturn, 1) := by decide +kernel
theorem d_l_law_846 : decode code 846 = .ok (.goto 575, 3) := by decide +kernel
theorem d_l_law_849 : decode code 849 = .ok (.aload_n 1, 1) := by decide +kernel
theorem d_l_law_850 : decode code 850 = .ok (.aload_n 3, 1) := by decide +kernel
theorem d_l_law_851 : decode code 851 = .ok (.invokestatic 128, 3) := by decide +kernel
theorem d_l_law_854 : decode code 854 = .ok (.istore 5, 2) := by decide +kernel
theorem d_l_law_856 : decode code 856 = .ok (.aload_n 2, 1) := by decide +kernel
theorem d_l_law_857 : decode code 857 = .ok (.invokevirtual 130, 3) := by decide +kernel
theorem d_l_law_860 : decode code 860 = .ok (.istore 6, 2) := by decide +kernel
theorem d_l_law_862 : decode code 862 = .ok (.aload_n 2, 1) := by decide +kernel
theorem d_l_law_863 : decode code 863 = .ok (.invokevirtual 92, 3) := by decide +kernel
theorem d_l_law_866 : decode code 866 = .ok (.iload 5, 2) := by decide +kernel
theorem d_l_law_868 : decode code 868 = .ok (.if_icmp .eq 5, 3) := by decide +kernel
theorem d_l_law_871 : decode code 871 = .ok (.iconst 0, 1) := by decide +kernel
theorem d_l_law_872 : decode code 872 = .ok (.ireturn, 1) := by decide +kernel
theorem d_l_law_873 : decode code 873 = .ok (.iload 5, 2) := by decide +kernel
theorem d_l_law_875 : decode code 875 = .ok (.ifCond .ne 15, 3) := by decide +kernel
theorem d_l_law_878 : decode code 878 = .ok (.aload_n 3, 1) := by decide +kernel
theorem d_l_law_879 : decode code 879 = .ok (.iconst 0, 1) := by decide +kernel
theorem d_l_law_880 : decode code 880 = .ok (.laload, 1) := by decide +kernel
theorem d_l_law_881 : decode code 881 = .ok (.iload 6, 2) := by decide +kernel
theorem d_l_law_883 : decode code 883 = .ok (.i2l, 1) := by decide +kernel
theorem d_l_law_884 : decode code 884 = .ok (.lcmp, 1) := by decide +kernel
theorem d_l_law_885 : decode code 885 = .ok (.ifCond .eq 5, 3) := by decide +kernel
theorem d_l_law_888 : decode code 888 = .ok (.iconst 0, 1) := by decide +kernel
theorem d_l_law_889 : decode code 889 = .ok (.ireturn, 1) := by decide +kernel
theorem d_l_law_890 : decode code 890 = .ok (.goto 531, 3) := by decide +kernel
theorem d_l_law_893 : decode code 893 = .ok (.aload_n 1, 1) := by decide +kernel
theorem d_l_law_894 : decode code 894 = .ok (.aload_n 0, 1) := by decide +kernel
theorem d_l_law_895 : decode code 895 = .ok (.iload 4, 2) := by decide +kernel
theorem d_l_law_897 : decode code 897 = .ok (.iconst 1, 1) := by decide +kernel
theorem d_l_law_898 : decode code 898 = .ok (.iadd, 1) := by decide +kernel
theorem d_l_law_899 : decode code 899 = .ok (.iaload, 1) := by decide +kernel
theorem d_l_law_900 : decode code 900 = .ok (.aload_n 0, 1) := by decide +kernel
theorem d_l_law_901 : decode code 901 = .ok (.iload 4, 2) := by decide +kernel
theorem d_l_law_903 : decode code 903 = .ok (.iconst 2, 1) := by decide +kernel
theorem d_l_law_904 : decode code 904 = .ok (.iadd, 1) := by decide +kernel
theorem d_l_law_905 : decode code 905 = .ok (.iaload, 1) := by decide +kernel
theorem d_l_law_906 : decode code 906 = .ok (.aload_n 3, 1) := by decide +kernel
theorem d_l_law_907 : decode code 907 = .ok (.invokestatic 131, 3) := by decide +kernel
theorem d_l_law_910 : decode code 910 = .ok (.istore 5, 2) := by decide +kernel
theorem d_l_law_912 : decode code 912 = .ok (.aload_n 2, 1) := by decide +kernel
theorem d_l_law_913 : decode code 913 = .ok (.aload_n 0, 1) := by decide +kernel
theorem d_l_law_914 : decode code 914 = .ok (.iload 4, 2) := by decide +kernel
theorem d_l_law_916 : decode code 916 = .ok (.iconst 1, 1) := by decide +kernel
theorem d_l_law_917 : decode code 917 = .ok (.iadd, 1) := by decide +kernel
theorem d_l_law_918 : decode code 918 = .ok (.iaload, 1) := by decide +kernel
theorem d_l_law_919 : decode code 919 = .ok (.aload_n 0, 1) := by decide +kernel
theorem d_l_law_920 : decode code 920 = .ok (.iload 4, 2) := by decide +kernel
theorem d_l_law_922 : decode code 922 = .ok (.iconst 2, 1) := by decide +kernel
theorem d_l_law_923 : decode code 923 = .ok (.iadd, 1) := by decide +kernel
theorem d_l_law_924 : decode code 924 = .ok (.iaload, 1) := by decide +kernel
theorem d_l_law_925 : decode code 925 = .ok (.invokevirtual 134, 3) := by decide +kernel
theorem d_l_law_928 : decode code 928 = .ok (.istore 6, 2) := by decide +kernel
theorem d_l_law_930 : decode code 930 = .ok (.aload_n 2, 1) := by decide +kernel
theorem d_l_law_931 : decode code 931 = .ok (.invokevirtual 92, 3) := by decide +kernel
theorem d_l_law_934 : decode code 934 = .ok (.iload 5, 2) := by decide +kernel
theorem d_l_law_936 : decode code 936 = .ok (.if_icmp .eq 5, 3) := by decide +kernel
theorem d_l_law_939 : decode code 939 = .ok (.iconst 0, 1) := by decide +kernel
theorem d_l_law_940 : decode code 940 = .ok (.ireturn, 1) := by decide +kernel
theorem d_l_law_941 : decode code 941 = .ok (.iload 5, 2) := by decide +kernel
theorem d_l_law_943 : decode code 943 = .ok (.ifCond .ne 15, 3) := by decide +kernel
theorem d_l_law_946 : decode code 946 = .ok (.aload_n 3, 1) := by decide +kernel
theorem d_l_law_947 : decode code 947 = .ok (.iconst 0, 1) := by decide +kernel
theorem d_l_law_948 : decode code 948 = .ok (.laload, 1) := by decide +kernel
theorem d_l_law_949 : decode code 949 = .ok (.iload 6, 2) := by decide +kernel
theorem d_l_law_951 : decode code 951 = .ok (.i2l, 1) := by decide +kernel
theorem d_l_law_952 : decode code 952 = .ok (.lcmp, 1) := by decide +kernel
theorem d_l_law_953 : decode code 953 = .ok (.ifCond .eq 5, 3) := by decide +kernel
theorem d_l_law_956 : decode code 956 = .ok (.iconst 0, 1) := by decide +kernel
theorem d_l_law_957 : decode code 957 = .ok (.ireturn, 1) := by decide +kernel
theorem d_l_law_958 : decode code 958 = .ok (.goto 463, 3) := by decide +kernel
theorem d_l_law_961 : decode code 961 = .ok (.aload_n 1, 1) := by decide +kernel
theorem d_l_law_962 : decode code 962 = .ok (.aload_n 3, 1) := by decide +kernel
theorem d_l_law_963 : decode code 963 = .ok (.invokestatic 135, 3) := by decide +kernel
theorem d_l_law_966 : decode code 966 = .ok (.istore 5, 2) := by decide +kernel
theorem d_l_law_968 : decode code 968 = .ok (.aload_n 2, 1) := by decide +kernel
theorem d_l_law_969 : decode code 969 = .ok (.invokevirtual 137, 3) := by decide +kernel
theorem d_l_law_972 : decode code 972 = .ok (.istore 6, 2) := by decide +kernel
theorem d_l_law_974 : decode code 974 = .ok (.aload_n 2, 1) := by decide +kernel
theorem d_l_law_975 : decode code 975 = .ok (.invokevirtual 92, 3) := by decide +kernel
theorem d_l_law_978 : decode code 978 = .ok (.iload 5, 2) := by decide +kernel
theorem d_l_law_980 : decode code 980 = .ok (.if_icmp .eq 5, 3) := by decide +kernel
theorem d_l_law_983 : decode code 983 = .ok (.iconst 0, 1) := by decide +kernel
theorem d_l_law_984 : decode code 984 = .ok (.ireturn, 1) := by decide +kernel
theorem d_l_law_985 : decode code 985 = .ok (.iload 5, 2) := by decide +kernel
theorem d_l_law_987 : decode code 987 = .ok (.ifCond .ne 22, 3) := by decide +kernel
theorem d_l_law_990 : decode code 990 = .ok (.aload_n 3, 1) := by decide +kernel
theorem d_l_law_991 : decode code 991 = .ok (.iconst 0, 1) := by decide +kernel
theorem d_l_law_992 : decode code 992 = .ok (.laload, 1) := by decide +kernel
theorem d_l_law_993 : decode code 993 = .ok (.iload 6, 2) := by decide +kernel
theorem d_l_law_995 : decode code 995 = .ok (.ifCond .eq 7, 3) := by decide +kernel
theorem d_l_law_998 : decode code 998 = .ok (.lconst 1, 1) := by decide +kernel
theorem d_l_law_999 : decode code 999 = .ok (.goto 4, 3) := by decide +kernel
theorem d_l_law_1002 : decode code 1002 = .ok (.lconst 0, 1) := by decide +kernel
theorem d_l_law_1003 : decode code 1003 = .ok (.lcmp, 1) := by decide +kernel
theorem d_l_law_1004 : decode code 1004 = .ok (.ifCond .eq 5, 3) := by decide +kernel
theorem d_l_law_1007 : decode code 1007 = .ok (.iconst 0, 1) := by decide +kernel
theorem d_l_law_1008 : decode code 1008 = .ok (.ireturn, 1) := by decide +kernel
theorem d_l_law_1009 : decode code 1009 = .ok (.goto 412, 3) := by decide +kernel
theorem d_l_law_1012 : decode code 1012 = .ok (.aload_n 1, 1) := by decide +kernel
theorem d_l_law_1013 : decode code 1013 = .ok (.aload_n 0, 1) := by decide +kernel
theorem d_l_law_1014 : decode code 1014 = .ok (.iload 4, 2) := by decide +kernel
theorem d_l_law_1016 : decode code 1016 = .ok (.iconst 1, 1) := by decide +kernel
theorem d_l_law_1017 : decode code 1017 = .ok (.iadd, 1) := by decide +kernel
theorem d_l_law_1018 : decode code 1018 = .ok (.iaload, 1) := by decide +kernel
theorem d_l_law_1019 : decode code 1019 = .ok (.invokestatic 138, 3) := by decide +kernel
theorem d_l_law_1022 : decode code 1022 = .ok (.istore 5, 2) := by decide +kernel
theorem d_l_law_1024 : decode code 1024 = .ok (.aload_n 2, 1) := by decide +kernel
theorem d_l_law_1025 : decode code 1025 = .ok (.aload_n 0, 1) := by decide +kernel
theorem d_l_law_1026 : decode code 1026 = .ok (.iload 4, 2) := by decide +kernel
theorem d_l_law_1028 : decode code 1028 = .ok (.iconst 1, 1) := by decide +kernel
theorem d_l_law_1029 : decode code 1029 = .ok (.iadd, 1) := by decide +kernel
theorem d_l_law_1030 : decode code 1030 = .ok (.iaload, 1) := by decide +kernel
theorem d_l_law_1031 : decode code 1031 = .ok (.invokevirtual 141, 3) := by decide +kernel
theorem d_l_law_1034 : decode code 1034 = .ok (.aload_n 2, 1) := by decide +kernel
theorem d_l_law_1035 : decode code 1035 = .ok (.invokevirtual 92, 3) := by decide +kernel
theorem d_l_law_1038 : decode code 1038 = .ok (.iload 5, 2) := by decide +kernel
theorem d_l_law_1040 : decode code 1040 = .ok (.if_icmp .eq 5, 3) := by decide +kernel
theorem d_l_law_1043 : decode code 1043 = .ok (.iconst 0, 1) := by decide +kernel
theorem d_l_law_1044 : decode code 1044 = .ok (.ireturn, 1) := by decide +kernel
theorem d_l_law_1045 : decode code 1045 = .ok (.goto 376, 3) := by decide +kernel
theorem d_l_law_1048 : decode code 1048 = .ok (.aload_n 1, 1) := by decide +kernel
theorem d_l_law_1049 : decode code 1049 = .ok (.invokevirtual 142, 3) := by decide +kernel
theorem d_l_law_1052 : decode code 1052 = .ok (.aload_n 2, 1) := by decide +kernel
theorem d_l_law_1053 : decode code 1053 = .ok (.invokevirtual 145, 3) := by decide +kernel
theorem d_l_law_1056 : decode code 1056 = .ok (.if_icmp .eq 365, 3) := by decide +kernel
theorem d_l_law_1059 : decode code 1059 = .ok (.iconst 0, 1) := by decide +kernel
theorem d_l_law_1060 : decode code 1060 = .ok (.ireturn, 1) := by decide +kernel
theorem d_l_law_1061 : decode code 1061 = .ok (.aload_n 1, 1) := by decide +kernel
theorem d_l_law_1062 : decode code 1062 = .ok (.aload_n 0, 1) := by decide +kernel
theorem d_l_law_1063 : decode code 1063 = .ok (.iload 4, 2) := by decide +kernel
theorem d_l_law_1065 : decode code 1065 = .ok (.iconst 1, 1) := by decide +kernel
theorem d_l_law_1066 : decode code 1066 = .ok (.iadd, 1) := by decide +kernel
theorem d_l_law_1067 : decode code 1067 = .ok (.iaload, 1) := by decide +kernel
theorem d_l_law_1068 : decode code 1068 = .ok (.aload_n 0, 1) := by decide +kernel
theorem d_l_law_1069 : decode code 1069 = .ok (.iload 4, 2) := by decide +kernel
theorem d_l_law_1071 : decode code 1071 = .ok (.iconst 2, 1) := by decide +kernel
theorem d_l_law_1072 : decode code 1072 = .ok (.iadd, 1) := by decide +kernel
theorem d_l_law_1073 : decode code 1073 = .ok (.iaload, 1) := by decide +kernel
theorem d_l_law_1074 : decode code 1074 = .ok (.aload_n 3, 1) := by decide +kernel
theorem d_l_law_1075 : decode code 1075 = .ok (.invokestatic 146, 3) := by decide +kernel
theorem d_l_law_1078 : decode code 1078 = .ok (.istore 5, 2) := by decide +kernel
theorem d_l_law_1080 : decode code 1080 = .ok (.aload_n 2, 1) := by decide +kernel
theorem d_l_law_1081 : decode code 1081 = .ok (.aload_n 0, 1) := by decide +kernel
theorem d_l_law_1082 : decode code 1082 = .ok (.iload 4, 2) := by decide +kernel
theorem d_l_law_1084 : decode code 1084 = .ok (.iconst 1, 1) := by decide +kernel
theorem d_l_law_1085 : decode code 1085 = .ok (.iadd, 1) := by decide +kernel
theorem d_l_law_1086 : decode code 1086 = .ok (.iaload, 1) := by decide +kernel
theorem d_l_law_1087 : decode code 1087 = .ok (.aload_n 0, 1) := by decide +kernel
theorem d_l_law_1088 : decode code 1088 = .ok (.iload 4, 2) := by decide +kernel
theorem d_l_law_1090 : decode code 1090 = .ok (.iconst 2, 1) := by decide +kernel
theorem d_l_law_1091 : decode code 1091 = .ok (.iadd, 1) := by decide +kernel
theorem d_l_law_1092 : decode code 1092 = .ok (.iaload, 1) := by decide +kernel
theorem d_l_law_1093 : decode code 1093 = .ok (.invokevirtual 148, 3) := by decide +kernel
theorem d_l_law_1096 : decode code 1096 = .ok (.istore 6, 2) := by decide +kernel
theorem d_l_law_1098 : decode code 1098 = .ok (.aload_n 2, 1) := by decide +kernel
theorem d_l_law_1099 : decode code 1099 = .ok (.invokevirtual 92, 3) := by decide +kernel
theorem d_l_law_1102 : decode code 1102 = .ok (.iload 5, 2) := by decide +kernel
theorem d_l_law_1104 : decode code 1104 = .ok (.if_icmp .eq 5, 3) := by decide +kernel
theorem d_l_law_1107 : decode code 1107 = .ok (.iconst 0, 1) := by decide +kernel
theorem d_l_law_1108 : decode code 1108 = .ok (.ireturn, 1) := by decide +kernel
theorem d_l_law_1109 : decode code 1109 = .ok (.iload 5, 2) := by decide +kernel
theorem d_l_law_1111 : decode code 1111 = .ok (.ifCond .ne 22, 3) := by decide +kernel
theorem d_l_law_1114 : decode code 1114 = .ok (.aload_n 3, 1) := by decide +kernel
theorem d_l_law_1115 : decode code 1115 = .ok (.iconst 0, 1) := by decide +kernel
theorem d_l_law_1116 : decode code 1116 = .ok (.laload, 1) := by decide +kernel
theorem d_l_law_1117 : decode code 1117 = .ok (.iload 6, 2) := by decide +kernel
theorem d_l_law_1119 : decode code 1119 = .ok (.ifCond .eq 7, 3) := by decide +kernel
theorem d_l_law_1122 : decode code 1122 = .ok (.lconst 1, 1) := by decide +kernel
theorem d_l_law_1123 : decode code 1123 = .ok (.goto 4, 3) := by decide +kernel
theorem d_l_law_1126 : decode code 1126 = .ok (.lconst 0, 1) := by decide +kernel
theorem d_l_law_1127 : decode code 1127 = .ok (.lcmp, 1) := by decide +kernel
theorem d_l_law_1128 : decode code 1128 = .ok (.ifCond .eq 5, 3) := by decide +kernel
theorem d_l_law_1131 : decode code 1131 = .ok (.iconst 0, 1) := by decide +kernel
theorem d_l_law_1132 : decode code 1132 = .ok (.ireturn, 1) := by decide +kernel
theorem d_l_law_1133 : decode code 1133 = .ok (.goto 288, 3) := by decide +kernel
theorem d_l_law_1136 : decode code 1136 = .ok (.aload_n 1, 1) := by decide +kernel
theorem d_l_law_1137 : decode code 1137 = .ok (.aload_n 0, 1) := by decide +kernel
theorem d_l_law_1138 : decode code 1138 = .ok (.iload 4, 2) := by decide +kernel
theorem d_l_law_1140 : decode code 1140 = .ok (.iconst 1, 1) := by decide +kernel
theorem d_l_law_1141 : decode code 1141 = .ok (.iadd, 1) := by decide +kernel
theorem d_l_law_1142 : decode code 1142 = .ok (.iaload, 1) := by decide +kernel
theorem d_l_law_1143 : decode code 1143 = .ok (.aload_n 0, 1) := by decide +kernel
theorem d_l_law_1144 : decode code 1144 = .ok (.iload 4, 2) := by decide +kernel
theorem d_l_law_1146 : decode code 1146 = .ok (.iconst 2, 1) := by decide +kernel
theorem d_l_law_1147 : decode code 1147 = .ok (.iadd, 1) := by decide +kernel
theorem d_l_law_1148 : decode code 1148 = .ok (.iaload, 1) := by decide +kernel
theorem d_l_law_1149 : decode code 1149 = .ok (.aload_n 3, 1) := by decide +kernel
theorem d_l_law_1150 : decode code 1150 = .ok (.invokestatic 149, 3) := by decide +kernel
theorem d_l_law_1153 : decode code 1153 = .ok (.istore 5, 2) := by decide +kernel
theorem d_l_law_1155 : decode code 1155 = .ok (.aload_n 2, 1) := by decide +kernel
theorem d_l_law_1156 : decode code 1156 = .ok (.aload_n 0, 1) := by decide +kernel
theorem d_l_law_1157 : decode code 1157 = .ok (.iload 4, 2) := by decide +kernel
theorem d_l_law_1159 : decode code 1159 = .ok (.iconst 1, 1) := by decide +kernel
theorem d_l_law_1160 : decode code 1160 = .ok (.iadd, 1) := by decide +kernel
theorem d_l_law_1161 : decode code 1161 = .ok (.iaload, 1) := by decide +kernel
theorem d_l_law_1162 : decode code 1162 = .ok (.aload_n 0, 1) := by decide +kernel
theorem d_l_law_1163 : decode code 1163 = .ok (.iload 4, 2) := by decide +kernel
theorem d_l_law_1165 : decode code 1165 = .ok (.iconst 2, 1) := by decide +kernel
theorem d_l_law_1166 : decode code 1166 = .ok (.iadd, 1) := by decide +kernel
theorem d_l_law_1167 : decode code 1167 = .ok (.iaload, 1) := by decide +kernel
theorem d_l_law_1168 : decode code 1168 = .ok (.invokevirtual 151, 3) := by decide +kernel
theorem d_l_law_1171 : decode code 1171 = .ok (.istore 6, 2) := by decide +kernel
theorem d_l_law_1173 : decode code 1173 = .ok (.aload_n 2, 1) := by decide +kernel
theorem d_l_law_1174 : decode code 1174 = .ok (.invokevirtual 92, 3) := by decide +kernel
theorem d_l_law_1177 : decode code 1177 = .ok (.iload 5, 2) := by decide +kernel
theorem d_l_law_1179 : decode code 1179 = .ok (.if_icmp .eq 5, 3) := by decide +kernel
theorem d_l_law_1182 : decode code 1182 = .ok (.iconst 0, 1) := by decide +kernel
theorem d_l_law_1183 : decode code 1183 = .ok (.ireturn, 1) := by decide +kernel
theorem d_l_law_1184 : decode code 1184 = .ok (.iload 5, 2) := by decide +kernel
theorem d_l_law_1186 : decode code 1186 = .ok (.ifCond .ne 15, 3) := by decide +kernel
theorem d_l_law_1189 : decode code 1189 = .ok (.aload_n 3, 1) := by decide +kernel
theorem d_l_law_1190 : decode code 1190 = .ok (.iconst 0, 1) := by decide +kernel
theorem d_l_law_1191 : decode code 1191 = .ok (.laload, 1) := by decide +kernel
theorem d_l_law_1192 : decode code 1192 = .ok (.iload 6, 2) := by decide +kernel
theorem d_l_law_1194 : decode code 1194 = .ok (.i2l, 1) := by decide +kernel
theorem d_l_law_1195 : decode code 1195 = .ok (.lcmp, 1) := by decide +kernel
theorem d_l_law_1196 : decode code 1196 = .ok (.ifCond .eq 5, 3) := by decide +kernel
theorem d_l_law_1199 : decode code 1199 = .ok (.iconst 0, 1) := by decide +kernel
theorem d_l_law_1200 : decode code 1200 = .ok (.ireturn, 1) := by decide +kernel
theorem d_l_law_1201 : decode code 1201 = .ok (.goto 220, 3) := by decide +kernel
theorem d_l_law_1204 : decode code 1204 = .ok (.aload_n 1, 1) := by decide +kernel
theorem d_l_law_1205 : decode code 1205 = .ok (.aload_n 0, 1) := by decide +kernel
theorem d_l_law_1206 : decode code 1206 = .ok (.iload 4, 2) := by decide +kernel
theorem d_l_law_1208 : decode code 1208 = .ok (.iconst 1, 1) := by decide +kernel
theorem d_l_law_1209 : decode code 1209 = .ok (.iadd, 1) := by decide +kernel
theorem d_l_law_1210 : decode code 1210 = .ok (.iaload, 1) := by decide +kernel
theorem d_l_law_1211 : decode code 1211 = .ok (.aload_n 0, 1) := by decide +kernel
theorem d_l_law_1212 : decode code 1212 = .ok (.iload 4, 2) := by decide +kernel
theorem d_l_law_1214 : decode code 1214 = .ok (.iconst 2, 1) := by decide +kernel
theorem d_l_law_1215 : decode code 1215 = .ok (.iadd, 1) := by decide +kernel
theorem d_l_law_1216 : decode code 1216 = .ok (.iaload, 1) := by decide +kernel
theorem d_l_law_1217 : decode code 1217 = .ok (.aload_n 3, 1) := by decide +kernel
theorem d_l_law_1218 : decode code 1218 = .ok (.invokestatic 152, 3) := by decide +kernel
theorem d_l_law_1221 : decode code 1221 = .ok (.istore 5, 2) := by decide +kernel
theorem d_l_law_1223 : decode code 1223 = .ok (.aload_n 2, 1) := by decide +kernel
theorem d_l_law_1224 : decode code 1224 = .ok (.aload_n 0, 1) := by decide +kernel
theorem d_l_law_1225 : decode code 1225 = .ok (.iload 4, 2) := by decide +kernel
theorem d_l_law_1227 : decode code 1227 = .ok (.iconst 1, 1) := by decide +kernel
theorem d_l_law_1228 : decode code 1228 = .ok (.iadd, 1) := by decide +kernel
theorem d_l_law_1229 : decode code 1229 = .ok (.iaload, 1) := by decide +kernel
theorem d_l_law_1230 : decode code 1230 = .ok (.aload_n 0, 1) := by decide +kernel
theorem d_l_law_1231 : decode code 1231 = .ok (.iload 4, 2) := by decide +kernel
theorem d_l_law_1233 : decode code 1233 = .ok (.iconst 2, 1) := by decide +kernel
theorem d_l_law_1234 : decode code 1234 = .ok (.iadd, 1) := by decide +kernel
theorem d_l_law_1235 : decode code 1235 = .ok (.iaload, 1) := by decide +kernel
theorem d_l_law_1236 : decode code 1236 = .ok (.invokevirtual 154, 3) := by decide +kernel
theorem d_l_law_1239 : decode code 1239 = .ok (.istore 6, 2) := by decide +kernel
theorem d_l_law_1241 : decode code 1241 = .ok (.aload_n 2, 1) := by decide +kernel
theorem d_l_law_1242 : decode code 1242 = .ok (.invokevirtual 92, 3) := by decide +kernel
theorem d_l_law_1245 : decode code 1245 = .ok (.iload 5, 2) := by decide +kernel
theorem d_l_law_1247 : decode code 1247 = .ok (.if_icmp .eq 5, 3) := by decide +kernel
theorem d_l_law_1250 : decode code 1250 = .ok (.iconst 0, 1) := by decide +kernel
theorem d_l_law_1251 : decode code 1251 = .ok (.ireturn, 1) := by decide +kernel
theorem d_l_law_1252 : decode code 1252 = .ok (.iload 5, 2) := by decide +kernel
theorem d_l_law_1254 : decode code 1254 = .ok (.ifCond .ne 15, 3) := by decide +kernel
theorem d_l_law_1257 : decode code 1257 = .ok (.aload_n 3, 1) := by decide +kernel
theorem d_l_law_1258 : decode code 1258 = .ok (.iconst 0, 1) := by decide +kernel
theorem d_l_law_1259 : decode code 1259 = .ok (.laload, 1) := by decide +kernel
theorem d_l_law_1260 : decode code 1260 = .ok (.iload 6, 2) := by decide +kernel
theorem d_l_law_1262 : decode code 1262 = .ok (.i2l, 1) := by decide +kernel
theorem d_l_law_1263 : decode code 1263 = .ok (.lcmp, 1) := by decide +kernel
theorem d_l_law_1264 : decode code 1264 = .ok (.ifCond .eq 5, 3) := by decide +kernel
theorem d_l_law_1267 : decode code 1267 = .ok (.iconst 0, 1) := by decide +kernel
theorem d_l_law_1268 : decode code 1268 = .ok (.ireturn, 1) := by decide +kernel
theorem d_l_law_1269 : decode code 1269 = .ok (.goto 152, 3) := by decide +kernel
theorem d_l_law_1272 : decode code 1272 = .ok (.aload_n 1, 1) := by decide +kernel
theorem d_l_law_1273 : decode code 1273 = .ok (.aload_n 0, 1) := by decide +kernel
theorem d_l_law_1274 : decode code 1274 = .ok (.iload 4, 2) := by decide +kernel
theorem d_l_law_1276 : decode code 1276 = .ok (.iconst 1, 1) := by decide +kernel
theorem d_l_law_1277 : decode code 1277 = .ok (.iadd, 1) := by decide +kernel
theorem d_l_law_1278 : decode code 1278 = .ok (.iaload, 1) := by decide +kernel
theorem d_l_law_1279 : decode code 1279 = .ok (.invokevirtual 155, 3) := by decide +kernel
theorem d_l_law_1282 : decode code 1282 = .ok (.aload_n 2, 1) := by decide +kernel
theorem d_l_law_1283 : decode code 1283 = .ok (.aload_n 0, 1) := by decide +kernel
theorem d_l_law_1284 : decode code 1284 = .ok (.iload 4, 2) := by decide +kernel
theorem d_l_law_1286 : decode code 1286 = .ok (.iconst 1, 1) := by decide +kernel
theorem d_l_law_1287 : decode code 1287 = .ok (.iadd, 1) := by decide +kernel
theorem d_l_law_1288 : decode code 1288 = .ok (.iaload, 1) := by decide +kernel
theorem d_l_law_1289 : decode code 1289 = .ok (.invokevirtual 158, 3) := by decide +kernel
theorem d_l_law_1292 : decode code 1292 = .ok (.if_icmp .eq 129, 3) := by decide +kernel
theorem d_l_law_1295 : decode code 1295 = .ok (.iconst 0, 1) := by decide +kernel
theorem d_l_law_1296 : decode code 1296 = .ok (.ireturn, 1) := by decide +kernel
theorem d_l_law_1297 : decode code 1297 = .ok (.aload_n 1, 1) := by decide +kernel
theorem d_l_law_1298 : decode code 1298 = .ok (.aload_n 0, 1) := by decide +kernel
theorem d_l_law_1299 : decode code 1299 = .ok (.iload 4, 2) := by decide +kernel
theorem d_l_law_1301 : decode code 1301 = .ok (.iconst 1, 1) := by decide +kernel
theorem d_l_law_1302 : decode code 1302 = .ok (.iadd, 1) := by decide +kernel
theorem d_l_law_1303 : decode code 1303 = .ok (.iaload, 1) := by decide +kernel
theorem d_l_law_1304 : decode code 1304 = .ok (.aload_n 0, 1) := by decide +kernel
theorem d_l_law_1305 : decode code 1305 = .ok (.iload 4, 2) := by decide +kernel
theorem d_l_law_1307 : decode code 1307 = .ok (.iconst 2, 1) := by decide +kernel
theorem d_l_law_1308 : decode code 1308 = .ok (.iadd, 1) := by decide +kernel
theorem d_l_law_1309 : decode code 1309 = .ok (.iaload, 1) := by decide +kernel
theorem d_l_law_1310 : decode code 1310 = .ok (.aload_n 3, 1) := by decide +kernel
theorem d_l_law_1311 : decode code 1311 = .ok (.invokestatic 159, 3) := by decide +kernel
theorem d_l_law_1314 : decode code 1314 = .ok (.istore 5, 2) := by decide +kernel
theorem d_l_law_1316 : decode code 1316 = .ok (.aload_n 2, 1) := by decide +kernel
theorem d_l_law_1317 : decode code 1317 = .ok (.aload_n 0, 1) := by decide +kernel
theorem d_l_law_1318 : decode code 1318 = .ok (.iload 4, 2) := by decide +kernel
theorem d_l_law_1320 : decode code 1320 = .ok (.iconst 1, 1) := by decide +kernel
theorem d_l_law_1321 : decode code 1321 = .ok (.iadd, 1) := by decide +kernel
theorem d_l_law_1322 : decode code 1322 = .ok (.iaload, 1) := by decide +kernel
theorem d_l_law_1323 : decode code 1323 = .ok (.aload_n 0, 1) := by decide +kernel
theorem d_l_law_1324 : decode code 1324 = .ok (.iload 4, 2) := by decide +kernel
theorem d_l_law_1326 : decode code 1326 = .ok (.iconst 2, 1) := by decide +kernel
theorem d_l_law_1327 : decode code 1327 = .ok (.iadd, 1) := by decide +kernel
theorem d_l_law_1328 : decode code 1328 = .ok (.iaload, 1) := by decide +kernel
theorem d_l_law_1329 : decode code 1329 = .ok (.invokevirtual 161, 3) := by decide +kernel
theorem d_l_law_1332 : decode code 1332 = .ok (.istore 6, 2) := by decide +kernel
theorem d_l_law_1334 : decode code 1334 = .ok (.aload_n 2, 1) := by decide +kernel
theorem d_l_law_1335 : decode code 1335 = .ok (.invokevirtual 92, 3) := by decide +kernel
theorem d_l_law_1338 : decode code 1338 = .ok (.iload 5, 2) := by decide +kernel
theorem d_l_law_1340 : decode code 1340 = .ok (.if_icmp .eq 5, 3) := by decide +kernel
theorem d_l_law_1343 : decode code 1343 = .ok (.iconst 0, 1) := by decide +kernel
theorem d_l_law_1344 : decode code 1344 = .ok (.ireturn, 1) := by decide +kernel
theorem d_l_law_1345 : decode code 1345 = .ok (.iload 5, 2) := by decide +kernel
theorem d_l_law_1347 : decode code 1347 = .ok (.ifCond .ne 15, 3) := by decide +kernel
theorem d_l_law_1350 : decode code 1350 = .ok (.aload_n 3, 1) := by decide +kernel
theorem d_l_law_1351 : decode code 1351 = .ok (.iconst 0, 1) := by decide +kernel
theorem d_l_law_1352 : decode code 1352 = .ok (.laload, 1) := by decide +kernel
theorem d_l_law_1353 : decode code 1353 = .ok (.iload 6, 2) := by decide +kernel
theorem d_l_law_1355 : decode code 1355 = .ok (.i2l, 1) := by decide +kernel
theorem d_l_law_1356 : decode code 1356 = .ok (.lcmp, 1) := by decide +kernel
theorem d_l_law_1357 : decode code 1357 = .ok (.ifCond .eq 5, 3) := by decide +kernel
theorem d_l_law_1360 : decode code 1360 = .ok (.iconst 0, 1) := by decide +kernel
theorem d_l_law_1361 : decode code 1361 = .ok (.ireturn, 1) := by decide +kernel
theorem d_l_law_1362 : decode code 1362 = .ok (.goto 59, 3) := by decide +kernel
theorem d_l_law_1365 : decode code 1365 = .ok (.aload_n 1, 1) := by decide +kernel
theorem d_l_law_1366 : decode code 1366 = .ok (.aload_n 0, 1) := by decide +kernel
theorem d_l_law_1367 : decode code 1367 = .ok (.iload 4, 2) := by decide +kernel
theorem d_l_law_1369 : decode code 1369 = .ok (.iconst 1, 1) := by decide +kernel
theorem d_l_law_1370 : decode code 1370 = .ok (.iadd, 1) := by decide +kernel
theorem d_l_law_1371 : decode code 1371 = .ok (.iaload, 1) := by decide +kernel
theorem d_l_law_1372 : decode code 1372 = .ok (.aload_n 3, 1) := by decide +kernel
theorem d_l_law_1373 : decode code 1373 = .ok (.invokestatic 162, 3) := by decide +kernel
theorem d_l_law_1376 : decode code 1376 = .ok (.istore 5, 2) := by decide +kernel
theorem d_l_law_1378 : decode code 1378 = .ok (.aload_n 2, 1) := by decide +kernel
theorem d_l_law_1379 : decode code 1379 = .ok (.aload_n 0, 1) := by decide +kernel
theorem d_l_law_1380 : decode code 1380 = .ok (.iload 4, 2) := by decide +kernel
theorem d_l_law_1382 : decode code 1382 = .ok (.iconst 1, 1) := by decide +kernel
theorem d_l_law_1383 : decode code 1383 = .ok (.iadd, 1) := by decide +kernel
theorem d_l_law_1384 : decode code 1384 = .ok (.iaload, 1) := by decide +kernel
theorem d_l_law_1385 : decode code 1385 = .ok (.invokevirtual 164, 3) := by decide +kernel
theorem d_l_law_1388 : decode code 1388 = .ok (.istore 6, 2) := by decide +kernel
theorem d_l_law_1390 : decode code 1390 = .ok (.aload_n 2, 1) := by decide +kernel
theorem d_l_law_1391 : decode code 1391 = .ok (.invokevirtual 92, 3) := by decide +kernel
theorem d_l_law_1394 : decode code 1394 = .ok (.iload 5, 2) := by decide +kernel
theorem d_l_law_1396 : decode code 1396 = .ok (.if_icmp .eq 5, 3) := by decide +kernel
theorem d_l_law_1399 : decode code 1399 = .ok (.iconst 0, 1) := by decide +kernel
theorem d_l_law_1400 : decode code 1400 = .ok (.ireturn, 1) := by decide +kernel
theorem d_l_law_1401 : decode code 1401 = .ok (.iload 5, 2) := by decide +kernel
theorem d_l_law_1403 : decode code 1403 = .ok (.ifCond .ne 15, 3) := by decide +kernel
theorem d_l_law_1406 : decode code 1406 = .ok (.aload_n 3, 1) := by decide +kernel
theorem d_l_law_1407 : decode code 1407 = .ok (.iconst 0, 1) := by decide +kernel
theorem d_l_law_1408 : decode code 1408 = .ok (.laload, 1) := by decide +kernel
theorem d_l_law_1409 : decode code 1409 = .ok (.iload 6, 2) := by decide +kernel
theorem d_l_law_1411 : decode code 1411 = .ok (.i2l, 1) := by decide +kernel
theorem d_l_law_1412 : decode code 1412 = .ok (.lcmp, 1) := by decide +kernel
theorem d_l_law_1413 : decode code 1413 = .ok (.ifCond .eq 5, 3) := by decide +kernel
theorem d_l_law_1416 : decode code 1416 = .ok (.iconst 0, 1) := by decide +kernel
theorem d_l_law_1417 : decode code 1417 = .ok (.ireturn, 1) := by decide +kernel
theorem d_l_law_1418 : decode code 1418 = .ok (.goto 3, 3) := by decide +kernel
theorem d_l_law_1421 : decode code 1421 = .ok (.iinc 4 8, 3) := by decide +kernel
theorem d_l_law_1424 : decode code 1424 = .ok (.goto (-1401), 3) := by decide +kernel
theorem d_l_law_1427 : decode code 1427 = .ok (.iconst 1, 1) := by decide +kernel
theorem d_l_law_1428 : decode code 1428 = .ok (.ireturn, 1) := by decide +kernel
