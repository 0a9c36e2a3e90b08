/-! the law's calls, 3 -/
theorem l_344_872 : look 344 872 = some (.aload_n 1, 1, 0, 0, 0, 0) := by decide +kernel
theorem l_344_873 : look 344 873 = some (.aload_n 0, 1, 0, 0, 0, 0) := by decide +kernel
theorem l_344_874 : look 344 874 = some (.iload 4, 2, 0, 0, 0, 0) := by decide +kernel
theorem l_344_876 : look 344 876 = some (.iconst 1, 1, 0, 0, 0, 0) := by decide +kernel
theorem l_344_877 : look 344 877 = some (.iadd, 1, 0, 0, 0, 0) := by decide +kernel
theorem l_344_878 : look 344 878 = some (.iaload, 1, 0, 0, 0, 0) := by decide +kernel
theorem l_344_879 : look 344 879 = some (.aload_n 3, 1, 0, 0, 0, 0) := by decide +kernel
theorem l_344_880 : look 344 880 = some (.invokestatic 188, 3, 315, 3, 7, 1184) := by decide +kernel
theorem l_344_883 : look 344 883 = some (.istore 5, 2, 0, 0, 0, 0) := by decide +kernel
theorem l_344_885 : look 344 885 = some (.aload_n 2, 1, 0, 0, 0, 0) := by decide +kernel
theorem l_344_886 : look 344 886 = some (.aload_n 0, 1, 0, 0, 0, 0) := by decide +kernel
theorem l_344_887 : look 344 887 = some (.iload 4, 2, 0, 0, 0, 0) := by decide +kernel
theorem l_344_889 : look 344 889 = some (.iconst 1, 1, 0, 0, 0, 0) := by decide +kernel
theorem l_344_890 : look 344 890 = some (.iadd, 1, 0, 0, 0, 0) := by decide +kernel
theorem l_344_891 : look 344 891 = some (.iaload, 1, 0, 0, 0, 0) := by decide +kernel
theorem l_344_892 : look 344 892 = some (.invokevirtual 190, 3, 241, 2, 0, 2024) := by decide +kernel
theorem l_344_895 : look 344 895 = some (.istore 6, 2, 0, 0, 0, 0) := by decide +kernel
theorem l_344_897 : look 344 897 = some (.aload_n 2, 1, 0, 0, 0, 0) := by decide +kernel
theorem l_344_898 : look 344 898 = some (.invokevirtual 153, 3, 168, 1, 0, 1730) := by decide +kernel
theorem l_344_901 : look 344 901 = some (.iload 5, 2, 0, 0, 0, 0) := by decide +kernel
theorem l_344_903 : look 344 903 = some (.if_icmp .eq 5, 3, 0, 0, 0, 0) := by decide +kernel
theorem l_344_908 : look 344 908 = some (.iload 5, 2, 0, 0, 0, 0) := by decide +kernel
theorem l_344_910 : look 344 910 = some (.ifCond .ne 15, 3, 0, 0, 0, 0) := by decide +kernel
theorem l_344_913 : look 344 913 = some (.aload_n 3, 1, 0, 0, 0, 0) := by decide +kernel
theorem l_344_914 : look 344 914 = some (.iconst 0, 1, 0, 0, 0, 0) := by decide +kernel
theorem l_344_915 : look 344 915 = some (.laload, 1, 0, 0, 0, 0) := by decide +kernel
theorem l_344_916 : look 344 916 = some (.iload 6, 2, 0, 0, 0, 0) := by decide +kernel
theorem l_344_918 : look 344 918 = some (.i2l, 1, 0, 0, 0, 0) := by decide +kernel
theorem l_344_919 : look 344 919 = some (.lcmp, 1, 0, 0, 0, 0) := by decide +kernel
theorem l_344_920 : look 344 920 = some (.ifCond .eq 5, 3, 0, 0, 0, 0) := by decide +kernel
theorem l_344_925 : look 344 925 = some (.goto 1789, 3, 0, 0, 0, 0) := by decide +kernel
theorem l_344_928 : look 344 928 = some (.aload_n 1, 1, 0, 0, 0, 0) := by decide +kernel
theorem l_344_929 : look 344 929 = some (.aload_n 0, 1, 0, 0, 0, 0) := by decide +kernel
theorem l_344_930 : look 344 930 = some (.iload 4, 2, 0, 0, 0, 0) := by decide +kernel
theorem l_344_932 : look 344 932 = some (.iconst 1, 1, 0, 0, 0, 0) := by decide +kernel
theorem l_344_933 : look 344 933 = some (.iadd, 1, 0, 0, 0, 0) := by decide +kernel
theorem l_344_934 : look 344 934 = some (.iaload, 1, 0, 0, 0, 0) := by decide +kernel
theorem l_344_935 : look 344 935 = some (.aload_n 3, 1, 0, 0, 0, 0) := by decide +kernel
theorem l_344_936 : look 344 936 = some (.invokestatic 191, 3, 316, 3, 7, 1195) := by decide +kernel
theorem l_344_939 : look 344 939 = some (.istore 5, 2, 0, 0, 0, 0) := by decide +kernel
theorem l_344_941 : look 344 941 = some (.aload_n 2, 1, 0, 0, 0, 0) := by decide +kernel
theorem l_344_942 : look 344 942 = some (.aload_n 0, 1, 0, 0, 0, 0) := by decide +kernel
theorem l_344_943 : look 344 943 = some (.iload 4, 2, 0, 0, 0, 0) := by decide +kernel
theorem l_344_945 : look 344 945 = some (.iconst 1, 1, 0, 0, 0, 0) := by decide +kernel
theorem l_344_946 : look 344 946 = some (.iadd, 1, 0, 0, 0, 0) := by decide +kernel
theorem l_344_947 : look 344 947 = some (.iaload, 1, 0, 0, 0, 0) := by decide +kernel
theorem l_344_948 : look 344 948 = some (.invokevirtual 193, 3, 243, 2, 0, 2032) := by decide +kernel
theorem l_344_951 : look 344 951 = some (.istore 6, 2, 0, 0, 0, 0) := by decide +kernel
theorem l_344_953 : look 344 953 = some (.aload_n 2, 1, 0, 0, 0, 0) := by decide +kernel
theorem l_344_954 : look 344 954 = some (.invokevirtual 153, 3, 168, 1, 0, 1730) := by decide +kernel
theorem l_344_957 : look 344 957 = some (.iload 5, 2, 0, 0, 0, 0) := by decide +kernel
theorem l_344_959 : look 344 959 = some (.if_icmp .eq 5, 3, 0, 0, 0, 0) := by decide +kernel
theorem l_344_964 : look 344 964 = some (.iload 5, 2, 0, 0, 0, 0) := by decide +kernel
theorem l_344_966 : look 344 966 = some (.ifCond .ne 15, 3, 0, 0, 0, 0) := by decide +kernel
theorem l_344_969 : look 344 969 = some (.aload_n 3, 1, 0, 0, 0, 0) := by decide +kernel
theorem l_344_970 : look 344 970 = some (.iconst 0, 1, 0, 0, 0, 0) := by decide +kernel
theorem l_344_971 : look 344 971 = some (.laload, 1, 0, 0, 0, 0) := by decide +kernel
theorem l_344_972 : look 344 972 = some (.iload 6, 2, 0, 0, 0, 0) := by decide +kernel
theorem l_344_974 : look 344 974 = some (.i2l, 1, 0, 0, 0, 0) := by decide +kernel
theorem l_344_975 : look 344 975 = some (.lcmp, 1, 0, 0, 0, 0) := by decide +kernel
theorem l_344_976 : look 344 976 = some (.ifCond .eq 5, 3, 0, 0, 0, 0) := by decide +kernel
theorem l_344_981 : look 344 981 = some (.goto 1733, 3, 0, 0, 0, 0) := by decide +kernel
theorem l_344_984 : look 344 984 = some (.aload_n 1, 1, 0, 0, 0, 0) := by decide +kernel
theorem l_344_985 : look 344 985 = some (.aload_n 0, 1, 0, 0, 0, 0) := by decide +kernel
theorem l_344_986 : look 344 986 = some (.iload 4, 2, 0, 0, 0, 0) := by decide +kernel
theorem l_344_988 : look 344 988 = some (.iconst 1, 1, 0, 0, 0, 0) := by decide +kernel
theorem l_344_989 : look 344 989 = some (.iadd, 1, 0, 0, 0, 0) := by decide +kernel
theorem l_344_990 : look 344 990 = some (.iaload, 1, 0, 0, 0, 0) := by decide +kernel
theorem l_344_991 : look 344 991 = some (.aload_n 3, 1, 0, 0, 0, 0) := by decide +kernel
theorem l_344_992 : look 344 992 = some (.invokestatic 194, 3, 317, 3, 7, 1202) := by decide +kernel
theorem l_344_995 : look 344 995 = some (.istore 5, 2, 0, 0, 0, 0) := by decide +kernel
theorem l_344_997 : look 344 997 = some (.aload_n 2, 1, 0, 0, 0, 0) := by decide +kernel
theorem l_344_998 : look 344 998 = some (.aload_n 0, 1, 0, 0, 0, 0) := by decide +kernel
theorem l_344_999 : look 344 999 = some (.iload 4, 2, 0, 0, 0, 0) := by decide +kernel
theorem l_344_1001 : look 344 1001 = some (.iconst 1, 1, 0, 0, 0, 0) := by decide +kernel
theorem l_344_1002 : look 344 1002 = some (.iadd, 1, 0, 0, 0, 0) := by decide +kernel
theorem l_344_1003 : look 344 1003 = some (.iaload, 1, 0, 0, 0, 0) := by decide +kernel
theorem l_344_1004 : look 344 1004 = some (.invokevirtual 196, 3, 244, 2, 0, 2040) := by decide +kernel
theorem l_344_1007 : look 344 1007 = some (.istore 6, 2, 0, 0, 0, 0) := by decide +kernel
theorem l_344_1009 : look 344 1009 = some (.aload_n 2, 1, 0, 0, 0, 0) := by decide +kernel
theorem l_344_1010 : look 344 1010 = some (.invokevirtual 153, 3, 168, 1, 0, 1730) := by decide +kernel
theorem l_344_1013 : look 344 1013 = some (.iload 5, 2, 0, 0, 0, 0) := by decide +kernel
theorem l_344_1015 : look 344 1015 = some (.if_icmp .eq 5, 3, 0, 0, 0, 0) := by decide +kernel
theorem l_344_1020 : look 344 1020 = some (.iload 5, 2, 0, 0, 0, 0) := by decide +kernel
theorem l_344_1022 : look 344 1022 = some (.ifCond .ne 15, 3, 0, 0, 0, 0) := by decide +kernel
theorem l_344_1025 : look 344 1025 = some (.aload_n 3, 1, 0, 0, 0, 0) := by decide +kernel
theorem l_344_1026 : look 344 1026 = some (.iconst 0, 1, 0, 0, 0, 0) := by decide +kernel
theorem l_344_1027 : look 344 1027 = some (.laload, 1, 0, 0, 0, 0) := by decide +kernel
theorem l_344_1028 : look 344 1028 = some (.iload 6, 2, 0, 0, 0, 0) := by decide +kernel
theorem l_344_1030 : look 344 1030 = some (.i2l, 1, 0, 0, 0, 0) := by decide +kernel
theorem l_344_1031 : look 344 1031 = some (.lcmp, 1, 0, 0, 0, 0) := by decide +kernel
theorem l_344_1032 : look 344 1032 = some (.ifCond .eq 5, 3, 0, 0, 0, 0) := by decide +kernel
theorem l_344_1037 : look 344 1037 = some (.goto 1677, 3, 0, 0, 0, 0) := by decide +kernel
theorem l_344_1040 : look 344 1040 = some (.aload_n 1, 1, 0, 0, 0, 0) := by decide +kernel
theorem l_344_1041 : look 344 1041 = some (.aload_n 0, 1, 0, 0, 0, 0) := by decide +kernel
theorem l_344_1042 : look 344 1042 = some (.iload 4, 2, 0, 0, 0, 0) := by decide +kernel
theorem l_344_1044 : look 344 1044 = some (.iconst 1, 1, 0, 0, 0, 0) := by decide +kernel
theorem l_344_1045 : look 344 1045 = some (.iadd, 1, 0, 0, 0, 0) := by decide +kernel
theorem l_344_1046 : look 344 1046 = some (.iaload, 1, 0, 0, 0, 0) := by decide +kernel
theorem l_344_1047 : look 344 1047 = some (.aload_n 0, 1, 0, 0, 0, 0) := by decide +kernel
theorem l_344_1048 : look 344 1048 = some (.iload 4, 2, 0, 0, 0, 0) := by decide +kernel
theorem l_344_1050 : look 344 1050 = some (.iconst 2, 1, 0, 0, 0, 0) := by decide +kernel
theorem l_344_1051 : look 344 1051 = some (.iadd, 1, 0, 0, 0, 0) := by decide +kernel
theorem l_344_1052 : look 344 1052 = some (.iaload, 1, 0, 0, 0, 0) := by decide +kernel
theorem l_344_1053 : look 344 1053 = some (.aload_n 3, 1, 0, 0, 0, 0) := by decide +kernel
theorem l_344_1054 : look 344 1054 = some (.invokestatic 197, 3, 318, 4, 7, 1209) := by decide +kernel
theorem l_344_1057 : look 344 1057 = some (.istore 5, 2, 0, 0, 0, 0) := by decide +kernel
theorem l_344_1059 : look 344 1059 = some (.aload_n 2, 1, 0, 0, 0, 0) := by decide +kernel
theorem l_344_1060 : look 344 1060 = some (.aload_n 0, 1, 0, 0, 0, 0) := by decide +kernel
theorem l_344_1061 : look 344 1061 = some (.iload 4, 2, 0, 0, 0, 0) := by decide +kernel
theorem l_344_1063 : look 344 1063 = some (.iconst 1, 1, 0, 0, 0, 0) := by decide +kernel
theorem l_344_1064 : look 344 1064 = some (.iadd, 1, 0, 0, 0, 0) := by decide +kernel
theorem l_344_1065 : look 344 1065 = some (.iaload, 1, 0, 0, 0, 0) := by decide +kernel
theorem l_344_1066 : look 344 1066 = some (.aload_n 0, 1, 0, 0, 0, 0) := by decide +kernel
theorem l_344_1067 : look 344 1067 = some (.iload 4, 2, 0, 0, 0, 0) := by decide +kernel
theorem l_344_1069 : look 344 1069 = some (.iconst 2, 1, 0, 0, 0, 0) := by decide +kernel
theorem l_344_1070 : look 344 1070 = some (.iadd, 1, 0, 0, 0, 0) := by decide +kernel
theorem l_344_1071 : look 344 1071 = some (.iaload, 1, 0, 0, 0, 0) := by decide +kernel
theorem l_344_1072 : look 344 1072 = some (.invokevirtual 200, 3, 245, 3, 0, 2044) := by decide +kernel
theorem l_344_1075 : look 344 1075 = some (.istore 6, 2, 0, 0, 0, 0) := by decide +kernel
theorem l_344_1077 : look 344 1077 = some (.aload_n 2, 1, 0, 0, 0, 0) := by decide +kernel
theorem l_344_1078 : look 344 1078 = some (.invokevirtual 153, 3, 168, 1, 0, 1730) := by decide +kernel
theorem l_344_1081 : look 344 1081 = some (.iload 5, 2, 0, 0, 0, 0) := by decide +kernel
theorem l_344_1083 : look 344 1083 = some (.if_icmp .eq 5, 3, 0, 0, 0, 0) := by decide +kernel
theorem l_344_1088 : look 344 1088 = some (.iload 5, 2, 0, 0, 0, 0) := by decide +kernel
theorem l_344_1090 : look 344 1090 = some (.ifCond .ne 15, 3, 0, 0, 0, 0) := by decide +kernel
theorem l_344_1093 : look 344 1093 = some (.aload_n 3, 1, 0, 0, 0, 0) := by decide +kernel
theorem l_344_1094 : look 344 1094 = some (.iconst 0, 1, 0, 0, 0, 0) := by decide +kernel
theorem l_344_1095 : look 344 1095 = some (.laload, 1, 0, 0, 0, 0) := by decide +kernel
theorem l_344_1096 : look 344 1096 = some (.iload 6, 2, 0, 0, 0, 0) := by decide +kernel
theorem l_344_1098 : look 344 1098 = some (.i2l, 1, 0, 0, 0, 0) := by decide +kernel
theorem l_344_1099 : look 344 1099 = some (.lcmp, 1, 0, 0, 0, 0) := by decide +kernel
theorem l_344_1100 : look 344 1100 = some (.ifCond .eq 5, 3, 0, 0, 0, 0) := by decide +kernel
theorem l_344_1105 : look 344 1105 = some (.goto 1609, 3, 0, 0, 0, 0) := by decide +kernel
theorem l_344_1108 : look 344 1108 = some (.aload_n 1, 1, 0, 0, 0, 0) := by decide +kernel
theorem l_344_1109 : look 344 1109 = some (.aload_n 0, 1, 0, 0, 0, 0) := by decide +kernel
theorem l_344_1110 : look 344 1110 = some (.iload 4, 2, 0, 0, 0, 0) := by decide +kernel
theorem l_344_1112 : look 344 1112 = some (.iconst 1, 1, 0, 0, 0, 0) := by decide +kernel
theorem l_344_1113 : look 344 1113 = some (.iadd, 1, 0, 0, 0, 0) := by decide +kernel
theorem l_344_1114 : look 344 1114 = some (.iaload, 1, 0, 0, 0, 0) := by decide +kernel
theorem l_344_1115 : look 344 1115 = some (.aload_n 3, 1, 0, 0, 0, 0) := by decide +kernel
theorem l_344_1116 : look 344 1116 = some (.invokestatic 201, 3, 319, 3, 7, 1217) := by decide +kernel
theorem l_344_1119 : look 344 1119 = some (.istore 5, 2, 0, 0, 0, 0) := by decide +kernel
theorem l_344_1121 : look 344 1121 = some (.aload_n 2, 1, 0, 0, 0, 0) := by decide +kernel
theorem l_344_1122 : look 344 1122 = some (.aload_n 0, 1, 0, 0, 0, 0) := by decide +kernel
theorem l_344_1123 : look 344 1123 = some (.iload 4, 2, 0, 0, 0, 0) := by decide +kernel
theorem l_344_1125 : look 344 1125 = some (.iconst 1, 1, 0, 0, 0, 0) := by decide +kernel
theorem l_344_1126 : look 344 1126 = some (.iadd, 1, 0, 0, 0, 0) := by decide +kernel
theorem l_344_1127 : look 344 1127 = some (.iaload, 1, 0, 0, 0, 0) := by decide +kernel
theorem l_344_1128 : look 344 1128 = some (.invokevirtual 203, 3, 246, 2, 0, 2048) := by decide +kernel
theorem l_344_1131 : look 344 1131 = some (.istore 6, 2, 0, 0, 0, 0) := by decide +kernel
theorem l_344_1133 : look 344 1133 = some (.aload_n 2, 1, 0, 0, 0, 0) := by decide +kernel
theorem l_344_1134 : look 344 1134 = some (.invokevirtual 153, 3, 168, 1, 0, 1730) := by decide +kernel
theorem l_344_1137 : look 344 1137 = some (.iload 5, 2, 0, 0, 0, 0) := by decide +kernel
theorem l_344_1139 : look 344 1139 = some (.if_icmp .eq 5, 3, 0, 0, 0, 0) := by decide +kernel
theorem l_344_1144 : look 344 1144 = some (.iload 5, 2, 0, 0, 0, 0) := by decide +kernel
theorem l_344_1146 : look 344 1146 = some (.ifCond .ne 22, 3, 0, 0, 0, 0) := by decide +kernel
theorem l_344_1149 : look 344 1149 = some (.aload_n 3, 1, 0, 0, 0, 0) := by decide +kernel
theorem l_344_1150 : look 344 1150 = some (.iconst 0, 1, 0, 0, 0, 0) := by decide +kernel
theorem l_344_1151 : look 344 1151 = some (.laload, 1, 0, 0, 0, 0) := by decide +kernel
theorem l_344_1152 : look 344 1152 = some (.iload 6, 2, 0, 0, 0, 0) := by decide +kernel
theorem l_344_1154 : look 344 1154 = some (.ifCond .eq 7, 3, 0, 0, 0, 0) := by decide +kernel
theorem l_344_1157 : look 344 1157 = some (.lconst 1, 1, 0, 0, 0, 0) := by decide +kernel
theorem l_344_1158 : look 344 1158 = some (.goto 4, 3, 0, 0, 0, 0) := by decide +kernel
theorem l_344_1161 : look 344 1161 = some (.lconst 0, 1, 0, 0, 0, 0) := by decide +kernel
theorem l_344_1162 : look 344 1162 = some (.lcmp, 1, 0, 0, 0, 0) := by decide +kernel
theorem l_344_1163 : look 344 1163 = some (.ifCond .eq 5, 3, 0, 0, 0, 0) := by decide +kernel
theorem l_344_1168 : look 344 1168 = some (.goto 1546, 3, 0, 0, 0, 0) := by decide +kernel
theorem l_344_1171 : look 344 1171 = some (.aload_n 1, 1, 0, 0, 0, 0) := by decide +kernel
theorem l_344_1172 : look 344 1172 = some (.aload_n 0, 1, 0, 0, 0, 0) := by decide +kernel
theorem l_344_1173 : look 344 1173 = some (.iload 4, 2, 0, 0, 0, 0) := by decide +kernel
theorem l_344_1175 : look 344 1175 = some (.iconst 1, 1, 0, 0, 0, 0) := by decide +kernel
theorem l_344_1176 : look 344 1176 = some (.iadd, 1, 0, 0, 0, 0) := by decide +kernel
theorem l_344_1177 : look 344 1177 = some (.iaload, 1, 0, 0, 0, 0) := by decide +kernel
theorem l_344_1178 : look 344 1178 = some (.aload_n 3, 1, 0, 0, 0, 0) := by decide +kernel
theorem l_344_1179 : look 344 1179 = some (.invokestatic 204, 3, 320, 3, 7, 1225) := by decide +kernel
theorem l_344_1182 : look 344 1182 = some (.istore 5, 2, 0, 0, 0, 0) := by decide +kernel
theorem l_344_1184 : look 344 1184 = some (.aload_n 2, 1, 0, 0, 0, 0) := by decide +kernel
theorem l_344_1185 : look 344 1185 = some (.aload_n 0, 1, 0, 0, 0, 0) := by decide +kernel
theorem l_344_1186 : look 344 1186 = some (.iload 4, 2, 0, 0, 0, 0) := by decide +kernel
theorem l_344_1188 : look 344 1188 = some (.iconst 1, 1, 0, 0, 0, 0) := by decide +kernel
theorem l_344_1189 : look 344 1189 = some (.iadd, 1, 0, 0, 0, 0) := by decide +kernel
theorem l_344_1190 : look 344 1190 = some (.iaload, 1, 0, 0, 0, 0) := by decide +kernel
theorem l_344_1191 : look 344 1191 = some (.invokevirtual 206, 3, 247, 2, 0, 2052) := by decide +kernel
theorem l_344_1194 : look 344 1194 = some (.istore 6, 2, 0, 0, 0, 0) := by decide +kernel
theorem l_344_1196 : look 344 1196 = some (.aload_n 2, 1, 0, 0, 0, 0) := by decide +kernel
theorem l_344_1197 : look 344 1197 = some (.invokevirtual 153, 3, 168, 1, 0, 1730) := by decide +kernel
theorem l_344_1200 : look 344 1200 = some (.iload 5, 2, 0, 0, 0, 0) := by decide +kernel
theorem l_344_1202 : look 344 1202 = some (.if_icmp .eq 5, 3, 0, 0, 0, 0) := by decide +kernel
theorem l_344_1207 : look 344 1207 = some (.iload 5, 2, 0, 0, 0, 0) := by decide +kernel
theorem l_344_1209 : look 344 1209 = some (.ifCond .ne 15, 3, 0, 0, 0, 0) := by decide +kernel
theorem l_344_1212 : look 344 1212 = some (.aload_n 3, 1, 0, 0, 0, 0) := by decide +kernel
theorem l_344_1213 : look 344 1213 = some (.iconst 0, 1, 0, 0, 0, 0) := by decide +kernel
theorem l_344_1214 : look 344 1214 = some (.laload, 1, 0, 0, 0, 0) := by decide +kernel
theorem l_344_1215 : look 344 1215 = some (.iload 6, 2, 0, 0, 0, 0) := by decide +kernel
theorem l_344_1217 : look 344 1217 = some (.i2l, 1, 0, 0, 0, 0) := by decide +kernel
theorem l_344_1218 : look 344 1218 = some (.lcmp, 1, 0, 0, 0, 0) := by decide +kernel
theorem l_344_1219 : look 344 1219 = some (.ifCond .eq 5, 3, 0, 0, 0, 0) := by decide +kernel
theorem l_344_1224 : look 344 1224 = some (.goto 1490, 3, 0, 0, 0, 0) := by decide +kernel
theorem l_344_1227 : look 344 1227 = some (.aload_n 1, 1, 0, 0, 0, 0) := by decide +kernel
theorem l_344_1228 : look 344 1228 = some (.aload_n 0, 1, 0, 0, 0, 0) := by decide +kernel
theorem l_344_1229 : look 344 1229 = some (.iload 4, 2, 0, 0, 0, 0) := by decide +kernel
theorem l_344_1231 : look 344 1231 = some (.iconst 1, 1, 0, 0, 0, 0) := by decide +kernel
theorem l_344_1232 : look 344 1232 = some (.iadd, 1, 0, 0, 0, 0) := by decide +kernel
theorem l_344_1233 : look 344 1233 = some (.iaload, 1, 0, 0, 0, 0) := by decide +kernel
theorem l_344_1234 : look 344 1234 = some (.aload_n 3, 1, 0, 0, 0, 0) := by decide +kernel
theorem l_344_1235 : look 344 1235 = some (.invokestatic 207, 3, 321, 3, 7, 1233) := by decide +kernel
theorem l_344_1238 : look 344 1238 = some (.istore 5, 2, 0, 0, 0, 0) := by decide +kernel
theorem l_344_1240 : look 344 1240 = some (.aload_n 2, 1, 0, 0, 0, 0) := by decide +kernel
theorem l_344_1241 : look 344 1241 = some (.aload_n 0, 1, 0, 0, 0, 0) := by decide +kernel
theorem l_344_1242 : look 344 1242 = some (.iload 4, 2, 0, 0, 0, 0) := by decide +kernel
theorem l_344_1244 : look 344 1244 = some (.iconst 1, 1, 0, 0, 0, 0) := by decide +kernel
theorem l_344_1245 : look 344 1245 = some (.iadd, 1, 0, 0, 0, 0) := by decide +kernel
theorem l_344_1246 : look 344 1246 = some (.iaload, 1, 0, 0, 0, 0) := by decide +kernel
theorem l_344_1247 : look 344 1247 = some (.invokevirtual 209, 3, 248, 2, 0, 2056) := by decide +kernel
theorem l_344_1250 : look 344 1250 = some (.istore 6, 2, 0, 0, 0, 0) := by decide +kernel
theorem l_344_1252 : look 344 1252 = some (.aload_n 2, 1, 0, 0, 0, 0) := by decide +kernel
theorem l_344_1253 : look 344 1253 = some (.invokevirtual 153, 3, 168, 1, 0, 1730) := by decide +kernel
theorem l_344_1256 : look 344 1256 = some (.iload 5, 2, 0, 0, 0, 0) := by decide +kernel
theorem l_344_1258 : look 344 1258 = some (.if_icmp .eq 5, 3, 0, 0, 0, 0) := by decide +kernel
theorem l_344_1263 : look 344 1263 = some (.iload 5, 2, 0, 0, 0, 0) := by decide +kernel
theorem l_344_1265 : look 344 1265 = some (.ifCond .ne 15, 3, 0, 0, 0, 0) := by decide +kernel
theorem l_344_1268 : look 344 1268 = some (.aload_n 3, 1, 0, 0, 0, 0) := by decide +kernel
theorem l_344_1269 : look 344 1269 = some (.iconst 0, 1, 0, 0, 0, 0) := by decide +kernel
theorem l_344_1270 : look 344 1270 = some (.laload, 1, 0, 0, 0, 0) := by decide +kernel
theorem l_344_1271 : look 344 1271 = some (.iload 6, 2, 0, 0, 0, 0) := by decide +kernel
theorem l_344_1273 : look 344 1273 = some (.i2l, 1, 0, 0, 0, 0) := by decide +kernel
theorem l_344_1274 : look 344 1274 = some (.lcmp, 1, 0, 0, 0, 0) := by decide +kernel
theorem l_344_1275 : look 344 1275 = some (.ifCond .eq 5, 3, 0, 0, 0, 0) := by decide +kernel
theorem l_344_1280 : look 344 1280 = some (.goto 1434, 3, 0, 0, 0, 0) := by decide +kernel
theorem l_344_1283 : look 344 1283 = some (.aload_n 1, 1, 0, 0, 0, 0) := by decide +kernel
theorem l_344_1284 : look 344 1284 = some (.invokevirtual 210, 3, 118, 1, 0, 610) := by decide +kernel
theorem l_344_1287 : look 344 1287 = some (.aload_n 2, 1, 0, 0, 0, 0) := by decide +kernel
theorem l_344_1288 : look 344 1288 = some (.invokevirtual 213, 3, 249, 1, 0, 2060) := by decide +kernel
theorem l_344_1291 : look 344 1291 = some (.if_icmp .eq 1423, 3, 0, 0, 0, 0) := by decide +kernel
section LWA2
variable {xs : List Int} {S : List (Nat × Nat)} {T : Nat → Nat → Nat} {I : Ix} {cc zz s c i : Nat} {v5 v6 : AV} {Q : Res → Mem → Prop}
theorem cs_12 (IV : INV S T I s c) (hb : 1 ≤ cc ∧ 6 ≤ zz) (hc : c + 1 < 100000) (hi : i + 5 < xs.length) (hxl : xs.length ≤ 100000) (KK : KKP xs S s i cc zz c Q) : WP xs 344 35 872 [vs 3, vr s, vr (s + 163), vr (s + 203), vi ((i : Nat) : Int), v5, v6] [] (S, I, T, cc, zz) Q := by
  have hms := oModel_sh IV.1
  have h203 := IV.2.1
  have hds := IV.sh
  refine w_aln l_344_872 rfl ?_
  refine w_asn l_344_873 rfl ?_
  refine w_il l_344_874 rfl ?_
  refine w_ic l_344_876 (by decide) ?_
  refine w_add ((i + 1 : Nat) : Int) l_344_877 (by unfold wr; omega) ?_
  refine w_xs (i + 1) (xs.getD (i + 1) 0) l_344_878 rfl (by omega) rfl ?_
  refine w_aln l_344_879 rfl ?_
  refine w_st [vr s, vi (xs.getD (i + 1) 0), vr (s + 203)] [] l_344_880 (by decide) rfl rfl (Nat.le_of_ble_eq_true rfl) (by rw [mx_315]; exact Nat.le_of_ble_eq_true rfl) (by rw [rk_315]; decide) (CL_mono (pr_315 IV hb hc) fun r1 m1 hr1 => ?_)
  obtain ⟨k, I1, T1, c1, z1, rfl, rfl, hcc, hzz, hr2⟩ := hr1
  show WP xs 344 35 883 [vs 3, vr s, vr (s + 163), vr (s + 203), vi ((i : Nat) : Int), v5, v6] [vi k] (S, I1, T1, c1, z1) Q
  refine w_is l_344_883 ⟨Nat.le_of_ble_eq_true rfl, rfl⟩ ?_
  refine w_aln l_344_885 rfl ?_
  refine w_asn l_344_886 rfl ?_
  refine w_il l_344_887 rfl ?_
  refine w_ic l_344_889 (by decide) ?_
  refine w_add ((i + 1 : Nat) : Int) l_344_890 (by unfold wr; omega) ?_
  refine w_xs (i + 1) (xs.getD (i + 1) 0) l_344_891 rfl (by omega) rfl ?_
  refine w_iv [vi (xs.getD (i + 1) 0)] [] l_344_892 rfl rfl rfl (Nat.le_of_ble_eq_true rfl) (by rw [mx_241]; exact Nat.le_of_ble_eq_true rfl) (by rw [mt_241]; exact hms) (by rw [mt_241]; decide) (by rw [rk_241]; decide) (CL_mono hr2 fun r2 m2 h2 => ?_)
  obtain ⟨b, I2, c2, rfl, rfl, IV2, hc2, e0, eb, hB⟩ := h2
  show WP xs 344 35 895 [vs 3, vr s, vr (s + 163), vr (s + 203), vi ((i : Nat) : Int), vi k, v6] [vi b] (S, I2, T1, c1, z1) Q
  refine w_is l_344_895 ⟨Nat.le_of_ble_eq_true rfl, rfl⟩ ?_
  refine w_aln l_344_897 rfl ?_
  refine q_iv [] [] l_344_898 rfl rfl (Nat.le_of_ble_eq_true rfl) (by rw [mx_168]; exact Nat.le_of_ble_eq_true rfl) (by rw [mt_168]; exact oModel_sh IV2.1) (by rw [mt_168]; decide) (by rw [rk_168]; decide) (s_168 IV2.1) ?_
  refine w_il l_344_901 rfl ?_
  refine w_ceq 908 l_344_903 (by decide) (fun _ => ?_) (fun hx => absurd hx (by exact fun q => q e0))
  refine w_il l_344_908 rfl ?_
  refine w_zne 925 l_344_910 (by decide) (fun h1 => ?_) (fun h1 => ?_)
  · skip
    refine w_go 2714 l_344_925 (by decide) ?_
    exact KK _ _ _ _ _ _ _ IV2 (by omega) (by omega) (by omega)
  · skip
    refine w_aln l_344_913 rfl ?_
    refine w_ic l_344_914 (by decide) ?_
    refine w_la 0 (I2 (s + 203) 0) l_344_915 h203 rfl (by omega) rfl ?_
    refine w_il l_344_916 rfl ?_
    refine w_i2l l_344_918 ?_
    refine w_lcmp l_344_919 ?_
    refine w_zeq 925 l_344_920 (by decide) (fun _ => ?_) (fun hx => absurd hx (by exact fun q => q (by rw [eb h1]; exact cmpL_rf)))
    refine w_go 2714 l_344_925 (by decide) ?_
    exact KK _ _ _ _ _ _ _ IV2 (by omega) (by omega) (by omega)

theorem cs_13 (IV : INV S T I s c) (hb : 1 ≤ cc ∧ 6 ≤ zz) (hc : c + 1 < 100000) (hi : i + 5 < xs.length) (hxl : xs.length ≤ 100000) (KK : KKP xs S s i cc zz c Q) : WP xs 344 35 928 [vs 3, vr s, vr (s + 163), vr (s + 203), vi ((i : Nat) : Int), v5, v6] [] (S, I, T, cc, zz) Q := by
  have hms := oModel_sh IV.1
  have h203 := IV.2.1
  have hds := IV.sh
  refine w_aln l_344_928 rfl ?_
  refine w_asn l_344_929 rfl ?_
  refine w_il l_344_930 rfl ?_
  refine w_ic l_344_932 (by decide) ?_
  refine w_add ((i + 1 : Nat) : Int) l_344_933 (by unfold wr; omega) ?_
  refine w_xs (i + 1) (xs.getD (i + 1) 0) l_344_934 rfl (by omega) rfl ?_
  refine w_aln l_344_935 rfl ?_
  refine w_st [vr s, vi (xs.getD (i + 1) 0), vr (s + 203)] [] l_344_936 (by decide) rfl rfl (Nat.le_of_ble_eq_true rfl) (by rw [mx_316]; exact Nat.le_of_ble_eq_true rfl) (by rw [rk_316]; decide) (CL_mono (pr_316 IV hb hc) fun r1 m1 hr1 => ?_)
  obtain ⟨k, I1, T1, c1, z1, rfl, rfl, hcc, hzz, hr2⟩ := hr1
  show WP xs 344 35 939 [vs 3, vr s, vr (s + 163), vr (s + 203), vi ((i : Nat) : Int), v5, v6] [vi k] (S, I1, T1, c1, z1) Q
  refine w_is l_344_939 ⟨Nat.le_of_ble_eq_true rfl, rfl⟩ ?_
  refine w_aln l_344_941 rfl ?_
  refine w_asn l_344_942 rfl ?_
  refine w_il l_344_943 rfl ?_
  refine w_ic l_344_945 (by decide) ?_
  refine w_add ((i + 1 : Nat) : Int) l_344_946 (by unfold wr; omega) ?_
  refine w_xs (i + 1) (xs.getD (i + 1) 0) l_344_947 rfl (by omega) rfl ?_
  refine w_iv [vi (xs.getD (i + 1) 0)] [] l_344_948 rfl rfl rfl (Nat.le_of_ble_eq_true rfl) (by rw [mx_243]; exact Nat.le_of_ble_eq_true rfl) (by rw [mt_243]; exact hms) (by rw [mt_243]; decide) (by rw [rk_243]; decide) (CL_mono hr2 fun r2 m2 h2 => ?_)
  obtain ⟨b, I2, c2, rfl, rfl, IV2, hc2, e0, eb, hB⟩ := h2
  show WP xs 344 35 951 [vs 3, vr s, vr (s + 163), vr (s + 203), vi ((i : Nat) : Int), vi k, v6] [vi b] (S, I2, T1, c1, z1) Q
  refine w_is l_344_951 ⟨Nat.le_of_ble_eq_true rfl, rfl⟩ ?_
  refine w_aln l_344_953 rfl ?_
  refine q_iv [] [] l_344_954 rfl rfl (Nat.le_of_ble_eq_true rfl) (by rw [mx_168]; exact Nat.le_of_ble_eq_true rfl) (by rw [mt_168]; exact oModel_sh IV2.1) (by rw [mt_168]; decide) (by rw [rk_168]; decide) (s_168 IV2.1) ?_
  refine w_il l_344_957 rfl ?_
  refine w_ceq 964 l_344_959 (by decide) (fun _ => ?_) (fun hx => absurd hx (by exact fun q => q e0))
  refine w_il l_344_964 rfl ?_
  refine w_zne 981 l_344_966 (by decide) (fun h1 => ?_) (fun h1 => ?_)
  · skip
    refine w_go 2714 l_344_981 (by decide) ?_
    exact KK _ _ _ _ _ _ _ IV2 (by omega) (by omega) (by omega)
  · skip
    refine w_aln l_344_969 rfl ?_
    refine w_ic l_344_970 (by decide) ?_
    refine w_la 0 (I2 (s + 203) 0) l_344_971 h203 rfl (by omega) rfl ?_
    refine w_il l_344_972 rfl ?_
    refine w_i2l l_344_974 ?_
    refine w_lcmp l_344_975 ?_
    refine w_zeq 981 l_344_976 (by decide) (fun _ => ?_) (fun hx => absurd hx (by exact fun q => q (by rw [eb h1]; exact cmpL_rf)))
    refine w_go 2714 l_344_981 (by decide) ?_
    exact KK _ _ _ _ _ _ _ IV2 (by omega) (by omega) (by omega)

theorem cs_14 (IV : INV S T I s c) (hb : 1 ≤ cc ∧ 6 ≤ zz) (hc : c + 1 < 100000) (hi : i + 5 < xs.length) (hxl : xs.length ≤ 100000) (KK : KKP xs S s i cc zz c Q) : WP xs 344 35 984 [vs 3, vr s, vr (s + 163), vr (s + 203), vi ((i : Nat) : Int), v5, v6] [] (S, I, T, cc, zz) Q := by
  have hms := oModel_sh IV.1
  have h203 := IV.2.1
  have hds := IV.sh
  refine w_aln l_344_984 rfl ?_
  refine w_asn l_344_985 rfl ?_
  refine w_il l_344_986 rfl ?_
  refine w_ic l_344_988 (by decide) ?_
  refine w_add ((i + 1 : Nat) : Int) l_344_989 (by unfold wr; omega) ?_
  refine w_xs (i + 1) (xs.getD (i + 1) 0) l_344_990 rfl (by omega) rfl ?_
  refine w_aln l_344_991 rfl ?_
  refine w_st [vr s, vi (xs.getD (i + 1) 0), vr (s + 203)] [] l_344_992 (by decide) rfl rfl (Nat.le_of_ble_eq_true rfl) (by rw [mx_317]; exact Nat.le_of_ble_eq_true rfl) (by rw [rk_317]; decide) (CL_mono (pr_317 IV hb hc) fun r1 m1 hr1 => ?_)
  obtain ⟨k, I1, T1, c1, z1, rfl, rfl, hcc, hzz, hr2⟩ := hr1
  show WP xs 344 35 995 [vs 3, vr s, vr (s + 163), vr (s + 203), vi ((i : Nat) : Int), v5, v6] [vi k] (S, I1, T1, c1, z1) Q
  refine w_is l_344_995 ⟨Nat.le_of_ble_eq_true rfl, rfl⟩ ?_
  refine w_aln l_344_997 rfl ?_
  refine w_asn l_344_998 rfl ?_
  refine w_il l_344_999 rfl ?_
  refine w_ic l_344_1001 (by decide) ?_
  refine w_add ((i + 1 : Nat) : Int) l_344_1002 (by unfold wr; omega) ?_
  refine w_xs (i + 1) (xs.getD (i + 1) 0) l_344_1003 rfl (by omega) rfl ?_
  refine w_iv [vi (xs.getD (i + 1) 0)] [] l_344_1004 rfl rfl rfl (Nat.le_of_ble_eq_true rfl) (by rw [mx_244]; exact Nat.le_of_ble_eq_true rfl) (by rw [mt_244]; exact hms) (by rw [mt_244]; decide) (by rw [rk_244]; decide) (CL_mono hr2 fun r2 m2 h2 => ?_)
  obtain ⟨b, I2, c2, rfl, rfl, IV2, hc2, e0, eb, hB⟩ := h2
  show WP xs 344 35 1007 [vs 3, vr s, vr (s + 163), vr (s + 203), vi ((i : Nat) : Int), vi k, v6] [vi b] (S, I2, T1, c1, z1) Q
  refine w_is l_344_1007 ⟨Nat.le_of_ble_eq_true rfl, rfl⟩ ?_
  refine w_aln l_344_1009 rfl ?_
  refine q_iv [] [] l_344_1010 rfl rfl (Nat.le_of_ble_eq_true rfl) (by rw [mx_168]; exact Nat.le_of_ble_eq_true rfl) (by rw [mt_168]; exact oModel_sh IV2.1) (by rw [mt_168]; decide) (by rw [rk_168]; decide) (s_168 IV2.1) ?_
  refine w_il l_344_1013 rfl ?_
  refine w_ceq 1020 l_344_1015 (by decide) (fun _ => ?_) (fun hx => absurd hx (by exact fun q => q e0))
  refine w_il l_344_1020 rfl ?_
  refine w_zne 1037 l_344_1022 (by decide) (fun h1 => ?_) (fun h1 => ?_)
  · skip
    refine w_go 2714 l_344_1037 (by decide) ?_
    exact KK _ _ _ _ _ _ _ IV2 (by omega) (by omega) (by omega)
  · skip
    refine w_aln l_344_1025 rfl ?_
    refine w_ic l_344_1026 (by decide) ?_
    refine w_la 0 (I2 (s + 203) 0) l_344_1027 h203 rfl (by omega) rfl ?_
    refine w_il l_344_1028 rfl ?_
    refine w_i2l l_344_1030 ?_
    refine w_lcmp l_344_1031 ?_
    refine w_zeq 1037 l_344_1032 (by decide) (fun _ => ?_) (fun hx => absurd hx (by exact fun q => q (by rw [eb h1]; exact cmpL_rf)))
    refine w_go 2714 l_344_1037 (by decide) ?_
    exact KK _ _ _ _ _ _ _ IV2 (by omega) (by omega) (by omega)

theorem cs_15 (IV : INV S T I s c) (hb : 1 ≤ cc ∧ 6 ≤ zz) (hc : c + 1 < 100000) (hi : i + 5 < xs.length) (hxl : xs.length ≤ 100000) (KK : KKP xs S s i cc zz c Q) : WP xs 344 35 1040 [vs 3, vr s, vr (s + 163), vr (s + 203), vi ((i : Nat) : Int), v5, v6] [] (S, I, T, cc, zz) Q := by
  have hms := oModel_sh IV.1
  have h203 := IV.2.1
  have hds := IV.sh
  refine w_aln l_344_1040 rfl ?_
  refine w_asn l_344_1041 rfl ?_
  refine w_il l_344_1042 rfl ?_
  refine w_ic l_344_1044 (by decide) ?_
  refine w_add ((i + 1 : Nat) : Int) l_344_1045 (by unfold wr; omega) ?_
  refine w_xs (i + 1) (xs.getD (i + 1) 0) l_344_1046 rfl (by omega) rfl ?_
  refine w_asn l_344_1047 rfl ?_
  refine w_il l_344_1048 rfl ?_
  refine w_ic l_344_1050 (by decide) ?_
  refine w_add ((i + 2 : Nat) : Int) l_344_1051 (by unfold wr; omega) ?_
  refine w_xs (i + 2) (xs.getD (i + 2) 0) l_344_1052 rfl (by omega) rfl ?_
  refine w_aln l_344_1053 rfl ?_
  refine w_st [vr s, vi (xs.getD (i + 1) 0), vi (xs.getD (i + 2) 0), vr (s + 203)] [] l_344_1054 (by decide) rfl rfl (Nat.le_of_ble_eq_true rfl) (by rw [mx_318]; exact Nat.le_of_ble_eq_true rfl) (by rw [rk_318]; decide) (CL_mono (pr_318 IV hb hc) fun r1 m1 hr1 => ?_)
  obtain ⟨k, I1, T1, c1, z1, rfl, rfl, hcc, hzz, hr2⟩ := hr1
  show WP xs 344 35 1057 [vs 3, vr s, vr (s + 163), vr (s + 203), vi ((i : Nat) : Int), v5, v6] [vi k] (S, I1, T1, c1, z1) Q
  refine w_is l_344_1057 ⟨Nat.le_of_ble_eq_true rfl, rfl⟩ ?_
  refine w_aln l_344_1059 rfl ?_
  refine w_asn l_344_1060 rfl ?_
  refine w_il l_344_1061 rfl ?_
  refine w_ic l_344_1063 (by decide) ?_
  refine w_add ((i + 1 : Nat) : Int) l_344_1064 (by unfold wr; omega) ?_
  refine w_xs (i + 1) (xs.getD (i + 1) 0) l_344_1065 rfl (by omega) rfl ?_
  refine w_asn l_344_1066 rfl ?_
  refine w_il l_344_1067 rfl ?_
  refine w_ic l_344_1069 (by decide) ?_
  refine w_add ((i + 2 : Nat) : Int) l_344_1070 (by unfold wr; omega) ?_
  refine w_xs (i + 2) (xs.getD (i + 2) 0) l_344_1071 rfl (by omega) rfl ?_
  refine w_iv [vi (xs.getD (i + 1) 0), vi (xs.getD (i + 2) 0)] [] l_344_1072 rfl rfl rfl (Nat.le_of_ble_eq_true rfl) (by rw [mx_245]; exact Nat.le_of_ble_eq_true rfl) (by rw [mt_245]; exact hms) (by rw [mt_245]; decide) (by rw [rk_245]; decide) (CL_mono hr2 fun r2 m2 h2 => ?_)
  obtain ⟨b, I2, c2, rfl, rfl, IV2, hc2, e0, eb, hB⟩ := h2
  show WP xs 344 35 1075 [vs 3, vr s, vr (s + 163), vr (s + 203), vi ((i : Nat) : Int), vi k, v6] [vi b] (S, I2, T1, c1, z1) Q
  refine w_is l_344_1075 ⟨Nat.le_of_ble_eq_true rfl, rfl⟩ ?_
  refine w_aln l_344_1077 rfl ?_
  refine q_iv [] [] l_344_1078 rfl rfl (Nat.le_of_ble_eq_true rfl) (by rw [mx_168]; exact Nat.le_of_ble_eq_true rfl) (by rw [mt_168]; exact oModel_sh IV2.1) (by rw [mt_168]; decide) (by rw [rk_168]; decide) (s_168 IV2.1) ?_
  refine w_il l_344_1081 rfl ?_
  refine w_ceq 1088 l_344_1083 (by decide) (fun _ => ?_) (fun hx => absurd hx (by exact fun q => q e0))
  refine w_il l_344_1088 rfl ?_
  refine w_zne 1105 l_344_1090 (by decide) (fun h1 => ?_) (fun h1 => ?_)
  · skip
    refine w_go 2714 l_344_1105 (by decide) ?_
    exact KK _ _ _ _ _ _ _ IV2 (by omega) (by omega) (by omega)
  · skip
    refine w_aln l_344_1093 rfl ?_
    refine w_ic l_344_1094 (by decide) ?_
    refine w_la 0 (I2 (s + 203) 0) l_344_1095 h203 rfl (by omega) rfl ?_
    refine w_il l_344_1096 rfl ?_
    refine w_i2l l_344_1098 ?_
    refine w_lcmp l_344_1099 ?_
    refine w_zeq 1105 l_344_1100 (by decide) (fun _ => ?_) (fun hx => absurd hx (by exact fun q => q (by rw [eb h1]; exact cmpL_rf)))
    refine w_go 2714 l_344_1105 (by decide) ?_
    exact KK _ _ _ _ _ _ _ IV2 (by omega) (by omega) (by omega)

theorem cs_16 (IV : INV S T I s c) (hb : 1 ≤ cc ∧ 6 ≤ zz) (hc : c + 1 < 100000) (hi : i + 5 < xs.length) (hxl : xs.length ≤ 100000) (KK : KKP xs S s i cc zz c Q) : WP xs 344 35 1108 [vs 3, vr s, vr (s + 163), vr (s + 203), vi ((i : Nat) : Int), v5, v6] [] (S, I, T, cc, zz) Q := by
  have hms := oModel_sh IV.1
  have h203 := IV.2.1
  have hds := IV.sh
  refine w_aln l_344_1108 rfl ?_
  refine w_asn l_344_1109 rfl ?_
  refine w_il l_344_1110 rfl ?_
  refine w_ic l_344_1112 (by decide) ?_
  refine w_add ((i + 1 : Nat) : Int) l_344_1113 (by unfold wr; omega) ?_
  refine w_xs (i + 1) (xs.getD (i + 1) 0) l_344_1114 rfl (by omega) rfl ?_
  refine w_aln l_344_1115 rfl ?_
  refine w_st [vr s, vi (xs.getD (i + 1) 0), vr (s + 203)] [] l_344_1116 (by decide) rfl rfl (Nat.le_of_ble_eq_true rfl) (by rw [mx_319]; exact Nat.le_of_ble_eq_true rfl) (by rw [rk_319]; decide) (CL_mono (pr_319 IV hb hc) fun r1 m1 hr1 => ?_)
  obtain ⟨k, I1, T1, c1, z1, rfl, rfl, hcc, hzz, hr2⟩ := hr1
  show WP xs 344 35 1119 [vs 3, vr s, vr (s + 163), vr (s + 203), vi ((i : Nat) : Int), v5, v6] [vi k] (S, I1, T1, c1, z1) Q
  refine w_is l_344_1119 ⟨Nat.le_of_ble_eq_true rfl, rfl⟩ ?_
  refine w_aln l_344_1121 rfl ?_
  refine w_asn l_344_1122 rfl ?_
  refine w_il l_344_1123 rfl ?_
  refine w_ic l_344_1125 (by decide) ?_
  refine w_add ((i + 1 : Nat) : Int) l_344_1126 (by unfold wr; omega) ?_
  refine w_xs (i + 1) (xs.getD (i + 1) 0) l_344_1127 rfl (by omega) rfl ?_
  refine w_iv [vi (xs.getD (i + 1) 0)] [] l_344_1128 rfl rfl rfl (Nat.le_of_ble_eq_true rfl) (by rw [mx_246]; exact Nat.le_of_ble_eq_true rfl) (by rw [mt_246]; exact hms) (by rw [mt_246]; decide) (by rw [rk_246]; decide) (CL_mono hr2 fun r2 m2 h2 => ?_)
  obtain ⟨b, I2, c2, rfl, rfl, IV2, hc2, e0, eb, hB⟩ := h2
  show WP xs 344 35 1131 [vs 3, vr s, vr (s + 163), vr (s + 203), vi ((i : Nat) : Int), vi k, v6] [vi b] (S, I2, T1, c1, z1) Q
  refine w_is l_344_1131 ⟨Nat.le_of_ble_eq_true rfl, rfl⟩ ?_
  refine w_aln l_344_1133 rfl ?_
  refine q_iv [] [] l_344_1134 rfl rfl (Nat.le_of_ble_eq_true rfl) (by rw [mx_168]; exact Nat.le_of_ble_eq_true rfl) (by rw [mt_168]; exact oModel_sh IV2.1) (by rw [mt_168]; decide) (by rw [rk_168]; decide) (s_168 IV2.1) ?_
  refine w_il l_344_1137 rfl ?_
  refine w_ceq 1144 l_344_1139 (by decide) (fun _ => ?_) (fun hx => absurd hx (by exact fun q => q e0))
  refine w_il l_344_1144 rfl ?_
  refine w_zne 1168 l_344_1146 (by decide) (fun h1 => ?_) (fun h1 => ?_)
  · skip
    refine w_go 2714 l_344_1168 (by decide) ?_
    exact KK _ _ _ _ _ _ _ IV2 (by omega) (by omega) (by omega)
  · skip
    refine w_aln l_344_1149 rfl ?_
    refine w_ic l_344_1150 (by decide) ?_
    refine w_la 0 (I2 (s + 203) 0) l_344_1151 h203 rfl (by omega) rfl ?_
    refine w_il l_344_1152 rfl ?_
    refine w_zeq 1161 l_344_1154 (by decide) (fun h2 => ?_) (fun h2 => ?_)
    · skip
      refine w_lc l_344_1161 ?_
      refine w_lcmp l_344_1162 ?_
      refine w_zeq 1168 l_344_1163 (by decide) (fun _ => ?_) (fun hx => absurd hx (by exact fun q => q (by rw [eb h1]; rcases hB with e | e <;> first | (rw [e]; exact cmpL_rf) | exact absurd e h2 | (rw [h2] at e; cases e))))
      refine w_go 2714 l_344_1168 (by decide) ?_
      exact KK _ _ _ _ _ _ _ IV2 (by omega) (by omega) (by omega)
    · skip
      refine w_lc l_344_1157 ?_
      refine w_go 1162 l_344_1158 (by decide) ?_
      refine w_lcmp l_344_1162 ?_
      refine w_zeq 1168 l_344_1163 (by decide) (fun _ => ?_) (fun hx => absurd hx (by exact fun q => q (by rw [eb h1]; rcases hB with e | e <;> first | (rw [e]; exact cmpL_rf) | exact absurd e h2 | (rw [h2] at e; cases e))))
      refine w_go 2714 l_344_1168 (by decide) ?_
      exact KK _ _ _ _ _ _ _ IV2 (by omega) (by omega) (by omega)

theorem cs_17 (IV : INV S T I s c) (hb : 1 ≤ cc ∧ 6 ≤ zz) (hc : c + 1 < 100000) (hi : i + 5 < xs.length) (hxl : xs.length ≤ 100000) (KK : KKP xs S s i cc zz c Q) : WP xs 344 35 1171 [vs 3, vr s, vr (s + 163), vr (s + 203), vi ((i : Nat) : Int), v5, v6] [] (S, I, T, cc, zz) Q := by
  have hms := oModel_sh IV.1
  have h203 := IV.2.1
  have hds := IV.sh
  refine w_aln l_344_1171 rfl ?_
  refine w_asn l_344_1172 rfl ?_
  refine w_il l_344_1173 rfl ?_
  refine w_ic l_344_1175 (by decide) ?_
  refine w_add ((i + 1 : Nat) : Int) l_344_1176 (by unfold wr; omega) ?_
  refine w_xs (i + 1) (xs.getD (i + 1) 0) l_344_1177 rfl (by omega) rfl ?_
  refine w_aln l_344_1178 rfl ?_
  refine w_st [vr s, vi (xs.getD (i + 1) 0), vr (s + 203)] [] l_344_1179 (by decide) rfl rfl (Nat.le_of_ble_eq_true rfl) (by rw [mx_320]; exact Nat.le_of_ble_eq_true rfl) (by rw [rk_320]; decide) (CL_mono (pr_320 IV hb hc) fun r1 m1 hr1 => ?_)
  obtain ⟨k, I1, T1, c1, z1, rfl, rfl, hcc, hzz, hr2⟩ := hr1
  show WP xs 344 35 1182 [vs 3, vr s, vr (s + 163), vr (s + 203), vi ((i : Nat) : Int), v5, v6] [vi k] (S, I1, T1, c1, z1) Q
  refine w_is l_344_1182 ⟨Nat.le_of_ble_eq_true rfl, rfl⟩ ?_
  refine w_aln l_344_1184 rfl ?_
  refine w_asn l_344_1185 rfl ?_
  refine w_il l_344_1186 rfl ?_
  refine w_ic l_344_1188 (by decide) ?_
  refine w_add ((i + 1 : Nat) : Int) l_344_1189 (by unfold wr; omega) ?_
  refine w_xs (i + 1) (xs.getD (i + 1) 0) l_344_1190 rfl (by omega) rfl ?_
  refine w_iv [vi (xs.getD (i + 1) 0)] [] l_344_1191 rfl rfl rfl (Nat.le_of_ble_eq_true rfl) (by rw [mx_247]; exact Nat.le_of_ble_eq_true rfl) (by rw [mt_247]; exact hms) (by rw [mt_247]; decide) (by rw [rk_247]; decide) (CL_mono hr2 fun r2 m2 h2 => ?_)
  obtain ⟨b, I2, c2, rfl, rfl, IV2, hc2, e0, eb, hB⟩ := h2
  show WP xs 344 35 1194 [vs 3, vr s, vr (s + 163), vr (s + 203), vi ((i : Nat) : Int), vi k, v6] [vi b] (S, I2, T1, c1, z1) Q
  refine w_is l_344_1194 ⟨Nat.le_of_ble_eq_true rfl, rfl⟩ ?_
  refine w_aln l_344_1196 rfl ?_
  refine q_iv [] [] l_344_1197 rfl rfl (Nat.le_of_ble_eq_true rfl) (by rw [mx_168]; exact Nat.le_of_ble_eq_true rfl) (by rw [mt_168]; exact oModel_sh IV2.1) (by rw [mt_168]; decide) (by rw [rk_168]; decide) (s_168 IV2.1) ?_
  refine w_il l_344_1200 rfl ?_
  refine w_ceq 1207 l_344_1202 (by decide) (fun _ => ?_) (fun hx => absurd hx (by exact fun q => q e0))
  refine w_il l_344_1207 rfl ?_
  refine w_zne 1224 l_344_1209 (by decide) (fun h1 => ?_) (fun h1 => ?_)
  · skip
    refine w_go 2714 l_344_1224 (by decide) ?_
    exact KK _ _ _ _ _ _ _ IV2 (by omega) (by omega) (by omega)
  · skip
    refine w_aln l_344_1212 rfl ?_
    refine w_ic l_344_1213 (by decide) ?_
    refine w_la 0 (I2 (s + 203) 0) l_344_1214 h203 rfl (by omega) rfl ?_
    refine w_il l_344_1215 rfl ?_
    refine w_i2l l_344_1217 ?_
    refine w_lcmp l_344_1218 ?_
    refine w_zeq 1224 l_344_1219 (by decide) (fun _ => ?_) (fun hx => absurd hx (by exact fun q => q (by rw [eb h1]; exact cmpL_rf)))
    refine w_go 2714 l_344_1224 (by decide) ?_
    exact KK _ _ _ _ _ _ _ IV2 (by omega) (by omega) (by omega)

theorem cs_18 (IV : INV S T I s c) (hb : 1 ≤ cc ∧ 6 ≤ zz) (hc : c + 1 < 100000) (hi : i + 5 < xs.length) (hxl : xs.length ≤ 100000) (KK : KKP xs S s i cc zz c Q) : WP xs 344 35 1227 [vs 3, vr s, vr (s + 163), vr (s + 203), vi ((i : Nat) : Int), v5, v6] [] (S, I, T, cc, zz) Q := by
  have hms := oModel_sh IV.1
  have h203 := IV.2.1
  have hds := IV.sh
  refine w_aln l_344_1227 rfl ?_
  refine w_asn l_344_1228 rfl ?_
  refine w_il l_344_1229 rfl ?_
  refine w_ic l_344_1231 (by decide) ?_
  refine w_add ((i + 1 : Nat) : Int) l_344_1232 (by unfold wr; omega) ?_
  refine w_xs (i + 1) (xs.getD (i + 1) 0) l_344_1233 rfl (by omega) rfl ?_
  refine w_aln l_344_1234 rfl ?_
  refine w_st [vr s, vi (xs.getD (i + 1) 0), vr (s + 203)] [] l_344_1235 (by decide) rfl rfl (Nat.le_of_ble_eq_true rfl) (by rw [mx_321]; exact Nat.le_of_ble_eq_true rfl) (by rw [rk_321]; decide) (CL_mono (pr_321 IV hb hc) fun r1 m1 hr1 => ?_)
  obtain ⟨k, I1, T1, c1, z1, rfl, rfl, hcc, hzz, hr2⟩ := hr1
  show WP xs 344 35 1238 [vs 3, vr s, vr (s + 163), vr (s + 203), vi ((i : Nat) : Int), v5, v6] [vi k] (S, I1, T1, c1, z1) Q
  refine w_is l_344_1238 ⟨Nat.le_of_ble_eq_true rfl, rfl⟩ ?_
  refine w_aln l_344_1240 rfl ?_
  refine w_asn l_344_1241 rfl ?_
  refine w_il l_344_1242 rfl ?_
  refine w_ic l_344_1244 (by decide) ?_
  refine w_add ((i + 1 : Nat) : Int) l_344_1245 (by unfold wr; omega) ?_
  refine w_xs (i + 1) (xs.getD (i + 1) 0) l_344_1246 rfl (by omega) rfl ?_
  refine w_iv [vi (xs.getD (i + 1) 0)] [] l_344_1247 rfl rfl rfl (Nat.le_of_ble_eq_true rfl) (by rw [mx_248]; exact Nat.le_of_ble_eq_true rfl) (by rw [mt_248]; exact hms) (by rw [mt_248]; decide) (by rw [rk_248]; decide) (CL_mono hr2 fun r2 m2 h2 => ?_)
  obtain ⟨b, I2, c2, rfl, rfl, IV2, hc2, e0, eb, hB⟩ := h2
  show WP xs 344 35 1250 [vs 3, vr s, vr (s + 163), vr (s + 203), vi ((i : Nat) : Int), vi k, v6] [vi b] (S, I2, T1, c1, z1) Q
  refine w_is l_344_1250 ⟨Nat.le_of_ble_eq_true rfl, rfl⟩ ?_
  refine w_aln l_344_1252 rfl ?_
  refine q_iv [] [] l_344_1253 rfl rfl (Nat.le_of_ble_eq_true rfl) (by rw [mx_168]; exact Nat.le_of_ble_eq_true rfl) (by rw [mt_168]; exact oModel_sh IV2.1) (by rw [mt_168]; decide) (by rw [rk_168]; decide) (s_168 IV2.1) ?_
  refine w_il l_344_1256 rfl ?_
  refine w_ceq 1263 l_344_1258 (by decide) (fun _ => ?_) (fun hx => absurd hx (by exact fun q => q e0))
  refine w_il l_344_1263 rfl ?_
  refine w_zne 1280 l_344_1265 (by decide) (fun h1 => ?_) (fun h1 => ?_)
  · skip
    refine w_go 2714 l_344_1280 (by decide) ?_
    exact KK _ _ _ _ _ _ _ IV2 (by omega) (by omega) (by omega)
  · skip
    refine w_aln l_344_1268 rfl ?_
    refine w_ic l_344_1269 (by decide) ?_
    refine w_la 0 (I2 (s + 203) 0) l_344_1270 h203 rfl (by omega) rfl ?_
    refine w_il l_344_1271 rfl ?_
    refine w_i2l l_344_1273 ?_
    refine w_lcmp l_344_1274 ?_
    refine w_zeq 1280 l_344_1275 (by decide) (fun _ => ?_) (fun hx => absurd hx (by exact fun q => q (by rw [eb h1]; exact cmpL_rf)))
    refine w_go 2714 l_344_1280 (by decide) ?_
    exact KK _ _ _ _ _ _ _ IV2 (by omega) (by omega) (by omega)

theorem cs_19 (IV : INV S T I s c) (hb : 1 ≤ cc ∧ 6 ≤ zz) (hc : c + 1 < 100000) (hi : i + 5 < xs.length) (hxl : xs.length ≤ 100000) (KK : KKP xs S s i cc zz c Q) : WP xs 344 35 1283 [vs 3, vr s, vr (s + 163), vr (s + 203), vi ((i : Nat) : Int), v5, v6] [] (S, I, T, cc, zz) Q := by
  have hms := oModel_sh IV.1
  have h203 := IV.2.1
  have hds := IV.sh
  refine w_aln l_344_1283 rfl ?_
  refine w_iv [] [] l_344_1284 rfl rfl rfl (Nat.le_of_ble_eq_true rfl) (by rw [mx_118]; exact Nat.le_of_ble_eq_true rfl) (by rw [mt_118]; exact hds) (by rw [mt_118]; decide) (by rw [rk_118]; decide) (CL_mono (py_118 IV hc) fun r1 m1 hr1 => ?_)
  obtain ⟨V, I1, rfl, rfl, hr2⟩ := hr1
  show WP xs 344 35 1287 [vs 3, vr s, vr (s + 163), vr (s + 203), vi ((i : Nat) : Int), v5, v6] [vi V] (S, I1, T, cc, zz) Q
  refine w_aln l_344_1287 rfl ?_
  refine w_iv [] [vi V] l_344_1288 rfl rfl rfl (Nat.le_of_ble_eq_true rfl) (by rw [mx_249]; exact Nat.le_of_ble_eq_true rfl) (by rw [mt_249]; exact hms) (by rw [mt_249]; decide) (by rw [rk_249]; decide) (CL_mono hr2 fun r2 m2 h2 => ?_)
  obtain ⟨I2, c2, rfl, rfl, IV2, hc2⟩ := h2
  show WP xs 344 35 1291 [vs 3, vr s, vr (s + 163), vr (s + 203), vi ((i : Nat) : Int), v5, v6] [vi V, vi V] (S, I2, T, cc, zz) Q
  refine w_ceq 2714 l_344_1291 (by decide) (fun _ => ?_) (fun hx => absurd hx (by exact fun q => q rfl))
  exact KK _ _ _ _ _ _ _ IV2 (by omega) (by omega) (by omega)
end LWA2
