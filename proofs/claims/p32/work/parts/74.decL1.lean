theorem dL_law_854 : decode cL_law 854 = .ok (.invokestatic 18, 3) := by decide +kernel
theorem dL_law_857 : decode cL_law 857 = .ok (.iadd, 1) := by decide +kernel
theorem dL_law_858 : decode cL_law 858 = .ok (.istore 16, 2) := by decide +kernel
theorem dL_law_860 : decode cL_law 860 = .ok (.aload_n 1, 1) := by decide +kernel
theorem dL_law_861 : decode cL_law 861 = .ok (.iload 10, 2) := by decide +kernel
theorem dL_law_863 : decode cL_law 863 = .ok (.iconst 2, 1) := by decide +kernel
theorem dL_law_864 : decode cL_law 864 = .ok (.invokevirtual 56, 3) := by decide +kernel
theorem dL_law_867 : decode cL_law 867 = .ok (.istore 17, 2) := by decide +kernel
theorem dL_law_869 : decode cL_law 869 = .ok (.aload_n 1, 1) := by decide +kernel
theorem dL_law_870 : decode cL_law 870 = .ok (.iload 10, 2) := by decide +kernel
theorem dL_law_872 : decode cL_law 872 = .ok (.iload 16, 2) := by decide +kernel
theorem dL_law_874 : decode cL_law 874 = .ok (.invokevirtual 68, 3) := by decide +kernel
theorem dL_law_877 : decode cL_law 877 = .ok (.iload 17, 2) := by decide +kernel
theorem dL_law_879 : decode cL_law 879 = .ok (.iload 16, 2) := by decide +kernel
theorem dL_law_881 : decode cL_law 881 = .ok (.iadd, 1) := by decide +kernel
theorem dL_law_882 : decode cL_law 882 = .ok (.if_icmp .eq 5, 3) := by decide +kernel
theorem dL_law_885 : decode cL_law 885 = .ok (.iconst 0, 1) := by decide +kernel
theorem dL_law_886 : decode cL_law 886 = .ok (.ireturn, 1) := by decide +kernel
theorem dL_law_887 : decode cL_law 887 = .ok (.iload 5, 2) := by decide +kernel
theorem dL_law_889 : decode cL_law 889 = .ok (.iload 16, 2) := by decide +kernel
theorem dL_law_891 : decode cL_law 891 = .ok (.iadd, 1) := by decide +kernel
theorem dL_law_892 : decode cL_law 892 = .ok (.istore 5, 2) := by decide +kernel
theorem dL_law_894 : decode cL_law 894 = .ok (.goto 709, 3) := by decide +kernel
theorem dL_law_897 : decode cL_law 897 = .ok (.iload 12, 2) := by decide +kernel
theorem dL_law_899 : decode cL_law 899 = .ok (.ifCond .ne 12, 3) := by decide +kernel
theorem dL_law_902 : decode cL_law 902 = .ok (.iload 14, 2) := by decide +kernel
theorem dL_law_904 : decode cL_law 904 = .ok (.iconst 3, 1) := by decide +kernel
theorem dL_law_905 : decode cL_law 905 = .ok (.if_icmp .ge 22, 3) := by decide +kernel
theorem dL_law_908 : decode cL_law 908 = .ok (.goto 695, 3) := by decide +kernel
theorem dL_law_911 : decode cL_law 911 = .ok (.iload 12, 2) := by decide +kernel
theorem dL_law_913 : decode cL_law 913 = .ok (.iconst 1, 1) := by decide +kernel
theorem dL_law_914 : decode cL_law 914 = .ok (.if_icmp .ne 13, 3) := by decide +kernel
theorem dL_law_917 : decode cL_law 917 = .ok (.aload_n 1, 1) := by decide +kernel
theorem dL_law_918 : decode cL_law 918 = .ok (.invokevirtual 71, 3) := by decide +kernel
theorem dL_law_921 : decode cL_law 921 = .ok (.ifCond .le 6, 3) := by decide +kernel
theorem dL_law_924 : decode cL_law 924 = .ok (.goto 679, 3) := by decide +kernel
theorem dL_law_927 : decode cL_law 927 = .ok (.iload 12, 2) := by decide +kernel
theorem dL_law_929 : decode cL_law 929 = .ok (.ifCond .ne 10, 3) := by decide +kernel
theorem dL_law_932 : decode cL_law 932 = .ok (.aload_n 1, 1) := by decide +kernel
theorem dL_law_933 : decode cL_law 933 = .ok (.invokevirtual 74, 3) := by decide +kernel
theorem dL_law_936 : decode cL_law 936 = .ok (.goto 67, 3) := by decide +kernel
theorem dL_law_939 : decode cL_law 939 = .ok (.iload 12, 2) := by decide +kernel
theorem dL_law_941 : decode cL_law 941 = .ok (.iconst 1, 1) := by decide +kernel
theorem dL_law_942 : decode cL_law 942 = .ok (.if_icmp .ne 21, 3) := by decide +kernel
theorem dL_law_945 : decode cL_law 945 = .ok (.aload_n 1, 1) := by decide +kernel
theorem dL_law_946 : decode cL_law 946 = .ok (.iconst 3, 1) := by decide +kernel
theorem dL_law_947 : decode cL_law 947 = .ok (.iload 8, 2) := by decide +kernel
theorem dL_law_949 : decode cL_law 949 = .ok (.iconst 3, 1) := by decide +kernel
theorem dL_law_950 : decode cL_law 950 = .ok (.ishr, 1) := by decide +kernel
theorem dL_law_951 : decode cL_law 951 = .ok (.bipush 6, 2) := by decide +kernel
theorem dL_law_953 : decode cL_law 953 = .ok (.invokestatic 18, 3) := by decide +kernel
theorem dL_law_956 : decode cL_law 956 = .ok (.iadd, 1) := by decide +kernel
theorem dL_law_957 : decode cL_law 957 = .ok (.invokevirtual 77, 3) := by decide +kernel
theorem dL_law_960 : decode cL_law 960 = .ok (.goto 43, 3) := by decide +kernel
theorem dL_law_963 : decode cL_law 963 = .ok (.iload 12, 2) := by decide +kernel
theorem dL_law_965 : decode cL_law 965 = .ok (.iconst 2, 1) := by decide +kernel
theorem dL_law_966 : decode cL_law 966 = .ok (.if_icmp .ne 20, 3) := by decide +kernel
theorem dL_law_969 : decode cL_law 969 = .ok (.aload_n 1, 1) := by decide +kernel
theorem dL_law_970 : decode cL_law 970 = .ok (.iconst 2, 1) := by decide +kernel
theorem dL_law_971 : decode cL_law 971 = .ok (.iload 8, 2) := by decide +kernel
theorem dL_law_973 : decode cL_law 973 = .ok (.iconst 3, 1) := by decide +kernel
theorem dL_law_974 : decode cL_law 974 = .ok (.ishr, 1) := by decide +kernel
theorem dL_law_975 : decode cL_law 975 = .ok (.iconst 4, 1) := by decide +kernel
theorem dL_law_976 : decode cL_law 976 = .ok (.invokestatic 18, 3) := by decide +kernel
theorem dL_law_979 : decode cL_law 979 = .ok (.iadd, 1) := by decide +kernel
theorem dL_law_980 : decode cL_law 980 = .ok (.invokevirtual 80, 3) := by decide +kernel
theorem dL_law_983 : decode cL_law 983 = .ok (.goto 20, 3) := by decide +kernel
theorem dL_law_986 : decode cL_law 986 = .ok (.iload 12, 2) := by decide +kernel
theorem dL_law_988 : decode cL_law 988 = .ok (.iconst 3, 1) := by decide +kernel
theorem dL_law_989 : decode cL_law 989 = .ok (.if_icmp .ne 10, 3) := by decide +kernel
theorem dL_law_992 : decode cL_law 992 = .ok (.aload_n 1, 1) := by decide +kernel
theorem dL_law_993 : decode cL_law 993 = .ok (.invokevirtual 83, 3) := by decide +kernel
theorem dL_law_996 : decode cL_law 996 = .ok (.goto 7, 3) := by decide +kernel
theorem dL_law_999 : decode cL_law 999 = .ok (.aload_n 1, 1) := by decide +kernel
theorem dL_law_1000 : decode cL_law 1000 = .ok (.invokevirtual 86, 3) := by decide +kernel
theorem dL_law_1003 : decode cL_law 1003 = .ok (.istore 16, 2) := by decide +kernel
theorem dL_law_1005 : decode cL_law 1005 = .ok (.aload_n 1, 1) := by decide +kernel
theorem dL_law_1006 : decode cL_law 1006 = .ok (.iconst 1, 1) := by decide +kernel
theorem dL_law_1007 : decode cL_law 1007 = .ok (.invokevirtual 30, 3) := by decide +kernel
theorem dL_law_1010 : decode cL_law 1010 = .ok (.iload 12, 2) := by decide +kernel
theorem dL_law_1012 : decode cL_law 1012 = .ok (.iconst 1, 1) := by decide +kernel
theorem dL_law_1013 : decode cL_law 1013 = .ok (.iadd, 1) := by decide +kernel
theorem dL_law_1014 : decode cL_law 1014 = .ok (.iconst 5, 1) := by decide +kernel
theorem dL_law_1015 : decode cL_law 1015 = .ok (.irem, 1) := by decide +kernel
theorem dL_law_1016 : decode cL_law 1016 = .ok (.if_icmp .ne 25, 3) := by decide +kernel
theorem dL_law_1019 : decode cL_law 1019 = .ok (.aload_n 1, 1) := by decide +kernel
theorem dL_law_1020 : decode cL_law 1020 = .ok (.iconst 0, 1) := by decide +kernel
theorem dL_law_1021 : decode cL_law 1021 = .ok (.invokevirtual 30, 3) := by decide +kernel
theorem dL_law_1024 : decode cL_law 1024 = .ok (.iload 13, 2) := by decide +kernel
theorem dL_law_1026 : decode cL_law 1026 = .ok (.iload 12, 2) := by decide +kernel
theorem dL_law_1028 : decode cL_law 1028 = .ok (.iconst 4, 1) := by decide +kernel
theorem dL_law_1029 : decode cL_law 1029 = .ok (.if_icmp .ne 7, 3) := by decide +kernel
theorem dL_law_1032 : decode cL_law 1032 = .ok (.iconst 1, 1) := by decide +kernel
theorem dL_law_1033 : decode cL_law 1033 = .ok (.goto 4, 3) := by decide +kernel
theorem dL_law_1036 : decode cL_law 1036 = .ok (.iconst 0, 1) := by decide +kernel
theorem dL_law_1037 : decode cL_law 1037 = .ok (.iadd, 1) := by decide +kernel
theorem dL_law_1038 : decode cL_law 1038 = .ok (.if_icmp .eq 5, 3) := by decide +kernel
theorem dL_law_1041 : decode cL_law 1041 = .ok (.iconst 0, 1) := by decide +kernel
theorem dL_law_1042 : decode cL_law 1042 = .ok (.ireturn, 1) := by decide +kernel
theorem dL_law_1043 : decode cL_law 1043 = .ok (.iload 12, 2) := by decide +kernel
theorem dL_law_1045 : decode cL_law 1045 = .ok (.ifCond .ne 15, 3) := by decide +kernel
theorem dL_law_1048 : decode cL_law 1048 = .ok (.iload 16, 2) := by decide +kernel
theorem dL_law_1050 : decode cL_law 1050 = .ok (.iconst 3, 1) := by decide +kernel
theorem dL_law_1051 : decode cL_law 1051 = .ok (.iload 14, 2) := by decide +kernel
theorem dL_law_1053 : decode cL_law 1053 = .ok (.imul, 1) := by decide +kernel
theorem dL_law_1054 : decode cL_law 1054 = .ok (.if_icmp .le 81, 3) := by decide +kernel
theorem dL_law_1057 : decode cL_law 1057 = .ok (.goto 76, 3) := by decide +kernel
theorem dL_law_1060 : decode cL_law 1060 = .ok (.iload 12, 2) := by decide +kernel
theorem dL_law_1062 : decode cL_law 1062 = .ok (.iconst 1, 1) := by decide +kernel
theorem dL_law_1063 : decode cL_law 1063 = .ok (.if_icmp .ne 20, 3) := by decide +kernel
theorem dL_law_1066 : decode cL_law 1066 = .ok (.iload 16, 2) := by decide +kernel
theorem dL_law_1068 : decode cL_law 1068 = .ok (.aload_n 1, 1) := by decide +kernel
theorem dL_law_1069 : decode cL_law 1069 = .ok (.bipush 7, 2) := by decide +kernel
theorem dL_law_1071 : decode cL_law 1071 = .ok (.invokevirtual 30, 3) := by decide +kernel
theorem dL_law_1074 : decode cL_law 1074 = .ok (.invokestatic 47, 3) := by decide +kernel
theorem dL_law_1077 : decode cL_law 1077 = .ok (.if_icmp .eq 58, 3) := by decide +kernel
theorem dL_law_1080 : decode cL_law 1080 = .ok (.goto 53, 3) := by decide +kernel
theorem dL_law_1083 : decode cL_law 1083 = .ok (.iload 12, 2) := by decide +kernel
theorem dL_law_1085 : decode cL_law 1085 = .ok (.iconst 2, 1) := by decide +kernel
theorem dL_law_1086 : decode cL_law 1086 = .ok (.if_icmp .ne 20, 3) := by decide +kernel
theorem dL_law_1089 : decode cL_law 1089 = .ok (.iload 16, 2) := by decide +kernel
theorem dL_law_1091 : decode cL_law 1091 = .ok (.aload_n 1, 1) := by decide +kernel
theorem dL_law_1092 : decode cL_law 1092 = .ok (.bipush 8, 2) := by decide +kernel
theorem dL_law_1094 : decode cL_law 1094 = .ok (.invokevirtual 30, 3) := by decide +kernel
theorem dL_law_1097 : decode cL_law 1097 = .ok (.invokestatic 47, 3) := by decide +kernel
theorem dL_law_1100 : decode cL_law 1100 = .ok (.if_icmp .eq 35, 3) := by decide +kernel
theorem dL_law_1103 : decode cL_law 1103 = .ok (.goto 30, 3) := by decide +kernel
theorem dL_law_1106 : decode cL_law 1106 = .ok (.iload 12, 2) := by decide +kernel
theorem dL_law_1108 : decode cL_law 1108 = .ok (.iconst 3, 1) := by decide +kernel
theorem dL_law_1109 : decode cL_law 1109 = .ok (.if_icmp .ne 26, 3) := by decide +kernel
theorem dL_law_1112 : decode cL_law 1112 = .ok (.iload 16, 2) := by decide +kernel
theorem dL_law_1114 : decode cL_law 1114 = .ok (.aload_n 1, 1) := by decide +kernel
theorem dL_law_1115 : decode cL_law 1115 = .ok (.bipush 9, 2) := by decide +kernel
theorem dL_law_1117 : decode cL_law 1117 = .ok (.invokevirtual 30, 3) := by decide +kernel
theorem dL_law_1120 : decode cL_law 1120 = .ok (.if_icmp .ne 13, 3) := by decide +kernel
theorem dL_law_1123 : decode cL_law 1123 = .ok (.iload 16, 2) := by decide +kernel
theorem dL_law_1125 : decode cL_law 1125 = .ok (.aload_n 1, 1) := by decide +kernel
theorem dL_law_1126 : decode cL_law 1126 = .ok (.iconst 0, 1) := by decide +kernel
theorem dL_law_1127 : decode cL_law 1127 = .ok (.invokevirtual 89, 3) := by decide +kernel
theorem dL_law_1130 : decode cL_law 1130 = .ok (.if_icmp .eq 5, 3) := by decide +kernel
theorem dL_law_1133 : decode cL_law 1133 = .ok (.iconst 0, 1) := by decide +kernel
theorem dL_law_1134 : decode cL_law 1134 = .ok (.ireturn, 1) := by decide +kernel
theorem dL_law_1135 : decode cL_law 1135 = .ok (.iload 12, 2) := by decide +kernel
theorem dL_law_1137 : decode cL_law 1137 = .ok (.iconst 4, 1) := by decide +kernel
theorem dL_law_1138 : decode cL_law 1138 = .ok (.if_icmp .ne 465, 3) := by decide +kernel
theorem dL_law_1141 : decode cL_law 1141 = .ok (.iconst 0, 1) := by decide +kernel
theorem dL_law_1142 : decode cL_law 1142 = .ok (.istore 6, 2) := by decide +kernel
theorem dL_law_1144 : decode cL_law 1144 = .ok (.goto 459, 3) := by decide +kernel
theorem dL_law_1147 : decode cL_law 1147 = .ok (.iload 10, 2) := by decide +kernel
theorem dL_law_1149 : decode cL_law 1149 = .ok (.ifCond .lt 454, 3) := by decide +kernel
theorem dL_law_1152 : decode cL_law 1152 = .ok (.iload 12, 2) := by decide +kernel
theorem dL_law_1154 : decode cL_law 1154 = .ok (.iconst 2, 1) := by decide +kernel
theorem dL_law_1155 : decode cL_law 1155 = .ok (.if_icmp .ne 448, 3) := by decide +kernel
theorem dL_law_1158 : decode cL_law 1158 = .ok (.aload_n 1, 1) := by decide +kernel
theorem dL_law_1159 : decode cL_law 1159 = .ok (.iload 10, 2) := by decide +kernel
theorem dL_law_1161 : decode cL_law 1161 = .ok (.bipush 7, 2) := by decide +kernel
theorem dL_law_1163 : decode cL_law 1163 = .ok (.invokevirtual 56, 3) := by decide +kernel
theorem dL_law_1166 : decode cL_law 1166 = .ok (.iconst 1, 1) := by decide +kernel
theorem dL_law_1167 : decode cL_law 1167 = .ok (.if_icmp .ne 436, 3) := by decide +kernel
theorem dL_law_1170 : decode cL_law 1170 = .ok (.aload_n 1, 1) := by decide +kernel
theorem dL_law_1171 : decode cL_law 1171 = .ok (.iload 11, 2) := by decide +kernel
theorem dL_law_1173 : decode cL_law 1173 = .ok (.iconst 1, 1) := by decide +kernel
theorem dL_law_1174 : decode cL_law 1174 = .ok (.invokevirtual 44, 3) := by decide +kernel
theorem dL_law_1177 : decode cL_law 1177 = .ok (.aload_n 1, 1) := by decide +kernel
theorem dL_law_1178 : decode cL_law 1178 = .ok (.iload 10, 2) := by decide +kernel
theorem dL_law_1180 : decode cL_law 1180 = .ok (.iconst 1, 1) := by decide +kernel
theorem dL_law_1181 : decode cL_law 1181 = .ok (.invokevirtual 56, 3) := by decide +kernel
theorem dL_law_1184 : decode cL_law 1184 = .ok (.ishr, 1) := by decide +kernel
theorem dL_law_1185 : decode cL_law 1185 = .ok (.iconst 1, 1) := by decide +kernel
theorem dL_law_1186 : decode cL_law 1186 = .ok (.iand, 1) := by decide +kernel
theorem dL_law_1187 : decode cL_law 1187 = .ok (.iconst 1, 1) := by decide +kernel
theorem dL_law_1188 : decode cL_law 1188 = .ok (.if_icmp .ne 6, 3) := by decide +kernel
theorem dL_law_1191 : decode cL_law 1191 = .ok (.goto 412, 3) := by decide +kernel
theorem dL_law_1194 : decode cL_law 1194 = .ok (.iload 8, 2) := by decide +kernel
theorem dL_law_1196 : decode cL_law 1196 = .ok (.iconst 3, 1) := by decide +kernel
theorem dL_law_1197 : decode cL_law 1197 = .ok (.ishr, 1) := by decide +kernel
theorem dL_law_1198 : decode cL_law 1198 = .ok (.iconst 1, 1) := by decide +kernel
theorem dL_law_1199 : decode cL_law 1199 = .ok (.aload_n 1, 1) := by decide +kernel
theorem dL_law_1200 : decode cL_law 1200 = .ok (.iload 11, 2) := by decide +kernel
theorem dL_law_1202 : decode cL_law 1202 = .ok (.bipush 7, 2) := by decide +kernel
theorem dL_law_1204 : decode cL_law 1204 = .ok (.invokevirtual 44, 3) := by decide +kernel
theorem dL_law_1207 : decode cL_law 1207 = .ok (.iadd, 1) := by decide +kernel
theorem dL_law_1208 : decode cL_law 1208 = .ok (.invokestatic 18, 3) := by decide +kernel
theorem dL_law_1211 : decode cL_law 1211 = .ok (.istore 16, 2) := by decide +kernel
theorem dL_law_1213 : decode cL_law 1213 = .ok (.aload_n 1, 1) := by decide +kernel
theorem dL_law_1214 : decode cL_law 1214 = .ok (.iload 11, 2) := by decide +kernel
theorem dL_law_1216 : decode cL_law 1216 = .ok (.iload 10, 2) := by decide +kernel
theorem dL_law_1218 : decode cL_law 1218 = .ok (.iload 16, 2) := by decide +kernel
theorem dL_law_1220 : decode cL_law 1220 = .ok (.invokevirtual 92, 3) := by decide +kernel
theorem dL_law_1223 : decode cL_law 1223 = .ok (.aload_n 1, 1) := by decide +kernel
theorem dL_law_1224 : decode cL_law 1224 = .ok (.iload 11, 2) := by decide +kernel
theorem dL_law_1226 : decode cL_law 1226 = .ok (.bipush 7, 2) := by decide +kernel
theorem dL_law_1228 : decode cL_law 1228 = .ok (.invokevirtual 44, 3) := by decide +kernel
theorem dL_law_1231 : decode cL_law 1231 = .ok (.if_icmp .ne 16, 3) := by decide +kernel
theorem dL_law_1234 : decode cL_law 1234 = .ok (.aload_n 1, 1) := by decide +kernel
theorem dL_law_1235 : decode cL_law 1235 = .ok (.iload 10, 2) := by decide +kernel
theorem dL_law_1237 : decode cL_law 1237 = .ok (.bipush 10, 2) := by decide +kernel
theorem dL_law_1239 : decode cL_law 1239 = .ok (.invokevirtual 56, 3) := by decide +kernel
theorem dL_law_1242 : decode cL_law 1242 = .ok (.iload 16, 2) := by decide +kernel
theorem dL_law_1244 : decode cL_law 1244 = .ok (.if_icmp .ge 359, 3) := by decide +kernel
theorem dL_law_1247 : decode cL_law 1247 = .ok (.iconst 0, 1) := by decide +kernel
theorem dL_law_1248 : decode cL_law 1248 = .ok (.ireturn, 1) := by decide +kernel
theorem dL_law_1249 : decode cL_law 1249 = .ok (.aload_n 1, 1) := by decide +kernel
theorem dL_law_1250 : decode cL_law 1250 = .ok (.bipush 8, 2) := by decide +kernel
theorem dL_law_1252 : decode cL_law 1252 = .ok (.invokevirtual 30, 3) := by decide +kernel
theorem dL_law_1255 : decode cL_law 1255 = .ok (.invokestatic 47, 3) := by decide +kernel
theorem dL_law_1258 : decode cL_law 1258 = .ok (.istore 16, 2) := by decide +kernel
theorem dL_law_1260 : decode cL_law 1260 = .ok (.iload 12, 2) := by decide +kernel
theorem dL_law_1262 : decode cL_law 1262 = .ok (.iconst 3, 1) := by decide +kernel
theorem dL_law_1263 : decode cL_law 1263 = .ok (.if_icmp .ne 340, 3) := by decide +kernel
theorem dL_law_1266 : decode cL_law 1266 = .ok (.iload 16, 2) := by decide +kernel
theorem dL_law_1268 : decode cL_law 1268 = .ok (.ifCond .ne 6, 3) := by decide +kernel
theorem dL_law_1271 : decode cL_law 1271 = .ok (.goto 332, 3) := by decide +kernel
theorem dL_law_1274 : decode cL_law 1274 = .ok (.iconst 0, 1) := by decide +kernel
theorem dL_law_1275 : decode cL_law 1275 = .ok (.istore 17, 2) := by decide +kernel
theorem dL_law_1277 : decode cL_law 1277 = .ok (.iload 8, 2) := by decide +kernel
theorem dL_law_1279 : decode cL_law 1279 = .ok (.iconst 3, 1) := by decide +kernel
theorem dL_law_1280 : decode cL_law 1280 = .ok (.ishr, 1) := by decide +kernel
theorem dL_law_1281 : decode cL_law 1281 = .ok (.iload 16, 2) := by decide +kernel
theorem dL_law_1283 : decode cL_law 1283 = .ok (.invokestatic 18, 3) := by decide +kernel
theorem dL_law_1286 : decode cL_law 1286 = .ok (.istore 18, 2) := by decide +kernel
theorem dL_law_1288 : decode cL_law 1288 = .ok (.iconst 0, 1) := by decide +kernel
theorem dL_law_1289 : decode cL_law 1289 = .ok (.istore 19, 2) := by decide +kernel
theorem dL_law_1291 : decode cL_law 1291 = .ok (.iload 19, 2) := by decide +kernel
theorem dL_law_1293 : decode cL_law 1293 = .ok (.iload 16, 2) := by decide +kernel
theorem dL_law_1295 : decode cL_law 1295 = .ok (.if_icmp .ge 27, 3) := by decide +kernel
theorem dL_law_1298 : decode cL_law 1298 = .ok (.bipush 10, 2) := by decide +kernel
theorem dL_law_1300 : decode cL_law 1300 = .ok (.iload 17, 2) := by decide +kernel
theorem dL_law_1302 : decode cL_law 1302 = .ok (.imul, 1) := by decide +kernel
theorem dL_law_1303 : decode cL_law 1303 = .ok (.iconst 1, 1) := by decide +kernel
theorem dL_law_1304 : decode cL_law 1304 = .ok (.iadd, 1) := by decide +kernel
theorem dL_law_1305 : decode cL_law 1305 = .ok (.iload 18, 2) := by decide +kernel
theorem dL_law_1307 : decode cL_law 1307 = .ok (.iload 19, 2) := by decide +kernel
theorem dL_law_1309 : decode cL_law 1309 = .ok (.iadd, 1) := by decide +kernel
theorem dL_law_1310 : decode cL_law 1310 = .ok (.iload 16, 2) := by decide +kernel
theorem dL_law_1312 : decode cL_law 1312 = .ok (.irem, 1) := by decide +kernel
theorem dL_law_1313 : decode cL_law 1313 = .ok (.iadd, 1) := by decide +kernel
theorem dL_law_1314 : decode cL_law 1314 = .ok (.istore 17, 2) := by decide +kernel
theorem dL_law_1316 : decode cL_law 1316 = .ok (.iinc 19 1, 3) := by decide +kernel
theorem dL_law_1319 : decode cL_law 1319 = .ok (.goto (-28), 3) := by decide +kernel
theorem dL_law_1322 : decode cL_law 1322 = .ok (.aload_n 1, 1) := by decide +kernel
theorem dL_law_1323 : decode cL_law 1323 = .ok (.iload 11, 2) := by decide +kernel
theorem dL_law_1325 : decode cL_law 1325 = .ok (.iload 17, 2) := by decide +kernel
theorem dL_law_1327 : decode cL_law 1327 = .ok (.invokevirtual 95, 3) := by decide +kernel
theorem dL_law_1330 : decode cL_law 1330 = .ok (.iconst 1, 1) := by decide +kernel
theorem dL_law_1331 : decode cL_law 1331 = .ok (.if_icmp .lt 15, 3) := by decide +kernel
theorem dL_law_1334 : decode cL_law 1334 = .ok (.aload_n 1, 1) := by decide +kernel
theorem dL_law_1335 : decode cL_law 1335 = .ok (.iload 11, 2) := by decide +kernel
theorem dL_law_1337 : decode cL_law 1337 = .ok (.bipush 6, 2) := by decide +kernel
theorem dL_law_1339 : decode cL_law 1339 = .ok (.invokevirtual 44, 3) := by decide +kernel
theorem dL_law_1342 : decode cL_law 1342 = .ok (.iconst 1, 1) := by decide +kernel
theorem dL_law_1343 : decode cL_law 1343 = .ok (.if_icmp .eq 260, 3) := by decide +kernel
theorem dL_law_1346 : decode cL_law 1346 = .ok (.iconst 0, 1) := by decide +kernel
theorem dL_law_1347 : decode cL_law 1347 = .ok (.ireturn, 1) := by decide +kernel
theorem dL_law_1348 : decode cL_law 1348 = .ok (.aload_n 1, 1) := by decide +kernel
theorem dL_law_1349 : decode cL_law 1349 = .ok (.bipush 9, 2) := by decide +kernel
theorem dL_law_1351 : decode cL_law 1351 = .ok (.invokevirtual 30, 3) := by decide +kernel
theorem dL_law_1354 : decode cL_law 1354 = .ok (.istore 16, 2) := by decide +kernel
theorem dL_law_1356 : decode cL_law 1356 = .ok (.aload_n 1, 1) := by decide +kernel
theorem dL_law_1357 : decode cL_law 1357 = .ok (.bipush 11, 2) := by decide +kernel
theorem dL_law_1359 : decode cL_law 1359 = .ok (.invokevirtual 30, 3) := by decide +kernel
theorem dL_law_1362 : decode cL_law 1362 = .ok (.istore 17, 2) := by decide +kernel
theorem dL_law_1364 : decode cL_law 1364 = .ok (.iload 12, 2) := by decide +kernel
theorem dL_law_1366 : decode cL_law 1366 = .ok (.iconst 4, 1) := by decide +kernel
theorem dL_law_1367 : decode cL_law 1367 = .ok (.if_icmp .ne 236, 3) := by decide +kernel
theorem dL_law_1370 : decode cL_law 1370 = .ok (.iload 16, 2) := by decide +kernel
theorem dL_law_1372 : decode cL_law 1372 = .ok (.ifCond .ge 6, 3) := by decide +kernel
theorem dL_law_1375 : decode cL_law 1375 = .ok (.goto 228, 3) := by decide +kernel
theorem dL_law_1378 : decode cL_law 1378 = .ok (.aload_n 1, 1) := by decide +kernel
theorem dL_law_1379 : decode cL_law 1379 = .ok (.iload 16, 2) := by decide +kernel
theorem dL_law_1381 : decode cL_law 1381 = .ok (.invokevirtual 98, 3) := by decide +kernel
theorem dL_law_1384 : decode cL_law 1384 = .ok (.aload_n 1, 1) := by decide +kernel
theorem dL_law_1385 : decode cL_law 1385 = .ok (.invokevirtual 101, 3) := by decide +kernel
theorem dL_law_1388 : decode cL_law 1388 = .ok (.if_icmp .ne 27, 3) := by decide +kernel
theorem dL_law_1391 : decode cL_law 1391 = .ok (.aload_n 1, 1) := by decide +kernel
theorem dL_law_1392 : decode cL_law 1392 = .ok (.bipush 9, 2) := by decide +kernel
theorem dL_law_1394 : decode cL_law 1394 = .ok (.invokevirtual 30, 3) := by decide +kernel
theorem dL_law_1397 : decode cL_law 1397 = .ok (.iload 16, 2) := by decide +kernel
theorem dL_law_1399 : decode cL_law 1399 = .ok (.if_icmp .eq 16, 3) := by decide +kernel
theorem dL_law_1402 : decode cL_law 1402 = .ok (.aload_n 1, 1) := by decide +kernel
theorem dL_law_1403 : decode cL_law 1403 = .ok (.bipush 11, 2) := by decide +kernel
theorem dL_law_1405 : decode cL_law 1405 = .ok (.invokevirtual 30, 3) := by decide +kernel
theorem dL_law_1408 : decode cL_law 1408 = .ok (.iload 17, 2) := by decide +kernel
theorem dL_law_1410 : decode cL_law 1410 = .ok (.iconst 1, 1) := by decide +kernel
theorem dL_law_1411 : decode cL_law 1411 = .ok (.iadd, 1) := by decide +kernel
theorem dL_law_1412 : decode cL_law 1412 = .ok (.if_icmp .eq 191, 3) := by decide +kernel
theorem dL_law_1415 : decode cL_law 1415 = .ok (.iconst 0, 1) := by decide +kernel
theorem dL_law_1416 : decode cL_law 1416 = .ok (.ireturn, 1) := by decide +kernel
theorem dL_law_1417 : decode cL_law 1417 = .ok (.iconst 1, 1) := by decide +kernel
theorem dL_law_1418 : decode cL_law 1418 = .ok (.iload 8, 2) := by decide +kernel
theorem dL_law_1420 : decode cL_law 1420 = .ok (.iconst 3, 1) := by decide +kernel
theorem dL_law_1421 : decode cL_law 1421 = .ok (.ishr, 1) := by decide +kernel
theorem dL_law_1422 : decode cL_law 1422 = .ok (.bipush 6, 2) := by decide +kernel
theorem dL_law_1424 : decode cL_law 1424 = .ok (.invokestatic 18, 3) := by decide +kernel
theorem dL_law_1427 : decode cL_law 1427 = .ok (.iadd, 1) := by decide +kernel
theorem dL_law_1428 : decode cL_law 1428 = .ok (.istore 16, 2) := by decide +kernel
theorem dL_law_1430 : decode cL_law 1430 = .ok (.aload_n 1, 1) := by decide +kernel
theorem dL_law_1431 : decode cL_law 1431 = .ok (.invokevirtual 71, 3) := by decide +kernel
theorem dL_law_1434 : decode cL_law 1434 = .ok (.istore 17, 2) := by decide +kernel
theorem dL_law_1436 : decode cL_law 1436 = .ok (.aload_n 1, 1) := by decide +kernel
theorem dL_law_1437 : decode cL_law 1437 = .ok (.bipush 13, 2) := by decide +kernel
theorem dL_law_1439 : decode cL_law 1439 = .ok (.invokevirtual 30, 3) := by decide +kernel
theorem dL_law_1442 : decode cL_law 1442 = .ok (.istore 18, 2) := by decide +kernel
theorem dL_law_1444 : decode cL_law 1444 = .ok (.aload_n 1, 1) := by decide +kernel
theorem dL_law_1445 : decode cL_law 1445 = .ok (.iload 16, 2) := by decide +kernel
theorem dL_law_1447 : decode cL_law 1447 = .ok (.invokevirtual 104, 3) := by decide +kernel
theorem dL_law_1450 : decode cL_law 1450 = .ok (.istore 19, 2) := by decide +kernel
theorem dL_law_1452 : decode cL_law 1452 = .ok (.iload_n 3, 1) := by decide +kernel
theorem dL_law_1453 : decode cL_law 1453 = .ok (.newarray .int, 2) := by decide +kernel
theorem dL_law_1455 : decode cL_law 1455 = .ok (.astore 20, 2) := by decide +kernel
theorem dL_law_1457 : decode cL_law 1457 = .ok (.iconst 0, 1) := by decide +kernel
theorem dL_law_1458 : decode cL_law 1458 = .ok (.istore 21, 2) := by decide +kernel
theorem dL_law_1460 : decode cL_law 1460 = .ok (.iload 21, 2) := by decide +kernel
theorem dL_law_1462 : decode cL_law 1462 = .ok (.iload_n 3, 1) := by decide +kernel
theorem dL_law_1463 : decode cL_law 1463 = .ok (.if_icmp .ge 21, 3) := by decide +kernel
theorem dL_law_1466 : decode cL_law 1466 = .ok (.aload 20, 2) := by decide +kernel
theorem dL_law_1468 : decode cL_law 1468 = .ok (.iload 21, 2) := by decide +kernel
theorem dL_law_1470 : decode cL_law 1470 = .ok (.aload_n 1, 1) := by decide +kernel
theorem dL_law_1471 : decode cL_law 1471 = .ok (.iload 21, 2) := by decide +kernel
theorem dL_law_1473 : decode cL_law 1473 = .ok (.iconst 5, 1) := by decide +kernel
theorem dL_law_1474 : decode cL_law 1474 = .ok (.invokevirtual 44, 3) := by decide +kernel
theorem dL_law_1477 : decode cL_law 1477 = .ok (.iastore, 1) := by decide +kernel
theorem dL_law_1478 : decode cL_law 1478 = .ok (.iinc 21 1, 3) := by decide +kernel
theorem dL_law_1481 : decode cL_law 1481 = .ok (.goto (-21), 3) := by decide +kernel
theorem dL_law_1484 : decode cL_law 1484 = .ok (.aload_n 1, 1) := by decide +kernel
theorem dL_law_1485 : decode cL_law 1485 = .ok (.iload 16, 2) := by decide +kernel
theorem dL_law_1487 : decode cL_law 1487 = .ok (.invokevirtual 107, 3) := by decide +kernel
theorem dL_law_1490 : decode cL_law 1490 = .ok (.istore 21, 2) := by decide +kernel
theorem dL_law_1492 : decode cL_law 1492 = .ok (.aload_n 1, 1) := by decide +kernel
theorem dL_law_1493 : decode cL_law 1493 = .ok (.bipush 13, 2) := by decide +kernel
theorem dL_law_1495 : decode cL_law 1495 = .ok (.invokevirtual 30, 3) := by decide +kernel
theorem dL_law_1498 : decode cL_law 1498 = .ok (.iload 18, 2) := by decide +kernel
theorem dL_law_1500 : decode cL_law 1500 = .ok (.iload 19, 2) := by decide +kernel
theorem dL_law_1502 : decode cL_law 1502 = .ok (.iadd, 1) := by decide +kernel
theorem dL_law_1503 : decode cL_law 1503 = .ok (.if_icmp .ne 40, 3) := by decide +kernel
theorem dL_law_1506 : decode cL_law 1506 = .ok (.iload 12, 2) := by decide +kernel
theorem dL_law_1508 : decode cL_law 1508 = .ok (.iconst 1, 1) := by decide +kernel
theorem dL_law_1509 : decode cL_law 1509 = .ok (.if_icmp .eq 8, 3) := by decide +kernel
theorem dL_law_1512 : decode cL_law 1512 = .ok (.iload 21, 2) := by decide +kernel
theorem dL_law_1514 : decode cL_law 1514 = .ok (.ifCond .ne 29, 3) := by decide +kernel
theorem dL_law_1517 : decode cL_law 1517 = .ok (.aload_n 1, 1) := by decide +kernel
theorem dL_law_1518 : decode cL_law 1518 = .ok (.invokevirtual 71, 3) := by decide +kernel
theorem dL_law_1521 : decode cL_law 1521 = .ok (.iload 12, 2) := by decide +kernel
theorem dL_law_1523 : decode cL_law 1523 = .ok (.iconst 1, 1) := by decide +kernel
theorem dL_law_1524 : decode cL_law 1524 = .ok (.if_icmp .ne 15, 3) := by decide +kernel
theorem dL_law_1527 : decode cL_law 1527 = .ok (.iconst 0, 1) := by decide +kernel
theorem dL_law_1528 : decode cL_law 1528 = .ok (.iload 17, 2) := by decide +kernel
theorem dL_law_1530 : decode cL_law 1530 = .ok (.iload 16, 2) := by decide +kernel
theorem dL_law_1532 : decode cL_law 1532 = .ok (.isub, 1) := by decide +kernel
theorem dL_law_1533 : decode cL_law 1533 = .ok (.invokestatic 110, 3) := by decide +kernel
theorem dL_law_1536 : decode cL_law 1536 = .ok (.goto 4, 3) := by decide +kernel
theorem dL_law_1539 : decode cL_law 1539 = .ok (.iconst (-1), 1) := by decide +kernel
theorem dL_law_1540 : decode cL_law 1540 = .ok (.if_icmp .eq 5, 3) := by decide +kernel
theorem dL_law_1543 : decode cL_law 1543 = .ok (.iconst 0, 1) := by decide +kernel
theorem dL_law_1544 : decode cL_law 1544 = .ok (.ireturn, 1) := by decide +kernel
theorem dL_law_1545 : decode cL_law 1545 = .ok (.iconst 0, 1) := by decide +kernel
theorem dL_law_1546 : decode cL_law 1546 = .ok (.istore 22, 2) := by decide +kernel
theorem dL_law_1548 : decode cL_law 1548 = .ok (.iload 22, 2) := by decide +kernel
theorem dL_law_1550 : decode cL_law 1550 = .ok (.iload_n 3, 1) := by decide +kernel
theorem dL_law_1551 : decode cL_law 1551 = .ok (.if_icmp .ge 52, 3) := by decide +kernel
theorem dL_law_1554 : decode cL_law 1554 = .ok (.aload_n 1, 1) := by decide +kernel
theorem dL_law_1555 : decode cL_law 1555 = .ok (.iload 22, 2) := by decide +kernel
theorem dL_law_1557 : decode cL_law 1557 = .ok (.iconst 5, 1) := by decide +kernel
theorem dL_law_1558 : decode cL_law 1558 = .ok (.invokevirtual 44, 3) := by decide +kernel
theorem dL_law_1561 : decode cL_law 1561 = .ok (.aload 20, 2) := by decide +kernel
theorem dL_law_1563 : decode cL_law 1563 = .ok (.iload 22, 2) := by decide +kernel
theorem dL_law_1565 : decode cL_law 1565 = .ok (.iaload, 1) := by decide +kernel
theorem dL_law_1566 : decode cL_law 1566 = .ok (.if_icmp .lt 29, 3) := by decide +kernel
theorem dL_law_1569 : decode cL_law 1569 = .ok (.aload_n 1, 1) := by decide +kernel
theorem dL_law_1570 : decode cL_law 1570 = .ok (.iload 22, 2) := by decide +kernel
theorem dL_law_1572 : decode cL_law 1572 = .ok (.iconst 5, 1) := by decide +kernel
theorem dL_law_1573 : decode cL_law 1573 = .ok (.invokevirtual 44, 3) := by decide +kernel
theorem dL_law_1576 : decode cL_law 1576 = .ok (.aload 20, 2) := by decide +kernel
theorem dL_law_1578 : decode cL_law 1578 = .ok (.iload 22, 2) := by decide +kernel
theorem dL_law_1580 : decode cL_law 1580 = .ok (.iaload, 1) := by decide +kernel
theorem dL_law_1581 : decode cL_law 1581 = .ok (.iload 16, 2) := by decide +kernel
theorem dL_law_1583 : decode cL_law 1583 = .ok (.aload_n 1, 1) := by decide +kernel
theorem dL_law_1584 : decode cL_law 1584 = .ok (.iload 22, 2) := by decide +kernel
theorem dL_law_1586 : decode cL_law 1586 = .ok (.iconst 0, 1) := by decide +kernel
theorem dL_law_1587 : decode cL_law 1587 = .ok (.invokevirtual 44, 3) := by decide +kernel
theorem dL_law_1590 : decode cL_law 1590 = .ok (.imul, 1) := by decide +kernel
theorem dL_law_1591 : decode cL_law 1591 = .ok (.iadd, 1) := by decide +kernel
theorem dL_law_1592 : decode cL_law 1592 = .ok (.if_icmp .le 5, 3) := by decide +kernel
theorem dL_law_1595 : decode cL_law 1595 = .ok (.iconst 0, 1) := by decide +kernel
theorem dL_law_1596 : decode cL_law 1596 = .ok (.ireturn, 1) := by decide +kernel
theorem dL_law_1597 : decode cL_law 1597 = .ok (.iinc 22 1, 3) := by decide +kernel
theorem dL_law_1600 : decode cL_law 1600 = .ok (.goto (-52), 3) := by decide +kernel
theorem dL_law_1603 : decode cL_law 1603 = .ok (.iconst 0, 1) := by decide +kernel
theorem dL_law_1604 : decode cL_law 1604 = .ok (.istore 16, 2) := by decide +kernel
theorem dL_law_1606 : decode cL_law 1606 = .ok (.iconst 0, 1) := by decide +kernel
theorem dL_law_1607 : decode cL_law 1607 = .ok (.istore 17, 2) := by decide +kernel
theorem dL_law_1609 : decode cL_law 1609 = .ok (.iconst 0, 1) := by decide +kernel
theorem dL_law_1610 : decode cL_law 1610 = .ok (.istore 18, 2) := by decide +kernel
theorem dL_law_1612 : decode cL_law 1612 = .ok (.iconst 0, 1) := by decide +kernel
theorem dL_law_1613 : decode cL_law 1613 = .ok (.istore 19, 2) := by decide +kernel
theorem dL_law_1615 : decode cL_law 1615 = .ok (.iload 19, 2) := by decide +kernel
theorem dL_law_1617 : decode cL_law 1617 = .ok (.iload_n 2, 1) := by decide +kernel
theorem dL_law_1618 : decode cL_law 1618 = .ok (.if_icmp .ge 33, 3) := by decide +kernel
theorem dL_law_1621 : decode cL_law 1621 = .ok (.iload 16, 2) := by decide +kernel
theorem dL_law_1623 : decode cL_law 1623 = .ok (.aload_n 1, 1) := by decide +kernel
theorem dL_law_1624 : decode cL_law 1624 = .ok (.iload 19, 2) := by decide +kernel
theorem dL_law_1626 : decode cL_law 1626 = .ok (.iconst 0, 1) := by decide +kernel
theorem dL_law_1627 : decode cL_law 1627 = .ok (.invokevirtual 59, 3) := by decide +kernel
theorem dL_law_1630 : decode cL_law 1630 = .ok (.iadd, 1) := by decide +kernel
theorem dL_law_1631 : decode cL_law 1631 = .ok (.istore 16, 2) := by decide +kernel
theorem dL_law_1633 : decode cL_law 1633 = .ok (.iload 18, 2) := by decide +kernel
theorem dL_law_1635 : decode cL_law 1635 = .ok (.aload_n 1, 1) := by decide +kernel
theorem dL_law_1636 : decode cL_law 1636 = .ok (.iload 19, 2) := by decide +kernel
theorem dL_law_1638 : decode cL_law 1638 = .ok (.iconst 2, 1) := by decide +kernel
theorem dL_law_1639 : decode cL_law 1639 = .ok (.invokevirtual 59, 3) := by decide +kernel
theorem dL_law_1642 : decode cL_law 1642 = .ok (.iadd, 1) := by decide +kernel
theorem dL_law_1643 : decode cL_law 1643 = .ok (.istore 18, 2) := by decide +kernel
theorem dL_law_1645 : decode cL_law 1645 = .ok (.iinc 19 1, 3) := by decide +kernel
theorem dL_law_1648 : decode cL_law 1648 = .ok (.goto (-33), 3) := by decide +kernel
theorem dL_law_1651 : decode cL_law 1651 = .ok (.iconst 0, 1) := by decide +kernel
theorem dL_law_1652 : decode cL_law 1652 = .ok (.istore 19, 2) := by decide +kernel
theorem dL_law_1654 : decode cL_law 1654 = .ok (.iload 19, 2) := by decide +kernel
theorem dL_law_1656 : decode cL_law 1656 = .ok (.aload_n 1, 1) := by decide +kernel
theorem dL_law_1657 : decode cL_law 1657 = .ok (.iconst 4, 1) := by decide +kernel
theorem dL_law_1658 : decode cL_law 1658 = .ok (.invokevirtual 30, 3) := by decide +kernel
theorem dL_law_1661 : decode cL_law 1661 = .ok (.if_icmp .ge 21, 3) := by decide +kernel
theorem dL_law_1664 : decode cL_law 1664 = .ok (.iload 17, 2) := by decide +kernel
theorem dL_law_1666 : decode cL_law 1666 = .ok (.aload_n 1, 1) := by decide +kernel
theorem dL_law_1667 : decode cL_law 1667 = .ok (.iload 19, 2) := by decide +kernel
theorem dL_law_1669 : decode cL_law 1669 = .ok (.iconst 2, 1) := by decide +kernel
theorem dL_law_1670 : decode cL_law 1670 = .ok (.invokevirtual 56, 3) := by decide +kernel
theorem dL_law_1673 : decode cL_law 1673 = .ok (.iadd, 1) := by decide +kernel
theorem dL_law_1674 : decode cL_law 1674 = .ok (.istore 17, 2) := by decide +kernel
theorem dL_law_1676 : decode cL_law 1676 = .ok (.iinc 19 1, 3) := by decide +kernel
theorem dL_law_1679 : decode cL_law 1679 = .ok (.goto (-25), 3) := by decide +kernel
