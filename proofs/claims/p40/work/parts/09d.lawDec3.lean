theorem dL_law_879 : decode cL_law 879 = .ok (.iload 14, 2) := by decide +kernel
theorem dL_law_881 : decode cL_law 881 = .ok (.iload 7, 2) := by decide +kernel
theorem dL_law_883 : decode cL_law 883 = .ok (.if_icmp .ge 20, 3) := by decide +kernel
theorem dL_law_886 : decode cL_law 886 = .ok (.iload 13, 2) := by decide +kernel
theorem dL_law_888 : decode cL_law 888 = .ok (.aload_n 1, 1) := by decide +kernel
theorem dL_law_889 : decode cL_law 889 = .ok (.iload 14, 2) := by decide +kernel
theorem dL_law_891 : decode cL_law 891 = .ok (.invokevirtual 158, 3) := by decide +kernel
theorem dL_law_894 : decode cL_law 894 = .ok (.iadd, 1) := by decide +kernel
theorem dL_law_895 : decode cL_law 895 = .ok (.istore 13, 2) := by decide +kernel
theorem dL_law_897 : decode cL_law 897 = .ok (.iinc 14 1, 3) := by decide +kernel
theorem dL_law_900 : decode cL_law 900 = .ok (.goto (-21), 3) := by decide +kernel
theorem dL_law_903 : decode cL_law 903 = .ok (.aload_n 1, 1) := by decide +kernel
theorem dL_law_904 : decode cL_law 904 = .ok (.invokevirtual 161, 3) := by decide +kernel
theorem dL_law_907 : decode cL_law 907 = .ok (.istore 14, 2) := by decide +kernel
theorem dL_law_909 : decode cL_law 909 = .ok (.iconst 0, 1) := by decide +kernel
theorem dL_law_910 : decode cL_law 910 = .ok (.istore 15, 2) := by decide +kernel
theorem dL_law_912 : decode cL_law 912 = .ok (.iconst 0, 1) := by decide +kernel
theorem dL_law_913 : decode cL_law 913 = .ok (.istore 16, 2) := by decide +kernel
theorem dL_law_915 : decode cL_law 915 = .ok (.iload 16, 2) := by decide +kernel
theorem dL_law_917 : decode cL_law 917 = .ok (.iload 7, 2) := by decide +kernel
theorem dL_law_919 : decode cL_law 919 = .ok (.if_icmp .ge 28, 3) := by decide +kernel
theorem dL_law_922 : decode cL_law 922 = .ok (.iload 15, 2) := by decide +kernel
theorem dL_law_924 : decode cL_law 924 = .ok (.aload_n 1, 1) := by decide +kernel
theorem dL_law_925 : decode cL_law 925 = .ok (.iload 16, 2) := by decide +kernel
theorem dL_law_927 : decode cL_law 927 = .ok (.invokevirtual 109, 3) := by decide +kernel
theorem dL_law_930 : decode cL_law 930 = .ok (.ifCond .le 7, 3) := by decide +kernel
theorem dL_law_933 : decode cL_law 933 = .ok (.iconst 1, 1) := by decide +kernel
theorem dL_law_934 : decode cL_law 934 = .ok (.goto 4, 3) := by decide +kernel
theorem dL_law_937 : decode cL_law 937 = .ok (.iconst 0, 1) := by decide +kernel
theorem dL_law_938 : decode cL_law 938 = .ok (.ior, 1) := by decide +kernel
theorem dL_law_939 : decode cL_law 939 = .ok (.istore 15, 2) := by decide +kernel
theorem dL_law_941 : decode cL_law 941 = .ok (.iinc 16 1, 3) := by decide +kernel
theorem dL_law_944 : decode cL_law 944 = .ok (.goto (-29), 3) := by decide +kernel
theorem dL_law_947 : decode cL_law 947 = .ok (.iload 12, 2) := by decide +kernel
theorem dL_law_949 : decode cL_law 949 = .ok (.aload_n 1, 1) := by decide +kernel
theorem dL_law_950 : decode cL_law 950 = .ok (.invokevirtual 164, 3) := by decide +kernel
theorem dL_law_953 : decode cL_law 953 = .ok (.if_icmp .ne 50, 3) := by decide +kernel
theorem dL_law_956 : decode cL_law 956 = .ok (.iload 13, 2) := by decide +kernel
theorem dL_law_958 : decode cL_law 958 = .ok (.iload 12, 2) := by decide +kernel
theorem dL_law_960 : decode cL_law 960 = .ok (.if_icmp .ne 43, 3) := by decide +kernel
theorem dL_law_963 : decode cL_law 963 = .ok (.iload 14, 2) := by decide +kernel
theorem dL_law_965 : decode cL_law 965 = .ok (.ifCond .lt 7, 3) := by decide +kernel
theorem dL_law_968 : decode cL_law 968 = .ok (.iconst 1, 1) := by decide +kernel
theorem dL_law_969 : decode cL_law 969 = .ok (.goto 4, 3) := by decide +kernel
theorem dL_law_972 : decode cL_law 972 = .ok (.iconst 0, 1) := by decide +kernel
theorem dL_law_973 : decode cL_law 973 = .ok (.iload 15, 2) := by decide +kernel
theorem dL_law_975 : decode cL_law 975 = .ok (.if_icmp .ne 28, 3) := by decide +kernel
theorem dL_law_978 : decode cL_law 978 = .ok (.iload 14, 2) := by decide +kernel
theorem dL_law_980 : decode cL_law 980 = .ok (.ifCond .lt 13, 3) := by decide +kernel
theorem dL_law_983 : decode cL_law 983 = .ok (.aload_n 1, 1) := by decide +kernel
theorem dL_law_984 : decode cL_law 984 = .ok (.iload 14, 2) := by decide +kernel
theorem dL_law_986 : decode cL_law 986 = .ok (.invokevirtual 109, 3) := by decide +kernel
theorem dL_law_989 : decode cL_law 989 = .ok (.iconst 1, 1) := by decide +kernel
theorem dL_law_990 : decode cL_law 990 = .ok (.if_icmp .lt 13, 3) := by decide +kernel
theorem dL_law_993 : decode cL_law 993 = .ok (.aload_n 1, 1) := by decide +kernel
theorem dL_law_994 : decode cL_law 994 = .ok (.invokevirtual 89, 3) := by decide +kernel
theorem dL_law_997 : decode cL_law 997 = .ok (.lload 5, 2) := by decide +kernel
theorem dL_law_999 : decode cL_law 999 = .ok (.lcmp, 1) := by decide +kernel
theorem dL_law_1000 : decode cL_law 1000 = .ok (.ifCond .eq 5, 3) := by decide +kernel
theorem dL_law_1003 : decode cL_law 1003 = .ok (.iconst 0, 1) := by decide +kernel
theorem dL_law_1004 : decode cL_law 1004 = .ok (.ireturn, 1) := by decide +kernel
theorem dL_law_1005 : decode cL_law 1005 = .ok (.aload_n 1, 1) := by decide +kernel
theorem dL_law_1006 : decode cL_law 1006 = .ok (.invokestatic 166, 3) := by decide +kernel
theorem dL_law_1009 : decode cL_law 1009 = .ok (.astore 16, 2) := by decide +kernel
theorem dL_law_1011 : decode cL_law 1011 = .ok (.iload 4, 2) := by decide +kernel
theorem dL_law_1013 : decode cL_law 1013 = .ok (.iconst 4, 1) := by decide +kernel
theorem dL_law_1014 : decode cL_law 1014 = .ok (.ishr, 1) := by decide +kernel
theorem dL_law_1015 : decode cL_law 1015 = .ok (.iload 7, 2) := by decide +kernel
theorem dL_law_1017 : decode cL_law 1017 = .ok (.invokestatic 15, 3) := by decide +kernel
theorem dL_law_1020 : decode cL_law 1020 = .ok (.istore 17, 2) := by decide +kernel
theorem dL_law_1022 : decode cL_law 1022 = .ok (.aload_n 1, 1) := by decide +kernel
theorem dL_law_1023 : decode cL_law 1023 = .ok (.iload 17, 2) := by decide +kernel
theorem dL_law_1025 : decode cL_law 1025 = .ok (.invokevirtual 169, 3) := by decide +kernel
theorem dL_law_1028 : decode cL_law 1028 = .ok (.istore 18, 2) := by decide +kernel
theorem dL_law_1030 : decode cL_law 1030 = .ok (.aload_n 1, 1) := by decide +kernel
theorem dL_law_1031 : decode cL_law 1031 = .ok (.iload 17, 2) := by decide +kernel
theorem dL_law_1033 : decode cL_law 1033 = .ok (.invokevirtual 42, 3) := by decide +kernel
theorem dL_law_1036 : decode cL_law 1036 = .ok (.istore 19, 2) := by decide +kernel
theorem dL_law_1038 : decode cL_law 1038 = .ok (.aload_n 1, 1) := by decide +kernel
theorem dL_law_1039 : decode cL_law 1039 = .ok (.invokestatic 166, 3) := by decide +kernel
theorem dL_law_1042 : decode cL_law 1042 = .ok (.aload 16, 2) := by decide +kernel
theorem dL_law_1044 : decode cL_law 1044 = .ok (.invokestatic 172, 3) := by decide +kernel
theorem dL_law_1047 : decode cL_law 1047 = .ok (.iload 18, 2) := by decide +kernel
theorem dL_law_1049 : decode cL_law 1049 = .ok (.if_icmp .ne 49, 3) := by decide +kernel
theorem dL_law_1052 : decode cL_law 1052 = .ok (.iload 19, 2) := by decide +kernel
theorem dL_law_1054 : decode cL_law 1054 = .ok (.ifCond .eq 12, 3) := by decide +kernel
theorem dL_law_1057 : decode cL_law 1057 = .ok (.aload_n 1, 1) := by decide +kernel
theorem dL_law_1058 : decode cL_law 1058 = .ok (.iload 17, 2) := by decide +kernel
theorem dL_law_1060 : decode cL_law 1060 = .ok (.invokevirtual 112, 3) := by decide +kernel
theorem dL_law_1063 : decode cL_law 1063 = .ok (.ifCond .ge 35, 3) := by decide +kernel
theorem dL_law_1066 : decode cL_law 1066 = .ok (.aload_n 1, 1) := by decide +kernel
theorem dL_law_1067 : decode cL_law 1067 = .ok (.iload 17, 2) := by decide +kernel
theorem dL_law_1069 : decode cL_law 1069 = .ok (.invokevirtual 169, 3) := by decide +kernel
theorem dL_law_1072 : decode cL_law 1072 = .ok (.iload 18, 2) := by decide +kernel
theorem dL_law_1074 : decode cL_law 1074 = .ok (.if_icmp .ne 24, 3) := by decide +kernel
theorem dL_law_1077 : decode cL_law 1077 = .ok (.aload_n 1, 1) := by decide +kernel
theorem dL_law_1078 : decode cL_law 1078 = .ok (.iload 17, 2) := by decide +kernel
theorem dL_law_1080 : decode cL_law 1080 = .ok (.invokevirtual 42, 3) := by decide +kernel
theorem dL_law_1083 : decode cL_law 1083 = .ok (.iload 19, 2) := by decide +kernel
theorem dL_law_1085 : decode cL_law 1085 = .ok (.if_icmp .eq 13, 3) := by decide +kernel
theorem dL_law_1088 : decode cL_law 1088 = .ok (.aload_n 1, 1) := by decide +kernel
theorem dL_law_1089 : decode cL_law 1089 = .ok (.invokevirtual 89, 3) := by decide +kernel
theorem dL_law_1092 : decode cL_law 1092 = .ok (.lload 5, 2) := by decide +kernel
theorem dL_law_1094 : decode cL_law 1094 = .ok (.lcmp, 1) := by decide +kernel
theorem dL_law_1095 : decode cL_law 1095 = .ok (.ifCond .eq 5, 3) := by decide +kernel
theorem dL_law_1098 : decode cL_law 1098 = .ok (.iconst 0, 1) := by decide +kernel
theorem dL_law_1099 : decode cL_law 1099 = .ok (.ireturn, 1) := by decide +kernel
theorem dL_law_1100 : decode cL_law 1100 = .ok (.aload_n 1, 1) := by decide +kernel
theorem dL_law_1101 : decode cL_law 1101 = .ok (.invokevirtual 176, 3) := by decide +kernel
theorem dL_law_1104 : decode cL_law 1104 = .ok (.istore 20, 2) := by decide +kernel
theorem dL_law_1106 : decode cL_law 1106 = .ok (.aload_n 1, 1) := by decide +kernel
theorem dL_law_1107 : decode cL_law 1107 = .ok (.iconst 1, 1) := by decide +kernel
theorem dL_law_1108 : decode cL_law 1108 = .ok (.invokevirtual 50, 3) := by decide +kernel
theorem dL_law_1111 : decode cL_law 1111 = .ok (.istore 21, 2) := by decide +kernel
theorem dL_law_1113 : decode cL_law 1113 = .ok (.iload 21, 2) := by decide +kernel
theorem dL_law_1115 : decode cL_law 1115 = .ok (.iconst 1, 1) := by decide +kernel
theorem dL_law_1116 : decode cL_law 1116 = .ok (.if_icmp .ne 9, 3) := by decide +kernel
theorem dL_law_1119 : decode cL_law 1119 = .ok (.aload_n 1, 1) := by decide +kernel
theorem dL_law_1120 : decode cL_law 1120 = .ok (.iconst 0, 1) := by decide +kernel
theorem dL_law_1121 : decode cL_law 1121 = .ok (.invokevirtual 50, 3) := by decide +kernel
theorem dL_law_1124 : decode cL_law 1124 = .ok (.pop, 1) := by decide +kernel
theorem dL_law_1125 : decode cL_law 1125 = .ok (.aload_n 1, 1) := by decide +kernel
theorem dL_law_1126 : decode cL_law 1126 = .ok (.invokestatic 166, 3) := by decide +kernel
theorem dL_law_1129 : decode cL_law 1129 = .ok (.aload 16, 2) := by decide +kernel
theorem dL_law_1131 : decode cL_law 1131 = .ok (.invokestatic 172, 3) := by decide +kernel
theorem dL_law_1134 : decode cL_law 1134 = .ok (.iload 20, 2) := by decide +kernel
theorem dL_law_1136 : decode cL_law 1136 = .ok (.if_icmp .ne 35, 3) := by decide +kernel
theorem dL_law_1139 : decode cL_law 1139 = .ok (.aload_n 1, 1) := by decide +kernel
theorem dL_law_1140 : decode cL_law 1140 = .ok (.invokevirtual 176, 3) := by decide +kernel
theorem dL_law_1143 : decode cL_law 1143 = .ok (.iload 20, 2) := by decide +kernel
theorem dL_law_1145 : decode cL_law 1145 = .ok (.if_icmp .ne 26, 3) := by decide +kernel
theorem dL_law_1148 : decode cL_law 1148 = .ok (.aload_n 1, 1) := by decide +kernel
theorem dL_law_1149 : decode cL_law 1149 = .ok (.iload 21, 2) := by decide +kernel
theorem dL_law_1151 : decode cL_law 1151 = .ok (.invokevirtual 50, 3) := by decide +kernel
theorem dL_law_1154 : decode cL_law 1154 = .ok (.iconst 1, 1) := by decide +kernel
theorem dL_law_1155 : decode cL_law 1155 = .ok (.iload 21, 2) := by decide +kernel
theorem dL_law_1157 : decode cL_law 1157 = .ok (.isub, 1) := by decide +kernel
theorem dL_law_1158 : decode cL_law 1158 = .ok (.if_icmp .ne 13, 3) := by decide +kernel
theorem dL_law_1161 : decode cL_law 1161 = .ok (.aload_n 1, 1) := by decide +kernel
theorem dL_law_1162 : decode cL_law 1162 = .ok (.invokevirtual 89, 3) := by decide +kernel
theorem dL_law_1165 : decode cL_law 1165 = .ok (.lload 5, 2) := by decide +kernel
theorem dL_law_1167 : decode cL_law 1167 = .ok (.lcmp, 1) := by decide +kernel
theorem dL_law_1168 : decode cL_law 1168 = .ok (.ifCond .eq 5, 3) := by decide +kernel
theorem dL_law_1171 : decode cL_law 1171 = .ok (.iconst 0, 1) := by decide +kernel
theorem dL_law_1172 : decode cL_law 1172 = .ok (.ireturn, 1) := by decide +kernel
theorem dL_law_1173 : decode cL_law 1173 = .ok (.iconst 1, 1) := by decide +kernel
theorem dL_law_1174 : decode cL_law 1174 = .ok (.iload 4, 2) := by decide +kernel
theorem dL_law_1176 : decode cL_law 1176 = .ok (.iconst 5, 1) := by decide +kernel
theorem dL_law_1177 : decode cL_law 1177 = .ok (.ishr, 1) := by decide +kernel
theorem dL_law_1178 : decode cL_law 1178 = .ok (.bipush 12, 2) := by decide +kernel
theorem dL_law_1180 : decode cL_law 1180 = .ok (.invokestatic 15, 3) := by decide +kernel
theorem dL_law_1183 : decode cL_law 1183 = .ok (.iadd, 1) := by decide +kernel
theorem dL_law_1184 : decode cL_law 1184 = .ok (.istore 22, 2) := by decide +kernel
theorem dL_law_1186 : decode cL_law 1186 = .ok (.aload_n 1, 1) := by decide +kernel
theorem dL_law_1187 : decode cL_law 1187 = .ok (.iload 17, 2) := by decide +kernel
theorem dL_law_1189 : decode cL_law 1189 = .ok (.iload 22, 2) := by decide +kernel
theorem dL_law_1191 : decode cL_law 1191 = .ok (.invokevirtual 179, 3) := by decide +kernel
theorem dL_law_1194 : decode cL_law 1194 = .ok (.istore 23, 2) := by decide +kernel
theorem dL_law_1196 : decode cL_law 1196 = .ok (.aload_n 1, 1) := by decide +kernel
theorem dL_law_1197 : decode cL_law 1197 = .ok (.iload 17, 2) := by decide +kernel
theorem dL_law_1199 : decode cL_law 1199 = .ok (.invokevirtual 182, 3) := by decide +kernel
theorem dL_law_1202 : decode cL_law 1202 = .ok (.istore 24, 2) := by decide +kernel
theorem dL_law_1204 : decode cL_law 1204 = .ok (.iconst 1, 1) := by decide +kernel
theorem dL_law_1205 : decode cL_law 1205 = .ok (.istore 25, 2) := by decide +kernel
theorem dL_law_1207 : decode cL_law 1207 = .ok (.iload 25, 2) := by decide +kernel
theorem dL_law_1209 : decode cL_law 1209 = .ok (.iload 22, 2) := by decide +kernel
theorem dL_law_1211 : decode cL_law 1211 = .ok (.if_icmp .gt 88, 3) := by decide +kernel
theorem dL_law_1214 : decode cL_law 1214 = .ok (.aload_n 1, 1) := by decide +kernel
theorem dL_law_1215 : decode cL_law 1215 = .ok (.iconst 1, 1) := by decide +kernel
theorem dL_law_1216 : decode cL_law 1216 = .ok (.invokevirtual 68, 3) := by decide +kernel
theorem dL_law_1219 : decode cL_law 1219 = .ok (.istore 26, 2) := by decide +kernel
theorem dL_law_1221 : decode cL_law 1221 = .ok (.aload_n 2, 1) := by decide +kernel
theorem dL_law_1222 : decode cL_law 1222 = .ok (.iconst 1, 1) := by decide +kernel
theorem dL_law_1223 : decode cL_law 1223 = .ok (.invokevirtual 64, 3) := by decide +kernel
theorem dL_law_1226 : decode cL_law 1226 = .ok (.iload 26, 2) := by decide +kernel
theorem dL_law_1228 : decode cL_law 1228 = .ok (.aload_n 1, 1) := by decide +kernel
theorem dL_law_1229 : decode cL_law 1229 = .ok (.invokevirtual 164, 3) := by decide +kernel
theorem dL_law_1232 : decode cL_law 1232 = .ok (.if_icmp .ne 59, 3) := by decide +kernel
theorem dL_law_1235 : decode cL_law 1235 = .ok (.iload 24, 2) := by decide +kernel
theorem dL_law_1237 : decode cL_law 1237 = .ok (.ifCond .lt 10, 3) := by decide +kernel
theorem dL_law_1240 : decode cL_law 1240 = .ok (.iload 25, 2) := by decide +kernel
theorem dL_law_1242 : decode cL_law 1242 = .ok (.iload 24, 2) := by decide +kernel
theorem dL_law_1244 : decode cL_law 1244 = .ok (.if_icmp .ge 7, 3) := by decide +kernel
theorem dL_law_1247 : decode cL_law 1247 = .ok (.iconst 1, 1) := by decide +kernel
theorem dL_law_1248 : decode cL_law 1248 = .ok (.goto 4, 3) := by decide +kernel
theorem dL_law_1251 : decode cL_law 1251 = .ok (.iconst 0, 1) := by decide +kernel
theorem dL_law_1252 : decode cL_law 1252 = .ok (.aload_n 1, 1) := by decide +kernel
theorem dL_law_1253 : decode cL_law 1253 = .ok (.iload 17, 2) := by decide +kernel
theorem dL_law_1255 : decode cL_law 1255 = .ok (.invokevirtual 112, 3) := by decide +kernel
theorem dL_law_1258 : decode cL_law 1258 = .ok (.aload 16, 2) := by decide +kernel
theorem dL_law_1260 : decode cL_law 1260 = .ok (.iload 17, 2) := by decide +kernel
theorem dL_law_1262 : decode cL_law 1262 = .ok (.iaload, 1) := by decide +kernel
theorem dL_law_1263 : decode cL_law 1263 = .ok (.if_icmp .ne 7, 3) := by decide +kernel
theorem dL_law_1266 : decode cL_law 1266 = .ok (.iconst 1, 1) := by decide +kernel
theorem dL_law_1267 : decode cL_law 1267 = .ok (.goto 4, 3) := by decide +kernel
theorem dL_law_1270 : decode cL_law 1270 = .ok (.iconst 0, 1) := by decide +kernel
theorem dL_law_1271 : decode cL_law 1271 = .ok (.if_icmp .eq 22, 3) := by decide +kernel
theorem dL_law_1274 : decode cL_law 1274 = .ok (.iload 25, 2) := by decide +kernel
theorem dL_law_1276 : decode cL_law 1276 = .ok (.iload 24, 2) := by decide +kernel
theorem dL_law_1278 : decode cL_law 1278 = .ok (.ifCond .ge 8, 3) := by decide +kernel
theorem dL_law_1281 : decode cL_law 1281 = .ok (.bipush 50, 2) := by decide +kernel
theorem dL_law_1283 : decode cL_law 1283 = .ok (.goto 5, 3) := by decide +kernel
theorem dL_law_1286 : decode cL_law 1286 = .ok (.iload 24, 2) := by decide +kernel
theorem dL_law_1288 : decode cL_law 1288 = .ok (.if_icmp .gt 5, 3) := by decide +kernel
theorem dL_law_1291 : decode cL_law 1291 = .ok (.iconst 0, 1) := by decide +kernel
theorem dL_law_1292 : decode cL_law 1292 = .ok (.ireturn, 1) := by decide +kernel
theorem dL_law_1293 : decode cL_law 1293 = .ok (.iinc 25 1, 3) := by decide +kernel
theorem dL_law_1296 : decode cL_law 1296 = .ok (.goto (-89), 3) := by decide +kernel
theorem dL_law_1299 : decode cL_law 1299 = .ok (.aload_n 1, 1) := by decide +kernel
theorem dL_law_1300 : decode cL_law 1300 = .ok (.iload 17, 2) := by decide +kernel
theorem dL_law_1302 : decode cL_law 1302 = .ok (.invokevirtual 112, 3) := by decide +kernel
theorem dL_law_1305 : decode cL_law 1305 = .ok (.iload 23, 2) := by decide +kernel
theorem dL_law_1307 : decode cL_law 1307 = .ok (.if_icmp .eq 5, 3) := by decide +kernel
theorem dL_law_1310 : decode cL_law 1310 = .ok (.iconst 0, 1) := by decide +kernel
theorem dL_law_1311 : decode cL_law 1311 = .ok (.ireturn, 1) := by decide +kernel
theorem dL_law_1312 : decode cL_law 1312 = .ok (.iinc 3 1, 3) := by decide +kernel
theorem dL_law_1315 : decode cL_law 1315 = .ok (.goto (-1293), 3) := by decide +kernel
theorem dL_law_1318 : decode cL_law 1318 = .ok (.aload_n 2, 1) := by decide +kernel
theorem dL_law_1319 : decode cL_law 1319 = .ok (.aload_n 1, 1) := by decide +kernel
theorem dL_law_1320 : decode cL_law 1320 = .ok (.invokevirtual 185, 3) := by decide +kernel
theorem dL_law_1323 : decode cL_law 1323 = .ok (.ireturn, 1) := by decide +kernel
