/-! The law's instructions, 3. -/
theorem dL_law_913 : decode cL_law 913 = .ok (.iconst 1, 1) := by decide +kernel
theorem dL_law_914 : decode cL_law 914 = .ok (.goto 4, 3) := by decide +kernel
theorem dL_law_917 : decode cL_law 917 = .ok (.iconst 0, 1) := by decide +kernel
theorem dL_law_918 : decode cL_law 918 = .ok (.istore 23, 2) := by decide +kernel
theorem dL_law_920 : decode cL_law 920 = .ok (.iload 14, 2) := by decide +kernel
theorem dL_law_922 : decode cL_law 922 = .ok (.aload_n 1, 1) := by decide +kernel
theorem dL_law_923 : decode cL_law 923 = .ok (.iload 19, 2) := by decide +kernel
theorem dL_law_925 : decode cL_law 925 = .ok (.iload 22, 2) := by decide +kernel
theorem dL_law_927 : decode cL_law 927 = .ok (.invokestatic 153, 3) := by decide +kernel
theorem dL_law_930 : decode cL_law 930 = .ok (.iload 23, 2) := by decide +kernel
theorem dL_law_932 : decode cL_law 932 = .ok (.ifCond .eq 14, 3) := by decide +kernel
theorem dL_law_935 : decode cL_law 935 = .ok (.aload 5, 2) := by decide +kernel
theorem dL_law_937 : decode cL_law 937 = .ok (.iload 19, 2) := by decide +kernel
theorem dL_law_939 : decode cL_law 939 = .ok (.iaload, 1) := by decide +kernel
theorem dL_law_940 : decode cL_law 940 = .ok (.iload 22, 2) := by decide +kernel
theorem dL_law_942 : decode cL_law 942 = .ok (.iadd, 1) := by decide +kernel
theorem dL_law_943 : decode cL_law 943 = .ok (.goto 5, 3) := by decide +kernel
theorem dL_law_946 : decode cL_law 946 = .ok (.ldc 29, 2) := by decide +kernel
theorem dL_law_948 : decode cL_law 948 = .ok (.if_icmp .ne 20, 3) := by decide +kernel
theorem dL_law_951 : decode cL_law 951 = .ok (.aload_n 1, 1) := by decide +kernel
theorem dL_law_952 : decode cL_law 952 = .ok (.iload 19, 2) := by decide +kernel
theorem dL_law_954 : decode cL_law 954 = .ok (.bipush 100, 2) := by decide +kernel
theorem dL_law_956 : decode cL_law 956 = .ok (.invokestatic 153, 3) := by decide +kernel
theorem dL_law_959 : decode cL_law 959 = .ok (.ldc 20, 2) := by decide +kernel
theorem dL_law_961 : decode cL_law 961 = .ok (.if_icmp .ne 7, 3) := by decide +kernel
theorem dL_law_964 : decode cL_law 964 = .ok (.iconst 1, 1) := by decide +kernel
theorem dL_law_965 : decode cL_law 965 = .ok (.goto 4, 3) := by decide +kernel
theorem dL_law_968 : decode cL_law 968 = .ok (.iconst 0, 1) := by decide +kernel
theorem dL_law_969 : decode cL_law 969 = .ok (.iand, 1) := by decide +kernel
theorem dL_law_970 : decode cL_law 970 = .ok (.istore 14, 2) := by decide +kernel
theorem dL_law_972 : decode cL_law 972 = .ok (.aload 5, 2) := by decide +kernel
theorem dL_law_974 : decode cL_law 974 = .ok (.iload 19, 2) := by decide +kernel
theorem dL_law_976 : decode cL_law 976 = .ok (.dup2, 1) := by decide +kernel
theorem dL_law_977 : decode cL_law 977 = .ok (.iaload, 1) := by decide +kernel
theorem dL_law_978 : decode cL_law 978 = .ok (.iload 23, 2) := by decide +kernel
theorem dL_law_980 : decode cL_law 980 = .ok (.ifCond .eq 8, 3) := by decide +kernel
theorem dL_law_983 : decode cL_law 983 = .ok (.iload 22, 2) := by decide +kernel
theorem dL_law_985 : decode cL_law 985 = .ok (.goto 4, 3) := by decide +kernel
theorem dL_law_988 : decode cL_law 988 = .ok (.iconst 0, 1) := by decide +kernel
theorem dL_law_989 : decode cL_law 989 = .ok (.iadd, 1) := by decide +kernel
theorem dL_law_990 : decode cL_law 990 = .ok (.iastore, 1) := by decide +kernel
theorem dL_law_991 : decode cL_law 991 = .ok (.goto 567, 3) := by decide +kernel
theorem dL_law_994 : decode cL_law 994 = .ok (.iload 18, 2) := by decide +kernel
theorem dL_law_996 : decode cL_law 996 = .ok (.iconst 5, 1) := by decide +kernel
theorem dL_law_997 : decode cL_law 997 = .ok (.if_icmp .ne 96, 3) := by decide +kernel
theorem dL_law_1000 : decode cL_law 1000 = .ok (.aload 4, 2) := by decide +kernel
theorem dL_law_1002 : decode cL_law 1002 = .ok (.iload 19, 2) := by decide +kernel
theorem dL_law_1004 : decode cL_law 1004 = .ok (.iaload, 1) := by decide +kernel
theorem dL_law_1005 : decode cL_law 1005 = .ok (.bipush 39, 2) := by decide +kernel
theorem dL_law_1007 : decode cL_law 1007 = .ok (.iadd, 1) := by decide +kernel
theorem dL_law_1008 : decode cL_law 1008 = .ok (.bipush 40, 2) := by decide +kernel
theorem dL_law_1010 : decode cL_law 1010 = .ok (.idiv, 1) := by decide +kernel
theorem dL_law_1011 : decode cL_law 1011 = .ok (.istore 22, 2) := by decide +kernel
theorem dL_law_1013 : decode cL_law 1013 = .ok (.iload 20, 2) := by decide +kernel
theorem dL_law_1015 : decode cL_law 1015 = .ok (.iload 22, 2) := by decide +kernel
theorem dL_law_1017 : decode cL_law 1017 = .ok (.irem, 1) := by decide +kernel
theorem dL_law_1018 : decode cL_law 1018 = .ok (.istore 23, 2) := by decide +kernel
theorem dL_law_1020 : decode cL_law 1020 = .ok (.iload 14, 2) := by decide +kernel
theorem dL_law_1022 : decode cL_law 1022 = .ok (.aload_n 1, 1) := by decide +kernel
theorem dL_law_1023 : decode cL_law 1023 = .ok (.iload 19, 2) := by decide +kernel
theorem dL_law_1025 : decode cL_law 1025 = .ok (.invokestatic 155, 3) := by decide +kernel
theorem dL_law_1028 : decode cL_law 1028 = .ok (.iload 22, 2) := by decide +kernel
theorem dL_law_1030 : decode cL_law 1030 = .ok (.if_icmp .ne 47, 3) := by decide +kernel
theorem dL_law_1033 : decode cL_law 1033 = .ok (.aload_n 1, 1) := by decide +kernel
theorem dL_law_1034 : decode cL_law 1034 = .ok (.iload 19, 2) := by decide +kernel
theorem dL_law_1036 : decode cL_law 1036 = .ok (.iload 23, 2) := by decide +kernel
theorem dL_law_1038 : decode cL_law 1038 = .ok (.invokestatic 157, 3) := by decide +kernel
theorem dL_law_1041 : decode cL_law 1041 = .ok (.aload 11, 2) := by decide +kernel
theorem dL_law_1043 : decode cL_law 1043 = .ok (.iload 19, 2) := by decide +kernel
theorem dL_law_1045 : decode cL_law 1045 = .ok (.aaload, 1) := by decide +kernel
theorem dL_law_1046 : decode cL_law 1046 = .ok (.iload 23, 2) := by decide +kernel
theorem dL_law_1048 : decode cL_law 1048 = .ok (.baload, 1) := by decide +kernel
theorem dL_law_1049 : decode cL_law 1049 = .ok (.ifCond .eq 7, 3) := by decide +kernel
theorem dL_law_1052 : decode cL_law 1052 = .ok (.iconst 0, 1) := by decide +kernel
theorem dL_law_1053 : decode cL_law 1053 = .ok (.goto 4, 3) := by decide +kernel
theorem dL_law_1056 : decode cL_law 1056 = .ok (.iconst 1, 1) := by decide +kernel
theorem dL_law_1057 : decode cL_law 1057 = .ok (.if_icmp .ne 20, 3) := by decide +kernel
theorem dL_law_1060 : decode cL_law 1060 = .ok (.aload_n 1, 1) := by decide +kernel
theorem dL_law_1061 : decode cL_law 1061 = .ok (.iload 19, 2) := by decide +kernel
theorem dL_law_1063 : decode cL_law 1063 = .ok (.iload 22, 2) := by decide +kernel
theorem dL_law_1065 : decode cL_law 1065 = .ok (.invokestatic 157, 3) := by decide +kernel
theorem dL_law_1068 : decode cL_law 1068 = .ok (.ldc 20, 2) := by decide +kernel
theorem dL_law_1070 : decode cL_law 1070 = .ok (.if_icmp .ne 7, 3) := by decide +kernel
theorem dL_law_1073 : decode cL_law 1073 = .ok (.iconst 1, 1) := by decide +kernel
theorem dL_law_1074 : decode cL_law 1074 = .ok (.goto 4, 3) := by decide +kernel
theorem dL_law_1077 : decode cL_law 1077 = .ok (.iconst 0, 1) := by decide +kernel
theorem dL_law_1078 : decode cL_law 1078 = .ok (.iand, 1) := by decide +kernel
theorem dL_law_1079 : decode cL_law 1079 = .ok (.istore 14, 2) := by decide +kernel
theorem dL_law_1081 : decode cL_law 1081 = .ok (.aload 11, 2) := by decide +kernel
theorem dL_law_1083 : decode cL_law 1083 = .ok (.iload 19, 2) := by decide +kernel
theorem dL_law_1085 : decode cL_law 1085 = .ok (.aaload, 1) := by decide +kernel
theorem dL_law_1086 : decode cL_law 1086 = .ok (.iload 23, 2) := by decide +kernel
theorem dL_law_1088 : decode cL_law 1088 = .ok (.iconst 1, 1) := by decide +kernel
theorem dL_law_1089 : decode cL_law 1089 = .ok (.bastore, 1) := by decide +kernel
theorem dL_law_1090 : decode cL_law 1090 = .ok (.goto 468, 3) := by decide +kernel
theorem dL_law_1093 : decode cL_law 1093 = .ok (.iload 18, 2) := by decide +kernel
theorem dL_law_1095 : decode cL_law 1095 = .ok (.bipush 6, 2) := by decide +kernel
theorem dL_law_1097 : decode cL_law 1097 = .ok (.if_icmp .ne 131, 3) := by decide +kernel
theorem dL_law_1100 : decode cL_law 1100 = .ok (.iload 21, 2) := by decide +kernel
theorem dL_law_1102 : decode cL_law 1102 = .ok (.iload_n 2, 1) := by decide +kernel
theorem dL_law_1103 : decode cL_law 1103 = .ok (.irem, 1) := by decide +kernel
theorem dL_law_1104 : decode cL_law 1104 = .ok (.istore 22, 2) := by decide +kernel
theorem dL_law_1106 : decode cL_law 1106 = .ok (.iconst 0, 1) := by decide +kernel
theorem dL_law_1107 : decode cL_law 1107 = .ok (.istore 23, 2) := by decide +kernel
theorem dL_law_1109 : decode cL_law 1109 = .ok (.aload 13, 2) := by decide +kernel
theorem dL_law_1111 : decode cL_law 1111 = .ok (.iload 23, 2) := by decide +kernel
theorem dL_law_1113 : decode cL_law 1113 = .ok (.iaload, 1) := by decide +kernel
theorem dL_law_1114 : decode cL_law 1114 = .ok (.iload 19, 2) := by decide +kernel
theorem dL_law_1116 : decode cL_law 1116 = .ok (.if_icmp .eq 9, 3) := by decide +kernel
theorem dL_law_1119 : decode cL_law 1119 = .ok (.iinc 23 1, 3) := by decide +kernel
theorem dL_law_1122 : decode cL_law 1122 = .ok (.goto (-13), 3) := by decide +kernel
theorem dL_law_1125 : decode cL_law 1125 = .ok (.iload 14, 2) := by decide +kernel
theorem dL_law_1127 : decode cL_law 1127 = .ok (.aload_n 1, 1) := by decide +kernel
theorem dL_law_1128 : decode cL_law 1128 = .ok (.iload 19, 2) := by decide +kernel
theorem dL_law_1130 : decode cL_law 1130 = .ok (.iload 22, 2) := by decide +kernel
theorem dL_law_1132 : decode cL_law 1132 = .ok (.invokestatic 159, 3) := by decide +kernel
theorem dL_law_1135 : decode cL_law 1135 = .ok (.iload 23, 2) := by decide +kernel
theorem dL_law_1137 : decode cL_law 1137 = .ok (.if_icmp .ne 19, 3) := by decide +kernel
theorem dL_law_1140 : decode cL_law 1140 = .ok (.aload_n 1, 1) := by decide +kernel
theorem dL_law_1141 : decode cL_law 1141 = .ok (.iload 19, 2) := by decide +kernel
theorem dL_law_1143 : decode cL_law 1143 = .ok (.iload_n 2, 1) := by decide +kernel
theorem dL_law_1144 : decode cL_law 1144 = .ok (.invokestatic 159, 3) := by decide +kernel
theorem dL_law_1147 : decode cL_law 1147 = .ok (.ldc 20, 2) := by decide +kernel
theorem dL_law_1149 : decode cL_law 1149 = .ok (.if_icmp .ne 7, 3) := by decide +kernel
theorem dL_law_1152 : decode cL_law 1152 = .ok (.iconst 1, 1) := by decide +kernel
theorem dL_law_1153 : decode cL_law 1153 = .ok (.goto 4, 3) := by decide +kernel
theorem dL_law_1156 : decode cL_law 1156 = .ok (.iconst 0, 1) := by decide +kernel
theorem dL_law_1157 : decode cL_law 1157 = .ok (.iand, 1) := by decide +kernel
theorem dL_law_1158 : decode cL_law 1158 = .ok (.istore 14, 2) := by decide +kernel
theorem dL_law_1160 : decode cL_law 1160 = .ok (.iload 23, 2) := by decide +kernel
theorem dL_law_1162 : decode cL_law 1162 = .ok (.istore 24, 2) := by decide +kernel
theorem dL_law_1164 : decode cL_law 1164 = .ok (.iload 24, 2) := by decide +kernel
theorem dL_law_1166 : decode cL_law 1166 = .ok (.iload 22, 2) := by decide +kernel
theorem dL_law_1168 : decode cL_law 1168 = .ok (.if_icmp .ge 21, 3) := by decide +kernel
theorem dL_law_1171 : decode cL_law 1171 = .ok (.aload 13, 2) := by decide +kernel
theorem dL_law_1173 : decode cL_law 1173 = .ok (.iload 24, 2) := by decide +kernel
theorem dL_law_1175 : decode cL_law 1175 = .ok (.aload 13, 2) := by decide +kernel
theorem dL_law_1177 : decode cL_law 1177 = .ok (.iload 24, 2) := by decide +kernel
theorem dL_law_1179 : decode cL_law 1179 = .ok (.iconst 1, 1) := by decide +kernel
theorem dL_law_1180 : decode cL_law 1180 = .ok (.iadd, 1) := by decide +kernel
theorem dL_law_1181 : decode cL_law 1181 = .ok (.iaload, 1) := by decide +kernel
theorem dL_law_1182 : decode cL_law 1182 = .ok (.iastore, 1) := by decide +kernel
theorem dL_law_1183 : decode cL_law 1183 = .ok (.iinc 24 1, 3) := by decide +kernel
theorem dL_law_1186 : decode cL_law 1186 = .ok (.goto (-22), 3) := by decide +kernel
theorem dL_law_1189 : decode cL_law 1189 = .ok (.iload 23, 2) := by decide +kernel
theorem dL_law_1191 : decode cL_law 1191 = .ok (.istore 24, 2) := by decide +kernel
theorem dL_law_1193 : decode cL_law 1193 = .ok (.iload 24, 2) := by decide +kernel
theorem dL_law_1195 : decode cL_law 1195 = .ok (.iload 22, 2) := by decide +kernel
theorem dL_law_1197 : decode cL_law 1197 = .ok (.if_icmp .le 21, 3) := by decide +kernel
theorem dL_law_1200 : decode cL_law 1200 = .ok (.aload 13, 2) := by decide +kernel
theorem dL_law_1202 : decode cL_law 1202 = .ok (.iload 24, 2) := by decide +kernel
theorem dL_law_1204 : decode cL_law 1204 = .ok (.aload 13, 2) := by decide +kernel
theorem dL_law_1206 : decode cL_law 1206 = .ok (.iload 24, 2) := by decide +kernel
theorem dL_law_1208 : decode cL_law 1208 = .ok (.iconst 1, 1) := by decide +kernel
theorem dL_law_1209 : decode cL_law 1209 = .ok (.isub, 1) := by decide +kernel
theorem dL_law_1210 : decode cL_law 1210 = .ok (.iaload, 1) := by decide +kernel
theorem dL_law_1211 : decode cL_law 1211 = .ok (.iastore, 1) := by decide +kernel
theorem dL_law_1212 : decode cL_law 1212 = .ok (.iinc 24 (-1), 3) := by decide +kernel
theorem dL_law_1215 : decode cL_law 1215 = .ok (.goto (-22), 3) := by decide +kernel
theorem dL_law_1218 : decode cL_law 1218 = .ok (.aload 13, 2) := by decide +kernel
theorem dL_law_1220 : decode cL_law 1220 = .ok (.iload 22, 2) := by decide +kernel
theorem dL_law_1222 : decode cL_law 1222 = .ok (.iload 19, 2) := by decide +kernel
theorem dL_law_1224 : decode cL_law 1224 = .ok (.iastore, 1) := by decide +kernel
theorem dL_law_1225 : decode cL_law 1225 = .ok (.goto 333, 3) := by decide +kernel
theorem dL_law_1228 : decode cL_law 1228 = .ok (.iload 18, 2) := by decide +kernel
theorem dL_law_1230 : decode cL_law 1230 = .ok (.bipush 7, 2) := by decide +kernel
theorem dL_law_1232 : decode cL_law 1232 = .ok (.if_icmp .ne 91, 3) := by decide +kernel
theorem dL_law_1235 : decode cL_law 1235 = .ok (.iload 20, 2) := by decide +kernel
theorem dL_law_1237 : decode cL_law 1237 = .ok (.iconst 5, 1) := by decide +kernel
theorem dL_law_1238 : decode cL_law 1238 = .ok (.irem, 1) := by decide +kernel
theorem dL_law_1239 : decode cL_law 1239 = .ok (.istore 22, 2) := by decide +kernel
theorem dL_law_1241 : decode cL_law 1241 = .ok (.iload 14, 2) := by decide +kernel
theorem dL_law_1243 : decode cL_law 1243 = .ok (.aload_n 1, 1) := by decide +kernel
theorem dL_law_1244 : decode cL_law 1244 = .ok (.iload 22, 2) := by decide +kernel
theorem dL_law_1246 : decode cL_law 1246 = .ok (.invokestatic 161, 3) := by decide +kernel
theorem dL_law_1249 : decode cL_law 1249 = .ok (.invokestatic 165, 3) := by decide +kernel
theorem dL_law_1252 : decode cL_law 1252 = .ok (.ifCond .eq 34, 3) := by decide +kernel
theorem dL_law_1255 : decode cL_law 1255 = .ok (.aload_n 1, 1) := by decide +kernel
theorem dL_law_1256 : decode cL_law 1256 = .ok (.iload 19, 2) := by decide +kernel
theorem dL_law_1258 : decode cL_law 1258 = .ok (.invokestatic 169, 3) := by decide +kernel
theorem dL_law_1261 : decode cL_law 1261 = .ok (.aload 10, 2) := by decide +kernel
theorem dL_law_1263 : decode cL_law 1263 = .ok (.iload 19, 2) := by decide +kernel
theorem dL_law_1265 : decode cL_law 1265 = .ok (.baload, 1) := by decide +kernel
theorem dL_law_1266 : decode cL_law 1266 = .ok (.ifCond .eq 8, 3) := by decide +kernel
theorem dL_law_1269 : decode cL_law 1269 = .ok (.ldc 20, 2) := by decide +kernel
theorem dL_law_1271 : decode cL_law 1271 = .ok (.goto 8, 3) := by decide +kernel
theorem dL_law_1274 : decode cL_law 1274 = .ok (.aload 9, 2) := by decide +kernel
theorem dL_law_1276 : decode cL_law 1276 = .ok (.iload 19, 2) := by decide +kernel
theorem dL_law_1278 : decode cL_law 1278 = .ok (.caload, 1) := by decide +kernel
theorem dL_law_1279 : decode cL_law 1279 = .ok (.if_icmp .ne 7, 3) := by decide +kernel
theorem dL_law_1282 : decode cL_law 1282 = .ok (.iconst 1, 1) := by decide +kernel
theorem dL_law_1283 : decode cL_law 1283 = .ok (.goto 4, 3) := by decide +kernel
theorem dL_law_1286 : decode cL_law 1286 = .ok (.iconst 0, 1) := by decide +kernel
theorem dL_law_1287 : decode cL_law 1287 = .ok (.iand, 1) := by decide +kernel
theorem dL_law_1288 : decode cL_law 1288 = .ok (.istore 14, 2) := by decide +kernel
theorem dL_law_1290 : decode cL_law 1290 = .ok (.aload 9, 2) := by decide +kernel
theorem dL_law_1292 : decode cL_law 1292 = .ok (.iload 19, 2) := by decide +kernel
theorem dL_law_1294 : decode cL_law 1294 = .ok (.aload 10, 2) := by decide +kernel
theorem dL_law_1296 : decode cL_law 1296 = .ok (.iload 19, 2) := by decide +kernel
theorem dL_law_1298 : decode cL_law 1298 = .ok (.baload, 1) := by decide +kernel
theorem dL_law_1299 : decode cL_law 1299 = .ok (.ifCond .eq 11, 3) := by decide +kernel
theorem dL_law_1302 : decode cL_law 1302 = .ok (.aload 9, 2) := by decide +kernel
theorem dL_law_1304 : decode cL_law 1304 = .ok (.iload 19, 2) := by decide +kernel
theorem dL_law_1306 : decode cL_law 1306 = .ok (.caload, 1) := by decide +kernel
theorem dL_law_1307 : decode cL_law 1307 = .ok (.goto 12, 3) := by decide +kernel
theorem dL_law_1310 : decode cL_law 1310 = .ok (.iload 22, 2) := by decide +kernel
theorem dL_law_1312 : decode cL_law 1312 = .ok (.invokestatic 161, 3) := by decide +kernel
theorem dL_law_1315 : decode cL_law 1315 = .ok (.iconst 0, 1) := by decide +kernel
theorem dL_law_1316 : decode cL_law 1316 = .ok (.invokevirtual 110, 3) := by decide +kernel
theorem dL_law_1319 : decode cL_law 1319 = .ok (.castore, 1) := by decide +kernel
theorem dL_law_1320 : decode cL_law 1320 = .ok (.goto 238, 3) := by decide +kernel
theorem dL_law_1323 : decode cL_law 1323 = .ok (.iload 18, 2) := by decide +kernel
theorem dL_law_1325 : decode cL_law 1325 = .ok (.bipush 8, 2) := by decide +kernel
theorem dL_law_1327 : decode cL_law 1327 = .ok (.if_icmp .ne 81, 3) := by decide +kernel
theorem dL_law_1330 : decode cL_law 1330 = .ok (.iconst 0, 1) := by decide +kernel
theorem dL_law_1331 : decode cL_law 1331 = .ok (.istore 22, 2) := by decide +kernel
theorem dL_law_1333 : decode cL_law 1333 = .ok (.iconst 0, 1) := by decide +kernel
theorem dL_law_1334 : decode cL_law 1334 = .ok (.istore 23, 2) := by decide +kernel
theorem dL_law_1336 : decode cL_law 1336 = .ok (.iload 23, 2) := by decide +kernel
theorem dL_law_1338 : decode cL_law 1338 = .ok (.iload_n 2, 1) := by decide +kernel
theorem dL_law_1339 : decode cL_law 1339 = .ok (.if_icmp .ge 47, 3) := by decide +kernel
theorem dL_law_1342 : decode cL_law 1342 = .ok (.iload 22, 2) := by decide +kernel
theorem dL_law_1344 : decode cL_law 1344 = .ok (.aload 5, 2) := by decide +kernel
theorem dL_law_1346 : decode cL_law 1346 = .ok (.iload 23, 2) := by decide +kernel
theorem dL_law_1348 : decode cL_law 1348 = .ok (.iaload, 1) := by decide +kernel
theorem dL_law_1349 : decode cL_law 1349 = .ok (.iadd, 1) := by decide +kernel
theorem dL_law_1350 : decode cL_law 1350 = .ok (.istore 22, 2) := by decide +kernel
theorem dL_law_1352 : decode cL_law 1352 = .ok (.aload 4, 2) := by decide +kernel
theorem dL_law_1354 : decode cL_law 1354 = .ok (.iload 23, 2) := by decide +kernel
theorem dL_law_1356 : decode cL_law 1356 = .ok (.dup2, 1) := by decide +kernel
theorem dL_law_1357 : decode cL_law 1357 = .ok (.iaload, 1) := by decide +kernel
theorem dL_law_1358 : decode cL_law 1358 = .ok (.aload 5, 2) := by decide +kernel
theorem dL_law_1360 : decode cL_law 1360 = .ok (.iload 23, 2) := by decide +kernel
theorem dL_law_1362 : decode cL_law 1362 = .ok (.iaload, 1) := by decide +kernel
theorem dL_law_1363 : decode cL_law 1363 = .ok (.iadd, 1) := by decide +kernel
theorem dL_law_1364 : decode cL_law 1364 = .ok (.iastore, 1) := by decide +kernel
theorem dL_law_1365 : decode cL_law 1365 = .ok (.aload 5, 2) := by decide +kernel
theorem dL_law_1367 : decode cL_law 1367 = .ok (.iload 23, 2) := by decide +kernel
theorem dL_law_1369 : decode cL_law 1369 = .ok (.iconst 0, 1) := by decide +kernel
theorem dL_law_1370 : decode cL_law 1370 = .ok (.iastore, 1) := by decide +kernel
theorem dL_law_1371 : decode cL_law 1371 = .ok (.aload 11, 2) := by decide +kernel
theorem dL_law_1373 : decode cL_law 1373 = .ok (.iload 23, 2) := by decide +kernel
theorem dL_law_1375 : decode cL_law 1375 = .ok (.bipush 15, 2) := by decide +kernel
theorem dL_law_1377 : decode cL_law 1377 = .ok (.newarray .boolean, 2) := by decide +kernel
theorem dL_law_1379 : decode cL_law 1379 = .ok (.aastore, 1) := by decide +kernel
theorem dL_law_1380 : decode cL_law 1380 = .ok (.iinc 23 1, 3) := by decide +kernel
theorem dL_law_1383 : decode cL_law 1383 = .ok (.goto (-47), 3) := by decide +kernel
theorem dL_law_1386 : decode cL_law 1386 = .ok (.iload 14, 2) := by decide +kernel
theorem dL_law_1388 : decode cL_law 1388 = .ok (.aload_n 1, 1) := by decide +kernel
theorem dL_law_1389 : decode cL_law 1389 = .ok (.invokevirtual 171, 3) := by decide +kernel
