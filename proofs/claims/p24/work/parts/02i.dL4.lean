theorem dL_law_948 : decode cL_law 948 = .ok (.iload 7, 2) := by decide +kernel
theorem dL_law_950 : decode cL_law 950 = .ok (.iload 7, 2) := by decide +kernel
theorem dL_law_952 : decode cL_law 952 = .ok (.iload 15, 2) := by decide +kernel
theorem dL_law_954 : decode cL_law 954 = .ok (.if_icmp .lt 8, 3) := by decide +kernel
theorem dL_law_957 : decode cL_law 957 = .ok (.iload 15, 2) := by decide +kernel
theorem dL_law_959 : decode cL_law 959 = .ok (.goto 4, 3) := by decide +kernel
theorem dL_law_962 : decode cL_law 962 = .ok (.iconst 0, 1) := by decide +kernel
theorem dL_law_963 : decode cL_law 963 = .ok (.isub, 1) := by decide +kernel
theorem dL_law_964 : decode cL_law 964 = .ok (.istore 7, 2) := by decide +kernel
theorem dL_law_966 : decode cL_law 966 = .ok (.goto 271, 3) := by decide +kernel
theorem dL_law_969 : decode cL_law 969 = .ok (.iconst 0, 1) := by decide +kernel
theorem dL_law_970 : decode cL_law 970 = .ok (.istore 15, 2) := by decide +kernel
theorem dL_law_972 : decode cL_law 972 = .ok (.iconst 0, 1) := by decide +kernel
theorem dL_law_973 : decode cL_law 973 = .ok (.istore 16, 2) := by decide +kernel
theorem dL_law_975 : decode cL_law 975 = .ok (.iload 16, 2) := by decide +kernel
theorem dL_law_977 : decode cL_law 977 = .ok (.iload 5, 2) := by decide +kernel
theorem dL_law_979 : decode cL_law 979 = .ok (.if_icmp .ge 32, 3) := by decide +kernel
theorem dL_law_982 : decode cL_law 982 = .ok (.iload 15, 2) := by decide +kernel
theorem dL_law_984 : decode cL_law 984 = .ok (.aload_n 1, 1) := by decide +kernel
theorem dL_law_985 : decode cL_law 985 = .ok (.iload 16, 2) := by decide +kernel
theorem dL_law_987 : decode cL_law 987 = .ok (.invokestatic 90, 3) := by decide +kernel
theorem dL_law_990 : decode cL_law 990 = .ok (.iconst 2, 1) := by decide +kernel
theorem dL_law_991 : decode cL_law 991 = .ok (.if_icmp .ne 10, 3) := by decide +kernel
theorem dL_law_994 : decode cL_law 994 = .ok (.aload_n 2, 1) := by decide +kernel
theorem dL_law_995 : decode cL_law 995 = .ok (.iload 16, 2) := by decide +kernel
theorem dL_law_997 : decode cL_law 997 = .ok (.iaload, 1) := by decide +kernel
theorem dL_law_998 : decode cL_law 998 = .ok (.goto 4, 3) := by decide +kernel
theorem dL_law_1001 : decode cL_law 1001 = .ok (.iconst 0, 1) := by decide +kernel
theorem dL_law_1002 : decode cL_law 1002 = .ok (.isub, 1) := by decide +kernel
theorem dL_law_1003 : decode cL_law 1003 = .ok (.istore 15, 2) := by decide +kernel
theorem dL_law_1005 : decode cL_law 1005 = .ok (.iinc 16 1, 3) := by decide +kernel
theorem dL_law_1008 : decode cL_law 1008 = .ok (.goto (-33), 3) := by decide +kernel
theorem dL_law_1011 : decode cL_law 1011 = .ok (.iconst 0, 1) := by decide +kernel
theorem dL_law_1012 : decode cL_law 1012 = .ok (.istore 16, 2) := by decide +kernel
theorem dL_law_1014 : decode cL_law 1014 = .ok (.iload 16, 2) := by decide +kernel
theorem dL_law_1016 : decode cL_law 1016 = .ok (.iload 6, 2) := by decide +kernel
theorem dL_law_1018 : decode cL_law 1018 = .ok (.if_icmp .ge 33, 3) := by decide +kernel
theorem dL_law_1021 : decode cL_law 1021 = .ok (.iload 15, 2) := by decide +kernel
theorem dL_law_1023 : decode cL_law 1023 = .ok (.aload_n 1, 1) := by decide +kernel
theorem dL_law_1024 : decode cL_law 1024 = .ok (.iload 16, 2) := by decide +kernel
theorem dL_law_1026 : decode cL_law 1026 = .ok (.invokestatic 124, 3) := by decide +kernel
theorem dL_law_1029 : decode cL_law 1029 = .ok (.iconst 2, 1) := by decide +kernel
theorem dL_law_1030 : decode cL_law 1030 = .ok (.if_icmp .ne 11, 3) := by decide +kernel
theorem dL_law_1033 : decode cL_law 1033 = .ok (.aload 4, 2) := by decide +kernel
theorem dL_law_1035 : decode cL_law 1035 = .ok (.iload 16, 2) := by decide +kernel
theorem dL_law_1037 : decode cL_law 1037 = .ok (.iaload, 1) := by decide +kernel
theorem dL_law_1038 : decode cL_law 1038 = .ok (.goto 4, 3) := by decide +kernel
theorem dL_law_1041 : decode cL_law 1041 = .ok (.iconst 0, 1) := by decide +kernel
theorem dL_law_1042 : decode cL_law 1042 = .ok (.iadd, 1) := by decide +kernel
theorem dL_law_1043 : decode cL_law 1043 = .ok (.istore 15, 2) := by decide +kernel
theorem dL_law_1045 : decode cL_law 1045 = .ok (.iinc 16 1, 3) := by decide +kernel
theorem dL_law_1048 : decode cL_law 1048 = .ok (.goto (-34), 3) := by decide +kernel
theorem dL_law_1051 : decode cL_law 1051 = .ok (.aload_n 1, 1) := by decide +kernel
theorem dL_law_1052 : decode cL_law 1052 = .ok (.iconst 1, 1) := by decide +kernel
theorem dL_law_1053 : decode cL_law 1053 = .ok (.iload 12, 2) := by decide +kernel
theorem dL_law_1055 : decode cL_law 1055 = .ok (.bipush 24, 2) := by decide +kernel
theorem dL_law_1057 : decode cL_law 1057 = .ok (.irem, 1) := by decide +kernel
theorem dL_law_1058 : decode cL_law 1058 = .ok (.iadd, 1) := by decide +kernel
theorem dL_law_1059 : decode cL_law 1059 = .ok (.invokestatic 127, 3) := by decide +kernel
theorem dL_law_1062 : decode cL_law 1062 = .ok (.istore 8, 2) := by decide +kernel
theorem dL_law_1064 : decode cL_law 1064 = .ok (.iconst 0, 1) := by decide +kernel
theorem dL_law_1065 : decode cL_law 1065 = .ok (.istore 16, 2) := by decide +kernel
theorem dL_law_1067 : decode cL_law 1067 = .ok (.iload 16, 2) := by decide +kernel
theorem dL_law_1069 : decode cL_law 1069 = .ok (.iload 5, 2) := by decide +kernel
theorem dL_law_1071 : decode cL_law 1071 = .ok (.if_icmp .ge 32, 3) := by decide +kernel
theorem dL_law_1074 : decode cL_law 1074 = .ok (.iload 15, 2) := by decide +kernel
theorem dL_law_1076 : decode cL_law 1076 = .ok (.aload_n 1, 1) := by decide +kernel
theorem dL_law_1077 : decode cL_law 1077 = .ok (.iload 16, 2) := by decide +kernel
theorem dL_law_1079 : decode cL_law 1079 = .ok (.invokestatic 90, 3) := by decide +kernel
theorem dL_law_1082 : decode cL_law 1082 = .ok (.iconst 2, 1) := by decide +kernel
theorem dL_law_1083 : decode cL_law 1083 = .ok (.if_icmp .ne 10, 3) := by decide +kernel
theorem dL_law_1086 : decode cL_law 1086 = .ok (.aload_n 2, 1) := by decide +kernel
theorem dL_law_1087 : decode cL_law 1087 = .ok (.iload 16, 2) := by decide +kernel
theorem dL_law_1089 : decode cL_law 1089 = .ok (.iaload, 1) := by decide +kernel
theorem dL_law_1090 : decode cL_law 1090 = .ok (.goto 4, 3) := by decide +kernel
theorem dL_law_1093 : decode cL_law 1093 = .ok (.iconst 0, 1) := by decide +kernel
theorem dL_law_1094 : decode cL_law 1094 = .ok (.iadd, 1) := by decide +kernel
theorem dL_law_1095 : decode cL_law 1095 = .ok (.istore 15, 2) := by decide +kernel
theorem dL_law_1097 : decode cL_law 1097 = .ok (.iinc 16 1, 3) := by decide +kernel
theorem dL_law_1100 : decode cL_law 1100 = .ok (.goto (-33), 3) := by decide +kernel
theorem dL_law_1103 : decode cL_law 1103 = .ok (.iconst 0, 1) := by decide +kernel
theorem dL_law_1104 : decode cL_law 1104 = .ok (.istore 16, 2) := by decide +kernel
theorem dL_law_1106 : decode cL_law 1106 = .ok (.iload 16, 2) := by decide +kernel
theorem dL_law_1108 : decode cL_law 1108 = .ok (.iload 6, 2) := by decide +kernel
theorem dL_law_1110 : decode cL_law 1110 = .ok (.if_icmp .ge 120, 3) := by decide +kernel
theorem dL_law_1113 : decode cL_law 1113 = .ok (.iload 15, 2) := by decide +kernel
theorem dL_law_1115 : decode cL_law 1115 = .ok (.aload_n 1, 1) := by decide +kernel
theorem dL_law_1116 : decode cL_law 1116 = .ok (.iload 16, 2) := by decide +kernel
theorem dL_law_1118 : decode cL_law 1118 = .ok (.invokestatic 124, 3) := by decide +kernel
theorem dL_law_1121 : decode cL_law 1121 = .ok (.iconst 2, 1) := by decide +kernel
theorem dL_law_1122 : decode cL_law 1122 = .ok (.if_icmp .ne 11, 3) := by decide +kernel
theorem dL_law_1125 : decode cL_law 1125 = .ok (.aload 4, 2) := by decide +kernel
theorem dL_law_1127 : decode cL_law 1127 = .ok (.iload 16, 2) := by decide +kernel
theorem dL_law_1129 : decode cL_law 1129 = .ok (.iaload, 1) := by decide +kernel
theorem dL_law_1130 : decode cL_law 1130 = .ok (.goto 4, 3) := by decide +kernel
theorem dL_law_1133 : decode cL_law 1133 = .ok (.iconst 0, 1) := by decide +kernel
theorem dL_law_1134 : decode cL_law 1134 = .ok (.isub, 1) := by decide +kernel
theorem dL_law_1135 : decode cL_law 1135 = .ok (.istore 15, 2) := by decide +kernel
theorem dL_law_1137 : decode cL_law 1137 = .ok (.iload 9, 2) := by decide +kernel
theorem dL_law_1139 : decode cL_law 1139 = .ok (.ifCond .eq 40, 3) := by decide +kernel
theorem dL_law_1142 : decode cL_law 1142 = .ok (.aload_n 1, 1) := by decide +kernel
theorem dL_law_1143 : decode cL_law 1143 = .ok (.iload 16, 2) := by decide +kernel
theorem dL_law_1145 : decode cL_law 1145 = .ok (.invokestatic 129, 3) := by decide +kernel
theorem dL_law_1148 : decode cL_law 1148 = .ok (.aload_n 3, 1) := by decide +kernel
theorem dL_law_1149 : decode cL_law 1149 = .ok (.iload 16, 2) := by decide +kernel
theorem dL_law_1151 : decode cL_law 1151 = .ok (.iaload, 1) := by decide +kernel
theorem dL_law_1152 : decode cL_law 1152 = .ok (.if_icmp .lt 27, 3) := by decide +kernel
theorem dL_law_1155 : decode cL_law 1155 = .ok (.aload_n 1, 1) := by decide +kernel
theorem dL_law_1156 : decode cL_law 1156 = .ok (.iload 16, 2) := by decide +kernel
theorem dL_law_1158 : decode cL_law 1158 = .ok (.invokestatic 124, 3) := by decide +kernel
theorem dL_law_1161 : decode cL_law 1161 = .ok (.ifCond .ne 14, 3) := by decide +kernel
theorem dL_law_1164 : decode cL_law 1164 = .ok (.aload_n 1, 1) := by decide +kernel
theorem dL_law_1165 : decode cL_law 1165 = .ok (.iload 16, 2) := by decide +kernel
theorem dL_law_1167 : decode cL_law 1167 = .ok (.invokestatic 129, 3) := by decide +kernel
theorem dL_law_1170 : decode cL_law 1170 = .ok (.iload 8, 2) := by decide +kernel
theorem dL_law_1172 : decode cL_law 1172 = .ok (.if_icmp .le 7, 3) := by decide +kernel
theorem dL_law_1175 : decode cL_law 1175 = .ok (.iconst 1, 1) := by decide +kernel
theorem dL_law_1176 : decode cL_law 1176 = .ok (.goto 4, 3) := by decide +kernel
theorem dL_law_1179 : decode cL_law 1179 = .ok (.iconst 0, 1) := by decide +kernel
theorem dL_law_1180 : decode cL_law 1180 = .ok (.istore 9, 2) := by decide +kernel
theorem dL_law_1182 : decode cL_law 1182 = .ok (.aload_n 3, 1) := by decide +kernel
theorem dL_law_1183 : decode cL_law 1183 = .ok (.iload 16, 2) := by decide +kernel
theorem dL_law_1185 : decode cL_law 1185 = .ok (.aload_n 1, 1) := by decide +kernel
theorem dL_law_1186 : decode cL_law 1186 = .ok (.iload 16, 2) := by decide +kernel
theorem dL_law_1188 : decode cL_law 1188 = .ok (.invokestatic 129, 3) := by decide +kernel
theorem dL_law_1191 : decode cL_law 1191 = .ok (.iastore, 1) := by decide +kernel
theorem dL_law_1192 : decode cL_law 1192 = .ok (.iload 9, 2) := by decide +kernel
theorem dL_law_1194 : decode cL_law 1194 = .ok (.ifCond .eq 27, 3) := by decide +kernel
theorem dL_law_1197 : decode cL_law 1197 = .ok (.aload_n 1, 1) := by decide +kernel
theorem dL_law_1198 : decode cL_law 1198 = .ok (.iload 16, 2) := by decide +kernel
theorem dL_law_1200 : decode cL_law 1200 = .ok (.invokestatic 124, 3) := by decide +kernel
theorem dL_law_1203 : decode cL_law 1203 = .ok (.ifCond .eq 14, 3) := by decide +kernel
theorem dL_law_1206 : decode cL_law 1206 = .ok (.aload_n 1, 1) := by decide +kernel
theorem dL_law_1207 : decode cL_law 1207 = .ok (.iload 16, 2) := by decide +kernel
theorem dL_law_1209 : decode cL_law 1209 = .ok (.invokestatic 129, 3) := by decide +kernel
theorem dL_law_1212 : decode cL_law 1212 = .ok (.iload 8, 2) := by decide +kernel
theorem dL_law_1214 : decode cL_law 1214 = .ok (.if_icmp .gt 7, 3) := by decide +kernel
theorem dL_law_1217 : decode cL_law 1217 = .ok (.iconst 1, 1) := by decide +kernel
theorem dL_law_1218 : decode cL_law 1218 = .ok (.goto 4, 3) := by decide +kernel
theorem dL_law_1221 : decode cL_law 1221 = .ok (.iconst 0, 1) := by decide +kernel
theorem dL_law_1222 : decode cL_law 1222 = .ok (.istore 9, 2) := by decide +kernel
theorem dL_law_1224 : decode cL_law 1224 = .ok (.iinc 16 1, 3) := by decide +kernel
theorem dL_law_1227 : decode cL_law 1227 = .ok (.goto (-121), 3) := by decide +kernel
theorem dL_law_1230 : decode cL_law 1230 = .ok (.iload 7, 2) := by decide +kernel
theorem dL_law_1232 : decode cL_law 1232 = .ok (.iload 15, 2) := by decide +kernel
theorem dL_law_1234 : decode cL_law 1234 = .ok (.iadd, 1) := by decide +kernel
theorem dL_law_1235 : decode cL_law 1235 = .ok (.istore 7, 2) := by decide +kernel
theorem dL_law_1237 : decode cL_law 1237 = .ok (.iconst 0, 1) := by decide +kernel
theorem dL_law_1238 : decode cL_law 1238 = .ok (.istore 15, 2) := by decide +kernel
theorem dL_law_1240 : decode cL_law 1240 = .ok (.iconst 0, 1) := by decide +kernel
theorem dL_law_1241 : decode cL_law 1241 = .ok (.istore 16, 2) := by decide +kernel
theorem dL_law_1243 : decode cL_law 1243 = .ok (.iload 16, 2) := by decide +kernel
theorem dL_law_1245 : decode cL_law 1245 = .ok (.iload 6, 2) := by decide +kernel
theorem dL_law_1247 : decode cL_law 1247 = .ok (.if_icmp .ge 37, 3) := by decide +kernel
theorem dL_law_1250 : decode cL_law 1250 = .ok (.iload 9, 2) := by decide +kernel
theorem dL_law_1252 : decode cL_law 1252 = .ok (.ifCond .eq 32, 3) := by decide +kernel
theorem dL_law_1255 : decode cL_law 1255 = .ok (.iload 15, 2) := by decide +kernel
theorem dL_law_1257 : decode cL_law 1257 = .ok (.aload_n 1, 1) := by decide +kernel
theorem dL_law_1258 : decode cL_law 1258 = .ok (.iload 16, 2) := by decide +kernel
theorem dL_law_1260 : decode cL_law 1260 = .ok (.invokestatic 124, 3) := by decide +kernel
theorem dL_law_1263 : decode cL_law 1263 = .ok (.ifCond .ne 11, 3) := by decide +kernel
theorem dL_law_1266 : decode cL_law 1266 = .ok (.aload 4, 2) := by decide +kernel
theorem dL_law_1268 : decode cL_law 1268 = .ok (.iload 16, 2) := by decide +kernel
theorem dL_law_1270 : decode cL_law 1270 = .ok (.iaload, 1) := by decide +kernel
theorem dL_law_1271 : decode cL_law 1271 = .ok (.goto 4, 3) := by decide +kernel
theorem dL_law_1274 : decode cL_law 1274 = .ok (.iconst 0, 1) := by decide +kernel
theorem dL_law_1275 : decode cL_law 1275 = .ok (.iadd, 1) := by decide +kernel
theorem dL_law_1276 : decode cL_law 1276 = .ok (.istore 15, 2) := by decide +kernel
theorem dL_law_1278 : decode cL_law 1278 = .ok (.iinc 16 1, 3) := by decide +kernel
theorem dL_law_1281 : decode cL_law 1281 = .ok (.goto (-38), 3) := by decide +kernel
theorem dL_law_1284 : decode cL_law 1284 = .ok (.iload 15, 2) := by decide +kernel
theorem dL_law_1286 : decode cL_law 1286 = .ok (.bipush 15, 2) := by decide +kernel
theorem dL_law_1288 : decode cL_law 1288 = .ok (.imul, 1) := by decide +kernel
theorem dL_law_1289 : decode cL_law 1289 = .ok (.bipush 100, 2) := by decide +kernel
theorem dL_law_1291 : decode cL_law 1291 = .ok (.idiv, 1) := by decide +kernel
theorem dL_law_1292 : decode cL_law 1292 = .ok (.istore 16, 2) := by decide +kernel
theorem dL_law_1294 : decode cL_law 1294 = .ok (.iload 9, 2) := by decide +kernel
theorem dL_law_1296 : decode cL_law 1296 = .ok (.ifCond .eq 46, 3) := by decide +kernel
theorem dL_law_1299 : decode cL_law 1299 = .ok (.aload_n 1, 1) := by decide +kernel
theorem dL_law_1300 : decode cL_law 1300 = .ok (.invokevirtual 132, 3) := by decide +kernel
theorem dL_law_1303 : decode cL_law 1303 = .ok (.iload 7, 2) := by decide +kernel
theorem dL_law_1305 : decode cL_law 1305 = .ok (.if_icmp .ne 37, 3) := by decide +kernel
theorem dL_law_1308 : decode cL_law 1308 = .ok (.aload_n 1, 1) := by decide +kernel
theorem dL_law_1309 : decode cL_law 1309 = .ok (.invokevirtual 135, 3) := by decide +kernel
theorem dL_law_1312 : decode cL_law 1312 = .ok (.iload 15, 2) := by decide +kernel
theorem dL_law_1314 : decode cL_law 1314 = .ok (.if_icmp .ne 28, 3) := by decide +kernel
theorem dL_law_1317 : decode cL_law 1317 = .ok (.aload_n 1, 1) := by decide +kernel
theorem dL_law_1318 : decode cL_law 1318 = .ok (.invokevirtual 138, 3) := by decide +kernel
theorem dL_law_1321 : decode cL_law 1321 = .ok (.iload 16, 2) := by decide +kernel
theorem dL_law_1323 : decode cL_law 1323 = .ok (.iload 7, 2) := by decide +kernel
theorem dL_law_1325 : decode cL_law 1325 = .ok (.if_icmp .ge 8, 3) := by decide +kernel
theorem dL_law_1328 : decode cL_law 1328 = .ok (.iload 16, 2) := by decide +kernel
theorem dL_law_1330 : decode cL_law 1330 = .ok (.goto 5, 3) := by decide +kernel
theorem dL_law_1333 : decode cL_law 1333 = .ok (.iload 7, 2) := by decide +kernel
theorem dL_law_1335 : decode cL_law 1335 = .ok (.if_icmp .ne 7, 3) := by decide +kernel
theorem dL_law_1338 : decode cL_law 1338 = .ok (.iconst 1, 1) := by decide +kernel
theorem dL_law_1339 : decode cL_law 1339 = .ok (.goto 4, 3) := by decide +kernel
theorem dL_law_1342 : decode cL_law 1342 = .ok (.iconst 0, 1) := by decide +kernel
theorem dL_law_1343 : decode cL_law 1343 = .ok (.istore 9, 2) := by decide +kernel
theorem dL_law_1345 : decode cL_law 1345 = .ok (.iconst 0, 1) := by decide +kernel
theorem dL_law_1346 : decode cL_law 1346 = .ok (.istore 17, 2) := by decide +kernel
theorem dL_law_1348 : decode cL_law 1348 = .ok (.iload 17, 2) := by decide +kernel
theorem dL_law_1350 : decode cL_law 1350 = .ok (.iconst 3, 1) := by decide +kernel
theorem dL_law_1351 : decode cL_law 1351 = .ok (.if_icmp .ge 66, 3) := by decide +kernel
theorem dL_law_1354 : decode cL_law 1354 = .ok (.iload 9, 2) := by decide +kernel
theorem dL_law_1356 : decode cL_law 1356 = .ok (.ifCond .eq 61, 3) := by decide +kernel
theorem dL_law_1359 : decode cL_law 1359 = .ok (.aload_n 1, 1) := by decide +kernel
theorem dL_law_1360 : decode cL_law 1360 = .ok (.iload 17, 2) := by decide +kernel
theorem dL_law_1362 : decode cL_law 1362 = .ok (.invokestatic 141, 3) := by decide +kernel
theorem dL_law_1365 : decode cL_law 1365 = .ok (.lconst 0, 1) := by decide +kernel
theorem dL_law_1366 : decode cL_law 1366 = .ok (.lcmp, 1) := by decide +kernel
theorem dL_law_1367 : decode cL_law 1367 = .ok (.ifCond .lt 41, 3) := by decide +kernel
theorem dL_law_1370 : decode cL_law 1370 = .ok (.aload_n 1, 1) := by decide +kernel
theorem dL_law_1371 : decode cL_law 1371 = .ok (.iload 17, 2) := by decide +kernel
theorem dL_law_1373 : decode cL_law 1373 = .ok (.invokestatic 74, 3) := by decide +kernel
theorem dL_law_1376 : decode cL_law 1376 = .ok (.iconst 1, 1) := by decide +kernel
theorem dL_law_1377 : decode cL_law 1377 = .ok (.if_icmp .ne 7, 3) := by decide +kernel
theorem dL_law_1380 : decode cL_law 1380 = .ok (.iconst 1, 1) := by decide +kernel
theorem dL_law_1381 : decode cL_law 1381 = .ok (.goto 4, 3) := by decide +kernel
theorem dL_law_1384 : decode cL_law 1384 = .ok (.iconst 0, 1) := by decide +kernel
theorem dL_law_1385 : decode cL_law 1385 = .ok (.aload_n 1, 1) := by decide +kernel
theorem dL_law_1386 : decode cL_law 1386 = .ok (.iload 17, 2) := by decide +kernel
theorem dL_law_1388 : decode cL_law 1388 = .ok (.invokestatic 141, 3) := by decide +kernel
theorem dL_law_1391 : decode cL_law 1391 = .ok (.lconst 0, 1) := by decide +kernel
theorem dL_law_1392 : decode cL_law 1392 = .ok (.lcmp, 1) := by decide +kernel
theorem dL_law_1393 : decode cL_law 1393 = .ok (.ifCond .ne 7, 3) := by decide +kernel
theorem dL_law_1396 : decode cL_law 1396 = .ok (.iconst 1, 1) := by decide +kernel
theorem dL_law_1397 : decode cL_law 1397 = .ok (.goto 4, 3) := by decide +kernel
theorem dL_law_1400 : decode cL_law 1400 = .ok (.iconst 0, 1) := by decide +kernel
theorem dL_law_1401 : decode cL_law 1401 = .ok (.if_icmp .ne 7, 3) := by decide +kernel
theorem dL_law_1404 : decode cL_law 1404 = .ok (.iconst 1, 1) := by decide +kernel
theorem dL_law_1405 : decode cL_law 1405 = .ok (.goto 4, 3) := by decide +kernel
theorem dL_law_1408 : decode cL_law 1408 = .ok (.iconst 0, 1) := by decide +kernel
theorem dL_law_1409 : decode cL_law 1409 = .ok (.istore 9, 2) := by decide +kernel
theorem dL_law_1411 : decode cL_law 1411 = .ok (.iinc 17 1, 3) := by decide +kernel
theorem dL_law_1414 : decode cL_law 1414 = .ok (.goto (-66), 3) := by decide +kernel
theorem dL_law_1417 : decode cL_law 1417 = .ok (.iload 9, 2) := by decide +kernel
theorem dL_law_1419 : decode cL_law 1419 = .ok (.ifCond .eq 26, 3) := by decide +kernel
theorem dL_law_1422 : decode cL_law 1422 = .ok (.iload 10, 2) := by decide +kernel
theorem dL_law_1424 : decode cL_law 1424 = .ok (.bipush 8, 2) := by decide +kernel
theorem dL_law_1426 : decode cL_law 1426 = .ok (.irem, 1) := by decide +kernel
theorem dL_law_1427 : decode cL_law 1427 = .ok (.bipush 7, 2) := by decide +kernel
theorem dL_law_1429 : decode cL_law 1429 = .ok (.if_icmp .ne 12, 3) := by decide +kernel
theorem dL_law_1432 : decode cL_law 1432 = .ok (.aload_n 1, 1) := by decide +kernel
theorem dL_law_1433 : decode cL_law 1433 = .ok (.iload 5, 2) := by decide +kernel
theorem dL_law_1435 : decode cL_law 1435 = .ok (.invokestatic 144, 3) := by decide +kernel
theorem dL_law_1438 : decode cL_law 1438 = .ok (.ifCond .eq 7, 3) := by decide +kernel
theorem dL_law_1441 : decode cL_law 1441 = .ok (.iconst 1, 1) := by decide +kernel
theorem dL_law_1442 : decode cL_law 1442 = .ok (.goto 4, 3) := by decide +kernel
theorem dL_law_1445 : decode cL_law 1445 = .ok (.iconst 0, 1) := by decide +kernel
theorem dL_law_1446 : decode cL_law 1446 = .ok (.istore 9, 2) := by decide +kernel
theorem dL_law_1448 : decode cL_law 1448 = .ok (.iinc 10 1, 3) := by decide +kernel
theorem dL_law_1451 : decode cL_law 1451 = .ok (.goto (-1393), 3) := by decide +kernel
theorem dL_law_1454 : decode cL_law 1454 = .ok (.iload 9, 2) := by decide +kernel
theorem dL_law_1456 : decode cL_law 1456 = .ok (.ireturn, 1) := by decide +kernel
