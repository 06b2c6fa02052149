theorem dL_law_981 : decode cL_law 981 = .ok (.iload 28, 2) := by decide +kernel
theorem dL_law_983 : decode cL_law 983 = .ok (.iastore, 1) := by decide +kernel
theorem dL_law_984 : decode cL_law 984 = .ok (.aload 4, 2) := by decide +kernel
theorem dL_law_986 : decode cL_law 986 = .ok (.iload 16, 2) := by decide +kernel
theorem dL_law_988 : decode cL_law 988 = .ok (.iload 28, 2) := by decide +kernel
theorem dL_law_990 : decode cL_law 990 = .ok (.iload 29, 2) := by decide +kernel
theorem dL_law_992 : decode cL_law 992 = .ok (.imul, 1) := by decide +kernel
theorem dL_law_993 : decode cL_law 993 = .ok (.iastore, 1) := by decide +kernel
theorem dL_law_994 : decode cL_law 994 = .ok (.goto 1761, 3) := by decide +kernel
theorem dL_law_997 : decode cL_law 997 = .ok (.iload 15, 2) := by decide +kernel
theorem dL_law_999 : decode cL_law 999 = .ok (.ldc 152, 2) := by decide +kernel
theorem dL_law_1001 : decode cL_law 1001 = .ok (.iand, 1) := by decide +kernel
theorem dL_law_1002 : decode cL_law 1002 = .ok (.ifCond .ne 7, 3) := by decide +kernel
theorem dL_law_1005 : decode cL_law 1005 = .ok (.iconst 1, 1) := by decide +kernel
theorem dL_law_1006 : decode cL_law 1006 = .ok (.goto 4, 3) := by decide +kernel
theorem dL_law_1009 : decode cL_law 1009 = .ok (.iconst 0, 1) := by decide +kernel
theorem dL_law_1010 : decode cL_law 1010 = .ok (.istore 31, 2) := by decide +kernel
theorem dL_law_1012 : decode cL_law 1012 = .ok (.iload 19, 2) := by decide +kernel
theorem dL_law_1014 : decode cL_law 1014 = .ok (.ifCond .ne 28, 3) := by decide +kernel
theorem dL_law_1017 : decode cL_law 1017 = .ok (.aload_n 1, 1) := by decide +kernel
theorem dL_law_1018 : decode cL_law 1018 = .ok (.iload 16, 2) := by decide +kernel
theorem dL_law_1020 : decode cL_law 1020 = .ok (.iload 18, 2) := by decide +kernel
theorem dL_law_1022 : decode cL_law 1022 = .ok (.iload 31, 2) := by decide +kernel
theorem dL_law_1024 : decode cL_law 1024 = .ok (.invokestatic 153, 3) := by decide +kernel
theorem dL_law_1027 : decode cL_law 1027 = .ok (.ldc 22, 2) := by decide +kernel
theorem dL_law_1029 : decode cL_law 1029 = .ok (.if_icmp .ne 7, 3) := by decide +kernel
theorem dL_law_1032 : decode cL_law 1032 = .ok (.iconst 1, 1) := by decide +kernel
theorem dL_law_1033 : decode cL_law 1033 = .ok (.goto 4, 3) := by decide +kernel
theorem dL_law_1036 : decode cL_law 1036 = .ok (.iconst 0, 1) := by decide +kernel
theorem dL_law_1037 : decode cL_law 1037 = .ok (.istore 20, 2) := by decide +kernel
theorem dL_law_1039 : decode cL_law 1039 = .ok (.goto 1716, 3) := by decide +kernel
theorem dL_law_1042 : decode cL_law 1042 = .ok (.iload 16, 2) := by decide +kernel
theorem dL_law_1044 : decode cL_law 1044 = .ok (.iload 18, 2) := by decide +kernel
theorem dL_law_1046 : decode cL_law 1046 = .ok (.aload_n 3, 1) := by decide +kernel
theorem dL_law_1047 : decode cL_law 1047 = .ok (.aload 4, 2) := by decide +kernel
theorem dL_law_1049 : decode cL_law 1049 = .ok (.invokestatic 144, 3) := by decide +kernel
theorem dL_law_1052 : decode cL_law 1052 = .ok (.istore 32, 2) := by decide +kernel
theorem dL_law_1054 : decode cL_law 1054 = .ok (.aload 6, 2) := by decide +kernel
theorem dL_law_1056 : decode cL_law 1056 = .ok (.bipush 12, 2) := by decide +kernel
theorem dL_law_1058 : decode cL_law 1058 = .ok (.dup2, 1) := by decide +kernel
theorem dL_law_1059 : decode cL_law 1059 = .ok (.iaload, 1) := by decide +kernel
theorem dL_law_1060 : decode cL_law 1060 = .ok (.iload 31, 2) := by decide +kernel
theorem dL_law_1062 : decode cL_law 1062 = .ok (.ifCond .eq 8, 3) := by decide +kernel
theorem dL_law_1065 : decode cL_law 1065 = .ok (.iload 32, 2) := by decide +kernel
theorem dL_law_1067 : decode cL_law 1067 = .ok (.goto 4, 3) := by decide +kernel
theorem dL_law_1070 : decode cL_law 1070 = .ok (.iconst 0, 1) := by decide +kernel
theorem dL_law_1071 : decode cL_law 1071 = .ok (.iadd, 1) := by decide +kernel
theorem dL_law_1072 : decode cL_law 1072 = .ok (.iastore, 1) := by decide +kernel
theorem dL_law_1073 : decode cL_law 1073 = .ok (.aload_n 1, 1) := by decide +kernel
theorem dL_law_1074 : decode cL_law 1074 = .ok (.iload 16, 2) := by decide +kernel
theorem dL_law_1076 : decode cL_law 1076 = .ok (.iload 18, 2) := by decide +kernel
theorem dL_law_1078 : decode cL_law 1078 = .ok (.iload 31, 2) := by decide +kernel
theorem dL_law_1080 : decode cL_law 1080 = .ok (.invokestatic 153, 3) := by decide +kernel
theorem dL_law_1083 : decode cL_law 1083 = .ok (.iload 31, 2) := by decide +kernel
theorem dL_law_1085 : decode cL_law 1085 = .ok (.ifCond .eq 7, 3) := by decide +kernel
theorem dL_law_1088 : decode cL_law 1088 = .ok (.iconst 0, 1) := by decide +kernel
theorem dL_law_1089 : decode cL_law 1089 = .ok (.goto 10, 3) := by decide +kernel
theorem dL_law_1092 : decode cL_law 1092 = .ok (.iload 32, 2) := by decide +kernel
theorem dL_law_1094 : decode cL_law 1094 = .ok (.aload 6, 2) := by decide +kernel
theorem dL_law_1096 : decode cL_law 1096 = .ok (.invokestatic 98, 3) := by decide +kernel
theorem dL_law_1099 : decode cL_law 1099 = .ok (.if_icmp .ne 7, 3) := by decide +kernel
theorem dL_law_1102 : decode cL_law 1102 = .ok (.iconst 1, 1) := by decide +kernel
theorem dL_law_1103 : decode cL_law 1103 = .ok (.goto 4, 3) := by decide +kernel
theorem dL_law_1106 : decode cL_law 1106 = .ok (.iconst 0, 1) := by decide +kernel
theorem dL_law_1107 : decode cL_law 1107 = .ok (.istore 20, 2) := by decide +kernel
theorem dL_law_1109 : decode cL_law 1109 = .ok (.goto 1646, 3) := by decide +kernel
theorem dL_law_1112 : decode cL_law 1112 = .ok (.aload 6, 2) := by decide +kernel
theorem dL_law_1114 : decode cL_law 1114 = .ok (.bipush 9, 2) := by decide +kernel
theorem dL_law_1116 : decode cL_law 1116 = .ok (.iaload, 1) := by decide +kernel
theorem dL_law_1117 : decode cL_law 1117 = .ok (.bipush 40, 2) := by decide +kernel
theorem dL_law_1119 : decode cL_law 1119 = .ok (.if_icmp .ne 6, 3) := by decide +kernel
theorem dL_law_1122 : decode cL_law 1122 = .ok (.goto 1633, 3) := by decide +kernel
theorem dL_law_1125 : decode cL_law 1125 = .ok (.iload 19, 2) := by decide +kernel
theorem dL_law_1127 : decode cL_law 1127 = .ok (.ifCond .eq 20, 3) := by decide +kernel
theorem dL_law_1130 : decode cL_law 1130 = .ok (.aload 4, 2) := by decide +kernel
theorem dL_law_1132 : decode cL_law 1132 = .ok (.iload 16, 2) := by decide +kernel
theorem dL_law_1134 : decode cL_law 1134 = .ok (.iaload, 1) := by decide +kernel
theorem dL_law_1135 : decode cL_law 1135 = .ok (.iload 18, 2) := by decide +kernel
theorem dL_law_1137 : decode cL_law 1137 = .ok (.aload_n 3, 1) := by decide +kernel
theorem dL_law_1138 : decode cL_law 1138 = .ok (.iload 16, 2) := by decide +kernel
theorem dL_law_1140 : decode cL_law 1140 = .ok (.iaload, 1) := by decide +kernel
theorem dL_law_1141 : decode cL_law 1141 = .ok (.invokestatic 94, 3) := by decide +kernel
theorem dL_law_1144 : decode cL_law 1144 = .ok (.goto 4, 3) := by decide +kernel
theorem dL_law_1147 : decode cL_law 1147 = .ok (.iconst 0, 1) := by decide +kernel
theorem dL_law_1148 : decode cL_law 1148 = .ok (.istore 33, 2) := by decide +kernel
theorem dL_law_1150 : decode cL_law 1150 = .ok (.iload 19, 2) := by decide +kernel
theorem dL_law_1152 : decode cL_law 1152 = .ok (.ifCond .eq 20, 3) := by decide +kernel
theorem dL_law_1155 : decode cL_law 1155 = .ok (.aload 6, 2) := by decide +kernel
theorem dL_law_1157 : decode cL_law 1157 = .ok (.iconst 3, 1) := by decide +kernel
theorem dL_law_1158 : decode cL_law 1158 = .ok (.iaload, 1) := by decide +kernel
theorem dL_law_1159 : decode cL_law 1159 = .ok (.iconst (-1), 1) := by decide +kernel
theorem dL_law_1160 : decode cL_law 1160 = .ok (.if_icmp .eq 35, 3) := by decide +kernel
theorem dL_law_1163 : decode cL_law 1163 = .ok (.iload 33, 2) := by decide +kernel
theorem dL_law_1165 : decode cL_law 1165 = .ok (.aload 6, 2) := by decide +kernel
theorem dL_law_1167 : decode cL_law 1167 = .ok (.iconst 5, 1) := by decide +kernel
theorem dL_law_1168 : decode cL_law 1168 = .ok (.iaload, 1) := by decide +kernel
theorem dL_law_1169 : decode cL_law 1169 = .ok (.if_icmp .le 26, 3) := by decide +kernel
theorem dL_law_1172 : decode cL_law 1172 = .ok (.aload_n 1, 1) := by decide +kernel
theorem dL_law_1173 : decode cL_law 1173 = .ok (.iload 16, 2) := by decide +kernel
theorem dL_law_1175 : decode cL_law 1175 = .ok (.iload 18, 2) := by decide +kernel
theorem dL_law_1177 : decode cL_law 1177 = .ok (.invokestatic 156, 3) := by decide +kernel
theorem dL_law_1180 : decode cL_law 1180 = .ok (.ldc 22, 2) := by decide +kernel
theorem dL_law_1182 : decode cL_law 1182 = .ok (.if_icmp .ne 7, 3) := by decide +kernel
theorem dL_law_1185 : decode cL_law 1185 = .ok (.iconst 1, 1) := by decide +kernel
theorem dL_law_1186 : decode cL_law 1186 = .ok (.goto 4, 3) := by decide +kernel
theorem dL_law_1189 : decode cL_law 1189 = .ok (.iconst 0, 1) := by decide +kernel
theorem dL_law_1190 : decode cL_law 1190 = .ok (.istore 20, 2) := by decide +kernel
theorem dL_law_1192 : decode cL_law 1192 = .ok (.goto 1563, 3) := by decide +kernel
theorem dL_law_1195 : decode cL_law 1195 = .ok (.iload 16, 2) := by decide +kernel
theorem dL_law_1197 : decode cL_law 1197 = .ok (.iload 18, 2) := by decide +kernel
theorem dL_law_1199 : decode cL_law 1199 = .ok (.aload_n 3, 1) := by decide +kernel
theorem dL_law_1200 : decode cL_law 1200 = .ok (.aload 4, 2) := by decide +kernel
theorem dL_law_1202 : decode cL_law 1202 = .ok (.invokestatic 144, 3) := by decide +kernel
theorem dL_law_1205 : decode cL_law 1205 = .ok (.pop, 1) := by decide +kernel
theorem dL_law_1206 : decode cL_law 1206 = .ok (.aload 6, 2) := by decide +kernel
theorem dL_law_1208 : decode cL_law 1208 = .ok (.iconst 3, 1) := by decide +kernel
theorem dL_law_1209 : decode cL_law 1209 = .ok (.iaload, 1) := by decide +kernel
theorem dL_law_1210 : decode cL_law 1210 = .ok (.iconst (-1), 1) := by decide +kernel
theorem dL_law_1211 : decode cL_law 1211 = .ok (.if_icmp .eq 12, 3) := by decide +kernel
theorem dL_law_1214 : decode cL_law 1214 = .ok (.aload 6, 2) := by decide +kernel
theorem dL_law_1216 : decode cL_law 1216 = .ok (.iconst 5, 1) := by decide +kernel
theorem dL_law_1217 : decode cL_law 1217 = .ok (.dup2, 1) := by decide +kernel
theorem dL_law_1218 : decode cL_law 1218 = .ok (.iaload, 1) := by decide +kernel
theorem dL_law_1219 : decode cL_law 1219 = .ok (.iload 33, 2) := by decide +kernel
theorem dL_law_1221 : decode cL_law 1221 = .ok (.isub, 1) := by decide +kernel
theorem dL_law_1222 : decode cL_law 1222 = .ok (.iastore, 1) := by decide +kernel
theorem dL_law_1223 : decode cL_law 1223 = .ok (.ldc 119, 2) := by decide +kernel
theorem dL_law_1225 : decode cL_law 1225 = .ok (.aload 6, 2) := by decide +kernel
theorem dL_law_1227 : decode cL_law 1227 = .ok (.bipush 6, 2) := by decide +kernel
theorem dL_law_1229 : decode cL_law 1229 = .ok (.iaload, 1) := by decide +kernel
theorem dL_law_1230 : decode cL_law 1230 = .ok (.isub, 1) := by decide +kernel
theorem dL_law_1231 : decode cL_law 1231 = .ok (.iload 33, 2) := by decide +kernel
theorem dL_law_1233 : decode cL_law 1233 = .ok (.if_icmp .ge 14, 3) := by decide +kernel
theorem dL_law_1236 : decode cL_law 1236 = .ok (.ldc 119, 2) := by decide +kernel
theorem dL_law_1238 : decode cL_law 1238 = .ok (.aload 6, 2) := by decide +kernel
theorem dL_law_1240 : decode cL_law 1240 = .ok (.bipush 6, 2) := by decide +kernel
theorem dL_law_1242 : decode cL_law 1242 = .ok (.iaload, 1) := by decide +kernel
theorem dL_law_1243 : decode cL_law 1243 = .ok (.isub, 1) := by decide +kernel
theorem dL_law_1244 : decode cL_law 1244 = .ok (.goto 5, 3) := by decide +kernel
theorem dL_law_1247 : decode cL_law 1247 = .ok (.iload 33, 2) := by decide +kernel
theorem dL_law_1249 : decode cL_law 1249 = .ok (.istore 34, 2) := by decide +kernel
theorem dL_law_1251 : decode cL_law 1251 = .ok (.aload 6, 2) := by decide +kernel
theorem dL_law_1253 : decode cL_law 1253 = .ok (.bipush 6, 2) := by decide +kernel
theorem dL_law_1255 : decode cL_law 1255 = .ok (.dup2, 1) := by decide +kernel
theorem dL_law_1256 : decode cL_law 1256 = .ok (.iaload, 1) := by decide +kernel
theorem dL_law_1257 : decode cL_law 1257 = .ok (.iload 34, 2) := by decide +kernel
theorem dL_law_1259 : decode cL_law 1259 = .ok (.iadd, 1) := by decide +kernel
theorem dL_law_1260 : decode cL_law 1260 = .ok (.iastore, 1) := by decide +kernel
theorem dL_law_1261 : decode cL_law 1261 = .ok (.aload 7, 2) := by decide +kernel
theorem dL_law_1263 : decode cL_law 1263 = .ok (.aload 6, 2) := by decide +kernel
theorem dL_law_1265 : decode cL_law 1265 = .ok (.bipush 9, 2) := by decide +kernel
theorem dL_law_1267 : decode cL_law 1267 = .ok (.iaload, 1) := by decide +kernel
theorem dL_law_1268 : decode cL_law 1268 = .ok (.iload 33, 2) := by decide +kernel
theorem dL_law_1270 : decode cL_law 1270 = .ok (.iastore, 1) := by decide +kernel
theorem dL_law_1271 : decode cL_law 1271 = .ok (.aload 8, 2) := by decide +kernel
theorem dL_law_1273 : decode cL_law 1273 = .ok (.aload 6, 2) := by decide +kernel
theorem dL_law_1275 : decode cL_law 1275 = .ok (.bipush 9, 2) := by decide +kernel
theorem dL_law_1277 : decode cL_law 1277 = .ok (.iaload, 1) := by decide +kernel
theorem dL_law_1278 : decode cL_law 1278 = .ok (.iload 34, 2) := by decide +kernel
theorem dL_law_1280 : decode cL_law 1280 = .ok (.aload 6, 2) := by decide +kernel
theorem dL_law_1282 : decode cL_law 1282 = .ok (.iconst 1, 1) := by decide +kernel
theorem dL_law_1283 : decode cL_law 1283 = .ok (.iaload, 1) := by decide +kernel
theorem dL_law_1284 : decode cL_law 1284 = .ok (.iconst 2, 1) := by decide +kernel
theorem dL_law_1285 : decode cL_law 1285 = .ok (.idiv, 1) := by decide +kernel
theorem dL_law_1286 : decode cL_law 1286 = .ok (.sipush 1000, 3) := by decide +kernel
theorem dL_law_1289 : decode cL_law 1289 = .ok (.invokestatic 94, 3) := by decide +kernel
theorem dL_law_1292 : decode cL_law 1292 = .ok (.iload 33, 2) := by decide +kernel
theorem dL_law_1294 : decode cL_law 1294 = .ok (.iload 34, 2) := by decide +kernel
theorem dL_law_1296 : decode cL_law 1296 = .ok (.isub, 1) := by decide +kernel
theorem dL_law_1297 : decode cL_law 1297 = .ok (.aload 6, 2) := by decide +kernel
theorem dL_law_1299 : decode cL_law 1299 = .ok (.iconst 1, 1) := by decide +kernel
theorem dL_law_1300 : decode cL_law 1300 = .ok (.iaload, 1) := by decide +kernel
theorem dL_law_1301 : decode cL_law 1301 = .ok (.sipush 1000, 3) := by decide +kernel
theorem dL_law_1304 : decode cL_law 1304 = .ok (.invokestatic 94, 3) := by decide +kernel
theorem dL_law_1307 : decode cL_law 1307 = .ok (.iadd, 1) := by decide +kernel
theorem dL_law_1308 : decode cL_law 1308 = .ok (.iastore, 1) := by decide +kernel
theorem dL_law_1309 : decode cL_law 1309 = .ok (.aload 6, 2) := by decide +kernel
theorem dL_law_1311 : decode cL_law 1311 = .ok (.iconst 2, 1) := by decide +kernel
theorem dL_law_1312 : decode cL_law 1312 = .ok (.dup2, 1) := by decide +kernel
theorem dL_law_1313 : decode cL_law 1313 = .ok (.iaload, 1) := by decide +kernel
theorem dL_law_1314 : decode cL_law 1314 = .ok (.aload 8, 2) := by decide +kernel
theorem dL_law_1316 : decode cL_law 1316 = .ok (.aload 6, 2) := by decide +kernel
theorem dL_law_1318 : decode cL_law 1318 = .ok (.bipush 9, 2) := by decide +kernel
theorem dL_law_1320 : decode cL_law 1320 = .ok (.iaload, 1) := by decide +kernel
theorem dL_law_1321 : decode cL_law 1321 = .ok (.iaload, 1) := by decide +kernel
theorem dL_law_1322 : decode cL_law 1322 = .ok (.iadd, 1) := by decide +kernel
theorem dL_law_1323 : decode cL_law 1323 = .ok (.iastore, 1) := by decide +kernel
theorem dL_law_1324 : decode cL_law 1324 = .ok (.aload_n 1, 1) := by decide +kernel
theorem dL_law_1325 : decode cL_law 1325 = .ok (.iload 16, 2) := by decide +kernel
theorem dL_law_1327 : decode cL_law 1327 = .ok (.iload 18, 2) := by decide +kernel
theorem dL_law_1329 : decode cL_law 1329 = .ok (.invokestatic 156, 3) := by decide +kernel
theorem dL_law_1332 : decode cL_law 1332 = .ok (.aload 8, 2) := by decide +kernel
theorem dL_law_1334 : decode cL_law 1334 = .ok (.aload 6, 2) := by decide +kernel
theorem dL_law_1336 : decode cL_law 1336 = .ok (.bipush 9, 2) := by decide +kernel
theorem dL_law_1338 : decode cL_law 1338 = .ok (.iaload, 1) := by decide +kernel
theorem dL_law_1339 : decode cL_law 1339 = .ok (.iaload, 1) := by decide +kernel
theorem dL_law_1340 : decode cL_law 1340 = .ok (.if_icmp .ne 7, 3) := by decide +kernel
theorem dL_law_1343 : decode cL_law 1343 = .ok (.iconst 1, 1) := by decide +kernel
theorem dL_law_1344 : decode cL_law 1344 = .ok (.goto 4, 3) := by decide +kernel
theorem dL_law_1347 : decode cL_law 1347 = .ok (.iconst 0, 1) := by decide +kernel
theorem dL_law_1348 : decode cL_law 1348 = .ok (.istore 20, 2) := by decide +kernel
theorem dL_law_1350 : decode cL_law 1350 = .ok (.aload 6, 2) := by decide +kernel
theorem dL_law_1352 : decode cL_law 1352 = .ok (.bipush 9, 2) := by decide +kernel
theorem dL_law_1354 : decode cL_law 1354 = .ok (.dup2, 1) := by decide +kernel
theorem dL_law_1355 : decode cL_law 1355 = .ok (.iaload, 1) := by decide +kernel
theorem dL_law_1356 : decode cL_law 1356 = .ok (.iconst 1, 1) := by decide +kernel
theorem dL_law_1357 : decode cL_law 1357 = .ok (.iadd, 1) := by decide +kernel
theorem dL_law_1358 : decode cL_law 1358 = .ok (.iastore, 1) := by decide +kernel
theorem dL_law_1359 : decode cL_law 1359 = .ok (.goto 1396, 3) := by decide +kernel
theorem dL_law_1362 : decode cL_law 1362 = .ok (.iload 15, 2) := by decide +kernel
theorem dL_law_1364 : decode cL_law 1364 = .ok (.iconst 1, 1) := by decide +kernel
theorem dL_law_1365 : decode cL_law 1365 = .ok (.iand, 1) := by decide +kernel
theorem dL_law_1366 : decode cL_law 1366 = .ok (.ifCond .ne 48, 3) := by decide +kernel
theorem dL_law_1369 : decode cL_law 1369 = .ok (.aload_n 1, 1) := by decide +kernel
theorem dL_law_1370 : decode cL_law 1370 = .ok (.iload 15, 2) := by decide +kernel
theorem dL_law_1372 : decode cL_law 1372 = .ok (.iconst 1, 1) := by decide +kernel
theorem dL_law_1373 : decode cL_law 1373 = .ok (.ishr, 1) := by decide +kernel
theorem dL_law_1374 : decode cL_law 1374 = .ok (.ldc 158, 2) := by decide +kernel
theorem dL_law_1376 : decode cL_law 1376 = .ok (.invokestatic 129, 3) := by decide +kernel
theorem dL_law_1379 : decode cL_law 1379 = .ok (.invokestatic 159, 3) := by decide +kernel
theorem dL_law_1382 : decode cL_law 1382 = .ok (.aload 6, 2) := by decide +kernel
theorem dL_law_1384 : decode cL_law 1384 = .ok (.bipush 7, 2) := by decide +kernel
theorem dL_law_1386 : decode cL_law 1386 = .ok (.iaload, 1) := by decide +kernel
theorem dL_law_1387 : decode cL_law 1387 = .ok (.if_icmp .ne 7, 3) := by decide +kernel
theorem dL_law_1390 : decode cL_law 1390 = .ok (.iconst 1, 1) := by decide +kernel
theorem dL_law_1391 : decode cL_law 1391 = .ok (.goto 4, 3) := by decide +kernel
theorem dL_law_1394 : decode cL_law 1394 = .ok (.iconst 0, 1) := by decide +kernel
theorem dL_law_1395 : decode cL_law 1395 = .ok (.istore 20, 2) := by decide +kernel
theorem dL_law_1397 : decode cL_law 1397 = .ok (.aload 6, 2) := by decide +kernel
theorem dL_law_1399 : decode cL_law 1399 = .ok (.bipush 7, 2) := by decide +kernel
theorem dL_law_1401 : decode cL_law 1401 = .ok (.iload 15, 2) := by decide +kernel
theorem dL_law_1403 : decode cL_law 1403 = .ok (.iconst 1, 1) := by decide +kernel
theorem dL_law_1404 : decode cL_law 1404 = .ok (.ishr, 1) := by decide +kernel
theorem dL_law_1405 : decode cL_law 1405 = .ok (.ldc 158, 2) := by decide +kernel
theorem dL_law_1407 : decode cL_law 1407 = .ok (.invokestatic 129, 3) := by decide +kernel
theorem dL_law_1410 : decode cL_law 1410 = .ok (.iastore, 1) := by decide +kernel
theorem dL_law_1411 : decode cL_law 1411 = .ok (.goto 1344, 3) := by decide +kernel
theorem dL_law_1414 : decode cL_law 1414 = .ok (.iload 19, 2) := by decide +kernel
theorem dL_law_1416 : decode cL_law 1416 = .ok (.ifCond .eq 20, 3) := by decide +kernel
theorem dL_law_1419 : decode cL_law 1419 = .ok (.aload 4, 2) := by decide +kernel
theorem dL_law_1421 : decode cL_law 1421 = .ok (.iload 16, 2) := by decide +kernel
theorem dL_law_1423 : decode cL_law 1423 = .ok (.iaload, 1) := by decide +kernel
theorem dL_law_1424 : decode cL_law 1424 = .ok (.iload 18, 2) := by decide +kernel
theorem dL_law_1426 : decode cL_law 1426 = .ok (.aload_n 3, 1) := by decide +kernel
theorem dL_law_1427 : decode cL_law 1427 = .ok (.iload 16, 2) := by decide +kernel
theorem dL_law_1429 : decode cL_law 1429 = .ok (.iaload, 1) := by decide +kernel
theorem dL_law_1430 : decode cL_law 1430 = .ok (.invokestatic 94, 3) := by decide +kernel
theorem dL_law_1433 : decode cL_law 1433 = .ok (.goto 4, 3) := by decide +kernel
theorem dL_law_1436 : decode cL_law 1436 = .ok (.iconst 0, 1) := by decide +kernel
theorem dL_law_1437 : decode cL_law 1437 = .ok (.istore 35, 2) := by decide +kernel
theorem dL_law_1439 : decode cL_law 1439 = .ok (.iload 19, 2) := by decide +kernel
theorem dL_law_1441 : decode cL_law 1441 = .ok (.ifCond .eq 17, 3) := by decide +kernel
theorem dL_law_1444 : decode cL_law 1444 = .ok (.iload 35, 2) := by decide +kernel
theorem dL_law_1446 : decode cL_law 1446 = .ok (.aload 6, 2) := by decide +kernel
theorem dL_law_1448 : decode cL_law 1448 = .ok (.bipush 7, 2) := by decide +kernel
theorem dL_law_1450 : decode cL_law 1450 = .ok (.iaload, 1) := by decide +kernel
theorem dL_law_1451 : decode cL_law 1451 = .ok (.if_icmp .gt 7, 3) := by decide +kernel
theorem dL_law_1454 : decode cL_law 1454 = .ok (.iconst 1, 1) := by decide +kernel
theorem dL_law_1455 : decode cL_law 1455 = .ok (.goto 4, 3) := by decide +kernel
theorem dL_law_1458 : decode cL_law 1458 = .ok (.iconst 0, 1) := by decide +kernel
theorem dL_law_1459 : decode cL_law 1459 = .ok (.istore 36, 2) := by decide +kernel
theorem dL_law_1461 : decode cL_law 1461 = .ok (.aload_n 1, 1) := by decide +kernel
theorem dL_law_1462 : decode cL_law 1462 = .ok (.iload 16, 2) := by decide +kernel
theorem dL_law_1464 : decode cL_law 1464 = .ok (.iload 18, 2) := by decide +kernel
theorem dL_law_1466 : decode cL_law 1466 = .ok (.invokestatic 161, 3) := by decide +kernel
theorem dL_law_1469 : decode cL_law 1469 = .ok (.iload 36, 2) := by decide +kernel
theorem dL_law_1471 : decode cL_law 1471 = .ok (.ifCond .eq 8, 3) := by decide +kernel
theorem dL_law_1474 : decode cL_law 1474 = .ok (.iload 35, 2) := by decide +kernel
theorem dL_law_1476 : decode cL_law 1476 = .ok (.goto 5, 3) := by decide +kernel
theorem dL_law_1479 : decode cL_law 1479 = .ok (.ldc 22, 2) := by decide +kernel
theorem dL_law_1481 : decode cL_law 1481 = .ok (.if_icmp .ne 7, 3) := by decide +kernel
theorem dL_law_1484 : decode cL_law 1484 = .ok (.iconst 1, 1) := by decide +kernel
theorem dL_law_1485 : decode cL_law 1485 = .ok (.goto 4, 3) := by decide +kernel
theorem dL_law_1488 : decode cL_law 1488 = .ok (.iconst 0, 1) := by decide +kernel
theorem dL_law_1489 : decode cL_law 1489 = .ok (.istore 20, 2) := by decide +kernel
theorem dL_law_1491 : decode cL_law 1491 = .ok (.iload 36, 2) := by decide +kernel
theorem dL_law_1493 : decode cL_law 1493 = .ok (.ifCond .ne 6, 3) := by decide +kernel
theorem dL_law_1496 : decode cL_law 1496 = .ok (.goto 1259, 3) := by decide +kernel
theorem dL_law_1499 : decode cL_law 1499 = .ok (.iload 16, 2) := by decide +kernel
theorem dL_law_1501 : decode cL_law 1501 = .ok (.iload 18, 2) := by decide +kernel
theorem dL_law_1503 : decode cL_law 1503 = .ok (.aload_n 3, 1) := by decide +kernel
theorem dL_law_1504 : decode cL_law 1504 = .ok (.aload 4, 2) := by decide +kernel
theorem dL_law_1506 : decode cL_law 1506 = .ok (.invokestatic 144, 3) := by decide +kernel
theorem dL_law_1509 : decode cL_law 1509 = .ok (.pop, 1) := by decide +kernel
theorem dL_law_1510 : decode cL_law 1510 = .ok (.aload 6, 2) := by decide +kernel
theorem dL_law_1512 : decode cL_law 1512 = .ok (.bipush 7, 2) := by decide +kernel
theorem dL_law_1514 : decode cL_law 1514 = .ok (.dup2, 1) := by decide +kernel
theorem dL_law_1515 : decode cL_law 1515 = .ok (.iaload, 1) := by decide +kernel
theorem dL_law_1516 : decode cL_law 1516 = .ok (.iload 35, 2) := by decide +kernel
theorem dL_law_1518 : decode cL_law 1518 = .ok (.isub, 1) := by decide +kernel
theorem dL_law_1519 : decode cL_law 1519 = .ok (.iastore, 1) := by decide +kernel
theorem dL_law_1520 : decode cL_law 1520 = .ok (.aload 6, 2) := by decide +kernel
theorem dL_law_1522 : decode cL_law 1522 = .ok (.bipush 12, 2) := by decide +kernel
theorem dL_law_1524 : decode cL_law 1524 = .ok (.dup2, 1) := by decide +kernel
theorem dL_law_1525 : decode cL_law 1525 = .ok (.iaload, 1) := by decide +kernel
theorem dL_law_1526 : decode cL_law 1526 = .ok (.iload 35, 2) := by decide +kernel
theorem dL_law_1528 : decode cL_law 1528 = .ok (.iadd, 1) := by decide +kernel
theorem dL_law_1529 : decode cL_law 1529 = .ok (.iastore, 1) := by decide +kernel
theorem dL_law_1530 : decode cL_law 1530 = .ok (.goto 1225, 3) := by decide +kernel
theorem dL_law_1533 : decode cL_law 1533 = .ok (.iconst 0, 1) := by decide +kernel
theorem dL_law_1534 : decode cL_law 1534 = .ok (.istore 37, 2) := by decide +kernel
theorem dL_law_1536 : decode cL_law 1536 = .ok (.iconst 0, 1) := by decide +kernel
theorem dL_law_1537 : decode cL_law 1537 = .ok (.istore 38, 2) := by decide +kernel
theorem dL_law_1539 : decode cL_law 1539 = .ok (.iload 38, 2) := by decide +kernel
theorem dL_law_1541 : decode cL_law 1541 = .ok (.aload 6, 2) := by decide +kernel
theorem dL_law_1543 : decode cL_law 1543 = .ok (.bipush 9, 2) := by decide +kernel
theorem dL_law_1545 : decode cL_law 1545 = .ok (.iaload, 1) := by decide +kernel
theorem dL_law_1546 : decode cL_law 1546 = .ok (.if_icmp .ge 19, 3) := by decide +kernel
theorem dL_law_1549 : decode cL_law 1549 = .ok (.iload 37, 2) := by decide +kernel
theorem dL_law_1551 : decode cL_law 1551 = .ok (.aload 7, 2) := by decide +kernel
theorem dL_law_1553 : decode cL_law 1553 = .ok (.iload 38, 2) := by decide +kernel
theorem dL_law_1555 : decode cL_law 1555 = .ok (.iaload, 1) := by decide +kernel
theorem dL_law_1556 : decode cL_law 1556 = .ok (.iadd, 1) := by decide +kernel
theorem dL_law_1557 : decode cL_law 1557 = .ok (.istore 37, 2) := by decide +kernel
theorem dL_law_1559 : decode cL_law 1559 = .ok (.iinc 38 1, 3) := by decide +kernel
theorem dL_law_1562 : decode cL_law 1562 = .ok (.goto (-23), 3) := by decide +kernel
theorem dL_law_1565 : decode cL_law 1565 = .ok (.iconst 1, 1) := by decide +kernel
theorem dL_law_1566 : decode cL_law 1566 = .ok (.iload 15, 2) := by decide +kernel
theorem dL_law_1568 : decode cL_law 1568 = .ok (.iload 37, 2) := by decide +kernel
theorem dL_law_1570 : decode cL_law 1570 = .ok (.iconst 2, 1) := by decide +kernel
theorem dL_law_1571 : decode cL_law 1571 = .ok (.idiv, 1) := by decide +kernel
theorem dL_law_1572 : decode cL_law 1572 = .ok (.iconst 2, 1) := by decide +kernel
theorem dL_law_1573 : decode cL_law 1573 = .ok (.iadd, 1) := by decide +kernel
theorem dL_law_1574 : decode cL_law 1574 = .ok (.invokestatic 129, 3) := by decide +kernel
theorem dL_law_1577 : decode cL_law 1577 = .ok (.iadd, 1) := by decide +kernel
theorem dL_law_1578 : decode cL_law 1578 = .ok (.istore 38, 2) := by decide +kernel
theorem dL_law_1580 : decode cL_law 1580 = .ok (.iload 38, 2) := by decide +kernel
theorem dL_law_1582 : decode cL_law 1582 = .ok (.iload 37, 2) := by decide +kernel
theorem dL_law_1584 : decode cL_law 1584 = .ok (.if_icmp .le 24, 3) := by decide +kernel
theorem dL_law_1587 : decode cL_law 1587 = .ok (.aload_n 1, 1) := by decide +kernel
theorem dL_law_1588 : decode cL_law 1588 = .ok (.iload 38, 2) := by decide +kernel
theorem dL_law_1590 : decode cL_law 1590 = .ok (.invokestatic 163, 3) := by decide +kernel
theorem dL_law_1593 : decode cL_law 1593 = .ok (.ldc 22, 2) := by decide +kernel
theorem dL_law_1595 : decode cL_law 1595 = .ok (.if_icmp .ne 7, 3) := by decide +kernel
theorem dL_law_1598 : decode cL_law 1598 = .ok (.iconst 1, 1) := by decide +kernel
theorem dL_law_1599 : decode cL_law 1599 = .ok (.goto 4, 3) := by decide +kernel
theorem dL_law_1602 : decode cL_law 1602 = .ok (.iconst 0, 1) := by decide +kernel
theorem dL_law_1603 : decode cL_law 1603 = .ok (.istore 20, 2) := by decide +kernel
theorem dL_law_1605 : decode cL_law 1605 = .ok (.goto 1150, 3) := by decide +kernel
theorem dL_law_1608 : decode cL_law 1608 = .ok (.iconst 0, 1) := by decide +kernel
theorem dL_law_1609 : decode cL_law 1609 = .ok (.istore 39, 2) := by decide +kernel
theorem dL_law_1611 : decode cL_law 1611 = .ok (.iload 38, 2) := by decide +kernel
theorem dL_law_1613 : decode cL_law 1613 = .ok (.istore 40, 2) := by decide +kernel
theorem dL_law_1615 : decode cL_law 1615 = .ok (.iconst 0, 1) := by decide +kernel
theorem dL_law_1616 : decode cL_law 1616 = .ok (.istore 41, 2) := by decide +kernel
theorem dL_law_1618 : decode cL_law 1618 = .ok (.iload 40, 2) := by decide +kernel
theorem dL_law_1620 : decode cL_law 1620 = .ok (.ifCond .le 93, 3) := by decide +kernel
theorem dL_law_1623 : decode cL_law 1623 = .ok (.aload 7, 2) := by decide +kernel
theorem dL_law_1625 : decode cL_law 1625 = .ok (.iload 41, 2) := by decide +kernel
theorem dL_law_1627 : decode cL_law 1627 = .ok (.iaload, 1) := by decide +kernel
theorem dL_law_1628 : decode cL_law 1628 = .ok (.ifCond .ne 6, 3) := by decide +kernel
theorem dL_law_1631 : decode cL_law 1631 = .ok (.goto 76, 3) := by decide +kernel
theorem dL_law_1634 : decode cL_law 1634 = .ok (.aload 7, 2) := by decide +kernel
theorem dL_law_1636 : decode cL_law 1636 = .ok (.iload 41, 2) := by decide +kernel
theorem dL_law_1638 : decode cL_law 1638 = .ok (.iaload, 1) := by decide +kernel
theorem dL_law_1639 : decode cL_law 1639 = .ok (.iload 40, 2) := by decide +kernel
theorem dL_law_1641 : decode cL_law 1641 = .ok (.if_icmp .ge 11, 3) := by decide +kernel
theorem dL_law_1644 : decode cL_law 1644 = .ok (.aload 7, 2) := by decide +kernel
theorem dL_law_1646 : decode cL_law 1646 = .ok (.iload 41, 2) := by decide +kernel
theorem dL_law_1648 : decode cL_law 1648 = .ok (.iaload, 1) := by decide +kernel
theorem dL_law_1649 : decode cL_law 1649 = .ok (.goto 5, 3) := by decide +kernel
theorem dL_law_1652 : decode cL_law 1652 = .ok (.iload 40, 2) := by decide +kernel
theorem dL_law_1654 : decode cL_law 1654 = .ok (.istore 42, 2) := by decide +kernel
theorem dL_law_1656 : decode cL_law 1656 = .ok (.aload 8, 2) := by decide +kernel
theorem dL_law_1658 : decode cL_law 1658 = .ok (.iload 41, 2) := by decide +kernel
theorem dL_law_1660 : decode cL_law 1660 = .ok (.iaload, 1) := by decide +kernel
theorem dL_law_1661 : decode cL_law 1661 = .ok (.iload 42, 2) := by decide +kernel
theorem dL_law_1663 : decode cL_law 1663 = .ok (.aload 7, 2) := by decide +kernel
theorem dL_law_1665 : decode cL_law 1665 = .ok (.iload 41, 2) := by decide +kernel
theorem dL_law_1667 : decode cL_law 1667 = .ok (.iaload, 1) := by decide +kernel
theorem dL_law_1668 : decode cL_law 1668 = .ok (.invokestatic 94, 3) := by decide +kernel
theorem dL_law_1671 : decode cL_law 1671 = .ok (.istore 43, 2) := by decide +kernel
theorem dL_law_1673 : decode cL_law 1673 = .ok (.iload 39, 2) := by decide +kernel
theorem dL_law_1675 : decode cL_law 1675 = .ok (.iload 43, 2) := by decide +kernel
theorem dL_law_1677 : decode cL_law 1677 = .ok (.iadd, 1) := by decide +kernel
theorem dL_law_1678 : decode cL_law 1678 = .ok (.istore 39, 2) := by decide +kernel
theorem dL_law_1680 : decode cL_law 1680 = .ok (.aload 8, 2) := by decide +kernel
theorem dL_law_1682 : decode cL_law 1682 = .ok (.iload 41, 2) := by decide +kernel
theorem dL_law_1684 : decode cL_law 1684 = .ok (.dup2, 1) := by decide +kernel
theorem dL_law_1685 : decode cL_law 1685 = .ok (.iaload, 1) := by decide +kernel
theorem dL_law_1686 : decode cL_law 1686 = .ok (.iload 43, 2) := by decide +kernel
theorem dL_law_1688 : decode cL_law 1688 = .ok (.isub, 1) := by decide +kernel
theorem dL_law_1689 : decode cL_law 1689 = .ok (.iastore, 1) := by decide +kernel
theorem dL_law_1690 : decode cL_law 1690 = .ok (.aload 7, 2) := by decide +kernel
theorem dL_law_1692 : decode cL_law 1692 = .ok (.iload 41, 2) := by decide +kernel
theorem dL_law_1694 : decode cL_law 1694 = .ok (.dup2, 1) := by decide +kernel
theorem dL_law_1695 : decode cL_law 1695 = .ok (.iaload, 1) := by decide +kernel
theorem dL_law_1696 : decode cL_law 1696 = .ok (.iload 42, 2) := by decide +kernel
theorem dL_law_1698 : decode cL_law 1698 = .ok (.isub, 1) := by decide +kernel
theorem dL_law_1699 : decode cL_law 1699 = .ok (.iastore, 1) := by decide +kernel
theorem dL_law_1700 : decode cL_law 1700 = .ok (.iload 40, 2) := by decide +kernel
theorem dL_law_1702 : decode cL_law 1702 = .ok (.iload 42, 2) := by decide +kernel
theorem dL_law_1704 : decode cL_law 1704 = .ok (.isub, 1) := by decide +kernel
theorem dL_law_1705 : decode cL_law 1705 = .ok (.istore 40, 2) := by decide +kernel
theorem dL_law_1707 : decode cL_law 1707 = .ok (.iinc 41 1, 3) := by decide +kernel
theorem dL_law_1710 : decode cL_law 1710 = .ok (.goto (-92), 3) := by decide +kernel
theorem dL_law_1713 : decode cL_law 1713 = .ok (.aload 6, 2) := by decide +kernel
theorem dL_law_1715 : decode cL_law 1715 = .ok (.bipush 14, 2) := by decide +kernel
theorem dL_law_1717 : decode cL_law 1717 = .ok (.dup2, 1) := by decide +kernel
theorem dL_law_1718 : decode cL_law 1718 = .ok (.iaload, 1) := by decide +kernel
theorem dL_law_1719 : decode cL_law 1719 = .ok (.iload 38, 2) := by decide +kernel
theorem dL_law_1721 : decode cL_law 1721 = .ok (.iadd, 1) := by decide +kernel
theorem dL_law_1722 : decode cL_law 1722 = .ok (.iastore, 1) := by decide +kernel
theorem dL_law_1723 : decode cL_law 1723 = .ok (.aload 6, 2) := by decide +kernel
theorem dL_law_1725 : decode cL_law 1725 = .ok (.iconst 2, 1) := by decide +kernel
theorem dL_law_1726 : decode cL_law 1726 = .ok (.dup2, 1) := by decide +kernel
theorem dL_law_1727 : decode cL_law 1727 = .ok (.iaload, 1) := by decide +kernel
theorem dL_law_1728 : decode cL_law 1728 = .ok (.iload 39, 2) := by decide +kernel
theorem dL_law_1730 : decode cL_law 1730 = .ok (.isub, 1) := by decide +kernel
theorem dL_law_1731 : decode cL_law 1731 = .ok (.iastore, 1) := by decide +kernel
theorem dL_law_1732 : decode cL_law 1732 = .ok (.aload_n 1, 1) := by decide +kernel
theorem dL_law_1733 : decode cL_law 1733 = .ok (.iload 38, 2) := by decide +kernel
theorem dL_law_1735 : decode cL_law 1735 = .ok (.invokestatic 163, 3) := by decide +kernel
theorem dL_law_1738 : decode cL_law 1738 = .ok (.iload 39, 2) := by decide +kernel
theorem dL_law_1740 : decode cL_law 1740 = .ok (.if_icmp .ne 7, 3) := by decide +kernel
theorem dL_law_1743 : decode cL_law 1743 = .ok (.iconst 1, 1) := by decide +kernel
theorem dL_law_1744 : decode cL_law 1744 = .ok (.goto 4, 3) := by decide +kernel
theorem dL_law_1747 : decode cL_law 1747 = .ok (.iconst 0, 1) := by decide +kernel
theorem dL_law_1748 : decode cL_law 1748 = .ok (.istore 20, 2) := by decide +kernel
theorem dL_law_1750 : decode cL_law 1750 = .ok (.goto 1005, 3) := by decide +kernel
theorem dL_law_1753 : decode cL_law 1753 = .ok (.iconst 1, 1) := by decide +kernel
theorem dL_law_1754 : decode cL_law 1754 = .ok (.iload 15, 2) := by decide +kernel
theorem dL_law_1756 : decode cL_law 1756 = .ok (.aload 6, 2) := by decide +kernel
theorem dL_law_1758 : decode cL_law 1758 = .ok (.iconst 2, 1) := by decide +kernel
theorem dL_law_1759 : decode cL_law 1759 = .ok (.iaload, 1) := by decide +kernel
theorem dL_law_1760 : decode cL_law 1760 = .ok (.ifCond .le 12, 3) := by decide +kernel
theorem dL_law_1763 : decode cL_law 1763 = .ok (.aload 6, 2) := by decide +kernel
theorem dL_law_1765 : decode cL_law 1765 = .ok (.iconst 2, 1) := by decide +kernel
theorem dL_law_1766 : decode cL_law 1766 = .ok (.iaload, 1) := by decide +kernel
theorem dL_law_1767 : decode cL_law 1767 = .ok (.iconst 1, 1) := by decide +kernel
theorem dL_law_1768 : decode cL_law 1768 = .ok (.iadd, 1) := by decide +kernel
theorem dL_law_1769 : decode cL_law 1769 = .ok (.goto 4, 3) := by decide +kernel
theorem dL_law_1772 : decode cL_law 1772 = .ok (.iconst 5, 1) := by decide +kernel
theorem dL_law_1773 : decode cL_law 1773 = .ok (.invokestatic 129, 3) := by decide +kernel
theorem dL_law_1776 : decode cL_law 1776 = .ok (.iadd, 1) := by decide +kernel
theorem dL_law_1777 : decode cL_law 1777 = .ok (.istore 41, 2) := by decide +kernel
theorem dL_law_1779 : decode cL_law 1779 = .ok (.iload 41, 2) := by decide +kernel
theorem dL_law_1781 : decode cL_law 1781 = .ok (.ldc 165, 2) := by decide +kernel
theorem dL_law_1783 : decode cL_law 1783 = .ok (.if_icmp .le 8, 3) := by decide +kernel
theorem dL_law_1786 : decode cL_law 1786 = .ok (.ldc 165, 2) := by decide +kernel
theorem dL_law_1788 : decode cL_law 1788 = .ok (.goto 5, 3) := by decide +kernel
theorem dL_law_1791 : decode cL_law 1791 = .ok (.iload 41, 2) := by decide +kernel
theorem dL_law_1793 : decode cL_law 1793 = .ok (.istore 41, 2) := by decide +kernel
theorem dL_law_1795 : decode cL_law 1795 = .ok (.iload 41, 2) := by decide +kernel
theorem dL_law_1797 : decode cL_law 1797 = .ok (.aload 6, 2) := by decide +kernel
theorem dL_law_1799 : decode cL_law 1799 = .ok (.iconst 2, 1) := by decide +kernel
theorem dL_law_1800 : decode cL_law 1800 = .ok (.iaload, 1) := by decide +kernel
theorem dL_law_1801 : decode cL_law 1801 = .ok (.if_icmp .gt 7, 3) := by decide +kernel
theorem dL_law_1804 : decode cL_law 1804 = .ok (.iconst 1, 1) := by decide +kernel
theorem dL_law_1805 : decode cL_law 1805 = .ok (.goto 4, 3) := by decide +kernel
theorem dL_law_1808 : decode cL_law 1808 = .ok (.iconst 0, 1) := by decide +kernel
theorem dL_law_1809 : decode cL_law 1809 = .ok (.istore 42, 2) := by decide +kernel
theorem dL_law_1811 : decode cL_law 1811 = .ok (.aload 6, 2) := by decide +kernel
theorem dL_law_1813 : decode cL_law 1813 = .ok (.iconst 2, 1) := by decide +kernel
theorem dL_law_1814 : decode cL_law 1814 = .ok (.dup2, 1) := by decide +kernel
theorem dL_law_1815 : decode cL_law 1815 = .ok (.iaload, 1) := by decide +kernel
theorem dL_law_1816 : decode cL_law 1816 = .ok (.iload 42, 2) := by decide +kernel
theorem dL_law_1818 : decode cL_law 1818 = .ok (.ifCond .eq 8, 3) := by decide +kernel
theorem dL_law_1821 : decode cL_law 1821 = .ok (.iload 41, 2) := by decide +kernel
theorem dL_law_1823 : decode cL_law 1823 = .ok (.goto 4, 3) := by decide +kernel
theorem dL_law_1826 : decode cL_law 1826 = .ok (.iconst 0, 1) := by decide +kernel
theorem dL_law_1827 : decode cL_law 1827 = .ok (.isub, 1) := by decide +kernel
theorem dL_law_1828 : decode cL_law 1828 = .ok (.iastore, 1) := by decide +kernel
theorem dL_law_1829 : decode cL_law 1829 = .ok (.aload_n 1, 1) := by decide +kernel
theorem dL_law_1830 : decode cL_law 1830 = .ok (.iload 41, 2) := by decide +kernel
theorem dL_law_1832 : decode cL_law 1832 = .ok (.invokestatic 166, 3) := by decide +kernel
theorem dL_law_1835 : decode cL_law 1835 = .ok (.iload 42, 2) := by decide +kernel
theorem dL_law_1837 : decode cL_law 1837 = .ok (.ifCond .eq 10, 3) := by decide +kernel
theorem dL_law_1840 : decode cL_law 1840 = .ok (.aload 6, 2) := by decide +kernel
theorem dL_law_1842 : decode cL_law 1842 = .ok (.iconst 2, 1) := by decide +kernel
theorem dL_law_1843 : decode cL_law 1843 = .ok (.iaload, 1) := by decide +kernel
theorem dL_law_1844 : decode cL_law 1844 = .ok (.goto 5, 3) := by decide +kernel
theorem dL_law_1847 : decode cL_law 1847 = .ok (.ldc 22, 2) := by decide +kernel
theorem dL_law_1849 : decode cL_law 1849 = .ok (.if_icmp .ne 7, 3) := by decide +kernel
theorem dL_law_1852 : decode cL_law 1852 = .ok (.iconst 1, 1) := by decide +kernel
theorem dL_law_1853 : decode cL_law 1853 = .ok (.goto 4, 3) := by decide +kernel
theorem dL_law_1856 : decode cL_law 1856 = .ok (.iconst 0, 1) := by decide +kernel
theorem dL_law_1857 : decode cL_law 1857 = .ok (.istore 20, 2) := by decide +kernel
theorem dL_law_1859 : decode cL_law 1859 = .ok (.goto 896, 3) := by decide +kernel
theorem dL_law_1862 : decode cL_law 1862 = .ok (.aload 6, 2) := by decide +kernel
theorem dL_law_1864 : decode cL_law 1864 = .ok (.iconst 0, 1) := by decide +kernel
theorem dL_law_1865 : decode cL_law 1865 = .ok (.iaload, 1) := by decide +kernel
theorem dL_law_1866 : decode cL_law 1866 = .ok (.sipush 890, 3) := by decide +kernel
theorem dL_law_1869 : decode cL_law 1869 = .ok (.if_icmp .le 6, 3) := by decide +kernel
theorem dL_law_1872 : decode cL_law 1872 = .ok (.goto 883, 3) := by decide +kernel
theorem dL_law_1875 : decode cL_law 1875 = .ok (.aload 6, 2) := by decide +kernel
theorem dL_law_1877 : decode cL_law 1877 = .ok (.iconst 0, 1) := by decide +kernel
theorem dL_law_1878 : decode cL_law 1878 = .ok (.iaload, 1) := by decide +kernel
theorem dL_law_1879 : decode cL_law 1879 = .ok (.iconst 1, 1) := by decide +kernel
theorem dL_law_1880 : decode cL_law 1880 = .ok (.iadd, 1) := by decide +kernel
theorem dL_law_1881 : decode cL_law 1881 = .ok (.iload 15, 2) := by decide +kernel
theorem dL_law_1883 : decode cL_law 1883 = .ok (.bipush 9, 2) := by decide +kernel
theorem dL_law_1885 : decode cL_law 1885 = .ok (.invokestatic 129, 3) := by decide +kernel
theorem dL_law_1888 : decode cL_law 1888 = .ok (.iadd, 1) := by decide +kernel
theorem dL_law_1889 : decode cL_law 1889 = .ok (.istore 43, 2) := by decide +kernel
