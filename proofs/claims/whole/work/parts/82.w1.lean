section
theorem dw_1028 : decode code 1028 = .ok (.iload 6, 2) := by decide +kernel
theorem dw_1030 : decode code 1030 = .ok (.i2l, 1) := by decide +kernel
theorem dw_1031 : decode code 1031 = .ok (.lcmp, 1) := by decide +kernel
theorem dw_1032 : decode code 1032 = .ok (.ifCond .eq 5, 3) := by decide +kernel
theorem dw_1035 : decode code 1035 = .ok (.iconst 0, 1) := by decide +kernel
theorem dw_1036 : decode code 1036 = .ok (.ireturn, 1) := by decide +kernel
theorem dw_1037 : decode code 1037 = .ok (.goto 1764, 3) := by decide +kernel
theorem dw_1040 : decode code 1040 = .ok (.aload_n 1, 1) := by decide +kernel
theorem dw_1041 : decode code 1041 = .ok (.aload_n 0, 1) := by decide +kernel
theorem dw_1042 : decode code 1042 = .ok (.iload 4, 2) := by decide +kernel
theorem dw_1044 : decode code 1044 = .ok (.iconst 1, 1) := by decide +kernel
theorem dw_1045 : decode code 1045 = .ok (.iadd, 1) := by decide +kernel
theorem dw_1046 : decode code 1046 = .ok (.iaload, 1) := by decide +kernel
theorem dw_1047 : decode code 1047 = .ok (.aload_n 0, 1) := by decide +kernel
theorem dw_1048 : decode code 1048 = .ok (.iload 4, 2) := by decide +kernel
theorem dw_1050 : decode code 1050 = .ok (.iconst 2, 1) := by decide +kernel
theorem dw_1051 : decode code 1051 = .ok (.iadd, 1) := by decide +kernel
theorem dw_1052 : decode code 1052 = .ok (.iaload, 1) := by decide +kernel
theorem dw_1053 : decode code 1053 = .ok (.aload_n 3, 1) := by decide +kernel
theorem dw_1054 : decode code 1054 = .ok (.invokestatic 181, 3) := by decide +kernel
theorem dw_1057 : decode code 1057 = .ok (.istore 5, 2) := by decide +kernel
theorem dw_1059 : decode code 1059 = .ok (.aload_n 2, 1) := by decide +kernel
theorem dw_1060 : decode code 1060 = .ok (.aload_n 0, 1) := by decide +kernel
theorem dw_1061 : decode code 1061 = .ok (.iload 4, 2) := by decide +kernel
theorem dw_1063 : decode code 1063 = .ok (.iconst 1, 1) := by decide +kernel
theorem dw_1064 : decode code 1064 = .ok (.iadd, 1) := by decide +kernel
theorem dw_1065 : decode code 1065 = .ok (.iaload, 1) := by decide +kernel
theorem dw_1066 : decode code 1066 = .ok (.aload_n 0, 1) := by decide +kernel
theorem dw_1067 : decode code 1067 = .ok (.iload 4, 2) := by decide +kernel
theorem dw_1069 : decode code 1069 = .ok (.iconst 2, 1) := by decide +kernel
theorem dw_1070 : decode code 1070 = .ok (.iadd, 1) := by decide +kernel
theorem dw_1071 : decode code 1071 = .ok (.iaload, 1) := by decide +kernel
theorem dw_1072 : decode code 1072 = .ok (.invokevirtual 183, 3) := by decide +kernel
theorem dw_1075 : decode code 1075 = .ok (.istore 6, 2) := by decide +kernel
theorem dw_1077 : decode code 1077 = .ok (.aload_n 2, 1) := by decide +kernel
theorem dw_1078 : decode code 1078 = .ok (.invokevirtual 143, 3) := by decide +kernel
theorem dw_1081 : decode code 1081 = .ok (.iload 5, 2) := by decide +kernel
theorem dw_1083 : decode code 1083 = .ok (.if_icmp .eq 5, 3) := by decide +kernel
theorem dw_1086 : decode code 1086 = .ok (.iconst 0, 1) := by decide +kernel
theorem dw_1087 : decode code 1087 = .ok (.ireturn, 1) := by decide +kernel
theorem dw_1088 : decode code 1088 = .ok (.iload 5, 2) := by decide +kernel
theorem dw_1090 : decode code 1090 = .ok (.ifCond .ne 15, 3) := by decide +kernel
theorem dw_1093 : decode code 1093 = .ok (.aload_n 3, 1) := by decide +kernel
theorem dw_1094 : decode code 1094 = .ok (.iconst 0, 1) := by decide +kernel
theorem dw_1095 : decode code 1095 = .ok (.laload, 1) := by decide +kernel
theorem dw_1096 : decode code 1096 = .ok (.iload 6, 2) := by decide +kernel
theorem dw_1098 : decode code 1098 = .ok (.i2l, 1) := by decide +kernel
theorem dw_1099 : decode code 1099 = .ok (.lcmp, 1) := by decide +kernel
theorem dw_1100 : decode code 1100 = .ok (.ifCond .eq 5, 3) := by decide +kernel
theorem dw_1103 : decode code 1103 = .ok (.iconst 0, 1) := by decide +kernel
theorem dw_1104 : decode code 1104 = .ok (.ireturn, 1) := by decide +kernel
theorem dw_1105 : decode code 1105 = .ok (.goto 1696, 3) := by decide +kernel
theorem dw_1108 : decode code 1108 = .ok (.aload_n 1, 1) := by decide +kernel
theorem dw_1109 : decode code 1109 = .ok (.aload_n 0, 1) := by decide +kernel
theorem dw_1110 : decode code 1110 = .ok (.iload 4, 2) := by decide +kernel
theorem dw_1112 : decode code 1112 = .ok (.iconst 1, 1) := by decide +kernel
theorem dw_1113 : decode code 1113 = .ok (.iadd, 1) := by decide +kernel
theorem dw_1114 : decode code 1114 = .ok (.iaload, 1) := by decide +kernel
theorem dw_1115 : decode code 1115 = .ok (.aload_n 3, 1) := by decide +kernel
theorem dw_1116 : decode code 1116 = .ok (.invokestatic 184, 3) := by decide +kernel
theorem dw_1119 : decode code 1119 = .ok (.istore 5, 2) := by decide +kernel
theorem dw_1121 : decode code 1121 = .ok (.aload_n 2, 1) := by decide +kernel
theorem dw_1122 : decode code 1122 = .ok (.aload_n 0, 1) := by decide +kernel
theorem dw_1123 : decode code 1123 = .ok (.iload 4, 2) := by decide +kernel
theorem dw_1125 : decode code 1125 = .ok (.iconst 1, 1) := by decide +kernel
theorem dw_1126 : decode code 1126 = .ok (.iadd, 1) := by decide +kernel
theorem dw_1127 : decode code 1127 = .ok (.iaload, 1) := by decide +kernel
theorem dw_1128 : decode code 1128 = .ok (.invokevirtual 186, 3) := by decide +kernel
theorem dw_1131 : decode code 1131 = .ok (.istore 6, 2) := by decide +kernel
theorem dw_1133 : decode code 1133 = .ok (.aload_n 2, 1) := by decide +kernel
theorem dw_1134 : decode code 1134 = .ok (.invokevirtual 143, 3) := by decide +kernel
theorem dw_1137 : decode code 1137 = .ok (.iload 5, 2) := by decide +kernel
theorem dw_1139 : decode code 1139 = .ok (.if_icmp .eq 5, 3) := by decide +kernel
theorem dw_1142 : decode code 1142 = .ok (.iconst 0, 1) := by decide +kernel
theorem dw_1143 : decode code 1143 = .ok (.ireturn, 1) := by decide +kernel
theorem dw_1144 : decode code 1144 = .ok (.iload 5, 2) := by decide +kernel
theorem dw_1146 : decode code 1146 = .ok (.ifCond .ne 15, 3) := by decide +kernel
theorem dw_1149 : decode code 1149 = .ok (.aload_n 3, 1) := by decide +kernel
theorem dw_1150 : decode code 1150 = .ok (.iconst 0, 1) := by decide +kernel
theorem dw_1151 : decode code 1151 = .ok (.laload, 1) := by decide +kernel
theorem dw_1152 : decode code 1152 = .ok (.iload 6, 2) := by decide +kernel
theorem dw_1154 : decode code 1154 = .ok (.i2l, 1) := by decide +kernel
theorem dw_1155 : decode code 1155 = .ok (.lcmp, 1) := by decide +kernel
theorem dw_1156 : decode code 1156 = .ok (.ifCond .eq 5, 3) := by decide +kernel
theorem dw_1159 : decode code 1159 = .ok (.iconst 0, 1) := by decide +kernel
theorem dw_1160 : decode code 1160 = .ok (.ireturn, 1) := by decide +kernel
theorem dw_1161 : decode code 1161 = .ok (.goto 1640, 3) := by decide +kernel
theorem dw_1164 : decode code 1164 = .ok (.aload_n 1, 1) := by decide +kernel
theorem dw_1165 : decode code 1165 = .ok (.aload_n 0, 1) := by decide +kernel
theorem dw_1166 : decode code 1166 = .ok (.iload 4, 2) := by decide +kernel
theorem dw_1168 : decode code 1168 = .ok (.iconst 1, 1) := by decide +kernel
theorem dw_1169 : decode code 1169 = .ok (.iadd, 1) := by decide +kernel
theorem dw_1170 : decode code 1170 = .ok (.iaload, 1) := by decide +kernel
theorem dw_1171 : decode code 1171 = .ok (.aload_n 3, 1) := by decide +kernel
theorem dw_1172 : decode code 1172 = .ok (.invokestatic 187, 3) := by decide +kernel
theorem dw_1175 : decode code 1175 = .ok (.istore 5, 2) := by decide +kernel
theorem dw_1177 : decode code 1177 = .ok (.aload_n 2, 1) := by decide +kernel
theorem dw_1178 : decode code 1178 = .ok (.aload_n 0, 1) := by decide +kernel
theorem dw_1179 : decode code 1179 = .ok (.iload 4, 2) := by decide +kernel
theorem dw_1181 : decode code 1181 = .ok (.iconst 1, 1) := by decide +kernel
theorem dw_1182 : decode code 1182 = .ok (.iadd, 1) := by decide +kernel
theorem dw_1183 : decode code 1183 = .ok (.iaload, 1) := by decide +kernel
theorem dw_1184 : decode code 1184 = .ok (.invokevirtual 189, 3) := by decide +kernel
theorem dw_1187 : decode code 1187 = .ok (.istore 6, 2) := by decide +kernel
theorem dw_1189 : decode code 1189 = .ok (.aload_n 2, 1) := by decide +kernel
theorem dw_1190 : decode code 1190 = .ok (.invokevirtual 143, 3) := by decide +kernel
theorem dw_1193 : decode code 1193 = .ok (.iload 5, 2) := by decide +kernel
theorem dw_1195 : decode code 1195 = .ok (.if_icmp .eq 5, 3) := by decide +kernel
theorem dw_1198 : decode code 1198 = .ok (.iconst 0, 1) := by decide +kernel
theorem dw_1199 : decode code 1199 = .ok (.ireturn, 1) := by decide +kernel
theorem dw_1200 : decode code 1200 = .ok (.iload 5, 2) := by decide +kernel
theorem dw_1202 : decode code 1202 = .ok (.ifCond .ne 15, 3) := by decide +kernel
theorem dw_1205 : decode code 1205 = .ok (.aload_n 3, 1) := by decide +kernel
theorem dw_1206 : decode code 1206 = .ok (.iconst 0, 1) := by decide +kernel
theorem dw_1207 : decode code 1207 = .ok (.laload, 1) := by decide +kernel
theorem dw_1208 : decode code 1208 = .ok (.iload 6, 2) := by decide +kernel
theorem dw_1210 : decode code 1210 = .ok (.i2l, 1) := by decide +kernel
theorem dw_1211 : decode code 1211 = .ok (.lcmp, 1) := by decide +kernel
theorem dw_1212 : decode code 1212 = .ok (.ifCond .eq 5, 3) := by decide +kernel
theorem dw_1215 : decode code 1215 = .ok (.iconst 0, 1) := by decide +kernel
theorem dw_1216 : decode code 1216 = .ok (.ireturn, 1) := by decide +kernel
theorem dw_1217 : decode code 1217 = .ok (.goto 1584, 3) := by decide +kernel
theorem dw_1220 : decode code 1220 = .ok (.aload_n 1, 1) := by decide +kernel
theorem dw_1221 : decode code 1221 = .ok (.aload_n 0, 1) := by decide +kernel
theorem dw_1222 : decode code 1222 = .ok (.iload 4, 2) := by decide +kernel
theorem dw_1224 : decode code 1224 = .ok (.iconst 1, 1) := by decide +kernel
theorem dw_1225 : decode code 1225 = .ok (.iadd, 1) := by decide +kernel
theorem dw_1226 : decode code 1226 = .ok (.iaload, 1) := by decide +kernel
theorem dw_1227 : decode code 1227 = .ok (.aload_n 3, 1) := by decide +kernel
theorem dw_1228 : decode code 1228 = .ok (.invokestatic 190, 3) := by decide +kernel
theorem dw_1231 : decode code 1231 = .ok (.istore 5, 2) := by decide +kernel
theorem dw_1233 : decode code 1233 = .ok (.aload_n 2, 1) := by decide +kernel
theorem dw_1234 : decode code 1234 = .ok (.aload_n 0, 1) := by decide +kernel
theorem dw_1235 : decode code 1235 = .ok (.iload 4, 2) := by decide +kernel
theorem dw_1237 : decode code 1237 = .ok (.iconst 1, 1) := by decide +kernel
theorem dw_1238 : decode code 1238 = .ok (.iadd, 1) := by decide +kernel
theorem dw_1239 : decode code 1239 = .ok (.iaload, 1) := by decide +kernel
theorem dw_1240 : decode code 1240 = .ok (.invokevirtual 192, 3) := by decide +kernel
theorem dw_1243 : decode code 1243 = .ok (.istore 6, 2) := by decide +kernel
theorem dw_1245 : decode code 1245 = .ok (.aload_n 2, 1) := by decide +kernel
theorem dw_1246 : decode code 1246 = .ok (.invokevirtual 143, 3) := by decide +kernel
theorem dw_1249 : decode code 1249 = .ok (.iload 5, 2) := by decide +kernel
theorem dw_1251 : decode code 1251 = .ok (.if_icmp .eq 5, 3) := by decide +kernel
theorem dw_1254 : decode code 1254 = .ok (.iconst 0, 1) := by decide +kernel
theorem dw_1255 : decode code 1255 = .ok (.ireturn, 1) := by decide +kernel
theorem dw_1256 : decode code 1256 = .ok (.iload 5, 2) := by decide +kernel
theorem dw_1258 : decode code 1258 = .ok (.ifCond .ne 15, 3) := by decide +kernel
theorem dw_1261 : decode code 1261 = .ok (.aload_n 3, 1) := by decide +kernel
theorem dw_1262 : decode code 1262 = .ok (.iconst 0, 1) := by decide +kernel
theorem dw_1263 : decode code 1263 = .ok (.laload, 1) := by decide +kernel
theorem dw_1264 : decode code 1264 = .ok (.iload 6, 2) := by decide +kernel
theorem dw_1266 : decode code 1266 = .ok (.i2l, 1) := by decide +kernel
theorem dw_1267 : decode code 1267 = .ok (.lcmp, 1) := by decide +kernel
theorem dw_1268 : decode code 1268 = .ok (.ifCond .eq 5, 3) := by decide +kernel
theorem dw_1271 : decode code 1271 = .ok (.iconst 0, 1) := by decide +kernel
theorem dw_1272 : decode code 1272 = .ok (.ireturn, 1) := by decide +kernel
theorem dw_1273 : decode code 1273 = .ok (.goto 1528, 3) := by decide +kernel
theorem dw_1276 : decode code 1276 = .ok (.aload_n 1, 1) := by decide +kernel
theorem dw_1277 : decode code 1277 = .ok (.aload_n 0, 1) := by decide +kernel
theorem dw_1278 : decode code 1278 = .ok (.iload 4, 2) := by decide +kernel
theorem dw_1280 : decode code 1280 = .ok (.iconst 1, 1) := by decide +kernel
theorem dw_1281 : decode code 1281 = .ok (.iadd, 1) := by decide +kernel
theorem dw_1282 : decode code 1282 = .ok (.iaload, 1) := by decide +kernel
theorem dw_1283 : decode code 1283 = .ok (.aload_n 0, 1) := by decide +kernel
theorem dw_1284 : decode code 1284 = .ok (.iload 4, 2) := by decide +kernel
theorem dw_1286 : decode code 1286 = .ok (.iconst 2, 1) := by decide +kernel
theorem dw_1287 : decode code 1287 = .ok (.iadd, 1) := by decide +kernel
theorem dw_1288 : decode code 1288 = .ok (.iaload, 1) := by decide +kernel
theorem dw_1289 : decode code 1289 = .ok (.aload_n 3, 1) := by decide +kernel
theorem dw_1290 : decode code 1290 = .ok (.invokestatic 193, 3) := by decide +kernel
theorem dw_1293 : decode code 1293 = .ok (.istore 5, 2) := by decide +kernel
theorem dw_1295 : decode code 1295 = .ok (.aload_n 2, 1) := by decide +kernel
theorem dw_1296 : decode code 1296 = .ok (.aload_n 0, 1) := by decide +kernel
theorem dw_1297 : decode code 1297 = .ok (.iload 4, 2) := by decide +kernel
theorem dw_1299 : decode code 1299 = .ok (.iconst 1, 1) := by decide +kernel
theorem dw_1300 : decode code 1300 = .ok (.iadd, 1) := by decide +kernel
theorem dw_1301 : decode code 1301 = .ok (.iaload, 1) := by decide +kernel
theorem dw_1302 : decode code 1302 = .ok (.aload_n 0, 1) := by decide +kernel
theorem dw_1303 : decode code 1303 = .ok (.iload 4, 2) := by decide +kernel
theorem dw_1305 : decode code 1305 = .ok (.iconst 2, 1) := by decide +kernel
theorem dw_1306 : decode code 1306 = .ok (.iadd, 1) := by decide +kernel
theorem dw_1307 : decode code 1307 = .ok (.iaload, 1) := by decide +kernel
theorem dw_1308 : decode code 1308 = .ok (.invokevirtual 195, 3) := by decide +kernel
theorem dw_1311 : decode code 1311 = .ok (.istore 6, 2) := by decide +kernel
theorem dw_1313 : decode code 1313 = .ok (.aload_n 2, 1) := by decide +kernel
theorem dw_1314 : decode code 1314 = .ok (.invokevirtual 143, 3) := by decide +kernel
theorem dw_1317 : decode code 1317 = .ok (.iload 5, 2) := by decide +kernel
theorem dw_1319 : decode code 1319 = .ok (.if_icmp .eq 5, 3) := by decide +kernel
theorem dw_1322 : decode code 1322 = .ok (.iconst 0, 1) := by decide +kernel
theorem dw_1323 : decode code 1323 = .ok (.ireturn, 1) := by decide +kernel
theorem dw_1324 : decode code 1324 = .ok (.iload 5, 2) := by decide +kernel
theorem dw_1326 : decode code 1326 = .ok (.ifCond .ne 15, 3) := by decide +kernel
theorem dw_1329 : decode code 1329 = .ok (.aload_n 3, 1) := by decide +kernel
theorem dw_1330 : decode code 1330 = .ok (.iconst 0, 1) := by decide +kernel
theorem dw_1331 : decode code 1331 = .ok (.laload, 1) := by decide +kernel
theorem dw_1332 : decode code 1332 = .ok (.iload 6, 2) := by decide +kernel
theorem dw_1334 : decode code 1334 = .ok (.i2l, 1) := by decide +kernel
theorem dw_1335 : decode code 1335 = .ok (.lcmp, 1) := by decide +kernel
theorem dw_1336 : decode code 1336 = .ok (.ifCond .eq 5, 3) := by decide +kernel
theorem dw_1339 : decode code 1339 = .ok (.iconst 0, 1) := by decide +kernel
theorem dw_1340 : decode code 1340 = .ok (.ireturn, 1) := by decide +kernel
theorem dw_1341 : decode code 1341 = .ok (.goto 1460, 3) := by decide +kernel
theorem dw_1344 : decode code 1344 = .ok (.aload_n 1, 1) := by decide +kernel
theorem dw_1345 : decode code 1345 = .ok (.aload_n 0, 1) := by decide +kernel
theorem dw_1346 : decode code 1346 = .ok (.iload 4, 2) := by decide +kernel
theorem dw_1348 : decode code 1348 = .ok (.iconst 1, 1) := by decide +kernel
theorem dw_1349 : decode code 1349 = .ok (.iadd, 1) := by decide +kernel
theorem dw_1350 : decode code 1350 = .ok (.iaload, 1) := by decide +kernel
theorem dw_1351 : decode code 1351 = .ok (.aload_n 0, 1) := by decide +kernel
theorem dw_1352 : decode code 1352 = .ok (.iload 4, 2) := by decide +kernel
theorem dw_1354 : decode code 1354 = .ok (.iconst 2, 1) := by decide +kernel
theorem dw_1355 : decode code 1355 = .ok (.iadd, 1) := by decide +kernel
theorem dw_1356 : decode code 1356 = .ok (.iaload, 1) := by decide +kernel
theorem dw_1357 : decode code 1357 = .ok (.aload_n 3, 1) := by decide +kernel
theorem dw_1358 : decode code 1358 = .ok (.invokestatic 196, 3) := by decide +kernel
theorem dw_1361 : decode code 1361 = .ok (.istore 5, 2) := by decide +kernel
theorem dw_1363 : decode code 1363 = .ok (.aload_n 2, 1) := by decide +kernel
theorem dw_1364 : decode code 1364 = .ok (.aload_n 0, 1) := by decide +kernel
theorem dw_1365 : decode code 1365 = .ok (.iload 4, 2) := by decide +kernel
theorem dw_1367 : decode code 1367 = .ok (.iconst 1, 1) := by decide +kernel
theorem dw_1368 : decode code 1368 = .ok (.iadd, 1) := by decide +kernel
theorem dw_1369 : decode code 1369 = .ok (.iaload, 1) := by decide +kernel
theorem dw_1370 : decode code 1370 = .ok (.aload_n 0, 1) := by decide +kernel
theorem dw_1371 : decode code 1371 = .ok (.iload 4, 2) := by decide +kernel
theorem dw_1373 : decode code 1373 = .ok (.iconst 2, 1) := by decide +kernel
theorem dw_1374 : decode code 1374 = .ok (.iadd, 1) := by decide +kernel
theorem dw_1375 : decode code 1375 = .ok (.iaload, 1) := by decide +kernel
theorem dw_1376 : decode code 1376 = .ok (.invokevirtual 198, 3) := by decide +kernel
theorem dw_1379 : decode code 1379 = .ok (.istore 6, 2) := by decide +kernel
theorem dw_1381 : decode code 1381 = .ok (.aload_n 2, 1) := by decide +kernel
theorem dw_1382 : decode code 1382 = .ok (.invokevirtual 143, 3) := by decide +kernel
theorem dw_1385 : decode code 1385 = .ok (.iload 5, 2) := by decide +kernel
theorem dw_1387 : decode code 1387 = .ok (.if_icmp .eq 5, 3) := by decide +kernel
theorem dw_1390 : decode code 1390 = .ok (.iconst 0, 1) := by decide +kernel
theorem dw_1391 : decode code 1391 = .ok (.ireturn, 1) := by decide +kernel
theorem dw_1392 : decode code 1392 = .ok (.iload 5, 2) := by decide +kernel
theorem dw_1394 : decode code 1394 = .ok (.ifCond .ne 15, 3) := by decide +kernel
theorem dw_1397 : decode code 1397 = .ok (.aload_n 3, 1) := by decide +kernel
theorem dw_1398 : decode code 1398 = .ok (.iconst 0, 1) := by decide +kernel
theorem dw_1399 : decode code 1399 = .ok (.laload, 1) := by decide +kernel
theorem dw_1400 : decode code 1400 = .ok (.iload 6, 2) := by decide +kernel
theorem dw_1402 : decode code 1402 = .ok (.i2l, 1) := by decide +kernel
theorem dw_1403 : decode code 1403 = .ok (.lcmp, 1) := by decide +kernel
theorem dw_1404 : decode code 1404 = .ok (.ifCond .eq 5, 3) := by decide +kernel
theorem dw_1407 : decode code 1407 = .ok (.iconst 0, 1) := by decide +kernel
theorem dw_1408 : decode code 1408 = .ok (.ireturn, 1) := by decide +kernel
theorem dw_1409 : decode code 1409 = .ok (.goto 1392, 3) := by decide +kernel
theorem dw_1412 : decode code 1412 = .ok (.aload_n 1, 1) := by decide +kernel
theorem dw_1413 : decode code 1413 = .ok (.aload_n 0, 1) := by decide +kernel
theorem dw_1414 : decode code 1414 = .ok (.iload 4, 2) := by decide +kernel
theorem dw_1416 : decode code 1416 = .ok (.iconst 1, 1) := by decide +kernel
theorem dw_1417 : decode code 1417 = .ok (.iadd, 1) := by decide +kernel
theorem dw_1418 : decode code 1418 = .ok (.iaload, 1) := by decide +kernel
theorem dw_1419 : decode code 1419 = .ok (.aload_n 0, 1) := by decide +kernel
theorem dw_1420 : decode code 1420 = .ok (.iload 4, 2) := by decide +kernel
theorem dw_1422 : decode code 1422 = .ok (.iconst 2, 1) := by decide +kernel
theorem dw_1423 : decode code 1423 = .ok (.iadd, 1) := by decide +kernel
theorem dw_1424 : decode code 1424 = .ok (.iaload, 1) := by decide +kernel
theorem dw_1425 : decode code 1425 = .ok (.aload_n 0, 1) := by decide +kernel
theorem dw_1426 : decode code 1426 = .ok (.iload 4, 2) := by decide +kernel
theorem dw_1428 : decode code 1428 = .ok (.iconst 3, 1) := by decide +kernel
theorem dw_1429 : decode code 1429 = .ok (.iadd, 1) := by decide +kernel
theorem dw_1430 : decode code 1430 = .ok (.iaload, 1) := by decide +kernel
theorem dw_1431 : decode code 1431 = .ok (.aload_n 3, 1) := by decide +kernel
theorem dw_1432 : decode code 1432 = .ok (.invokestatic 199, 3) := by decide +kernel
theorem dw_1435 : decode code 1435 = .ok (.istore 5, 2) := by decide +kernel
theorem dw_1437 : decode code 1437 = .ok (.aload_n 2, 1) := by decide +kernel
theorem dw_1438 : decode code 1438 = .ok (.aload_n 0, 1) := by decide +kernel
theorem dw_1439 : decode code 1439 = .ok (.iload 4, 2) := by decide +kernel
theorem dw_1441 : decode code 1441 = .ok (.iconst 1, 1) := by decide +kernel
theorem dw_1442 : decode code 1442 = .ok (.iadd, 1) := by decide +kernel
theorem dw_1443 : decode code 1443 = .ok (.iaload, 1) := by decide +kernel
theorem dw_1444 : decode code 1444 = .ok (.aload_n 0, 1) := by decide +kernel
theorem dw_1445 : decode code 1445 = .ok (.iload 4, 2) := by decide +kernel
theorem dw_1447 : decode code 1447 = .ok (.iconst 2, 1) := by decide +kernel
theorem dw_1448 : decode code 1448 = .ok (.iadd, 1) := by decide +kernel
theorem dw_1449 : decode code 1449 = .ok (.iaload, 1) := by decide +kernel
theorem dw_1450 : decode code 1450 = .ok (.aload_n 0, 1) := by decide +kernel
theorem dw_1451 : decode code 1451 = .ok (.iload 4, 2) := by decide +kernel
theorem dw_1453 : decode code 1453 = .ok (.iconst 3, 1) := by decide +kernel
theorem dw_1454 : decode code 1454 = .ok (.iadd, 1) := by decide +kernel
theorem dw_1455 : decode code 1455 = .ok (.iaload, 1) := by decide +kernel
theorem dw_1456 : decode code 1456 = .ok (.invokevirtual 201, 3) := by decide +kernel
theorem dw_1459 : decode code 1459 = .ok (.istore 6, 2) := by decide +kernel
theorem dw_1461 : decode code 1461 = .ok (.aload_n 2, 1) := by decide +kernel
theorem dw_1462 : decode code 1462 = .ok (.invokevirtual 143, 3) := by decide +kernel
theorem dw_1465 : decode code 1465 = .ok (.iload 5, 2) := by decide +kernel
theorem dw_1467 : decode code 1467 = .ok (.if_icmp .eq 5, 3) := by decide +kernel
theorem dw_1470 : decode code 1470 = .ok (.iconst 0, 1) := by decide +kernel
theorem dw_1471 : decode code 1471 = .ok (.ireturn, 1) := by decide +kernel
theorem dw_1472 : decode code 1472 = .ok (.iload 5, 2) := by decide +kernel
theorem dw_1474 : decode code 1474 = .ok (.ifCond .ne 15, 3) := by decide +kernel
theorem dw_1477 : decode code 1477 = .ok (.aload_n 3, 1) := by decide +kernel
theorem dw_1478 : decode code 1478 = .ok (.iconst 0, 1) := by decide +kernel
theorem dw_1479 : decode code 1479 = .ok (.laload, 1) := by decide +kernel
theorem dw_1480 : decode code 1480 = .ok (.iload 6, 2) := by decide +kernel
theorem dw_1482 : decode code 1482 = .ok (.i2l, 1) := by decide +kernel
theorem dw_1483 : decode code 1483 = .ok (.lcmp, 1) := by decide +kernel
theorem dw_1484 : decode code 1484 = .ok (.ifCond .eq 5, 3) := by decide +kernel
theorem dw_1487 : decode code 1487 = .ok (.iconst 0, 1) := by decide +kernel
theorem dw_1488 : decode code 1488 = .ok (.ireturn, 1) := by decide +kernel
theorem dw_1489 : decode code 1489 = .ok (.goto 1312, 3) := by decide +kernel
theorem dw_1492 : decode code 1492 = .ok (.aload_n 1, 1) := by decide +kernel
theorem dw_1493 : decode code 1493 = .ok (.invokevirtual 202, 3) := by decide +kernel
theorem dw_1496 : decode code 1496 = .ok (.aload_n 2, 1) := by decide +kernel
theorem dw_1497 : decode code 1497 = .ok (.invokevirtual 206, 3) := by decide +kernel
theorem dw_1500 : decode code 1500 = .ok (.if_icmp .eq 1301, 3) := by decide +kernel
theorem dw_1503 : decode code 1503 = .ok (.iconst 0, 1) := by decide +kernel
theorem dw_1504 : decode code 1504 = .ok (.ireturn, 1) := by decide +kernel
theorem dw_1505 : decode code 1505 = .ok (.aload_n 1, 1) := by decide +kernel
theorem dw_1506 : decode code 1506 = .ok (.aload_n 0, 1) := by decide +kernel
theorem dw_1507 : decode code 1507 = .ok (.iload 4, 2) := by decide +kernel
theorem dw_1509 : decode code 1509 = .ok (.iconst 1, 1) := by decide +kernel
theorem dw_1510 : decode code 1510 = .ok (.iadd, 1) := by decide +kernel
theorem dw_1511 : decode code 1511 = .ok (.iaload, 1) := by decide +kernel
theorem dw_1512 : decode code 1512 = .ok (.aload_n 0, 1) := by decide +kernel
theorem dw_1513 : decode code 1513 = .ok (.iload 4, 2) := by decide +kernel
theorem dw_1515 : decode code 1515 = .ok (.iconst 2, 1) := by decide +kernel
theorem dw_1516 : decode code 1516 = .ok (.iadd, 1) := by decide +kernel
theorem dw_1517 : decode code 1517 = .ok (.iaload, 1) := by decide +kernel
theorem dw_1518 : decode code 1518 = .ok (.aload_n 3, 1) := by decide +kernel
theorem dw_1519 : decode code 1519 = .ok (.invokestatic 207, 3) := by decide +kernel
theorem dw_1522 : decode code 1522 = .ok (.istore 5, 2) := by decide +kernel
theorem dw_1524 : decode code 1524 = .ok (.aload_n 2, 1) := by decide +kernel
theorem dw_1525 : decode code 1525 = .ok (.aload_n 0, 1) := by decide +kernel
theorem dw_1526 : decode code 1526 = .ok (.iload 4, 2) := by decide +kernel
theorem dw_1528 : decode code 1528 = .ok (.iconst 1, 1) := by decide +kernel
theorem dw_1529 : decode code 1529 = .ok (.iadd, 1) := by decide +kernel
theorem dw_1530 : decode code 1530 = .ok (.iaload, 1) := by decide +kernel
theorem dw_1531 : decode code 1531 = .ok (.aload_n 0, 1) := by decide +kernel
theorem dw_1532 : decode code 1532 = .ok (.iload 4, 2) := by decide +kernel
theorem dw_1534 : decode code 1534 = .ok (.iconst 2, 1) := by decide +kernel
theorem dw_1535 : decode code 1535 = .ok (.iadd, 1) := by decide +kernel
theorem dw_1536 : decode code 1536 = .ok (.iaload, 1) := by decide +kernel
theorem dw_1537 : decode code 1537 = .ok (.invokevirtual 209, 3) := by decide +kernel
theorem dw_1540 : decode code 1540 = .ok (.istore 6, 2) := by decide +kernel
theorem dw_1542 : decode code 1542 = .ok (.aload_n 2, 1) := by decide +kernel
theorem dw_1543 : decode code 1543 = .ok (.invokevirtual 143, 3) := by decide +kernel
theorem dw_1546 : decode code 1546 = .ok (.iload 5, 2) := by decide +kernel
theorem dw_1548 : decode code 1548 = .ok (.if_icmp .eq 5, 3) := by decide +kernel
theorem dw_1551 : decode code 1551 = .ok (.iconst 0, 1) := by decide +kernel
theorem dw_1552 : decode code 1552 = .ok (.ireturn, 1) := by decide +kernel
theorem dw_1553 : decode code 1553 = .ok (.iload 5, 2) := by decide +kernel
theorem dw_1555 : decode code 1555 = .ok (.ifCond .ne 15, 3) := by decide +kernel
theorem dw_1558 : decode code 1558 = .ok (.aload_n 3, 1) := by decide +kernel
theorem dw_1559 : decode code 1559 = .ok (.iconst 0, 1) := by decide +kernel
theorem dw_1560 : decode code 1560 = .ok (.laload, 1) := by decide +kernel
theorem dw_1561 : decode code 1561 = .ok (.iload 6, 2) := by decide +kernel
theorem dw_1563 : decode code 1563 = .ok (.i2l, 1) := by decide +kernel
theorem dw_1564 : decode code 1564 = .ok (.lcmp, 1) := by decide +kernel
theorem dw_1565 : decode code 1565 = .ok (.ifCond .eq 5, 3) := by decide +kernel
theorem dw_1568 : decode code 1568 = .ok (.iconst 0, 1) := by decide +kernel
theorem dw_1569 : decode code 1569 = .ok (.ireturn, 1) := by decide +kernel
theorem dw_1570 : decode code 1570 = .ok (.goto 1231, 3) := by decide +kernel
theorem dw_1573 : decode code 1573 = .ok (.aload_n 1, 1) := by decide +kernel
theorem dw_1574 : decode code 1574 = .ok (.aload_n 0, 1) := by decide +kernel
theorem dw_1575 : decode code 1575 = .ok (.iload 4, 2) := by decide +kernel
theorem dw_1577 : decode code 1577 = .ok (.iconst 1, 1) := by decide +kernel
theorem dw_1578 : decode code 1578 = .ok (.iadd, 1) := by decide +kernel
theorem dw_1579 : decode code 1579 = .ok (.iaload, 1) := by decide +kernel
theorem dw_1580 : decode code 1580 = .ok (.aload_n 3, 1) := by decide +kernel
theorem dw_1581 : decode code 1581 = .ok (.invokestatic 210, 3) := by decide +kernel
theorem dw_1584 : decode code 1584 = .ok (.istore 5, 2) := by decide +kernel
theorem dw_1586 : decode code 1586 = .ok (.aload_n 2, 1) := by decide +kernel
theorem dw_1587 : decode code 1587 = .ok (.aload_n 0, 1) := by decide +kernel
theorem dw_1588 : decode code 1588 = .ok (.iload 4, 2) := by decide +kernel
theorem dw_1590 : decode code 1590 = .ok (.iconst 1, 1) := by decide +kernel
theorem dw_1591 : decode code 1591 = .ok (.iadd, 1) := by decide +kernel
theorem dw_1592 : decode code 1592 = .ok (.iaload, 1) := by decide +kernel
theorem dw_1593 : decode code 1593 = .ok (.invokevirtual 212, 3) := by decide +kernel
theorem dw_1596 : decode code 1596 = .ok (.istore 6, 2) := by decide +kernel
theorem dw_1598 : decode code 1598 = .ok (.aload_n 2, 1) := by decide +kernel
theorem dw_1599 : decode code 1599 = .ok (.invokevirtual 143, 3) := by decide +kernel
theorem dw_1602 : decode code 1602 = .ok (.iload 5, 2) := by decide +kernel
theorem dw_1604 : decode code 1604 = .ok (.if_icmp .eq 5, 3) := by decide +kernel
theorem dw_1607 : decode code 1607 = .ok (.iconst 0, 1) := by decide +kernel
theorem dw_1608 : decode code 1608 = .ok (.ireturn, 1) := by decide +kernel
theorem dw_1609 : decode code 1609 = .ok (.iload 5, 2) := by decide +kernel
theorem dw_1611 : decode code 1611 = .ok (.ifCond .ne 15, 3) := by decide +kernel
theorem dw_1614 : decode code 1614 = .ok (.aload_n 3, 1) := by decide +kernel
theorem dw_1615 : decode code 1615 = .ok (.iconst 0, 1) := by decide +kernel
theorem dw_1616 : decode code 1616 = .ok (.laload, 1) := by decide +kernel
theorem dw_1617 : decode code 1617 = .ok (.iload 6, 2) := by decide +kernel
theorem dw_1619 : decode code 1619 = .ok (.i2l, 1) := by decide +kernel
theorem dw_1620 : decode code 1620 = .ok (.lcmp, 1) := by decide +kernel
theorem dw_1621 : decode code 1621 = .ok (.ifCond .eq 5, 3) := by decide +kernel
theorem dw_1624 : decode code 1624 = .ok (.iconst 0, 1) := by decide +kernel
theorem dw_1625 : decode code 1625 = .ok (.ireturn, 1) := by decide +kernel
theorem dw_1626 : decode code 1626 = .ok (.goto 1175, 3) := by decide +kernel
theorem dw_1629 : decode code 1629 = .ok (.aload_n 1, 1) := by decide +kernel
theorem dw_1630 : decode code 1630 = .ok (.aload_n 0, 1) := by decide +kernel
theorem dw_1631 : decode code 1631 = .ok (.iload 4, 2) := by decide +kernel
theorem dw_1633 : decode code 1633 = .ok (.iconst 1, 1) := by decide +kernel
theorem dw_1634 : decode code 1634 = .ok (.iadd, 1) := by decide +kernel
theorem dw_1635 : decode code 1635 = .ok (.iaload, 1) := by decide +kernel
theorem dw_1636 : decode code 1636 = .ok (.aload_n 3, 1) := by decide +kernel
theorem dw_1637 : decode code 1637 = .ok (.invokestatic 213, 3) := by decide +kernel
theorem dw_1640 : decode code 1640 = .ok (.istore 5, 2) := by decide +kernel
theorem dw_1642 : decode code 1642 = .ok (.aload_n 2, 1) := by decide +kernel
theorem dw_1643 : decode code 1643 = .ok (.aload_n 0, 1) := by decide +kernel
theorem dw_1644 : decode code 1644 = .ok (.iload 4, 2) := by decide +kernel
theorem dw_1646 : decode code 1646 = .ok (.iconst 1, 1) := by decide +kernel
theorem dw_1647 : decode code 1647 = .ok (.iadd, 1) := by decide +kernel
theorem dw_1648 : decode code 1648 = .ok (.iaload, 1) := by decide +kernel
theorem dw_1649 : decode code 1649 = .ok (.invokevirtual 215, 3) := by decide +kernel
theorem dw_1652 : decode code 1652 = .ok (.istore 6, 2) := by decide +kernel
theorem dw_1654 : decode code 1654 = .ok (.aload_n 2, 1) := by decide +kernel
theorem dw_1655 : decode code 1655 = .ok (.invokevirtual 143, 3) := by decide +kernel
theorem dw_1658 : decode code 1658 = .ok (.iload 5, 2) := by decide +kernel
theorem dw_1660 : decode code 1660 = .ok (.if_icmp .eq 5, 3) := by decide +kernel
theorem dw_1663 : decode code 1663 = .ok (.iconst 0, 1) := by decide +kernel
theorem dw_1664 : decode code 1664 = .ok (.ireturn, 1) := by decide +kernel
theorem dw_1665 : decode code 1665 = .ok (.iload 5, 2) := by decide +kernel
theorem dw_1667 : decode code 1667 = .ok (.ifCond .ne 15, 3) := by decide +kernel
theorem dw_1670 : decode code 1670 = .ok (.aload_n 3, 1) := by decide +kernel
theorem dw_1671 : decode code 1671 = .ok (.iconst 0, 1) := by decide +kernel
theorem dw_1672 : decode code 1672 = .ok (.laload, 1) := by decide +kernel
theorem dw_1673 : decode code 1673 = .ok (.iload 6, 2) := by decide +kernel
theorem dw_1675 : decode code 1675 = .ok (.i2l, 1) := by decide +kernel
theorem dw_1676 : decode code 1676 = .ok (.lcmp, 1) := by decide +kernel
theorem dw_1677 : decode code 1677 = .ok (.ifCond .eq 5, 3) := by decide +kernel
theorem dw_1680 : decode code 1680 = .ok (.iconst 0, 1) := by decide +kernel
theorem dw_1681 : decode code 1681 = .ok (.ireturn, 1) := by decide +kernel
theorem dw_1682 : decode code 1682 = .ok (.goto 1119, 3) := by decide +kernel
theorem dw_1685 : decode code 1685 = .ok (.aload_n 1, 1) := by decide +kernel
theorem dw_1686 : decode code 1686 = .ok (.aload_n 0, 1) := by decide +kernel
theorem dw_1687 : decode code 1687 = .ok (.iload 4, 2) := by decide +kernel
theorem dw_1689 : decode code 1689 = .ok (.iconst 1, 1) := by decide +kernel
theorem dw_1690 : decode code 1690 = .ok (.iadd, 1) := by decide +kernel
theorem dw_1691 : decode code 1691 = .ok (.iaload, 1) := by decide +kernel
theorem dw_1692 : decode code 1692 = .ok (.aload_n 3, 1) := by decide +kernel
theorem dw_1693 : decode code 1693 = .ok (.invokestatic 216, 3) := by decide +kernel
theorem dw_1696 : decode code 1696 = .ok (.istore 5, 2) := by decide +kernel
theorem dw_1698 : decode code 1698 = .ok (.aload_n 2, 1) := by decide +kernel
theorem dw_1699 : decode code 1699 = .ok (.aload_n 0, 1) := by decide +kernel
theorem dw_1700 : decode code 1700 = .ok (.iload 4, 2) := by decide +kernel
theorem dw_1702 : decode code 1702 = .ok (.iconst 1, 1) := by decide +kernel
theorem dw_1703 : decode code 1703 = .ok (.iadd, 1) := by decide +kernel
theorem dw_1704 : decode code 1704 = .ok (.iaload, 1) := by decide +kernel
theorem dw_1705 : decode code 1705 = .ok (.invokevirtual 218, 3) := by decide +kernel
theorem dw_1708 : decode code 1708 = .ok (.istore 6, 2) := by decide +kernel
theorem dw_1710 : decode code 1710 = .ok (.aload_n 2, 1) := by decide +kernel
theorem dw_1711 : decode code 1711 = .ok (.invokevirtual 143, 3) := by decide +kernel
theorem dw_1714 : decode code 1714 = .ok (.iload 5, 2) := by decide +kernel
theorem dw_1716 : decode code 1716 = .ok (.if_icmp .eq 5, 3) := by decide +kernel
theorem dw_1719 : decode code 1719 = .ok (.iconst 0, 1) := by decide +kernel
theorem dw_1720 : decode code 1720 = .ok (.ireturn, 1) := by decide +kernel
theorem dw_1721 : decode code 1721 = .ok (.iload 5, 2) := by decide +kernel
theorem dw_1723 : decode code 1723 = .ok (.ifCond .ne 15, 3) := by decide +kernel
theorem dw_1726 : decode code 1726 = .ok (.aload_n 3, 1) := by decide +kernel
theorem dw_1727 : decode code 1727 = .ok (.iconst 0, 1) := by decide +kernel
theorem dw_1728 : decode code 1728 = .ok (.laload, 1) := by decide +kernel
theorem dw_1729 : decode code 1729 = .ok (.iload 6, 2) := by decide +kernel
theorem dw_1731 : decode code 1731 = .ok (.i2l, 1) := by decide +kernel
theorem dw_1732 : decode code 1732 = .ok (.lcmp, 1) := by decide +kernel
theorem dw_1733 : decode code 1733 = .ok (.ifCond .eq 5, 3) := by decide +kernel
theorem dw_1736 : decode code 1736 = .ok (.iconst 0, 1) := by decide +kernel
theorem dw_1737 : decode code 1737 = .ok (.ireturn, 1) := by decide +kernel
theorem dw_1738 : decode code 1738 = .ok (.goto 1063, 3) := by decide +kernel
theorem dw_1741 : decode code 1741 = .ok (.aload_n 1, 1) := by decide +kernel
theorem dw_1742 : decode code 1742 = .ok (.aload_n 0, 1) := by decide +kernel
theorem dw_1743 : decode code 1743 = .ok (.iload 4, 2) := by decide +kernel
theorem dw_1745 : decode code 1745 = .ok (.iconst 1, 1) := by decide +kernel
theorem dw_1746 : decode code 1746 = .ok (.iadd, 1) := by decide +kernel
theorem dw_1747 : decode code 1747 = .ok (.iaload, 1) := by decide +kernel
theorem dw_1748 : decode code 1748 = .ok (.aload_n 3, 1) := by decide +kernel
theorem dw_1749 : decode code 1749 = .ok (.invokestatic 219, 3) := by decide +kernel
theorem dw_1752 : decode code 1752 = .ok (.istore 5, 2) := by decide +kernel
theorem dw_1754 : decode code 1754 = .ok (.aload_n 2, 1) := by decide +kernel
theorem dw_1755 : decode code 1755 = .ok (.aload_n 0, 1) := by decide +kernel
theorem dw_1756 : decode code 1756 = .ok (.iload 4, 2) := by decide +kernel
theorem dw_1758 : decode code 1758 = .ok (.iconst 1, 1) := by decide +kernel
theorem dw_1759 : decode code 1759 = .ok (.iadd, 1) := by decide +kernel
theorem dw_1760 : decode code 1760 = .ok (.iaload, 1) := by decide +kernel
theorem dw_1761 : decode code 1761 = .ok (.invokevirtual 221, 3) := by decide +kernel
theorem dw_1764 : decode code 1764 = .ok (.istore 6, 2) := by decide +kernel
theorem dw_1766 : decode code 1766 = .ok (.aload_n 2, 1) := by decide +kernel
theorem dw_1767 : decode code 1767 = .ok (.invokevirtual 143, 3) := by decide +kernel
theorem dw_1770 : decode code 1770 = .ok (.iload 5, 2) := by decide +kernel
theorem dw_1772 : decode code 1772 = .ok (.if_icmp .eq 5, 3) := by decide +kernel
theorem dw_1775 : decode code 1775 = .ok (.iconst 0, 1) := by decide +kernel
theorem dw_1776 : decode code 1776 = .ok (.ireturn, 1) := by decide +kernel
theorem dw_1777 : decode code 1777 = .ok (.iload 5, 2) := by decide +kernel
theorem dw_1779 : decode code 1779 = .ok (.ifCond .ne 15, 3) := by decide +kernel
theorem dw_1782 : decode code 1782 = .ok (.aload_n 3, 1) := by decide +kernel
theorem dw_1783 : decode code 1783 = .ok (.iconst 0, 1) := by decide +kernel
theorem dw_1784 : decode code 1784 = .ok (.laload, 1) := by decide +kernel
theorem dw_1785 : decode code 1785 = .ok (.iload 6, 2) := by decide +kernel
theorem dw_1787 : decode code 1787 = .ok (.i2l, 1) := by decide +kernel
theorem dw_1788 : decode code 1788 = .ok (.lcmp, 1) := by decide +kernel
theorem dw_1789 : decode code 1789 = .ok (.ifCond .eq 5, 3) := by decide +kernel
theorem dw_1792 : decode code 1792 = .ok (.iconst 0, 1) := by decide +kernel
theorem dw_1793 : decode code 1793 = .ok (.ireturn, 1) := by decide +kernel
theorem dw_1794 : decode code 1794 = .ok (.goto 1007, 3) := by decide +kernel
theorem dw_1797 : decode code 1797 = .ok (.aload_n 1, 1) := by decide +kernel
theorem dw_1798 : decode code 1798 = .ok (.aload_n 0, 1) := by decide +kernel
theorem dw_1799 : decode code 1799 = .ok (.iload 4, 2) := by decide +kernel
theorem dw_1801 : decode code 1801 = .ok (.iconst 1, 1) := by decide +kernel
theorem dw_1802 : decode code 1802 = .ok (.iadd, 1) := by decide +kernel
theorem dw_1803 : decode code 1803 = .ok (.iaload, 1) := by decide +kernel
theorem dw_1804 : decode code 1804 = .ok (.aload_n 3, 1) := by decide +kernel
theorem dw_1805 : decode code 1805 = .ok (.invokestatic 222, 3) := by decide +kernel
theorem dw_1808 : decode code 1808 = .ok (.istore 5, 2) := by decide +kernel
theorem dw_1810 : decode code 1810 = .ok (.aload_n 2, 1) := by decide +kernel
theorem dw_1811 : decode code 1811 = .ok (.aload_n 0, 1) := by decide +kernel
theorem dw_1812 : decode code 1812 = .ok (.iload 4, 2) := by decide +kernel
theorem dw_1814 : decode code 1814 = .ok (.iconst 1, 1) := by decide +kernel
theorem dw_1815 : decode code 1815 = .ok (.iadd, 1) := by decide +kernel
theorem dw_1816 : decode code 1816 = .ok (.iaload, 1) := by decide +kernel
theorem dw_1817 : decode code 1817 = .ok (.invokevirtual 224, 3) := by decide +kernel
theorem dw_1820 : decode code 1820 = .ok (.istore 6, 2) := by decide +kernel
theorem dw_1822 : decode code 1822 = .ok (.aload_n 2, 1) := by decide +kernel
theorem dw_1823 : decode code 1823 = .ok (.invokevirtual 143, 3) := by decide +kernel
theorem dw_1826 : decode code 1826 = .ok (.iload 5, 2) := by decide +kernel
theorem dw_1828 : decode code 1828 = .ok (.if_icmp .eq 5, 3) := by decide +kernel
theorem dw_1831 : decode code 1831 = .ok (.iconst 0, 1) := by decide +kernel
theorem dw_1832 : decode code 1832 = .ok (.ireturn, 1) := by decide +kernel
theorem dw_1833 : decode code 1833 = .ok (.iload 5, 2) := by decide +kernel
theorem dw_1835 : decode code 1835 = .ok (.ifCond .ne 22, 3) := by decide +kernel
theorem dw_1838 : decode code 1838 = .ok (.aload_n 3, 1) := by decide +kernel
theorem dw_1839 : decode code 1839 = .ok (.iconst 0, 1) := by decide +kernel
theorem dw_1840 : decode code 1840 = .ok (.laload, 1) := by decide +kernel
theorem dw_1841 : decode code 1841 = .ok (.iload 6, 2) := by decide +kernel
theorem dw_1843 : decode code 1843 = .ok (.ifCond .eq 7, 3) := by decide +kernel
theorem dw_1846 : decode code 1846 = .ok (.lconst 1, 1) := by decide +kernel
theorem dw_1847 : decode code 1847 = .ok (.goto 4, 3) := by decide +kernel
theorem dw_1850 : decode code 1850 = .ok (.lconst 0, 1) := by decide +kernel
theorem dw_1851 : decode code 1851 = .ok (.lcmp, 1) := by decide +kernel
theorem dw_1852 : decode code 1852 = .ok (.ifCond .eq 5, 3) := by decide +kernel
theorem dw_1855 : decode code 1855 = .ok (.iconst 0, 1) := by decide +kernel
theorem dw_1856 : decode code 1856 = .ok (.ireturn, 1) := by decide +kernel
theorem dw_1857 : decode code 1857 = .ok (.goto 944, 3) := by decide +kernel
theorem dw_1860 : decode code 1860 = .ok (.aload_n 1, 1) := by decide +kernel
theorem dw_1861 : decode code 1861 = .ok (.aload_n 0, 1) := by decide +kernel
theorem dw_1862 : decode code 1862 = .ok (.iload 4, 2) := by decide +kernel
theorem dw_1864 : decode code 1864 = .ok (.iconst 1, 1) := by decide +kernel
theorem dw_1865 : decode code 1865 = .ok (.iadd, 1) := by decide +kernel
theorem dw_1866 : decode code 1866 = .ok (.iaload, 1) := by decide +kernel
theorem dw_1867 : decode code 1867 = .ok (.aload_n 0, 1) := by decide +kernel
theorem dw_1868 : decode code 1868 = .ok (.iload 4, 2) := by decide +kernel
theorem dw_1870 : decode code 1870 = .ok (.iconst 2, 1) := by decide +kernel
theorem dw_1871 : decode code 1871 = .ok (.iadd, 1) := by decide +kernel
theorem dw_1872 : decode code 1872 = .ok (.iaload, 1) := by decide +kernel
theorem dw_1873 : decode code 1873 = .ok (.aload_n 3, 1) := by decide +kernel
theorem dw_1874 : decode code 1874 = .ok (.invokestatic 225, 3) := by decide +kernel
theorem dw_1877 : decode code 1877 = .ok (.istore 5, 2) := by decide +kernel
theorem dw_1879 : decode code 1879 = .ok (.aload_n 2, 1) := by decide +kernel
theorem dw_1880 : decode code 1880 = .ok (.aload_n 0, 1) := by decide +kernel
theorem dw_1881 : decode code 1881 = .ok (.iload 4, 2) := by decide +kernel
theorem dw_1883 : decode code 1883 = .ok (.iconst 1, 1) := by decide +kernel
theorem dw_1884 : decode code 1884 = .ok (.iadd, 1) := by decide +kernel
theorem dw_1885 : decode code 1885 = .ok (.iaload, 1) := by decide +kernel
theorem dw_1886 : decode code 1886 = .ok (.aload_n 0, 1) := by decide +kernel
theorem dw_1887 : decode code 1887 = .ok (.iload 4, 2) := by decide +kernel
theorem dw_1889 : decode code 1889 = .ok (.iconst 2, 1) := by decide +kernel
theorem dw_1890 : decode code 1890 = .ok (.iadd, 1) := by decide +kernel
theorem dw_1891 : decode code 1891 = .ok (.iaload, 1) := by decide +kernel
theorem dw_1892 : decode code 1892 = .ok (.invokevirtual 227, 3) := by decide +kernel
theorem dw_1895 : decode code 1895 = .ok (.istore 6, 2) := by decide +kernel
theorem dw_1897 : decode code 1897 = .ok (.aload_n 2, 1) := by decide +kernel
theorem dw_1898 : decode code 1898 = .ok (.invokevirtual 143, 3) := by decide +kernel
theorem dw_1901 : decode code 1901 = .ok (.iload 5, 2) := by decide +kernel
theorem dw_1903 : decode code 1903 = .ok (.if_icmp .eq 5, 3) := by decide +kernel
theorem dw_1906 : decode code 1906 = .ok (.iconst 0, 1) := by decide +kernel
theorem dw_1907 : decode code 1907 = .ok (.ireturn, 1) := by decide +kernel
end
