theorem d_law_1150 : decode code 1150 = .ok (.aload_n 3, 1) := by decide +kernel
theorem d_law_1151 : decode code 1151 = .ok (.invokestatic 129, 3) := by decide +kernel
theorem d_law_1154 : decode code 1154 = .ok (.istore 5, 2) := by decide +kernel
theorem d_law_1156 : decode code 1156 = .ok (.aload_n 2, 1) := by decide +kernel
theorem d_law_1157 : decode code 1157 = .ok (.aload_n 0, 1) := by decide +kernel
theorem d_law_1158 : decode code 1158 = .ok (.iload 4, 2) := by decide +kernel
theorem d_law_1160 : decode code 1160 = .ok (.iconst 1, 1) := by decide +kernel
theorem d_law_1161 : decode code 1161 = .ok (.iadd, 1) := by decide +kernel
theorem d_law_1162 : decode code 1162 = .ok (.iaload, 1) := by decide +kernel
theorem d_law_1163 : decode code 1163 = .ok (.invokevirtual 132, 3) := by decide +kernel
theorem d_law_1166 : decode code 1166 = .ok (.istore 6, 2) := by decide +kernel
theorem d_law_1168 : decode code 1168 = .ok (.aload_n 2, 1) := by decide +kernel
theorem d_law_1169 : decode code 1169 = .ok (.invokevirtual 84, 3) := by decide +kernel
theorem d_law_1172 : decode code 1172 = .ok (.iload 5, 2) := by decide +kernel
theorem d_law_1174 : decode code 1174 = .ok (.if_icmp .eq 5, 3) := by decide +kernel
theorem d_law_1177 : decode code 1177 = .ok (.iconst 0, 1) := by decide +kernel
theorem d_law_1178 : decode code 1178 = .ok (.ireturn, 1) := by decide +kernel
theorem d_law_1179 : decode code 1179 = .ok (.iload 5, 2) := by decide +kernel
theorem d_law_1181 : decode code 1181 = .ok (.ifCond .ne 15, 3) := by decide +kernel
theorem d_law_1184 : decode code 1184 = .ok (.aload_n 3, 1) := by decide +kernel
theorem d_law_1185 : decode code 1185 = .ok (.iconst 0, 1) := by decide +kernel
theorem d_law_1186 : decode code 1186 = .ok (.laload, 1) := by decide +kernel
theorem d_law_1187 : decode code 1187 = .ok (.iload 6, 2) := by decide +kernel
theorem d_law_1189 : decode code 1189 = .ok (.i2l, 1) := by decide +kernel
theorem d_law_1190 : decode code 1190 = .ok (.lcmp, 1) := by decide +kernel
theorem d_law_1191 : decode code 1191 = .ok (.ifCond .eq 5, 3) := by decide +kernel
theorem d_law_1194 : decode code 1194 = .ok (.iconst 0, 1) := by decide +kernel
theorem d_law_1195 : decode code 1195 = .ok (.ireturn, 1) := by decide +kernel
theorem d_law_1196 : decode code 1196 = .ok (.goto 176, 3) := by decide +kernel
theorem d_law_1199 : decode code 1199 = .ok (.aload_n 1, 1) := by decide +kernel
theorem d_law_1200 : decode code 1200 = .ok (.aload_n 0, 1) := by decide +kernel
theorem d_law_1201 : decode code 1201 = .ok (.iload 4, 2) := by decide +kernel
theorem d_law_1203 : decode code 1203 = .ok (.iconst 1, 1) := by decide +kernel
theorem d_law_1204 : decode code 1204 = .ok (.iadd, 1) := by decide +kernel
theorem d_law_1205 : decode code 1205 = .ok (.iaload, 1) := by decide +kernel
theorem d_law_1206 : decode code 1206 = .ok (.invokevirtual 133, 3) := by decide +kernel
theorem d_law_1209 : decode code 1209 = .ok (.aload_n 2, 1) := by decide +kernel
theorem d_law_1210 : decode code 1210 = .ok (.aload_n 0, 1) := by decide +kernel
theorem d_law_1211 : decode code 1211 = .ok (.iload 4, 2) := by decide +kernel
theorem d_law_1213 : decode code 1213 = .ok (.iconst 1, 1) := by decide +kernel
theorem d_law_1214 : decode code 1214 = .ok (.iadd, 1) := by decide +kernel
theorem d_law_1215 : decode code 1215 = .ok (.iaload, 1) := by decide +kernel
theorem d_law_1216 : decode code 1216 = .ok (.invokevirtual 136, 3) := by decide +kernel
theorem d_law_1219 : decode code 1219 = .ok (.if_icmp .eq 153, 3) := by decide +kernel
theorem d_law_1222 : decode code 1222 = .ok (.iconst 0, 1) := by decide +kernel
theorem d_law_1223 : decode code 1223 = .ok (.ireturn, 1) := by decide +kernel
theorem d_law_1224 : decode code 1224 = .ok (.aload_n 1, 1) := by decide +kernel
theorem d_law_1225 : decode code 1225 = .ok (.aload_n 0, 1) := by decide +kernel
theorem d_law_1226 : decode code 1226 = .ok (.iload 4, 2) := by decide +kernel
theorem d_law_1228 : decode code 1228 = .ok (.iconst 1, 1) := by decide +kernel
theorem d_law_1229 : decode code 1229 = .ok (.iadd, 1) := by decide +kernel
theorem d_law_1230 : decode code 1230 = .ok (.iaload, 1) := by decide +kernel
theorem d_law_1231 : decode code 1231 = .ok (.aload_n 0, 1) := by decide +kernel
theorem d_law_1232 : decode code 1232 = .ok (.iload 4, 2) := by decide +kernel
theorem d_law_1234 : decode code 1234 = .ok (.iconst 2, 1) := by decide +kernel
theorem d_law_1235 : decode code 1235 = .ok (.iadd, 1) := by decide +kernel
theorem d_law_1236 : decode code 1236 = .ok (.iaload, 1) := by decide +kernel
theorem d_law_1237 : decode code 1237 = .ok (.aload_n 3, 1) := by decide +kernel
theorem d_law_1238 : decode code 1238 = .ok (.invokestatic 137, 3) := by decide +kernel
theorem d_law_1241 : decode code 1241 = .ok (.istore 5, 2) := by decide +kernel
theorem d_law_1243 : decode code 1243 = .ok (.aload_n 2, 1) := by decide +kernel
theorem d_law_1244 : decode code 1244 = .ok (.aload_n 0, 1) := by decide +kernel
theorem d_law_1245 : decode code 1245 = .ok (.iload 4, 2) := by decide +kernel
theorem d_law_1247 : decode code 1247 = .ok (.iconst 1, 1) := by decide +kernel
theorem d_law_1248 : decode code 1248 = .ok (.iadd, 1) := by decide +kernel
theorem d_law_1249 : decode code 1249 = .ok (.iaload, 1) := by decide +kernel
theorem d_law_1250 : decode code 1250 = .ok (.aload_n 0, 1) := by decide +kernel
theorem d_law_1251 : decode code 1251 = .ok (.iload 4, 2) := by decide +kernel
theorem d_law_1253 : decode code 1253 = .ok (.iconst 2, 1) := by decide +kernel
theorem d_law_1254 : decode code 1254 = .ok (.iadd, 1) := by decide +kernel
theorem d_law_1255 : decode code 1255 = .ok (.iaload, 1) := by decide +kernel
theorem d_law_1256 : decode code 1256 = .ok (.invokevirtual 140, 3) := by decide +kernel
theorem d_law_1259 : decode code 1259 = .ok (.istore 6, 2) := by decide +kernel
theorem d_law_1261 : decode code 1261 = .ok (.aload_n 2, 1) := by decide +kernel
theorem d_law_1262 : decode code 1262 = .ok (.invokevirtual 84, 3) := by decide +kernel
theorem d_law_1265 : decode code 1265 = .ok (.iload 5, 2) := by decide +kernel
theorem d_law_1267 : decode code 1267 = .ok (.if_icmp .eq 5, 3) := by decide +kernel
theorem d_law_1270 : decode code 1270 = .ok (.iconst 0, 1) := by decide +kernel
theorem d_law_1271 : decode code 1271 = .ok (.ireturn, 1) := by decide +kernel
theorem d_law_1272 : decode code 1272 = .ok (.iload 5, 2) := by decide +kernel
theorem d_law_1274 : decode code 1274 = .ok (.ifCond .ne 15, 3) := by decide +kernel
theorem d_law_1277 : decode code 1277 = .ok (.aload_n 3, 1) := by decide +kernel
theorem d_law_1278 : decode code 1278 = .ok (.iconst 0, 1) := by decide +kernel
theorem d_law_1279 : decode code 1279 = .ok (.laload, 1) := by decide +kernel
theorem d_law_1280 : decode code 1280 = .ok (.iload 6, 2) := by decide +kernel
theorem d_law_1282 : decode code 1282 = .ok (.i2l, 1) := by decide +kernel
theorem d_law_1283 : decode code 1283 = .ok (.lcmp, 1) := by decide +kernel
theorem d_law_1284 : decode code 1284 = .ok (.ifCond .eq 5, 3) := by decide +kernel
theorem d_law_1287 : decode code 1287 = .ok (.iconst 0, 1) := by decide +kernel
theorem d_law_1288 : decode code 1288 = .ok (.ireturn, 1) := by decide +kernel
theorem d_law_1289 : decode code 1289 = .ok (.goto 83, 3) := by decide +kernel
theorem d_law_1292 : decode code 1292 = .ok (.aload_n 1, 1) := by decide +kernel
theorem d_law_1293 : decode code 1293 = .ok (.aload_n 0, 1) := by decide +kernel
theorem d_law_1294 : decode code 1294 = .ok (.iload 4, 2) := by decide +kernel
theorem d_law_1296 : decode code 1296 = .ok (.iconst 1, 1) := by decide +kernel
theorem d_law_1297 : decode code 1297 = .ok (.iadd, 1) := by decide +kernel
theorem d_law_1298 : decode code 1298 = .ok (.iaload, 1) := by decide +kernel
theorem d_law_1299 : decode code 1299 = .ok (.aload_n 0, 1) := by decide +kernel
theorem d_law_1300 : decode code 1300 = .ok (.iload 4, 2) := by decide +kernel
theorem d_law_1302 : decode code 1302 = .ok (.iconst 2, 1) := by decide +kernel
theorem d_law_1303 : decode code 1303 = .ok (.iadd, 1) := by decide +kernel
theorem d_law_1304 : decode code 1304 = .ok (.iaload, 1) := by decide +kernel
theorem d_law_1305 : decode code 1305 = .ok (.aload_n 0, 1) := by decide +kernel
theorem d_law_1306 : decode code 1306 = .ok (.iload 4, 2) := by decide +kernel
theorem d_law_1308 : decode code 1308 = .ok (.iconst 3, 1) := by decide +kernel
theorem d_law_1309 : decode code 1309 = .ok (.iadd, 1) := by decide +kernel
theorem d_law_1310 : decode code 1310 = .ok (.iaload, 1) := by decide +kernel
theorem d_law_1311 : decode code 1311 = .ok (.aload_n 3, 1) := by decide +kernel
theorem d_law_1312 : decode code 1312 = .ok (.invokestatic 141, 3) := by decide +kernel
theorem d_law_1315 : decode code 1315 = .ok (.istore 5, 2) := by decide +kernel
theorem d_law_1317 : decode code 1317 = .ok (.aload_n 2, 1) := by decide +kernel
theorem d_law_1318 : decode code 1318 = .ok (.aload_n 0, 1) := by decide +kernel
theorem d_law_1319 : decode code 1319 = .ok (.iload 4, 2) := by decide +kernel
theorem d_law_1321 : decode code 1321 = .ok (.iconst 1, 1) := by decide +kernel
theorem d_law_1322 : decode code 1322 = .ok (.iadd, 1) := by decide +kernel
theorem d_law_1323 : decode code 1323 = .ok (.iaload, 1) := by decide +kernel
theorem d_law_1324 : decode code 1324 = .ok (.aload_n 0, 1) := by decide +kernel
theorem d_law_1325 : decode code 1325 = .ok (.iload 4, 2) := by decide +kernel
theorem d_law_1327 : decode code 1327 = .ok (.iconst 2, 1) := by decide +kernel
theorem d_law_1328 : decode code 1328 = .ok (.iadd, 1) := by decide +kernel
theorem d_law_1329 : decode code 1329 = .ok (.iaload, 1) := by decide +kernel
theorem d_law_1330 : decode code 1330 = .ok (.aload_n 0, 1) := by decide +kernel
theorem d_law_1331 : decode code 1331 = .ok (.iload 4, 2) := by decide +kernel
theorem d_law_1333 : decode code 1333 = .ok (.iconst 3, 1) := by decide +kernel
theorem d_law_1334 : decode code 1334 = .ok (.iadd, 1) := by decide +kernel
theorem d_law_1335 : decode code 1335 = .ok (.iaload, 1) := by decide +kernel
theorem d_law_1336 : decode code 1336 = .ok (.invokevirtual 143, 3) := by decide +kernel
theorem d_law_1339 : decode code 1339 = .ok (.istore 6, 2) := by decide +kernel
theorem d_law_1341 : decode code 1341 = .ok (.aload_n 2, 1) := by decide +kernel
theorem d_law_1342 : decode code 1342 = .ok (.invokevirtual 84, 3) := by decide +kernel
theorem d_law_1345 : decode code 1345 = .ok (.iload 5, 2) := by decide +kernel
theorem d_law_1347 : decode code 1347 = .ok (.if_icmp .eq 5, 3) := by decide +kernel
theorem d_law_1350 : decode code 1350 = .ok (.iconst 0, 1) := by decide +kernel
theorem d_law_1351 : decode code 1351 = .ok (.ireturn, 1) := by decide +kernel
theorem d_law_1352 : decode code 1352 = .ok (.iload 5, 2) := by decide +kernel
theorem d_law_1354 : decode code 1354 = .ok (.ifCond .ne 15, 3) := by decide +kernel
theorem d_law_1357 : decode code 1357 = .ok (.aload_n 3, 1) := by decide +kernel
theorem d_law_1358 : decode code 1358 = .ok (.iconst 0, 1) := by decide +kernel
theorem d_law_1359 : decode code 1359 = .ok (.laload, 1) := by decide +kernel
theorem d_law_1360 : decode code 1360 = .ok (.iload 6, 2) := by decide +kernel
theorem d_law_1362 : decode code 1362 = .ok (.i2l, 1) := by decide +kernel
theorem d_law_1363 : decode code 1363 = .ok (.lcmp, 1) := by decide +kernel
theorem d_law_1364 : decode code 1364 = .ok (.ifCond .eq 5, 3) := by decide +kernel
theorem d_law_1367 : decode code 1367 = .ok (.iconst 0, 1) := by decide +kernel
theorem d_law_1368 : decode code 1368 = .ok (.ireturn, 1) := by decide +kernel
theorem d_law_1369 : decode code 1369 = .ok (.goto 3, 3) := by decide +kernel
theorem d_law_1372 : decode code 1372 = .ok (.iinc 4 6, 3) := by decide +kernel
theorem d_law_1375 : decode code 1375 = .ok (.goto (-1342), 3) := by decide +kernel
theorem d_law_1378 : decode code 1378 = .ok (.iconst 1, 1) := by decide +kernel
theorem d_law_1379 : decode code 1379 = .ok (.ireturn, 1) := by decide +kernel
