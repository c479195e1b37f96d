theorem dL_law_1167_g : (decode cL_law 1167 = .ok (.iadd, 1)) ∧ (decode cL_law 1168 = .ok (.iaload, 1)) ∧ (decode cL_law 1169 = .ok (.invokevirtual 124, 3)) ∧ (decode cL_law 1172 = .ok (.pop, 1)) ∧ (decode cL_law 1173 = .ok (.goto 420, 3)) ∧ (decode cL_law 1176 = .ok (.aload_n 1, 1)) ∧ (decode cL_law 1177 = .ok (.aload_n 0, 1)) ∧ (decode cL_law 1178 = .ok (.iload 4, 2)) := by decide +kernel
theorem dL_law_1167 : decode cL_law 1167 = .ok (.iadd, 1) := dL_law_1167_g.1
theorem dL_law_1168 : decode cL_law 1168 = .ok (.iaload, 1) := dL_law_1167_g.2.1
theorem dL_law_1169 : decode cL_law 1169 = .ok (.invokevirtual 124, 3) := dL_law_1167_g.2.2.1
theorem dL_law_1172 : decode cL_law 1172 = .ok (.pop, 1) := dL_law_1167_g.2.2.2.1
theorem dL_law_1173 : decode cL_law 1173 = .ok (.goto 420, 3) := dL_law_1167_g.2.2.2.2.1
theorem dL_law_1176 : decode cL_law 1176 = .ok (.aload_n 1, 1) := dL_law_1167_g.2.2.2.2.2.1
theorem dL_law_1177 : decode cL_law 1177 = .ok (.aload_n 0, 1) := dL_law_1167_g.2.2.2.2.2.2.1
theorem dL_law_1178 : decode cL_law 1178 = .ok (.iload 4, 2) := dL_law_1167_g.2.2.2.2.2.2.2
theorem dL_law_1180_g : (decode cL_law 1180 = .ok (.iconst 1, 1)) ∧ (decode cL_law 1181 = .ok (.iadd, 1)) ∧ (decode cL_law 1182 = .ok (.iaload, 1)) ∧ (decode cL_law 1183 = .ok (.aload_n 0, 1)) ∧ (decode cL_law 1184 = .ok (.iload 4, 2)) ∧ (decode cL_law 1186 = .ok (.iconst 2, 1)) ∧ (decode cL_law 1187 = .ok (.iadd, 1)) ∧ (decode cL_law 1188 = .ok (.iaload, 1)) := by decide +kernel
theorem dL_law_1180 : decode cL_law 1180 = .ok (.iconst 1, 1) := dL_law_1180_g.1
theorem dL_law_1181 : decode cL_law 1181 = .ok (.iadd, 1) := dL_law_1180_g.2.1
theorem dL_law_1182 : decode cL_law 1182 = .ok (.iaload, 1) := dL_law_1180_g.2.2.1
theorem dL_law_1183 : decode cL_law 1183 = .ok (.aload_n 0, 1) := dL_law_1180_g.2.2.2.1
theorem dL_law_1184 : decode cL_law 1184 = .ok (.iload 4, 2) := dL_law_1180_g.2.2.2.2.1
theorem dL_law_1186 : decode cL_law 1186 = .ok (.iconst 2, 1) := dL_law_1180_g.2.2.2.2.2.1
theorem dL_law_1187 : decode cL_law 1187 = .ok (.iadd, 1) := dL_law_1180_g.2.2.2.2.2.2.1
theorem dL_law_1188 : decode cL_law 1188 = .ok (.iaload, 1) := dL_law_1180_g.2.2.2.2.2.2.2
theorem dL_law_1189_g : (decode cL_law 1189 = .ok (.invokevirtual 125, 3)) ∧ (decode cL_law 1192 = .ok (.pop, 1)) ∧ (decode cL_law 1193 = .ok (.aload_n 2, 1)) ∧ (decode cL_law 1194 = .ok (.aload_n 0, 1)) ∧ (decode cL_law 1195 = .ok (.iload 4, 2)) ∧ (decode cL_law 1197 = .ok (.iconst 1, 1)) ∧ (decode cL_law 1198 = .ok (.iadd, 1)) ∧ (decode cL_law 1199 = .ok (.iaload, 1)) := by decide +kernel
theorem dL_law_1189 : decode cL_law 1189 = .ok (.invokevirtual 125, 3) := dL_law_1189_g.1
theorem dL_law_1192 : decode cL_law 1192 = .ok (.pop, 1) := dL_law_1189_g.2.1
theorem dL_law_1193 : decode cL_law 1193 = .ok (.aload_n 2, 1) := dL_law_1189_g.2.2.1
theorem dL_law_1194 : decode cL_law 1194 = .ok (.aload_n 0, 1) := dL_law_1189_g.2.2.2.1
theorem dL_law_1195 : decode cL_law 1195 = .ok (.iload 4, 2) := dL_law_1189_g.2.2.2.2.1
theorem dL_law_1197 : decode cL_law 1197 = .ok (.iconst 1, 1) := dL_law_1189_g.2.2.2.2.2.1
theorem dL_law_1198 : decode cL_law 1198 = .ok (.iadd, 1) := dL_law_1189_g.2.2.2.2.2.2.1
theorem dL_law_1199 : decode cL_law 1199 = .ok (.iaload, 1) := dL_law_1189_g.2.2.2.2.2.2.2
theorem dL_law_1200_g : (decode cL_law 1200 = .ok (.aload_n 0, 1)) ∧ (decode cL_law 1201 = .ok (.iload 4, 2)) ∧ (decode cL_law 1203 = .ok (.iconst 2, 1)) ∧ (decode cL_law 1204 = .ok (.iadd, 1)) ∧ (decode cL_law 1205 = .ok (.iaload, 1)) ∧ (decode cL_law 1206 = .ok (.invokevirtual 128, 3)) ∧ (decode cL_law 1209 = .ok (.pop, 1)) ∧ (decode cL_law 1210 = .ok (.goto 383, 3)) := by decide +kernel
theorem dL_law_1200 : decode cL_law 1200 = .ok (.aload_n 0, 1) := dL_law_1200_g.1
theorem dL_law_1201 : decode cL_law 1201 = .ok (.iload 4, 2) := dL_law_1200_g.2.1
theorem dL_law_1203 : decode cL_law 1203 = .ok (.iconst 2, 1) := dL_law_1200_g.2.2.1
theorem dL_law_1204 : decode cL_law 1204 = .ok (.iadd, 1) := dL_law_1200_g.2.2.2.1
theorem dL_law_1205 : decode cL_law 1205 = .ok (.iaload, 1) := dL_law_1200_g.2.2.2.2.1
theorem dL_law_1206 : decode cL_law 1206 = .ok (.invokevirtual 128, 3) := dL_law_1200_g.2.2.2.2.2.1
theorem dL_law_1209 : decode cL_law 1209 = .ok (.pop, 1) := dL_law_1200_g.2.2.2.2.2.2.1
theorem dL_law_1210 : decode cL_law 1210 = .ok (.goto 383, 3) := dL_law_1200_g.2.2.2.2.2.2.2
theorem dL_law_1213_g : (decode cL_law 1213 = .ok (.aload_n 1, 1)) ∧ (decode cL_law 1214 = .ok (.aload_n 0, 1)) ∧ (decode cL_law 1215 = .ok (.iload 4, 2)) ∧ (decode cL_law 1217 = .ok (.iconst 1, 1)) ∧ (decode cL_law 1218 = .ok (.iadd, 1)) ∧ (decode cL_law 1219 = .ok (.iaload, 1)) ∧ (decode cL_law 1220 = .ok (.aload_n 0, 1)) ∧ (decode cL_law 1221 = .ok (.iload 4, 2)) := by decide +kernel
theorem dL_law_1213 : decode cL_law 1213 = .ok (.aload_n 1, 1) := dL_law_1213_g.1
theorem dL_law_1214 : decode cL_law 1214 = .ok (.aload_n 0, 1) := dL_law_1213_g.2.1
theorem dL_law_1215 : decode cL_law 1215 = .ok (.iload 4, 2) := dL_law_1213_g.2.2.1
theorem dL_law_1217 : decode cL_law 1217 = .ok (.iconst 1, 1) := dL_law_1213_g.2.2.2.1
theorem dL_law_1218 : decode cL_law 1218 = .ok (.iadd, 1) := dL_law_1213_g.2.2.2.2.1
theorem dL_law_1219 : decode cL_law 1219 = .ok (.iaload, 1) := dL_law_1213_g.2.2.2.2.2.1
theorem dL_law_1220 : decode cL_law 1220 = .ok (.aload_n 0, 1) := dL_law_1213_g.2.2.2.2.2.2.1
theorem dL_law_1221 : decode cL_law 1221 = .ok (.iload 4, 2) := dL_law_1213_g.2.2.2.2.2.2.2
theorem dL_law_1223_g : (decode cL_law 1223 = .ok (.iconst 2, 1)) ∧ (decode cL_law 1224 = .ok (.iadd, 1)) ∧ (decode cL_law 1225 = .ok (.iaload, 1)) ∧ (decode cL_law 1226 = .ok (.invokevirtual 129, 3)) ∧ (decode cL_law 1229 = .ok (.pop, 1)) ∧ (decode cL_law 1230 = .ok (.aload_n 2, 1)) ∧ (decode cL_law 1231 = .ok (.aload_n 0, 1)) ∧ (decode cL_law 1232 = .ok (.iload 4, 2)) := by decide +kernel
theorem dL_law_1223 : decode cL_law 1223 = .ok (.iconst 2, 1) := dL_law_1223_g.1
theorem dL_law_1224 : decode cL_law 1224 = .ok (.iadd, 1) := dL_law_1223_g.2.1
theorem dL_law_1225 : decode cL_law 1225 = .ok (.iaload, 1) := dL_law_1223_g.2.2.1
theorem dL_law_1226 : decode cL_law 1226 = .ok (.invokevirtual 129, 3) := dL_law_1223_g.2.2.2.1
theorem dL_law_1229 : decode cL_law 1229 = .ok (.pop, 1) := dL_law_1223_g.2.2.2.2.1
theorem dL_law_1230 : decode cL_law 1230 = .ok (.aload_n 2, 1) := dL_law_1223_g.2.2.2.2.2.1
theorem dL_law_1231 : decode cL_law 1231 = .ok (.aload_n 0, 1) := dL_law_1223_g.2.2.2.2.2.2.1
theorem dL_law_1232 : decode cL_law 1232 = .ok (.iload 4, 2) := dL_law_1223_g.2.2.2.2.2.2.2
theorem dL_law_1234_g : (decode cL_law 1234 = .ok (.iconst 1, 1)) ∧ (decode cL_law 1235 = .ok (.iadd, 1)) ∧ (decode cL_law 1236 = .ok (.iaload, 1)) ∧ (decode cL_law 1237 = .ok (.aload_n 0, 1)) ∧ (decode cL_law 1238 = .ok (.iload 4, 2)) ∧ (decode cL_law 1240 = .ok (.iconst 2, 1)) ∧ (decode cL_law 1241 = .ok (.iadd, 1)) ∧ (decode cL_law 1242 = .ok (.iaload, 1)) := by decide +kernel
theorem dL_law_1234 : decode cL_law 1234 = .ok (.iconst 1, 1) := dL_law_1234_g.1
theorem dL_law_1235 : decode cL_law 1235 = .ok (.iadd, 1) := dL_law_1234_g.2.1
theorem dL_law_1236 : decode cL_law 1236 = .ok (.iaload, 1) := dL_law_1234_g.2.2.1
theorem dL_law_1237 : decode cL_law 1237 = .ok (.aload_n 0, 1) := dL_law_1234_g.2.2.2.1
theorem dL_law_1238 : decode cL_law 1238 = .ok (.iload 4, 2) := dL_law_1234_g.2.2.2.2.1
theorem dL_law_1240 : decode cL_law 1240 = .ok (.iconst 2, 1) := dL_law_1234_g.2.2.2.2.2.1
theorem dL_law_1241 : decode cL_law 1241 = .ok (.iadd, 1) := dL_law_1234_g.2.2.2.2.2.2.1
theorem dL_law_1242 : decode cL_law 1242 = .ok (.iaload, 1) := dL_law_1234_g.2.2.2.2.2.2.2
theorem dL_law_1243_g : (decode cL_law 1243 = .ok (.invokevirtual 132, 3)) ∧ (decode cL_law 1246 = .ok (.pop, 1)) ∧ (decode cL_law 1247 = .ok (.goto 346, 3)) ∧ (decode cL_law 1250 = .ok (.aload_n 1, 1)) ∧ (decode cL_law 1251 = .ok (.aload_n 0, 1)) ∧ (decode cL_law 1252 = .ok (.iload 4, 2)) ∧ (decode cL_law 1254 = .ok (.iconst 1, 1)) ∧ (decode cL_law 1255 = .ok (.iadd, 1)) := by decide +kernel
theorem dL_law_1243 : decode cL_law 1243 = .ok (.invokevirtual 132, 3) := dL_law_1243_g.1
theorem dL_law_1246 : decode cL_law 1246 = .ok (.pop, 1) := dL_law_1243_g.2.1
theorem dL_law_1247 : decode cL_law 1247 = .ok (.goto 346, 3) := dL_law_1243_g.2.2.1
theorem dL_law_1250 : decode cL_law 1250 = .ok (.aload_n 1, 1) := dL_law_1243_g.2.2.2.1
theorem dL_law_1251 : decode cL_law 1251 = .ok (.aload_n 0, 1) := dL_law_1243_g.2.2.2.2.1
theorem dL_law_1252 : decode cL_law 1252 = .ok (.iload 4, 2) := dL_law_1243_g.2.2.2.2.2.1
theorem dL_law_1254 : decode cL_law 1254 = .ok (.iconst 1, 1) := dL_law_1243_g.2.2.2.2.2.2.1
theorem dL_law_1255 : decode cL_law 1255 = .ok (.iadd, 1) := dL_law_1243_g.2.2.2.2.2.2.2
theorem dL_law_1256_g : (decode cL_law 1256 = .ok (.iaload, 1)) ∧ (decode cL_law 1257 = .ok (.aload_n 0, 1)) ∧ (decode cL_law 1258 = .ok (.iload 4, 2)) ∧ (decode cL_law 1260 = .ok (.iconst 2, 1)) ∧ (decode cL_law 1261 = .ok (.iadd, 1)) ∧ (decode cL_law 1262 = .ok (.iaload, 1)) ∧ (decode cL_law 1263 = .ok (.invokevirtual 133, 3)) ∧ (decode cL_law 1266 = .ok (.pop2, 1)) := by decide +kernel
theorem dL_law_1256 : decode cL_law 1256 = .ok (.iaload, 1) := dL_law_1256_g.1
theorem dL_law_1257 : decode cL_law 1257 = .ok (.aload_n 0, 1) := dL_law_1256_g.2.1
theorem dL_law_1258 : decode cL_law 1258 = .ok (.iload 4, 2) := dL_law_1256_g.2.2.1
theorem dL_law_1260 : decode cL_law 1260 = .ok (.iconst 2, 1) := dL_law_1256_g.2.2.2.1
theorem dL_law_1261 : decode cL_law 1261 = .ok (.iadd, 1) := dL_law_1256_g.2.2.2.2.1
theorem dL_law_1262 : decode cL_law 1262 = .ok (.iaload, 1) := dL_law_1256_g.2.2.2.2.2.1
theorem dL_law_1263 : decode cL_law 1263 = .ok (.invokevirtual 133, 3) := dL_law_1256_g.2.2.2.2.2.2.1
theorem dL_law_1266 : decode cL_law 1266 = .ok (.pop2, 1) := dL_law_1256_g.2.2.2.2.2.2.2
theorem dL_law_1267_g : (decode cL_law 1267 = .ok (.aload_n 2, 1)) ∧ (decode cL_law 1268 = .ok (.aload_n 0, 1)) ∧ (decode cL_law 1269 = .ok (.iload 4, 2)) ∧ (decode cL_law 1271 = .ok (.iconst 1, 1)) ∧ (decode cL_law 1272 = .ok (.iadd, 1)) ∧ (decode cL_law 1273 = .ok (.iaload, 1)) ∧ (decode cL_law 1274 = .ok (.aload_n 0, 1)) ∧ (decode cL_law 1275 = .ok (.iload 4, 2)) := by decide +kernel
theorem dL_law_1267 : decode cL_law 1267 = .ok (.aload_n 2, 1) := dL_law_1267_g.1
theorem dL_law_1268 : decode cL_law 1268 = .ok (.aload_n 0, 1) := dL_law_1267_g.2.1
theorem dL_law_1269 : decode cL_law 1269 = .ok (.iload 4, 2) := dL_law_1267_g.2.2.1
theorem dL_law_1271 : decode cL_law 1271 = .ok (.iconst 1, 1) := dL_law_1267_g.2.2.2.1
theorem dL_law_1272 : decode cL_law 1272 = .ok (.iadd, 1) := dL_law_1267_g.2.2.2.2.1
theorem dL_law_1273 : decode cL_law 1273 = .ok (.iaload, 1) := dL_law_1267_g.2.2.2.2.2.1
theorem dL_law_1274 : decode cL_law 1274 = .ok (.aload_n 0, 1) := dL_law_1267_g.2.2.2.2.2.2.1
theorem dL_law_1275 : decode cL_law 1275 = .ok (.iload 4, 2) := dL_law_1267_g.2.2.2.2.2.2.2
theorem dL_law_1277_g : (decode cL_law 1277 = .ok (.iconst 2, 1)) ∧ (decode cL_law 1278 = .ok (.iadd, 1)) ∧ (decode cL_law 1279 = .ok (.iaload, 1)) ∧ (decode cL_law 1280 = .ok (.invokevirtual 136, 3)) ∧ (decode cL_law 1283 = .ok (.pop2, 1)) ∧ (decode cL_law 1284 = .ok (.goto 309, 3)) ∧ (decode cL_law 1287 = .ok (.aload_n 1, 1)) ∧ (decode cL_law 1288 = .ok (.aload_n 0, 1)) := by decide +kernel
theorem dL_law_1277 : decode cL_law 1277 = .ok (.iconst 2, 1) := dL_law_1277_g.1
theorem dL_law_1278 : decode cL_law 1278 = .ok (.iadd, 1) := dL_law_1277_g.2.1
theorem dL_law_1279 : decode cL_law 1279 = .ok (.iaload, 1) := dL_law_1277_g.2.2.1
theorem dL_law_1280 : decode cL_law 1280 = .ok (.invokevirtual 136, 3) := dL_law_1277_g.2.2.2.1
theorem dL_law_1283 : decode cL_law 1283 = .ok (.pop2, 1) := dL_law_1277_g.2.2.2.2.1
theorem dL_law_1284 : decode cL_law 1284 = .ok (.goto 309, 3) := dL_law_1277_g.2.2.2.2.2.1
theorem dL_law_1287 : decode cL_law 1287 = .ok (.aload_n 1, 1) := dL_law_1277_g.2.2.2.2.2.2.1
theorem dL_law_1288 : decode cL_law 1288 = .ok (.aload_n 0, 1) := dL_law_1277_g.2.2.2.2.2.2.2
theorem dL_law_1289_g : (decode cL_law 1289 = .ok (.iload 4, 2)) ∧ (decode cL_law 1291 = .ok (.iconst 1, 1)) ∧ (decode cL_law 1292 = .ok (.iadd, 1)) ∧ (decode cL_law 1293 = .ok (.iaload, 1)) ∧ (decode cL_law 1294 = .ok (.aload_n 0, 1)) ∧ (decode cL_law 1295 = .ok (.iload 4, 2)) ∧ (decode cL_law 1297 = .ok (.iconst 2, 1)) ∧ (decode cL_law 1298 = .ok (.iadd, 1)) := by decide +kernel
theorem dL_law_1289 : decode cL_law 1289 = .ok (.iload 4, 2) := dL_law_1289_g.1
theorem dL_law_1291 : decode cL_law 1291 = .ok (.iconst 1, 1) := dL_law_1289_g.2.1
theorem dL_law_1292 : decode cL_law 1292 = .ok (.iadd, 1) := dL_law_1289_g.2.2.1
theorem dL_law_1293 : decode cL_law 1293 = .ok (.iaload, 1) := dL_law_1289_g.2.2.2.1
theorem dL_law_1294 : decode cL_law 1294 = .ok (.aload_n 0, 1) := dL_law_1289_g.2.2.2.2.1
theorem dL_law_1295 : decode cL_law 1295 = .ok (.iload 4, 2) := dL_law_1289_g.2.2.2.2.2.1
theorem dL_law_1297 : decode cL_law 1297 = .ok (.iconst 2, 1) := dL_law_1289_g.2.2.2.2.2.2.1
theorem dL_law_1298 : decode cL_law 1298 = .ok (.iadd, 1) := dL_law_1289_g.2.2.2.2.2.2.2
theorem dL_law_1299_g : (decode cL_law 1299 = .ok (.iaload, 1)) ∧ (decode cL_law 1300 = .ok (.invokevirtual 137, 3)) ∧ (decode cL_law 1303 = .ok (.pop, 1)) ∧ (decode cL_law 1304 = .ok (.aload_n 2, 1)) ∧ (decode cL_law 1305 = .ok (.aload_n 0, 1)) ∧ (decode cL_law 1306 = .ok (.iload 4, 2)) ∧ (decode cL_law 1308 = .ok (.iconst 1, 1)) ∧ (decode cL_law 1309 = .ok (.iadd, 1)) := by decide +kernel
theorem dL_law_1299 : decode cL_law 1299 = .ok (.iaload, 1) := dL_law_1299_g.1
theorem dL_law_1300 : decode cL_law 1300 = .ok (.invokevirtual 137, 3) := dL_law_1299_g.2.1
theorem dL_law_1303 : decode cL_law 1303 = .ok (.pop, 1) := dL_law_1299_g.2.2.1
theorem dL_law_1304 : decode cL_law 1304 = .ok (.aload_n 2, 1) := dL_law_1299_g.2.2.2.1
theorem dL_law_1305 : decode cL_law 1305 = .ok (.aload_n 0, 1) := dL_law_1299_g.2.2.2.2.1
theorem dL_law_1306 : decode cL_law 1306 = .ok (.iload 4, 2) := dL_law_1299_g.2.2.2.2.2.1
theorem dL_law_1308 : decode cL_law 1308 = .ok (.iconst 1, 1) := dL_law_1299_g.2.2.2.2.2.2.1
theorem dL_law_1309 : decode cL_law 1309 = .ok (.iadd, 1) := dL_law_1299_g.2.2.2.2.2.2.2
theorem dL_law_1310_g : (decode cL_law 1310 = .ok (.iaload, 1)) ∧ (decode cL_law 1311 = .ok (.aload_n 0, 1)) ∧ (decode cL_law 1312 = .ok (.iload 4, 2)) ∧ (decode cL_law 1314 = .ok (.iconst 2, 1)) ∧ (decode cL_law 1315 = .ok (.iadd, 1)) ∧ (decode cL_law 1316 = .ok (.iaload, 1)) ∧ (decode cL_law 1317 = .ok (.invokevirtual 140, 3)) ∧ (decode cL_law 1320 = .ok (.pop, 1)) := by decide +kernel
theorem dL_law_1310 : decode cL_law 1310 = .ok (.iaload, 1) := dL_law_1310_g.1
theorem dL_law_1311 : decode cL_law 1311 = .ok (.aload_n 0, 1) := dL_law_1310_g.2.1
theorem dL_law_1312 : decode cL_law 1312 = .ok (.iload 4, 2) := dL_law_1310_g.2.2.1
theorem dL_law_1314 : decode cL_law 1314 = .ok (.iconst 2, 1) := dL_law_1310_g.2.2.2.1
theorem dL_law_1315 : decode cL_law 1315 = .ok (.iadd, 1) := dL_law_1310_g.2.2.2.2.1
theorem dL_law_1316 : decode cL_law 1316 = .ok (.iaload, 1) := dL_law_1310_g.2.2.2.2.2.1
theorem dL_law_1317 : decode cL_law 1317 = .ok (.invokevirtual 140, 3) := dL_law_1310_g.2.2.2.2.2.2.1
theorem dL_law_1320 : decode cL_law 1320 = .ok (.pop, 1) := dL_law_1310_g.2.2.2.2.2.2.2
theorem dL_law_1321_g : (decode cL_law 1321 = .ok (.goto 272, 3)) ∧ (decode cL_law 1324 = .ok (.aload_n 1, 1)) ∧ (decode cL_law 1325 = .ok (.aload_n 0, 1)) ∧ (decode cL_law 1326 = .ok (.iload 4, 2)) ∧ (decode cL_law 1328 = .ok (.iconst 1, 1)) ∧ (decode cL_law 1329 = .ok (.iadd, 1)) ∧ (decode cL_law 1330 = .ok (.iaload, 1)) ∧ (decode cL_law 1331 = .ok (.aload_n 0, 1)) := by decide +kernel
theorem dL_law_1321 : decode cL_law 1321 = .ok (.goto 272, 3) := dL_law_1321_g.1
theorem dL_law_1324 : decode cL_law 1324 = .ok (.aload_n 1, 1) := dL_law_1321_g.2.1
theorem dL_law_1325 : decode cL_law 1325 = .ok (.aload_n 0, 1) := dL_law_1321_g.2.2.1
theorem dL_law_1326 : decode cL_law 1326 = .ok (.iload 4, 2) := dL_law_1321_g.2.2.2.1
theorem dL_law_1328 : decode cL_law 1328 = .ok (.iconst 1, 1) := dL_law_1321_g.2.2.2.2.1
theorem dL_law_1329 : decode cL_law 1329 = .ok (.iadd, 1) := dL_law_1321_g.2.2.2.2.2.1
theorem dL_law_1330 : decode cL_law 1330 = .ok (.iaload, 1) := dL_law_1321_g.2.2.2.2.2.2.1
theorem dL_law_1331 : decode cL_law 1331 = .ok (.aload_n 0, 1) := dL_law_1321_g.2.2.2.2.2.2.2
theorem dL_law_1332_g : (decode cL_law 1332 = .ok (.iload 4, 2)) ∧ (decode cL_law 1334 = .ok (.iconst 2, 1)) ∧ (decode cL_law 1335 = .ok (.iadd, 1)) ∧ (decode cL_law 1336 = .ok (.iaload, 1)) ∧ (decode cL_law 1337 = .ok (.ifCond .eq 7, 3)) ∧ (decode cL_law 1340 = .ok (.iconst 1, 1)) ∧ (decode cL_law 1341 = .ok (.goto 4, 3)) ∧ (decode cL_law 1344 = .ok (.iconst 0, 1)) := by decide +kernel
theorem dL_law_1332 : decode cL_law 1332 = .ok (.iload 4, 2) := dL_law_1332_g.1
theorem dL_law_1334 : decode cL_law 1334 = .ok (.iconst 2, 1) := dL_law_1332_g.2.1
theorem dL_law_1335 : decode cL_law 1335 = .ok (.iadd, 1) := dL_law_1332_g.2.2.1
theorem dL_law_1336 : decode cL_law 1336 = .ok (.iaload, 1) := dL_law_1332_g.2.2.2.1
theorem dL_law_1337 : decode cL_law 1337 = .ok (.ifCond .eq 7, 3) := dL_law_1332_g.2.2.2.2.1
theorem dL_law_1340 : decode cL_law 1340 = .ok (.iconst 1, 1) := dL_law_1332_g.2.2.2.2.2.1
theorem dL_law_1341 : decode cL_law 1341 = .ok (.goto 4, 3) := dL_law_1332_g.2.2.2.2.2.2.1
theorem dL_law_1344 : decode cL_law 1344 = .ok (.iconst 0, 1) := dL_law_1332_g.2.2.2.2.2.2.2
theorem dL_law_1345_g : (decode cL_law 1345 = .ok (.invokevirtual 141, 3)) ∧ (decode cL_law 1348 = .ok (.pop, 1)) ∧ (decode cL_law 1349 = .ok (.aload_n 2, 1)) ∧ (decode cL_law 1350 = .ok (.aload_n 0, 1)) ∧ (decode cL_law 1351 = .ok (.iload 4, 2)) ∧ (decode cL_law 1353 = .ok (.iconst 1, 1)) ∧ (decode cL_law 1354 = .ok (.iadd, 1)) ∧ (decode cL_law 1355 = .ok (.iaload, 1)) := by decide +kernel
theorem dL_law_1345 : decode cL_law 1345 = .ok (.invokevirtual 141, 3) := dL_law_1345_g.1
theorem dL_law_1348 : decode cL_law 1348 = .ok (.pop, 1) := dL_law_1345_g.2.1
theorem dL_law_1349 : decode cL_law 1349 = .ok (.aload_n 2, 1) := dL_law_1345_g.2.2.1
theorem dL_law_1350 : decode cL_law 1350 = .ok (.aload_n 0, 1) := dL_law_1345_g.2.2.2.1
theorem dL_law_1351 : decode cL_law 1351 = .ok (.iload 4, 2) := dL_law_1345_g.2.2.2.2.1
theorem dL_law_1353 : decode cL_law 1353 = .ok (.iconst 1, 1) := dL_law_1345_g.2.2.2.2.2.1
theorem dL_law_1354 : decode cL_law 1354 = .ok (.iadd, 1) := dL_law_1345_g.2.2.2.2.2.2.1
theorem dL_law_1355 : decode cL_law 1355 = .ok (.iaload, 1) := dL_law_1345_g.2.2.2.2.2.2.2
theorem dL_law_1356_g : (decode cL_law 1356 = .ok (.aload_n 0, 1)) ∧ (decode cL_law 1357 = .ok (.iload 4, 2)) ∧ (decode cL_law 1359 = .ok (.iconst 2, 1)) ∧ (decode cL_law 1360 = .ok (.iadd, 1)) ∧ (decode cL_law 1361 = .ok (.iaload, 1)) ∧ (decode cL_law 1362 = .ok (.ifCond .eq 7, 3)) ∧ (decode cL_law 1365 = .ok (.iconst 1, 1)) ∧ (decode cL_law 1366 = .ok (.goto 4, 3)) := by decide +kernel
theorem dL_law_1356 : decode cL_law 1356 = .ok (.aload_n 0, 1) := dL_law_1356_g.1
theorem dL_law_1357 : decode cL_law 1357 = .ok (.iload 4, 2) := dL_law_1356_g.2.1
theorem dL_law_1359 : decode cL_law 1359 = .ok (.iconst 2, 1) := dL_law_1356_g.2.2.1
theorem dL_law_1360 : decode cL_law 1360 = .ok (.iadd, 1) := dL_law_1356_g.2.2.2.1
theorem dL_law_1361 : decode cL_law 1361 = .ok (.iaload, 1) := dL_law_1356_g.2.2.2.2.1
theorem dL_law_1362 : decode cL_law 1362 = .ok (.ifCond .eq 7, 3) := dL_law_1356_g.2.2.2.2.2.1
theorem dL_law_1365 : decode cL_law 1365 = .ok (.iconst 1, 1) := dL_law_1356_g.2.2.2.2.2.2.1
theorem dL_law_1366 : decode cL_law 1366 = .ok (.goto 4, 3) := dL_law_1356_g.2.2.2.2.2.2.2
theorem dL_law_1369_g : (decode cL_law 1369 = .ok (.iconst 0, 1)) ∧ (decode cL_law 1370 = .ok (.invokevirtual 145, 3)) ∧ (decode cL_law 1373 = .ok (.pop, 1)) ∧ (decode cL_law 1374 = .ok (.goto 219, 3)) ∧ (decode cL_law 1377 = .ok (.aload_n 1, 1)) ∧ (decode cL_law 1378 = .ok (.aload_n 0, 1)) := by decide +kernel
theorem dL_law_1369 : decode cL_law 1369 = .ok (.iconst 0, 1) := dL_law_1369_g.1
theorem dL_law_1370 : decode cL_law 1370 = .ok (.invokevirtual 145, 3) := dL_law_1369_g.2.1
theorem dL_law_1373 : decode cL_law 1373 = .ok (.pop, 1) := dL_law_1369_g.2.2.1
theorem dL_law_1374 : decode cL_law 1374 = .ok (.goto 219, 3) := dL_law_1369_g.2.2.2.1
theorem dL_law_1377 : decode cL_law 1377 = .ok (.aload_n 1, 1) := dL_law_1369_g.2.2.2.2.1
theorem dL_law_1378 : decode cL_law 1378 = .ok (.aload_n 0, 1) := dL_law_1369_g.2.2.2.2.2

