theorem dL_law_1167_g : (decode cL_law 1167 = .ok (.iconst 2, 1)) ∧ (decode cL_law 1168 = .ok (.iadd, 1)) ∧ (decode cL_law 1169 = .ok (.iaload, 1)) ∧ (decode cL_law 1170 = .ok (.invokevirtual 124, 3)) ∧ (decode cL_law 1173 = .ok (.pop, 1)) ∧ (decode cL_law 1174 = .ok (.goto 420, 3)) ∧ (decode cL_law 1177 = .ok (.aload_n 1, 1)) ∧ (decode cL_law 1178 = .ok (.aload_n 0, 1)) := by decide +kernel
theorem dL_law_1167 : decode cL_law 1167 = .ok (.iconst 2, 1) := dL_law_1167_g.1
theorem dL_law_1168 : decode cL_law 1168 = .ok (.iadd, 1) := dL_law_1167_g.2.1
theorem dL_law_1169 : decode cL_law 1169 = .ok (.iaload, 1) := dL_law_1167_g.2.2.1
theorem dL_law_1170 : decode cL_law 1170 = .ok (.invokevirtual 124, 3) := dL_law_1167_g.2.2.2.1
theorem dL_law_1173 : decode cL_law 1173 = .ok (.pop, 1) := dL_law_1167_g.2.2.2.2.1
theorem dL_law_1174 : decode cL_law 1174 = .ok (.goto 420, 3) := dL_law_1167_g.2.2.2.2.2.1
theorem dL_law_1177 : decode cL_law 1177 = .ok (.aload_n 1, 1) := dL_law_1167_g.2.2.2.2.2.2.1
theorem dL_law_1178 : decode cL_law 1178 = .ok (.aload_n 0, 1) := dL_law_1167_g.2.2.2.2.2.2.2
theorem dL_law_1179_g : (decode cL_law 1179 = .ok (.iload 4, 2)) ∧ (decode cL_law 1181 = .ok (.iconst 1, 1)) ∧ (decode cL_law 1182 = .ok (.iadd, 1)) ∧ (decode cL_law 1183 = .ok (.iaload, 1)) ∧ (decode cL_law 1184 = .ok (.aload_n 0, 1)) ∧ (decode cL_law 1185 = .ok (.iload 4, 2)) ∧ (decode cL_law 1187 = .ok (.iconst 2, 1)) ∧ (decode cL_law 1188 = .ok (.iadd, 1)) := by decide +kernel
theorem dL_law_1179 : decode cL_law 1179 = .ok (.iload 4, 2) := dL_law_1179_g.1
theorem dL_law_1181 : decode cL_law 1181 = .ok (.iconst 1, 1) := dL_law_1179_g.2.1
theorem dL_law_1182 : decode cL_law 1182 = .ok (.iadd, 1) := dL_law_1179_g.2.2.1
theorem dL_law_1183 : decode cL_law 1183 = .ok (.iaload, 1) := dL_law_1179_g.2.2.2.1
theorem dL_law_1184 : decode cL_law 1184 = .ok (.aload_n 0, 1) := dL_law_1179_g.2.2.2.2.1
theorem dL_law_1185 : decode cL_law 1185 = .ok (.iload 4, 2) := dL_law_1179_g.2.2.2.2.2.1
theorem dL_law_1187 : decode cL_law 1187 = .ok (.iconst 2, 1) := dL_law_1179_g.2.2.2.2.2.2.1
theorem dL_law_1188 : decode cL_law 1188 = .ok (.iadd, 1) := dL_law_1179_g.2.2.2.2.2.2.2
theorem dL_law_1189_g : (decode cL_law 1189 = .ok (.iaload, 1)) ∧ (decode cL_law 1190 = .ok (.invokevirtual 125, 3)) ∧ (decode cL_law 1193 = .ok (.pop, 1)) ∧ (decode cL_law 1194 = .ok (.aload_n 2, 1)) ∧ (decode cL_law 1195 = .ok (.aload_n 0, 1)) ∧ (decode cL_law 1196 = .ok (.iload 4, 2)) ∧ (decode cL_law 1198 = .ok (.iconst 1, 1)) ∧ (decode cL_law 1199 = .ok (.iadd, 1)) := by decide +kernel
theorem dL_law_1189 : decode cL_law 1189 = .ok (.iaload, 1) := dL_law_1189_g.1
theorem dL_law_1190 : decode cL_law 1190 = .ok (.invokevirtual 125, 3) := dL_law_1189_g.2.1
theorem dL_law_1193 : decode cL_law 1193 = .ok (.pop, 1) := dL_law_1189_g.2.2.1
theorem dL_law_1194 : decode cL_law 1194 = .ok (.aload_n 2, 1) := dL_law_1189_g.2.2.2.1
theorem dL_law_1195 : decode cL_law 1195 = .ok (.aload_n 0, 1) := dL_law_1189_g.2.2.2.2.1
theorem dL_law_1196 : decode cL_law 1196 = .ok (.iload 4, 2) := dL_law_1189_g.2.2.2.2.2.1
theorem dL_law_1198 : decode cL_law 1198 = .ok (.iconst 1, 1) := dL_law_1189_g.2.2.2.2.2.2.1
theorem dL_law_1199 : decode cL_law 1199 = .ok (.iadd, 1) := dL_law_1189_g.2.2.2.2.2.2.2
theorem dL_law_1200_g : (decode cL_law 1200 = .ok (.iaload, 1)) ∧ (decode cL_law 1201 = .ok (.aload_n 0, 1)) ∧ (decode cL_law 1202 = .ok (.iload 4, 2)) ∧ (decode cL_law 1204 = .ok (.iconst 2, 1)) ∧ (decode cL_law 1205 = .ok (.iadd, 1)) ∧ (decode cL_law 1206 = .ok (.iaload, 1)) ∧ (decode cL_law 1207 = .ok (.invokevirtual 128, 3)) ∧ (decode cL_law 1210 = .ok (.pop, 1)) := by decide +kernel
theorem dL_law_1200 : decode cL_law 1200 = .ok (.iaload, 1) := dL_law_1200_g.1
theorem dL_law_1201 : decode cL_law 1201 = .ok (.aload_n 0, 1) := dL_law_1200_g.2.1
theorem dL_law_1202 : decode cL_law 1202 = .ok (.iload 4, 2) := dL_law_1200_g.2.2.1
theorem dL_law_1204 : decode cL_law 1204 = .ok (.iconst 2, 1) := dL_law_1200_g.2.2.2.1
theorem dL_law_1205 : decode cL_law 1205 = .ok (.iadd, 1) := dL_law_1200_g.2.2.2.2.1
theorem dL_law_1206 : decode cL_law 1206 = .ok (.iaload, 1) := dL_law_1200_g.2.2.2.2.2.1
theorem dL_law_1207 : decode cL_law 1207 = .ok (.invokevirtual 128, 3) := dL_law_1200_g.2.2.2.2.2.2.1
theorem dL_law_1210 : decode cL_law 1210 = .ok (.pop, 1) := dL_law_1200_g.2.2.2.2.2.2.2
theorem dL_law_1211_g : (decode cL_law 1211 = .ok (.goto 383, 3)) ∧ (decode cL_law 1214 = .ok (.aload_n 1, 1)) ∧ (decode cL_law 1215 = .ok (.aload_n 0, 1)) ∧ (decode cL_law 1216 = .ok (.iload 4, 2)) ∧ (decode cL_law 1218 = .ok (.iconst 1, 1)) ∧ (decode cL_law 1219 = .ok (.iadd, 1)) ∧ (decode cL_law 1220 = .ok (.iaload, 1)) ∧ (decode cL_law 1221 = .ok (.aload_n 0, 1)) := by decide +kernel
theorem dL_law_1211 : decode cL_law 1211 = .ok (.goto 383, 3) := dL_law_1211_g.1
theorem dL_law_1214 : decode cL_law 1214 = .ok (.aload_n 1, 1) := dL_law_1211_g.2.1
theorem dL_law_1215 : decode cL_law 1215 = .ok (.aload_n 0, 1) := dL_law_1211_g.2.2.1
theorem dL_law_1216 : decode cL_law 1216 = .ok (.iload 4, 2) := dL_law_1211_g.2.2.2.1
theorem dL_law_1218 : decode cL_law 1218 = .ok (.iconst 1, 1) := dL_law_1211_g.2.2.2.2.1
theorem dL_law_1219 : decode cL_law 1219 = .ok (.iadd, 1) := dL_law_1211_g.2.2.2.2.2.1
theorem dL_law_1220 : decode cL_law 1220 = .ok (.iaload, 1) := dL_law_1211_g.2.2.2.2.2.2.1
theorem dL_law_1221 : decode cL_law 1221 = .ok (.aload_n 0, 1) := dL_law_1211_g.2.2.2.2.2.2.2
theorem dL_law_1222_g : (decode cL_law 1222 = .ok (.iload 4, 2)) ∧ (decode cL_law 1224 = .ok (.iconst 2, 1)) ∧ (decode cL_law 1225 = .ok (.iadd, 1)) ∧ (decode cL_law 1226 = .ok (.iaload, 1)) ∧ (decode cL_law 1227 = .ok (.invokevirtual 129, 3)) ∧ (decode cL_law 1230 = .ok (.pop, 1)) ∧ (decode cL_law 1231 = .ok (.aload_n 2, 1)) ∧ (decode cL_law 1232 = .ok (.aload_n 0, 1)) := by decide +kernel
theorem dL_law_1222 : decode cL_law 1222 = .ok (.iload 4, 2) := dL_law_1222_g.1
theorem dL_law_1224 : decode cL_law 1224 = .ok (.iconst 2, 1) := dL_law_1222_g.2.1
theorem dL_law_1225 : decode cL_law 1225 = .ok (.iadd, 1) := dL_law_1222_g.2.2.1
theorem dL_law_1226 : decode cL_law 1226 = .ok (.iaload, 1) := dL_law_1222_g.2.2.2.1
theorem dL_law_1227 : decode cL_law 1227 = .ok (.invokevirtual 129, 3) := dL_law_1222_g.2.2.2.2.1
theorem dL_law_1230 : decode cL_law 1230 = .ok (.pop, 1) := dL_law_1222_g.2.2.2.2.2.1
theorem dL_law_1231 : decode cL_law 1231 = .ok (.aload_n 2, 1) := dL_law_1222_g.2.2.2.2.2.2.1
theorem dL_law_1232 : decode cL_law 1232 = .ok (.aload_n 0, 1) := dL_law_1222_g.2.2.2.2.2.2.2
theorem dL_law_1233_g : (decode cL_law 1233 = .ok (.iload 4, 2)) ∧ (decode cL_law 1235 = .ok (.iconst 1, 1)) ∧ (decode cL_law 1236 = .ok (.iadd, 1)) ∧ (decode cL_law 1237 = .ok (.iaload, 1)) ∧ (decode cL_law 1238 = .ok (.aload_n 0, 1)) ∧ (decode cL_law 1239 = .ok (.iload 4, 2)) ∧ (decode cL_law 1241 = .ok (.iconst 2, 1)) ∧ (decode cL_law 1242 = .ok (.iadd, 1)) := by decide +kernel
theorem dL_law_1233 : decode cL_law 1233 = .ok (.iload 4, 2) := dL_law_1233_g.1
theorem dL_law_1235 : decode cL_law 1235 = .ok (.iconst 1, 1) := dL_law_1233_g.2.1
theorem dL_law_1236 : decode cL_law 1236 = .ok (.iadd, 1) := dL_law_1233_g.2.2.1
theorem dL_law_1237 : decode cL_law 1237 = .ok (.iaload, 1) := dL_law_1233_g.2.2.2.1
theorem dL_law_1238 : decode cL_law 1238 = .ok (.aload_n 0, 1) := dL_law_1233_g.2.2.2.2.1
theorem dL_law_1239 : decode cL_law 1239 = .ok (.iload 4, 2) := dL_law_1233_g.2.2.2.2.2.1
theorem dL_law_1241 : decode cL_law 1241 = .ok (.iconst 2, 1) := dL_law_1233_g.2.2.2.2.2.2.1
theorem dL_law_1242 : decode cL_law 1242 = .ok (.iadd, 1) := dL_law_1233_g.2.2.2.2.2.2.2
theorem dL_law_1243_g : (decode cL_law 1243 = .ok (.iaload, 1)) ∧ (decode cL_law 1244 = .ok (.invokevirtual 132, 3)) ∧ (decode cL_law 1247 = .ok (.pop, 1)) ∧ (decode cL_law 1248 = .ok (.goto 346, 3)) ∧ (decode cL_law 1251 = .ok (.aload_n 1, 1)) ∧ (decode cL_law 1252 = .ok (.aload_n 0, 1)) ∧ (decode cL_law 1253 = .ok (.iload 4, 2)) ∧ (decode cL_law 1255 = .ok (.iconst 1, 1)) := by decide +kernel
theorem dL_law_1243 : decode cL_law 1243 = .ok (.iaload, 1) := dL_law_1243_g.1
theorem dL_law_1244 : decode cL_law 1244 = .ok (.invokevirtual 132, 3) := dL_law_1243_g.2.1
theorem dL_law_1247 : decode cL_law 1247 = .ok (.pop, 1) := dL_law_1243_g.2.2.1
theorem dL_law_1248 : decode cL_law 1248 = .ok (.goto 346, 3) := dL_law_1243_g.2.2.2.1
theorem dL_law_1251 : decode cL_law 1251 = .ok (.aload_n 1, 1) := dL_law_1243_g.2.2.2.2.1
theorem dL_law_1252 : decode cL_law 1252 = .ok (.aload_n 0, 1) := dL_law_1243_g.2.2.2.2.2.1
theorem dL_law_1253 : decode cL_law 1253 = .ok (.iload 4, 2) := dL_law_1243_g.2.2.2.2.2.2.1
theorem dL_law_1255 : decode cL_law 1255 = .ok (.iconst 1, 1) := dL_law_1243_g.2.2.2.2.2.2.2
theorem dL_law_1256_g : (decode cL_law 1256 = .ok (.iadd, 1)) ∧ (decode cL_law 1257 = .ok (.iaload, 1)) ∧ (decode cL_law 1258 = .ok (.aload_n 0, 1)) ∧ (decode cL_law 1259 = .ok (.iload 4, 2)) ∧ (decode cL_law 1261 = .ok (.iconst 2, 1)) ∧ (decode cL_law 1262 = .ok (.iadd, 1)) ∧ (decode cL_law 1263 = .ok (.iaload, 1)) ∧ (decode cL_law 1264 = .ok (.invokevirtual 133, 3)) := by decide +kernel
theorem dL_law_1256 : decode cL_law 1256 = .ok (.iadd, 1) := dL_law_1256_g.1
theorem dL_law_1257 : decode cL_law 1257 = .ok (.iaload, 1) := dL_law_1256_g.2.1
theorem dL_law_1258 : decode cL_law 1258 = .ok (.aload_n 0, 1) := dL_law_1256_g.2.2.1
theorem dL_law_1259 : decode cL_law 1259 = .ok (.iload 4, 2) := dL_law_1256_g.2.2.2.1
theorem dL_law_1261 : decode cL_law 1261 = .ok (.iconst 2, 1) := dL_law_1256_g.2.2.2.2.1
theorem dL_law_1262 : decode cL_law 1262 = .ok (.iadd, 1) := dL_law_1256_g.2.2.2.2.2.1
theorem dL_law_1263 : decode cL_law 1263 = .ok (.iaload, 1) := dL_law_1256_g.2.2.2.2.2.2.1
theorem dL_law_1264 : decode cL_law 1264 = .ok (.invokevirtual 133, 3) := dL_law_1256_g.2.2.2.2.2.2.2
theorem dL_law_1267_g : (decode cL_law 1267 = .ok (.pop2, 1)) ∧ (decode cL_law 1268 = .ok (.aload_n 2, 1)) ∧ (decode cL_law 1269 = .ok (.aload_n 0, 1)) ∧ (decode cL_law 1270 = .ok (.iload 4, 2)) ∧ (decode cL_law 1272 = .ok (.iconst 1, 1)) ∧ (decode cL_law 1273 = .ok (.iadd, 1)) ∧ (decode cL_law 1274 = .ok (.iaload, 1)) ∧ (decode cL_law 1275 = .ok (.aload_n 0, 1)) := by decide +kernel
theorem dL_law_1267 : decode cL_law 1267 = .ok (.pop2, 1) := dL_law_1267_g.1
theorem dL_law_1268 : decode cL_law 1268 = .ok (.aload_n 2, 1) := dL_law_1267_g.2.1
theorem dL_law_1269 : decode cL_law 1269 = .ok (.aload_n 0, 1) := dL_law_1267_g.2.2.1
theorem dL_law_1270 : decode cL_law 1270 = .ok (.iload 4, 2) := dL_law_1267_g.2.2.2.1
theorem dL_law_1272 : decode cL_law 1272 = .ok (.iconst 1, 1) := dL_law_1267_g.2.2.2.2.1
theorem dL_law_1273 : decode cL_law 1273 = .ok (.iadd, 1) := dL_law_1267_g.2.2.2.2.2.1
theorem dL_law_1274 : decode cL_law 1274 = .ok (.iaload, 1) := dL_law_1267_g.2.2.2.2.2.2.1
theorem dL_law_1275 : decode cL_law 1275 = .ok (.aload_n 0, 1) := dL_law_1267_g.2.2.2.2.2.2.2
theorem dL_law_1276_g : (decode cL_law 1276 = .ok (.iload 4, 2)) ∧ (decode cL_law 1278 = .ok (.iconst 2, 1)) ∧ (decode cL_law 1279 = .ok (.iadd, 1)) ∧ (decode cL_law 1280 = .ok (.iaload, 1)) ∧ (decode cL_law 1281 = .ok (.invokevirtual 136, 3)) ∧ (decode cL_law 1284 = .ok (.pop2, 1)) ∧ (decode cL_law 1285 = .ok (.goto 309, 3)) ∧ (decode cL_law 1288 = .ok (.aload_n 1, 1)) := by decide +kernel
theorem dL_law_1276 : decode cL_law 1276 = .ok (.iload 4, 2) := dL_law_1276_g.1
theorem dL_law_1278 : decode cL_law 1278 = .ok (.iconst 2, 1) := dL_law_1276_g.2.1
theorem dL_law_1279 : decode cL_law 1279 = .ok (.iadd, 1) := dL_law_1276_g.2.2.1
theorem dL_law_1280 : decode cL_law 1280 = .ok (.iaload, 1) := dL_law_1276_g.2.2.2.1
theorem dL_law_1281 : decode cL_law 1281 = .ok (.invokevirtual 136, 3) := dL_law_1276_g.2.2.2.2.1
theorem dL_law_1284 : decode cL_law 1284 = .ok (.pop2, 1) := dL_law_1276_g.2.2.2.2.2.1
theorem dL_law_1285 : decode cL_law 1285 = .ok (.goto 309, 3) := dL_law_1276_g.2.2.2.2.2.2.1
theorem dL_law_1288 : decode cL_law 1288 = .ok (.aload_n 1, 1) := dL_law_1276_g.2.2.2.2.2.2.2
theorem dL_law_1289_g : (decode cL_law 1289 = .ok (.aload_n 0, 1)) ∧ (decode cL_law 1290 = .ok (.iload 4, 2)) ∧ (decode cL_law 1292 = .ok (.iconst 1, 1)) ∧ (decode cL_law 1293 = .ok (.iadd, 1)) ∧ (decode cL_law 1294 = .ok (.iaload, 1)) ∧ (decode cL_law 1295 = .ok (.aload_n 0, 1)) ∧ (decode cL_law 1296 = .ok (.iload 4, 2)) ∧ (decode cL_law 1298 = .ok (.iconst 2, 1)) := by decide +kernel
theorem dL_law_1289 : decode cL_law 1289 = .ok (.aload_n 0, 1) := dL_law_1289_g.1
theorem dL_law_1290 : decode cL_law 1290 = .ok (.iload 4, 2) := dL_law_1289_g.2.1
theorem dL_law_1292 : decode cL_law 1292 = .ok (.iconst 1, 1) := dL_law_1289_g.2.2.1
theorem dL_law_1293 : decode cL_law 1293 = .ok (.iadd, 1) := dL_law_1289_g.2.2.2.1
theorem dL_law_1294 : decode cL_law 1294 = .ok (.iaload, 1) := dL_law_1289_g.2.2.2.2.1
theorem dL_law_1295 : decode cL_law 1295 = .ok (.aload_n 0, 1) := dL_law_1289_g.2.2.2.2.2.1
theorem dL_law_1296 : decode cL_law 1296 = .ok (.iload 4, 2) := dL_law_1289_g.2.2.2.2.2.2.1
theorem dL_law_1298 : decode cL_law 1298 = .ok (.iconst 2, 1) := dL_law_1289_g.2.2.2.2.2.2.2
theorem dL_law_1299_g : (decode cL_law 1299 = .ok (.iadd, 1)) ∧ (decode cL_law 1300 = .ok (.iaload, 1)) ∧ (decode cL_law 1301 = .ok (.invokevirtual 137, 3)) ∧ (decode cL_law 1304 = .ok (.pop, 1)) ∧ (decode cL_law 1305 = .ok (.aload_n 2, 1)) ∧ (decode cL_law 1306 = .ok (.aload_n 0, 1)) ∧ (decode cL_law 1307 = .ok (.iload 4, 2)) ∧ (decode cL_law 1309 = .ok (.iconst 1, 1)) := by decide +kernel
theorem dL_law_1299 : decode cL_law 1299 = .ok (.iadd, 1) := dL_law_1299_g.1
theorem dL_law_1300 : decode cL_law 1300 = .ok (.iaload, 1) := dL_law_1299_g.2.1
theorem dL_law_1301 : decode cL_law 1301 = .ok (.invokevirtual 137, 3) := dL_law_1299_g.2.2.1
theorem dL_law_1304 : decode cL_law 1304 = .ok (.pop, 1) := dL_law_1299_g.2.2.2.1
theorem dL_law_1305 : decode cL_law 1305 = .ok (.aload_n 2, 1) := dL_law_1299_g.2.2.2.2.1
theorem dL_law_1306 : decode cL_law 1306 = .ok (.aload_n 0, 1) := dL_law_1299_g.2.2.2.2.2.1
theorem dL_law_1307 : decode cL_law 1307 = .ok (.iload 4, 2) := dL_law_1299_g.2.2.2.2.2.2.1
theorem dL_law_1309 : decode cL_law 1309 = .ok (.iconst 1, 1) := dL_law_1299_g.2.2.2.2.2.2.2
theorem dL_law_1310_g : (decode cL_law 1310 = .ok (.iadd, 1)) ∧ (decode cL_law 1311 = .ok (.iaload, 1)) ∧ (decode cL_law 1312 = .ok (.aload_n 0, 1)) ∧ (decode cL_law 1313 = .ok (.iload 4, 2)) ∧ (decode cL_law 1315 = .ok (.iconst 2, 1)) ∧ (decode cL_law 1316 = .ok (.iadd, 1)) ∧ (decode cL_law 1317 = .ok (.iaload, 1)) ∧ (decode cL_law 1318 = .ok (.invokevirtual 140, 3)) := by decide +kernel
theorem dL_law_1310 : decode cL_law 1310 = .ok (.iadd, 1) := dL_law_1310_g.1
theorem dL_law_1311 : decode cL_law 1311 = .ok (.iaload, 1) := dL_law_1310_g.2.1
theorem dL_law_1312 : decode cL_law 1312 = .ok (.aload_n 0, 1) := dL_law_1310_g.2.2.1
theorem dL_law_1313 : decode cL_law 1313 = .ok (.iload 4, 2) := dL_law_1310_g.2.2.2.1
theorem dL_law_1315 : decode cL_law 1315 = .ok (.iconst 2, 1) := dL_law_1310_g.2.2.2.2.1
theorem dL_law_1316 : decode cL_law 1316 = .ok (.iadd, 1) := dL_law_1310_g.2.2.2.2.2.1
theorem dL_law_1317 : decode cL_law 1317 = .ok (.iaload, 1) := dL_law_1310_g.2.2.2.2.2.2.1
theorem dL_law_1318 : decode cL_law 1318 = .ok (.invokevirtual 140, 3) := dL_law_1310_g.2.2.2.2.2.2.2
theorem dL_law_1321_g : (decode cL_law 1321 = .ok (.pop, 1)) ∧ (decode cL_law 1322 = .ok (.goto 272, 3)) ∧ (decode cL_law 1325 = .ok (.aload_n 1, 1)) ∧ (decode cL_law 1326 = .ok (.aload_n 0, 1)) ∧ (decode cL_law 1327 = .ok (.iload 4, 2)) ∧ (decode cL_law 1329 = .ok (.iconst 1, 1)) ∧ (decode cL_law 1330 = .ok (.iadd, 1)) ∧ (decode cL_law 1331 = .ok (.iaload, 1)) := by decide +kernel
theorem dL_law_1321 : decode cL_law 1321 = .ok (.pop, 1) := dL_law_1321_g.1
theorem dL_law_1322 : decode cL_law 1322 = .ok (.goto 272, 3) := dL_law_1321_g.2.1
theorem dL_law_1325 : decode cL_law 1325 = .ok (.aload_n 1, 1) := dL_law_1321_g.2.2.1
theorem dL_law_1326 : decode cL_law 1326 = .ok (.aload_n 0, 1) := dL_law_1321_g.2.2.2.1
theorem dL_law_1327 : decode cL_law 1327 = .ok (.iload 4, 2) := dL_law_1321_g.2.2.2.2.1
theorem dL_law_1329 : decode cL_law 1329 = .ok (.iconst 1, 1) := dL_law_1321_g.2.2.2.2.2.1
theorem dL_law_1330 : decode cL_law 1330 = .ok (.iadd, 1) := dL_law_1321_g.2.2.2.2.2.2.1
theorem dL_law_1331 : decode cL_law 1331 = .ok (.iaload, 1) := dL_law_1321_g.2.2.2.2.2.2.2
theorem dL_law_1332_g : (decode cL_law 1332 = .ok (.aload_n 0, 1)) ∧ (decode cL_law 1333 = .ok (.iload 4, 2)) ∧ (decode cL_law 1335 = .ok (.iconst 2, 1)) ∧ (decode cL_law 1336 = .ok (.iadd, 1)) ∧ (decode cL_law 1337 = .ok (.iaload, 1)) ∧ (decode cL_law 1338 = .ok (.ifCond .eq 7, 3)) ∧ (decode cL_law 1341 = .ok (.iconst 1, 1)) ∧ (decode cL_law 1342 = .ok (.goto 4, 3)) := by decide +kernel
theorem dL_law_1332 : decode cL_law 1332 = .ok (.aload_n 0, 1) := dL_law_1332_g.1
theorem dL_law_1333 : decode cL_law 1333 = .ok (.iload 4, 2) := dL_law_1332_g.2.1
theorem dL_law_1335 : decode cL_law 1335 = .ok (.iconst 2, 1) := dL_law_1332_g.2.2.1
theorem dL_law_1336 : decode cL_law 1336 = .ok (.iadd, 1) := dL_law_1332_g.2.2.2.1
theorem dL_law_1337 : decode cL_law 1337 = .ok (.iaload, 1) := dL_law_1332_g.2.2.2.2.1
theorem dL_law_1338 : decode cL_law 1338 = .ok (.ifCond .eq 7, 3) := dL_law_1332_g.2.2.2.2.2.1
theorem dL_law_1341 : decode cL_law 1341 = .ok (.iconst 1, 1) := dL_law_1332_g.2.2.2.2.2.2.1
theorem dL_law_1342 : decode cL_law 1342 = .ok (.goto 4, 3) := dL_law_1332_g.2.2.2.2.2.2.2
theorem dL_law_1345_g : (decode cL_law 1345 = .ok (.iconst 0, 1)) ∧ (decode cL_law 1346 = .ok (.invokevirtual 141, 3)) ∧ (decode cL_law 1349 = .ok (.pop, 1)) ∧ (decode cL_law 1350 = .ok (.aload_n 2, 1)) ∧ (decode cL_law 1351 = .ok (.aload_n 0, 1)) ∧ (decode cL_law 1352 = .ok (.iload 4, 2)) ∧ (decode cL_law 1354 = .ok (.iconst 1, 1)) ∧ (decode cL_law 1355 = .ok (.iadd, 1)) := by decide +kernel
theorem dL_law_1345 : decode cL_law 1345 = .ok (.iconst 0, 1) := dL_law_1345_g.1
theorem dL_law_1346 : decode cL_law 1346 = .ok (.invokevirtual 141, 3) := dL_law_1345_g.2.1
theorem dL_law_1349 : decode cL_law 1349 = .ok (.pop, 1) := dL_law_1345_g.2.2.1
theorem dL_law_1350 : decode cL_law 1350 = .ok (.aload_n 2, 1) := dL_law_1345_g.2.2.2.1
theorem dL_law_1351 : decode cL_law 1351 = .ok (.aload_n 0, 1) := dL_law_1345_g.2.2.2.2.1
theorem dL_law_1352 : decode cL_law 1352 = .ok (.iload 4, 2) := dL_law_1345_g.2.2.2.2.2.1
theorem dL_law_1354 : decode cL_law 1354 = .ok (.iconst 1, 1) := dL_law_1345_g.2.2.2.2.2.2.1
theorem dL_law_1355 : decode cL_law 1355 = .ok (.iadd, 1) := dL_law_1345_g.2.2.2.2.2.2.2
theorem dL_law_1356_g : (decode cL_law 1356 = .ok (.iaload, 1)) ∧ (decode cL_law 1357 = .ok (.aload_n 0, 1)) ∧ (decode cL_law 1358 = .ok (.iload 4, 2)) ∧ (decode cL_law 1360 = .ok (.iconst 2, 1)) ∧ (decode cL_law 1361 = .ok (.iadd, 1)) ∧ (decode cL_law 1362 = .ok (.iaload, 1)) ∧ (decode cL_law 1363 = .ok (.ifCond .eq 7, 3)) ∧ (decode cL_law 1366 = .ok (.iconst 1, 1)) := by decide +kernel
theorem dL_law_1356 : decode cL_law 1356 = .ok (.iaload, 1) := dL_law_1356_g.1
theorem dL_law_1357 : decode cL_law 1357 = .ok (.aload_n 0, 1) := dL_law_1356_g.2.1
theorem dL_law_1358 : decode cL_law 1358 = .ok (.iload 4, 2) := dL_law_1356_g.2.2.1
theorem dL_law_1360 : decode cL_law 1360 = .ok (.iconst 2, 1) := dL_law_1356_g.2.2.2.1
theorem dL_law_1361 : decode cL_law 1361 = .ok (.iadd, 1) := dL_law_1356_g.2.2.2.2.1
theorem dL_law_1362 : decode cL_law 1362 = .ok (.iaload, 1) := dL_law_1356_g.2.2.2.2.2.1
theorem dL_law_1363 : decode cL_law 1363 = .ok (.ifCond .eq 7, 3) := dL_law_1356_g.2.2.2.2.2.2.1
theorem dL_law_1366 : decode cL_law 1366 = .ok (.iconst 1, 1) := dL_law_1356_g.2.2.2.2.2.2.2
theorem dL_law_1367_g : (decode cL_law 1367 = .ok (.goto 4, 3)) ∧ (decode cL_law 1370 = .ok (.iconst 0, 1)) ∧ (decode cL_law 1371 = .ok (.invokevirtual 145, 3)) ∧ (decode cL_law 1374 = .ok (.pop, 1)) ∧ (decode cL_law 1375 = .ok (.goto 219, 3)) ∧ (decode cL_law 1378 = .ok (.aload_n 1, 1)) := by decide +kernel
theorem dL_law_1367 : decode cL_law 1367 = .ok (.goto 4, 3) := dL_law_1367_g.1
theorem dL_law_1370 : decode cL_law 1370 = .ok (.iconst 0, 1) := dL_law_1367_g.2.1
theorem dL_law_1371 : decode cL_law 1371 = .ok (.invokevirtual 145, 3) := dL_law_1367_g.2.2.1
theorem dL_law_1374 : decode cL_law 1374 = .ok (.pop, 1) := dL_law_1367_g.2.2.2.1
theorem dL_law_1375 : decode cL_law 1375 = .ok (.goto 219, 3) := dL_law_1367_g.2.2.2.2.1
theorem dL_law_1378 : decode cL_law 1378 = .ok (.aload_n 1, 1) := dL_law_1367_g.2.2.2.2.2

