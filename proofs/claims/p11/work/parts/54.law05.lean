theorem dL_law_1175_g : (decode cL_law 1175 = .ok (.iload 4, 2)) ∧ (decode cL_law 1177 = .ok (.iconst 2, 1)) ∧ (decode cL_law 1178 = .ok (.iadd, 1)) ∧ (decode cL_law 1179 = .ok (.iaload, 1)) ∧ (decode cL_law 1180 = .ok (.invokevirtual 124, 3)) ∧ (decode cL_law 1183 = .ok (.pop, 1)) ∧ (decode cL_law 1184 = .ok (.aload_n 2, 1)) ∧ (decode cL_law 1185 = .ok (.aload_n 0, 1)) := by decide +kernel
theorem dL_law_1175 : decode cL_law 1175 = .ok (.iload 4, 2) := dL_law_1175_g.1
theorem dL_law_1177 : decode cL_law 1177 = .ok (.iconst 2, 1) := dL_law_1175_g.2.1
theorem dL_law_1178 : decode cL_law 1178 = .ok (.iadd, 1) := dL_law_1175_g.2.2.1
theorem dL_law_1179 : decode cL_law 1179 = .ok (.iaload, 1) := dL_law_1175_g.2.2.2.1
theorem dL_law_1180 : decode cL_law 1180 = .ok (.invokevirtual 124, 3) := dL_law_1175_g.2.2.2.2.1
theorem dL_law_1183 : decode cL_law 1183 = .ok (.pop, 1) := dL_law_1175_g.2.2.2.2.2.1
theorem dL_law_1184 : decode cL_law 1184 = .ok (.aload_n 2, 1) := dL_law_1175_g.2.2.2.2.2.2.1
theorem dL_law_1185 : decode cL_law 1185 = .ok (.aload_n 0, 1) := dL_law_1175_g.2.2.2.2.2.2.2
theorem dL_law_1186_g : (decode cL_law 1186 = .ok (.iload 4, 2)) ∧ (decode cL_law 1188 = .ok (.iconst 1, 1)) ∧ (decode cL_law 1189 = .ok (.iadd, 1)) ∧ (decode cL_law 1190 = .ok (.iaload, 1)) ∧ (decode cL_law 1191 = .ok (.aload_n 0, 1)) ∧ (decode cL_law 1192 = .ok (.iload 4, 2)) ∧ (decode cL_law 1194 = .ok (.iconst 2, 1)) ∧ (decode cL_law 1195 = .ok (.iadd, 1)) := by decide +kernel
theorem dL_law_1186 : decode cL_law 1186 = .ok (.iload 4, 2) := dL_law_1186_g.1
theorem dL_law_1188 : decode cL_law 1188 = .ok (.iconst 1, 1) := dL_law_1186_g.2.1
theorem dL_law_1189 : decode cL_law 1189 = .ok (.iadd, 1) := dL_law_1186_g.2.2.1
theorem dL_law_1190 : decode cL_law 1190 = .ok (.iaload, 1) := dL_law_1186_g.2.2.2.1
theorem dL_law_1191 : decode cL_law 1191 = .ok (.aload_n 0, 1) := dL_law_1186_g.2.2.2.2.1
theorem dL_law_1192 : decode cL_law 1192 = .ok (.iload 4, 2) := dL_law_1186_g.2.2.2.2.2.1
theorem dL_law_1194 : decode cL_law 1194 = .ok (.iconst 2, 1) := dL_law_1186_g.2.2.2.2.2.2.1
theorem dL_law_1195 : decode cL_law 1195 = .ok (.iadd, 1) := dL_law_1186_g.2.2.2.2.2.2.2
theorem dL_law_1196_g : (decode cL_law 1196 = .ok (.iaload, 1)) ∧ (decode cL_law 1197 = .ok (.invokevirtual 127, 3)) ∧ (decode cL_law 1200 = .ok (.pop, 1)) ∧ (decode cL_law 1201 = .ok (.goto 420, 3)) ∧ (decode cL_law 1204 = .ok (.aload_n 1, 1)) ∧ (decode cL_law 1205 = .ok (.aload_n 0, 1)) ∧ (decode cL_law 1206 = .ok (.iload 4, 2)) ∧ (decode cL_law 1208 = .ok (.iconst 1, 1)) := by decide +kernel
theorem dL_law_1196 : decode cL_law 1196 = .ok (.iaload, 1) := dL_law_1196_g.1
theorem dL_law_1197 : decode cL_law 1197 = .ok (.invokevirtual 127, 3) := dL_law_1196_g.2.1
theorem dL_law_1200 : decode cL_law 1200 = .ok (.pop, 1) := dL_law_1196_g.2.2.1
theorem dL_law_1201 : decode cL_law 1201 = .ok (.goto 420, 3) := dL_law_1196_g.2.2.2.1
theorem dL_law_1204 : decode cL_law 1204 = .ok (.aload_n 1, 1) := dL_law_1196_g.2.2.2.2.1
theorem dL_law_1205 : decode cL_law 1205 = .ok (.aload_n 0, 1) := dL_law_1196_g.2.2.2.2.2.1
theorem dL_law_1206 : decode cL_law 1206 = .ok (.iload 4, 2) := dL_law_1196_g.2.2.2.2.2.2.1
theorem dL_law_1208 : decode cL_law 1208 = .ok (.iconst 1, 1) := dL_law_1196_g.2.2.2.2.2.2.2
theorem dL_law_1209_g : (decode cL_law 1209 = .ok (.iadd, 1)) ∧ (decode cL_law 1210 = .ok (.iaload, 1)) ∧ (decode cL_law 1211 = .ok (.aload_n 0, 1)) ∧ (decode cL_law 1212 = .ok (.iload 4, 2)) ∧ (decode cL_law 1214 = .ok (.iconst 2, 1)) ∧ (decode cL_law 1215 = .ok (.iadd, 1)) ∧ (decode cL_law 1216 = .ok (.iaload, 1)) ∧ (decode cL_law 1217 = .ok (.invokevirtual 128, 3)) := by decide +kernel
theorem dL_law_1209 : decode cL_law 1209 = .ok (.iadd, 1) := dL_law_1209_g.1
theorem dL_law_1210 : decode cL_law 1210 = .ok (.iaload, 1) := dL_law_1209_g.2.1
theorem dL_law_1211 : decode cL_law 1211 = .ok (.aload_n 0, 1) := dL_law_1209_g.2.2.1
theorem dL_law_1212 : decode cL_law 1212 = .ok (.iload 4, 2) := dL_law_1209_g.2.2.2.1
theorem dL_law_1214 : decode cL_law 1214 = .ok (.iconst 2, 1) := dL_law_1209_g.2.2.2.2.1
theorem dL_law_1215 : decode cL_law 1215 = .ok (.iadd, 1) := dL_law_1209_g.2.2.2.2.2.1
theorem dL_law_1216 : decode cL_law 1216 = .ok (.iaload, 1) := dL_law_1209_g.2.2.2.2.2.2.1
theorem dL_law_1217 : decode cL_law 1217 = .ok (.invokevirtual 128, 3) := dL_law_1209_g.2.2.2.2.2.2.2
theorem dL_law_1220_g : (decode cL_law 1220 = .ok (.pop, 1)) ∧ (decode cL_law 1221 = .ok (.aload_n 2, 1)) ∧ (decode cL_law 1222 = .ok (.aload_n 0, 1)) ∧ (decode cL_law 1223 = .ok (.iload 4, 2)) ∧ (decode cL_law 1225 = .ok (.iconst 1, 1)) ∧ (decode cL_law 1226 = .ok (.iadd, 1)) ∧ (decode cL_law 1227 = .ok (.iaload, 1)) ∧ (decode cL_law 1228 = .ok (.aload_n 0, 1)) := by decide +kernel
theorem dL_law_1220 : decode cL_law 1220 = .ok (.pop, 1) := dL_law_1220_g.1
theorem dL_law_1221 : decode cL_law 1221 = .ok (.aload_n 2, 1) := dL_law_1220_g.2.1
theorem dL_law_1222 : decode cL_law 1222 = .ok (.aload_n 0, 1) := dL_law_1220_g.2.2.1
theorem dL_law_1223 : decode cL_law 1223 = .ok (.iload 4, 2) := dL_law_1220_g.2.2.2.1
theorem dL_law_1225 : decode cL_law 1225 = .ok (.iconst 1, 1) := dL_law_1220_g.2.2.2.2.1
theorem dL_law_1226 : decode cL_law 1226 = .ok (.iadd, 1) := dL_law_1220_g.2.2.2.2.2.1
theorem dL_law_1227 : decode cL_law 1227 = .ok (.iaload, 1) := dL_law_1220_g.2.2.2.2.2.2.1
theorem dL_law_1228 : decode cL_law 1228 = .ok (.aload_n 0, 1) := dL_law_1220_g.2.2.2.2.2.2.2
theorem dL_law_1229_g : (decode cL_law 1229 = .ok (.iload 4, 2)) ∧ (decode cL_law 1231 = .ok (.iconst 2, 1)) ∧ (decode cL_law 1232 = .ok (.iadd, 1)) ∧ (decode cL_law 1233 = .ok (.iaload, 1)) ∧ (decode cL_law 1234 = .ok (.invokevirtual 131, 3)) ∧ (decode cL_law 1237 = .ok (.pop, 1)) ∧ (decode cL_law 1238 = .ok (.goto 383, 3)) ∧ (decode cL_law 1241 = .ok (.aload_n 1, 1)) := by decide +kernel
theorem dL_law_1229 : decode cL_law 1229 = .ok (.iload 4, 2) := dL_law_1229_g.1
theorem dL_law_1231 : decode cL_law 1231 = .ok (.iconst 2, 1) := dL_law_1229_g.2.1
theorem dL_law_1232 : decode cL_law 1232 = .ok (.iadd, 1) := dL_law_1229_g.2.2.1
theorem dL_law_1233 : decode cL_law 1233 = .ok (.iaload, 1) := dL_law_1229_g.2.2.2.1
theorem dL_law_1234 : decode cL_law 1234 = .ok (.invokevirtual 131, 3) := dL_law_1229_g.2.2.2.2.1
theorem dL_law_1237 : decode cL_law 1237 = .ok (.pop, 1) := dL_law_1229_g.2.2.2.2.2.1
theorem dL_law_1238 : decode cL_law 1238 = .ok (.goto 383, 3) := dL_law_1229_g.2.2.2.2.2.2.1
theorem dL_law_1241 : decode cL_law 1241 = .ok (.aload_n 1, 1) := dL_law_1229_g.2.2.2.2.2.2.2
theorem dL_law_1242_g : (decode cL_law 1242 = .ok (.aload_n 0, 1)) ∧ (decode cL_law 1243 = .ok (.iload 4, 2)) ∧ (decode cL_law 1245 = .ok (.iconst 1, 1)) ∧ (decode cL_law 1246 = .ok (.iadd, 1)) ∧ (decode cL_law 1247 = .ok (.iaload, 1)) ∧ (decode cL_law 1248 = .ok (.aload_n 0, 1)) ∧ (decode cL_law 1249 = .ok (.iload 4, 2)) ∧ (decode cL_law 1251 = .ok (.iconst 2, 1)) := by decide +kernel
theorem dL_law_1242 : decode cL_law 1242 = .ok (.aload_n 0, 1) := dL_law_1242_g.1
theorem dL_law_1243 : decode cL_law 1243 = .ok (.iload 4, 2) := dL_law_1242_g.2.1
theorem dL_law_1245 : decode cL_law 1245 = .ok (.iconst 1, 1) := dL_law_1242_g.2.2.1
theorem dL_law_1246 : decode cL_law 1246 = .ok (.iadd, 1) := dL_law_1242_g.2.2.2.1
theorem dL_law_1247 : decode cL_law 1247 = .ok (.iaload, 1) := dL_law_1242_g.2.2.2.2.1
theorem dL_law_1248 : decode cL_law 1248 = .ok (.aload_n 0, 1) := dL_law_1242_g.2.2.2.2.2.1
theorem dL_law_1249 : decode cL_law 1249 = .ok (.iload 4, 2) := dL_law_1242_g.2.2.2.2.2.2.1
theorem dL_law_1251 : decode cL_law 1251 = .ok (.iconst 2, 1) := dL_law_1242_g.2.2.2.2.2.2.2
theorem dL_law_1252_g : (decode cL_law 1252 = .ok (.iadd, 1)) ∧ (decode cL_law 1253 = .ok (.iaload, 1)) ∧ (decode cL_law 1254 = .ok (.invokevirtual 132, 3)) ∧ (decode cL_law 1257 = .ok (.pop, 1)) ∧ (decode cL_law 1258 = .ok (.aload_n 2, 1)) ∧ (decode cL_law 1259 = .ok (.aload_n 0, 1)) ∧ (decode cL_law 1260 = .ok (.iload 4, 2)) ∧ (decode cL_law 1262 = .ok (.iconst 1, 1)) := by decide +kernel
theorem dL_law_1252 : decode cL_law 1252 = .ok (.iadd, 1) := dL_law_1252_g.1
theorem dL_law_1253 : decode cL_law 1253 = .ok (.iaload, 1) := dL_law_1252_g.2.1
theorem dL_law_1254 : decode cL_law 1254 = .ok (.invokevirtual 132, 3) := dL_law_1252_g.2.2.1
theorem dL_law_1257 : decode cL_law 1257 = .ok (.pop, 1) := dL_law_1252_g.2.2.2.1
theorem dL_law_1258 : decode cL_law 1258 = .ok (.aload_n 2, 1) := dL_law_1252_g.2.2.2.2.1
theorem dL_law_1259 : decode cL_law 1259 = .ok (.aload_n 0, 1) := dL_law_1252_g.2.2.2.2.2.1
theorem dL_law_1260 : decode cL_law 1260 = .ok (.iload 4, 2) := dL_law_1252_g.2.2.2.2.2.2.1
theorem dL_law_1262 : decode cL_law 1262 = .ok (.iconst 1, 1) := dL_law_1252_g.2.2.2.2.2.2.2
theorem dL_law_1263_g : (decode cL_law 1263 = .ok (.iadd, 1)) ∧ (decode cL_law 1264 = .ok (.iaload, 1)) ∧ (decode cL_law 1265 = .ok (.aload_n 0, 1)) ∧ (decode cL_law 1266 = .ok (.iload 4, 2)) ∧ (decode cL_law 1268 = .ok (.iconst 2, 1)) ∧ (decode cL_law 1269 = .ok (.iadd, 1)) ∧ (decode cL_law 1270 = .ok (.iaload, 1)) ∧ (decode cL_law 1271 = .ok (.invokevirtual 135, 3)) := by decide +kernel
theorem dL_law_1263 : decode cL_law 1263 = .ok (.iadd, 1) := dL_law_1263_g.1
theorem dL_law_1264 : decode cL_law 1264 = .ok (.iaload, 1) := dL_law_1263_g.2.1
theorem dL_law_1265 : decode cL_law 1265 = .ok (.aload_n 0, 1) := dL_law_1263_g.2.2.1
theorem dL_law_1266 : decode cL_law 1266 = .ok (.iload 4, 2) := dL_law_1263_g.2.2.2.1
theorem dL_law_1268 : decode cL_law 1268 = .ok (.iconst 2, 1) := dL_law_1263_g.2.2.2.2.1
theorem dL_law_1269 : decode cL_law 1269 = .ok (.iadd, 1) := dL_law_1263_g.2.2.2.2.2.1
theorem dL_law_1270 : decode cL_law 1270 = .ok (.iaload, 1) := dL_law_1263_g.2.2.2.2.2.2.1
theorem dL_law_1271 : decode cL_law 1271 = .ok (.invokevirtual 135, 3) := dL_law_1263_g.2.2.2.2.2.2.2
theorem dL_law_1274_g : (decode cL_law 1274 = .ok (.pop, 1)) ∧ (decode cL_law 1275 = .ok (.goto 346, 3)) ∧ (decode cL_law 1278 = .ok (.aload_n 1, 1)) ∧ (decode cL_law 1279 = .ok (.aload_n 0, 1)) ∧ (decode cL_law 1280 = .ok (.iload 4, 2)) ∧ (decode cL_law 1282 = .ok (.iconst 1, 1)) ∧ (decode cL_law 1283 = .ok (.iadd, 1)) ∧ (decode cL_law 1284 = .ok (.iaload, 1)) := by decide +kernel
theorem dL_law_1274 : decode cL_law 1274 = .ok (.pop, 1) := dL_law_1274_g.1
theorem dL_law_1275 : decode cL_law 1275 = .ok (.goto 346, 3) := dL_law_1274_g.2.1
theorem dL_law_1278 : decode cL_law 1278 = .ok (.aload_n 1, 1) := dL_law_1274_g.2.2.1
theorem dL_law_1279 : decode cL_law 1279 = .ok (.aload_n 0, 1) := dL_law_1274_g.2.2.2.1
theorem dL_law_1280 : decode cL_law 1280 = .ok (.iload 4, 2) := dL_law_1274_g.2.2.2.2.1
theorem dL_law_1282 : decode cL_law 1282 = .ok (.iconst 1, 1) := dL_law_1274_g.2.2.2.2.2.1
theorem dL_law_1283 : decode cL_law 1283 = .ok (.iadd, 1) := dL_law_1274_g.2.2.2.2.2.2.1
theorem dL_law_1284 : decode cL_law 1284 = .ok (.iaload, 1) := dL_law_1274_g.2.2.2.2.2.2.2
theorem dL_law_1285_g : (decode cL_law 1285 = .ok (.aload_n 0, 1)) ∧ (decode cL_law 1286 = .ok (.iload 4, 2)) ∧ (decode cL_law 1288 = .ok (.iconst 2, 1)) ∧ (decode cL_law 1289 = .ok (.iadd, 1)) ∧ (decode cL_law 1290 = .ok (.iaload, 1)) ∧ (decode cL_law 1291 = .ok (.invokevirtual 136, 3)) ∧ (decode cL_law 1294 = .ok (.pop2, 1)) ∧ (decode cL_law 1295 = .ok (.aload_n 2, 1)) := by decide +kernel
theorem dL_law_1285 : decode cL_law 1285 = .ok (.aload_n 0, 1) := dL_law_1285_g.1
theorem dL_law_1286 : decode cL_law 1286 = .ok (.iload 4, 2) := dL_law_1285_g.2.1
theorem dL_law_1288 : decode cL_law 1288 = .ok (.iconst 2, 1) := dL_law_1285_g.2.2.1
theorem dL_law_1289 : decode cL_law 1289 = .ok (.iadd, 1) := dL_law_1285_g.2.2.2.1
theorem dL_law_1290 : decode cL_law 1290 = .ok (.iaload, 1) := dL_law_1285_g.2.2.2.2.1
theorem dL_law_1291 : decode cL_law 1291 = .ok (.invokevirtual 136, 3) := dL_law_1285_g.2.2.2.2.2.1
theorem dL_law_1294 : decode cL_law 1294 = .ok (.pop2, 1) := dL_law_1285_g.2.2.2.2.2.2.1
theorem dL_law_1295 : decode cL_law 1295 = .ok (.aload_n 2, 1) := dL_law_1285_g.2.2.2.2.2.2.2
theorem dL_law_1296_g : (decode cL_law 1296 = .ok (.aload_n 0, 1)) ∧ (decode cL_law 1297 = .ok (.iload 4, 2)) ∧ (decode cL_law 1299 = .ok (.iconst 1, 1)) ∧ (decode cL_law 1300 = .ok (.iadd, 1)) ∧ (decode cL_law 1301 = .ok (.iaload, 1)) ∧ (decode cL_law 1302 = .ok (.aload_n 0, 1)) ∧ (decode cL_law 1303 = .ok (.iload 4, 2)) ∧ (decode cL_law 1305 = .ok (.iconst 2, 1)) := by decide +kernel
theorem dL_law_1296 : decode cL_law 1296 = .ok (.aload_n 0, 1) := dL_law_1296_g.1
theorem dL_law_1297 : decode cL_law 1297 = .ok (.iload 4, 2) := dL_law_1296_g.2.1
theorem dL_law_1299 : decode cL_law 1299 = .ok (.iconst 1, 1) := dL_law_1296_g.2.2.1
theorem dL_law_1300 : decode cL_law 1300 = .ok (.iadd, 1) := dL_law_1296_g.2.2.2.1
theorem dL_law_1301 : decode cL_law 1301 = .ok (.iaload, 1) := dL_law_1296_g.2.2.2.2.1
theorem dL_law_1302 : decode cL_law 1302 = .ok (.aload_n 0, 1) := dL_law_1296_g.2.2.2.2.2.1
theorem dL_law_1303 : decode cL_law 1303 = .ok (.iload 4, 2) := dL_law_1296_g.2.2.2.2.2.2.1
theorem dL_law_1305 : decode cL_law 1305 = .ok (.iconst 2, 1) := dL_law_1296_g.2.2.2.2.2.2.2
theorem dL_law_1306_g : (decode cL_law 1306 = .ok (.iadd, 1)) ∧ (decode cL_law 1307 = .ok (.iaload, 1)) ∧ (decode cL_law 1308 = .ok (.invokevirtual 139, 3)) ∧ (decode cL_law 1311 = .ok (.pop2, 1)) ∧ (decode cL_law 1312 = .ok (.goto 309, 3)) ∧ (decode cL_law 1315 = .ok (.aload_n 1, 1)) ∧ (decode cL_law 1316 = .ok (.aload_n 0, 1)) ∧ (decode cL_law 1317 = .ok (.iload 4, 2)) := by decide +kernel
theorem dL_law_1306 : decode cL_law 1306 = .ok (.iadd, 1) := dL_law_1306_g.1
theorem dL_law_1307 : decode cL_law 1307 = .ok (.iaload, 1) := dL_law_1306_g.2.1
theorem dL_law_1308 : decode cL_law 1308 = .ok (.invokevirtual 139, 3) := dL_law_1306_g.2.2.1
theorem dL_law_1311 : decode cL_law 1311 = .ok (.pop2, 1) := dL_law_1306_g.2.2.2.1
theorem dL_law_1312 : decode cL_law 1312 = .ok (.goto 309, 3) := dL_law_1306_g.2.2.2.2.1
theorem dL_law_1315 : decode cL_law 1315 = .ok (.aload_n 1, 1) := dL_law_1306_g.2.2.2.2.2.1
theorem dL_law_1316 : decode cL_law 1316 = .ok (.aload_n 0, 1) := dL_law_1306_g.2.2.2.2.2.2.1
theorem dL_law_1317 : decode cL_law 1317 = .ok (.iload 4, 2) := dL_law_1306_g.2.2.2.2.2.2.2
theorem dL_law_1319_g : (decode cL_law 1319 = .ok (.iconst 1, 1)) ∧ (decode cL_law 1320 = .ok (.iadd, 1)) ∧ (decode cL_law 1321 = .ok (.iaload, 1)) ∧ (decode cL_law 1322 = .ok (.aload_n 0, 1)) ∧ (decode cL_law 1323 = .ok (.iload 4, 2)) ∧ (decode cL_law 1325 = .ok (.iconst 2, 1)) ∧ (decode cL_law 1326 = .ok (.iadd, 1)) ∧ (decode cL_law 1327 = .ok (.iaload, 1)) := by decide +kernel
theorem dL_law_1319 : decode cL_law 1319 = .ok (.iconst 1, 1) := dL_law_1319_g.1
theorem dL_law_1320 : decode cL_law 1320 = .ok (.iadd, 1) := dL_law_1319_g.2.1
theorem dL_law_1321 : decode cL_law 1321 = .ok (.iaload, 1) := dL_law_1319_g.2.2.1
theorem dL_law_1322 : decode cL_law 1322 = .ok (.aload_n 0, 1) := dL_law_1319_g.2.2.2.1
theorem dL_law_1323 : decode cL_law 1323 = .ok (.iload 4, 2) := dL_law_1319_g.2.2.2.2.1
theorem dL_law_1325 : decode cL_law 1325 = .ok (.iconst 2, 1) := dL_law_1319_g.2.2.2.2.2.1
theorem dL_law_1326 : decode cL_law 1326 = .ok (.iadd, 1) := dL_law_1319_g.2.2.2.2.2.2.1
theorem dL_law_1327 : decode cL_law 1327 = .ok (.iaload, 1) := dL_law_1319_g.2.2.2.2.2.2.2
theorem dL_law_1328_g : (decode cL_law 1328 = .ok (.invokevirtual 140, 3)) ∧ (decode cL_law 1331 = .ok (.pop, 1)) ∧ (decode cL_law 1332 = .ok (.aload_n 2, 1)) ∧ (decode cL_law 1333 = .ok (.aload_n 0, 1)) ∧ (decode cL_law 1334 = .ok (.iload 4, 2)) ∧ (decode cL_law 1336 = .ok (.iconst 1, 1)) ∧ (decode cL_law 1337 = .ok (.iadd, 1)) ∧ (decode cL_law 1338 = .ok (.iaload, 1)) := by decide +kernel
theorem dL_law_1328 : decode cL_law 1328 = .ok (.invokevirtual 140, 3) := dL_law_1328_g.1
theorem dL_law_1331 : decode cL_law 1331 = .ok (.pop, 1) := dL_law_1328_g.2.1
theorem dL_law_1332 : decode cL_law 1332 = .ok (.aload_n 2, 1) := dL_law_1328_g.2.2.1
theorem dL_law_1333 : decode cL_law 1333 = .ok (.aload_n 0, 1) := dL_law_1328_g.2.2.2.1
theorem dL_law_1334 : decode cL_law 1334 = .ok (.iload 4, 2) := dL_law_1328_g.2.2.2.2.1
theorem dL_law_1336 : decode cL_law 1336 = .ok (.iconst 1, 1) := dL_law_1328_g.2.2.2.2.2.1
theorem dL_law_1337 : decode cL_law 1337 = .ok (.iadd, 1) := dL_law_1328_g.2.2.2.2.2.2.1
theorem dL_law_1338 : decode cL_law 1338 = .ok (.iaload, 1) := dL_law_1328_g.2.2.2.2.2.2.2
theorem dL_law_1339_g : (decode cL_law 1339 = .ok (.aload_n 0, 1)) ∧ (decode cL_law 1340 = .ok (.iload 4, 2)) ∧ (decode cL_law 1342 = .ok (.iconst 2, 1)) ∧ (decode cL_law 1343 = .ok (.iadd, 1)) ∧ (decode cL_law 1344 = .ok (.iaload, 1)) ∧ (decode cL_law 1345 = .ok (.invokevirtual 143, 3)) ∧ (decode cL_law 1348 = .ok (.pop, 1)) ∧ (decode cL_law 1349 = .ok (.goto 272, 3)) := by decide +kernel
theorem dL_law_1339 : decode cL_law 1339 = .ok (.aload_n 0, 1) := dL_law_1339_g.1
theorem dL_law_1340 : decode cL_law 1340 = .ok (.iload 4, 2) := dL_law_1339_g.2.1
theorem dL_law_1342 : decode cL_law 1342 = .ok (.iconst 2, 1) := dL_law_1339_g.2.2.1
theorem dL_law_1343 : decode cL_law 1343 = .ok (.iadd, 1) := dL_law_1339_g.2.2.2.1
theorem dL_law_1344 : decode cL_law 1344 = .ok (.iaload, 1) := dL_law_1339_g.2.2.2.2.1
theorem dL_law_1345 : decode cL_law 1345 = .ok (.invokevirtual 143, 3) := dL_law_1339_g.2.2.2.2.2.1
theorem dL_law_1348 : decode cL_law 1348 = .ok (.pop, 1) := dL_law_1339_g.2.2.2.2.2.2.1
theorem dL_law_1349 : decode cL_law 1349 = .ok (.goto 272, 3) := dL_law_1339_g.2.2.2.2.2.2.2
theorem dL_law_1352_g : (decode cL_law 1352 = .ok (.aload_n 1, 1)) ∧ (decode cL_law 1353 = .ok (.aload_n 0, 1)) ∧ (decode cL_law 1354 = .ok (.iload 4, 2)) ∧ (decode cL_law 1356 = .ok (.iconst 1, 1)) ∧ (decode cL_law 1357 = .ok (.iadd, 1)) ∧ (decode cL_law 1358 = .ok (.iaload, 1)) ∧ (decode cL_law 1359 = .ok (.aload_n 0, 1)) ∧ (decode cL_law 1360 = .ok (.iload 4, 2)) := by decide +kernel
theorem dL_law_1352 : decode cL_law 1352 = .ok (.aload_n 1, 1) := dL_law_1352_g.1
theorem dL_law_1353 : decode cL_law 1353 = .ok (.aload_n 0, 1) := dL_law_1352_g.2.1
theorem dL_law_1354 : decode cL_law 1354 = .ok (.iload 4, 2) := dL_law_1352_g.2.2.1
theorem dL_law_1356 : decode cL_law 1356 = .ok (.iconst 1, 1) := dL_law_1352_g.2.2.2.1
theorem dL_law_1357 : decode cL_law 1357 = .ok (.iadd, 1) := dL_law_1352_g.2.2.2.2.1
theorem dL_law_1358 : decode cL_law 1358 = .ok (.iaload, 1) := dL_law_1352_g.2.2.2.2.2.1
theorem dL_law_1359 : decode cL_law 1359 = .ok (.aload_n 0, 1) := dL_law_1352_g.2.2.2.2.2.2.1
theorem dL_law_1360 : decode cL_law 1360 = .ok (.iload 4, 2) := dL_law_1352_g.2.2.2.2.2.2.2
theorem dL_law_1362_g : (decode cL_law 1362 = .ok (.iconst 2, 1)) ∧ (decode cL_law 1363 = .ok (.iadd, 1)) ∧ (decode cL_law 1364 = .ok (.iaload, 1)) ∧ (decode cL_law 1365 = .ok (.ifCond .eq 7, 3)) ∧ (decode cL_law 1368 = .ok (.iconst 1, 1)) ∧ (decode cL_law 1369 = .ok (.goto 4, 3)) ∧ (decode cL_law 1372 = .ok (.iconst 0, 1)) ∧ (decode cL_law 1373 = .ok (.invokevirtual 144, 3)) := by decide +kernel
theorem dL_law_1362 : decode cL_law 1362 = .ok (.iconst 2, 1) := dL_law_1362_g.1
theorem dL_law_1363 : decode cL_law 1363 = .ok (.iadd, 1) := dL_law_1362_g.2.1
theorem dL_law_1364 : decode cL_law 1364 = .ok (.iaload, 1) := dL_law_1362_g.2.2.1
theorem dL_law_1365 : decode cL_law 1365 = .ok (.ifCond .eq 7, 3) := dL_law_1362_g.2.2.2.1
theorem dL_law_1368 : decode cL_law 1368 = .ok (.iconst 1, 1) := dL_law_1362_g.2.2.2.2.1
theorem dL_law_1369 : decode cL_law 1369 = .ok (.goto 4, 3) := dL_law_1362_g.2.2.2.2.2.1
theorem dL_law_1372 : decode cL_law 1372 = .ok (.iconst 0, 1) := dL_law_1362_g.2.2.2.2.2.2.1
theorem dL_law_1373 : decode cL_law 1373 = .ok (.invokevirtual 144, 3) := dL_law_1362_g.2.2.2.2.2.2.2
theorem dL_law_1376_g : (decode cL_law 1376 = .ok (.pop, 1)) ∧ (decode cL_law 1377 = .ok (.aload_n 2, 1)) ∧ (decode cL_law 1378 = .ok (.aload_n 0, 1)) ∧ (decode cL_law 1379 = .ok (.iload 4, 2)) ∧ (decode cL_law 1381 = .ok (.iconst 1, 1)) ∧ (decode cL_law 1382 = .ok (.iadd, 1)) := by decide +kernel
theorem dL_law_1376 : decode cL_law 1376 = .ok (.pop, 1) := dL_law_1376_g.1
theorem dL_law_1377 : decode cL_law 1377 = .ok (.aload_n 2, 1) := dL_law_1376_g.2.1
theorem dL_law_1378 : decode cL_law 1378 = .ok (.aload_n 0, 1) := dL_law_1376_g.2.2.1
theorem dL_law_1379 : decode cL_law 1379 = .ok (.iload 4, 2) := dL_law_1376_g.2.2.2.1
theorem dL_law_1381 : decode cL_law 1381 = .ok (.iconst 1, 1) := dL_law_1376_g.2.2.2.2.1
theorem dL_law_1382 : decode cL_law 1382 = .ok (.iadd, 1) := dL_law_1376_g.2.2.2.2.2

