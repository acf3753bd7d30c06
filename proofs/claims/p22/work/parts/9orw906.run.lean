/-! the walk runs: 6 -/
set_option maxRecDepth 100000 in
theorem w_g1194 : w_g (nat_lit 1194) = true := by decide +kernel
theorem w_r1195 : w_rg 1195 := w_rg_s (n := 1194) w_r1194 w_g1194
set_option maxRecDepth 100000 in
theorem w_g1195 : w_g (nat_lit 1195) = true := by decide +kernel
theorem w_r1196 : w_rg 1196 := w_rg_s (n := 1195) w_r1195 w_g1195
set_option maxRecDepth 100000 in
theorem w_g1196 : w_g (nat_lit 1196) = true := by decide +kernel
theorem w_r1197 : w_rg 1197 := w_rg_s (n := 1196) w_r1196 w_g1196
set_option maxRecDepth 100000 in
theorem w_g1197 : w_g (nat_lit 1197) = true := by decide +kernel
theorem w_r1198 : w_rg 1198 := w_rg_s (n := 1197) w_r1197 w_g1197
set_option maxRecDepth 100000 in
theorem w_g1198 : w_g (nat_lit 1198) = true := by decide +kernel
theorem w_r1199 : w_rg 1199 := w_rg_s (n := 1198) w_r1198 w_g1198
set_option maxRecDepth 100000 in
theorem w_g1199 : w_g (nat_lit 1199) = true := by decide +kernel
theorem w_r1200 : w_rg 1200 := w_rg_s (n := 1199) w_r1199 w_g1199
set_option maxRecDepth 100000 in
theorem w_g1200 : w_g (nat_lit 1200) = true := by decide +kernel
theorem w_r1201 : w_rg 1201 := w_rg_s (n := 1200) w_r1200 w_g1200
set_option maxRecDepth 100000 in
theorem w_g1201 : w_g (nat_lit 1201) = true := by decide +kernel
theorem w_r1202 : w_rg 1202 := w_rg_s (n := 1201) w_r1201 w_g1201
set_option maxRecDepth 100000 in
theorem w_g1202 : w_g (nat_lit 1202) = true := by decide +kernel
theorem w_r1203 : w_rg 1203 := w_rg_s (n := 1202) w_r1202 w_g1202
set_option maxRecDepth 100000 in
theorem w_g1203 : w_g (nat_lit 1203) = true := by decide +kernel
theorem w_r1204 : w_rg 1204 := w_rg_s (n := 1203) w_r1203 w_g1203
set_option maxRecDepth 100000 in
theorem w_g1204 : w_g (nat_lit 1204) = true := by decide +kernel
theorem w_r1205 : w_rg 1205 := w_rg_s (n := 1204) w_r1204 w_g1204
set_option maxRecDepth 100000 in
theorem w_g1205 : w_g (nat_lit 1205) = true := by decide +kernel
theorem w_r1206 : w_rg 1206 := w_rg_s (n := 1205) w_r1205 w_g1205
set_option maxRecDepth 100000 in
theorem w_g1206 : w_g (nat_lit 1206) = true := by decide +kernel
theorem w_r1207 : w_rg 1207 := w_rg_s (n := 1206) w_r1206 w_g1206
set_option maxRecDepth 100000 in
theorem w_g1207 : w_g (nat_lit 1207) = true := by decide +kernel
theorem w_r1208 : w_rg 1208 := w_rg_s (n := 1207) w_r1207 w_g1207
set_option maxRecDepth 100000 in
theorem w_g1208 : w_g (nat_lit 1208) = true := by decide +kernel
theorem w_r1209 : w_rg 1209 := w_rg_s (n := 1208) w_r1208 w_g1208
set_option maxRecDepth 100000 in
theorem w_g1209 : w_g (nat_lit 1209) = true := by decide +kernel
theorem w_r1210 : w_rg 1210 := w_rg_s (n := 1209) w_r1209 w_g1209
set_option maxRecDepth 100000 in
theorem w_g1210 : w_g (nat_lit 1210) = true := by decide +kernel
theorem w_r1211 : w_rg 1211 := w_rg_s (n := 1210) w_r1210 w_g1210
set_option maxRecDepth 100000 in
theorem w_g1211 : w_g (nat_lit 1211) = true := by decide +kernel
theorem w_r1212 : w_rg 1212 := w_rg_s (n := 1211) w_r1211 w_g1211
set_option maxRecDepth 100000 in
theorem w_g1212 : w_g (nat_lit 1212) = true := by decide +kernel
theorem w_r1213 : w_rg 1213 := w_rg_s (n := 1212) w_r1212 w_g1212
set_option maxRecDepth 100000 in
theorem w_g1213 : w_g (nat_lit 1213) = true := by decide +kernel
theorem w_r1214 : w_rg 1214 := w_rg_s (n := 1213) w_r1213 w_g1213
set_option maxRecDepth 100000 in
theorem w_g1214 : w_g (nat_lit 1214) = true := by decide +kernel
theorem w_r1215 : w_rg 1215 := w_rg_s (n := 1214) w_r1214 w_g1214
set_option maxRecDepth 100000 in
theorem w_g1215 : w_g (nat_lit 1215) = true := by decide +kernel
theorem w_r1216 : w_rg 1216 := w_rg_s (n := 1215) w_r1215 w_g1215
set_option maxRecDepth 100000 in
theorem w_g1216 : w_g (nat_lit 1216) = true := by decide +kernel
theorem w_r1217 : w_rg 1217 := w_rg_s (n := 1216) w_r1216 w_g1216
set_option maxRecDepth 100000 in
theorem w_g1217 : w_g (nat_lit 1217) = true := by decide +kernel
theorem w_r1218 : w_rg 1218 := w_rg_s (n := 1217) w_r1217 w_g1217
set_option maxRecDepth 100000 in
theorem w_g1218 : w_g (nat_lit 1218) = true := by decide +kernel
theorem w_r1219 : w_rg 1219 := w_rg_s (n := 1218) w_r1218 w_g1218
set_option maxRecDepth 100000 in
theorem w_g1219 : w_g (nat_lit 1219) = true := by decide +kernel
theorem w_r1220 : w_rg 1220 := w_rg_s (n := 1219) w_r1219 w_g1219
set_option maxRecDepth 100000 in
theorem w_g1220 : w_g (nat_lit 1220) = true := by decide +kernel
theorem w_r1221 : w_rg 1221 := w_rg_s (n := 1220) w_r1220 w_g1220
set_option maxRecDepth 100000 in
theorem w_g1221 : w_g (nat_lit 1221) = true := by decide +kernel
theorem w_r1222 : w_rg 1222 := w_rg_s (n := 1221) w_r1221 w_g1221
set_option maxRecDepth 100000 in
theorem w_g1222 : w_g (nat_lit 1222) = true := by decide +kernel
theorem w_r1223 : w_rg 1223 := w_rg_s (n := 1222) w_r1222 w_g1222
set_option maxRecDepth 100000 in
theorem w_g1223 : w_g (nat_lit 1223) = true := by decide +kernel
theorem w_r1224 : w_rg 1224 := w_rg_s (n := 1223) w_r1223 w_g1223
set_option maxRecDepth 100000 in
theorem w_g1224 : w_g (nat_lit 1224) = true := by decide +kernel
theorem w_r1225 : w_rg 1225 := w_rg_s (n := 1224) w_r1224 w_g1224
set_option maxRecDepth 100000 in
theorem w_g1225 : w_g (nat_lit 1225) = true := by decide +kernel
theorem w_r1226 : w_rg 1226 := w_rg_s (n := 1225) w_r1225 w_g1225
set_option maxRecDepth 100000 in
theorem w_g1226 : w_g (nat_lit 1226) = true := by decide +kernel
theorem w_r1227 : w_rg 1227 := w_rg_s (n := 1226) w_r1226 w_g1226
set_option maxRecDepth 100000 in
theorem w_g1227 : w_g (nat_lit 1227) = true := by decide +kernel
theorem w_r1228 : w_rg 1228 := w_rg_s (n := 1227) w_r1227 w_g1227
set_option maxRecDepth 100000 in
theorem w_g1228 : w_g (nat_lit 1228) = true := by decide +kernel
theorem w_r1229 : w_rg 1229 := w_rg_s (n := 1228) w_r1228 w_g1228
set_option maxRecDepth 100000 in
theorem w_g1229 : w_g (nat_lit 1229) = true := by decide +kernel
theorem w_r1230 : w_rg 1230 := w_rg_s (n := 1229) w_r1229 w_g1229
set_option maxRecDepth 100000 in
theorem w_g1230 : w_g (nat_lit 1230) = true := by decide +kernel
theorem w_r1231 : w_rg 1231 := w_rg_s (n := 1230) w_r1230 w_g1230
set_option maxRecDepth 100000 in
theorem w_g1231 : w_g (nat_lit 1231) = true := by decide +kernel
theorem w_r1232 : w_rg 1232 := w_rg_s (n := 1231) w_r1231 w_g1231
set_option maxRecDepth 100000 in
theorem w_g1232 : w_g (nat_lit 1232) = true := by decide +kernel
theorem w_r1233 : w_rg 1233 := w_rg_s (n := 1232) w_r1232 w_g1232
set_option maxRecDepth 100000 in
theorem w_g1233 : w_g (nat_lit 1233) = true := by decide +kernel
theorem w_r1234 : w_rg 1234 := w_rg_s (n := 1233) w_r1233 w_g1233
set_option maxRecDepth 100000 in
theorem w_g1234 : w_g (nat_lit 1234) = true := by decide +kernel
theorem w_r1235 : w_rg 1235 := w_rg_s (n := 1234) w_r1234 w_g1234
set_option maxRecDepth 100000 in
theorem w_g1235 : w_g (nat_lit 1235) = true := by decide +kernel
theorem w_r1236 : w_rg 1236 := w_rg_s (n := 1235) w_r1235 w_g1235
set_option maxRecDepth 100000 in
theorem w_g1236 : w_g (nat_lit 1236) = true := by decide +kernel
theorem w_r1237 : w_rg 1237 := w_rg_s (n := 1236) w_r1236 w_g1236
set_option maxRecDepth 100000 in
theorem w_g1237 : w_g (nat_lit 1237) = true := by decide +kernel
theorem w_r1238 : w_rg 1238 := w_rg_s (n := 1237) w_r1237 w_g1237
set_option maxRecDepth 100000 in
theorem w_g1238 : w_g (nat_lit 1238) = true := by decide +kernel
theorem w_r1239 : w_rg 1239 := w_rg_s (n := 1238) w_r1238 w_g1238
set_option maxRecDepth 100000 in
theorem w_g1239 : w_g (nat_lit 1239) = true := by decide +kernel
theorem w_r1240 : w_rg 1240 := w_rg_s (n := 1239) w_r1239 w_g1239
set_option maxRecDepth 100000 in
theorem w_g1240 : w_g (nat_lit 1240) = true := by decide +kernel
theorem w_r1241 : w_rg 1241 := w_rg_s (n := 1240) w_r1240 w_g1240
set_option maxRecDepth 100000 in
theorem w_g1241 : w_g (nat_lit 1241) = true := by decide +kernel
theorem w_r1242 : w_rg 1242 := w_rg_s (n := 1241) w_r1241 w_g1241
set_option maxRecDepth 100000 in
theorem w_g1242 : w_g (nat_lit 1242) = true := by decide +kernel
theorem w_r1243 : w_rg 1243 := w_rg_s (n := 1242) w_r1242 w_g1242
set_option maxRecDepth 100000 in
theorem w_g1243 : w_g (nat_lit 1243) = true := by decide +kernel
theorem w_r1244 : w_rg 1244 := w_rg_s (n := 1243) w_r1243 w_g1243
set_option maxRecDepth 100000 in
theorem w_g1244 : w_g (nat_lit 1244) = true := by decide +kernel
theorem w_r1245 : w_rg 1245 := w_rg_s (n := 1244) w_r1244 w_g1244
set_option maxRecDepth 100000 in
theorem w_g1245 : w_g (nat_lit 1245) = true := by decide +kernel
theorem w_r1246 : w_rg 1246 := w_rg_s (n := 1245) w_r1245 w_g1245
set_option maxRecDepth 100000 in
theorem w_g1246 : w_g (nat_lit 1246) = true := by decide +kernel
theorem w_r1247 : w_rg 1247 := w_rg_s (n := 1246) w_r1246 w_g1246
set_option maxRecDepth 100000 in
theorem w_g1247 : w_g (nat_lit 1247) = true := by decide +kernel
theorem w_r1248 : w_rg 1248 := w_rg_s (n := 1247) w_r1247 w_g1247
set_option maxRecDepth 100000 in
theorem w_g1248 : w_g (nat_lit 1248) = true := by decide +kernel
theorem w_r1249 : w_rg 1249 := w_rg_s (n := 1248) w_r1248 w_g1248
set_option maxRecDepth 100000 in
theorem w_g1249 : w_g (nat_lit 1249) = true := by decide +kernel
theorem w_r1250 : w_rg 1250 := w_rg_s (n := 1249) w_r1249 w_g1249
set_option maxRecDepth 100000 in
theorem w_g1250 : w_g (nat_lit 1250) = true := by decide +kernel
theorem w_r1251 : w_rg 1251 := w_rg_s (n := 1250) w_r1250 w_g1250
set_option maxRecDepth 100000 in
theorem w_g1251 : w_g (nat_lit 1251) = true := by decide +kernel
theorem w_r1252 : w_rg 1252 := w_rg_s (n := 1251) w_r1251 w_g1251
set_option maxRecDepth 100000 in
theorem w_g1252 : w_g (nat_lit 1252) = true := by decide +kernel
theorem w_r1253 : w_rg 1253 := w_rg_s (n := 1252) w_r1252 w_g1252
set_option maxRecDepth 100000 in
theorem w_g1253 : w_g (nat_lit 1253) = true := by decide +kernel
theorem w_r1254 : w_rg 1254 := w_rg_s (n := 1253) w_r1253 w_g1253
set_option maxRecDepth 100000 in
theorem w_g1254 : w_g (nat_lit 1254) = true := by decide +kernel
theorem w_r1255 : w_rg 1255 := w_rg_s (n := 1254) w_r1254 w_g1254
set_option maxRecDepth 100000 in
theorem w_g1255 : w_g (nat_lit 1255) = true := by decide +kernel
theorem w_r1256 : w_rg 1256 := w_rg_s (n := 1255) w_r1255 w_g1255
set_option maxRecDepth 100000 in
theorem w_g1256 : w_g (nat_lit 1256) = true := by decide +kernel
theorem w_r1257 : w_rg 1257 := w_rg_s (n := 1256) w_r1256 w_g1256
set_option maxRecDepth 100000 in
theorem w_g1257 : w_g (nat_lit 1257) = true := by decide +kernel
theorem w_r1258 : w_rg 1258 := w_rg_s (n := 1257) w_r1257 w_g1257
set_option maxRecDepth 100000 in
theorem w_g1258 : w_g (nat_lit 1258) = true := by decide +kernel
theorem w_r1259 : w_rg 1259 := w_rg_s (n := 1258) w_r1258 w_g1258
set_option maxRecDepth 100000 in
theorem w_g1259 : w_g (nat_lit 1259) = true := by decide +kernel
theorem w_r1260 : w_rg 1260 := w_rg_s (n := 1259) w_r1259 w_g1259
set_option maxRecDepth 100000 in
theorem w_g1260 : w_g (nat_lit 1260) = true := by decide +kernel
theorem w_r1261 : w_rg 1261 := w_rg_s (n := 1260) w_r1260 w_g1260
set_option maxRecDepth 100000 in
theorem w_g1261 : w_g (nat_lit 1261) = true := by decide +kernel
theorem w_r1262 : w_rg 1262 := w_rg_s (n := 1261) w_r1261 w_g1261
set_option maxRecDepth 100000 in
theorem w_g1262 : w_g (nat_lit 1262) = true := by decide +kernel
theorem w_r1263 : w_rg 1263 := w_rg_s (n := 1262) w_r1262 w_g1262
set_option maxRecDepth 100000 in
theorem w_g1263 : w_g (nat_lit 1263) = true := by decide +kernel
theorem w_r1264 : w_rg 1264 := w_rg_s (n := 1263) w_r1263 w_g1263
set_option maxRecDepth 100000 in
theorem w_g1264 : w_g (nat_lit 1264) = true := by decide +kernel
theorem w_r1265 : w_rg 1265 := w_rg_s (n := 1264) w_r1264 w_g1264
set_option maxRecDepth 100000 in
theorem w_g1265 : w_g (nat_lit 1265) = true := by decide +kernel
theorem w_r1266 : w_rg 1266 := w_rg_s (n := 1265) w_r1265 w_g1265
set_option maxRecDepth 100000 in
theorem w_g1266 : w_g (nat_lit 1266) = true := by decide +kernel
theorem w_r1267 : w_rg 1267 := w_rg_s (n := 1266) w_r1266 w_g1266
set_option maxRecDepth 100000 in
theorem w_g1267 : w_g (nat_lit 1267) = true := by decide +kernel
theorem w_r1268 : w_rg 1268 := w_rg_s (n := 1267) w_r1267 w_g1267
set_option maxRecDepth 100000 in
theorem w_g1268 : w_g (nat_lit 1268) = true := by decide +kernel
theorem w_r1269 : w_rg 1269 := w_rg_s (n := 1268) w_r1268 w_g1268
set_option maxRecDepth 100000 in
theorem w_g1269 : w_g (nat_lit 1269) = true := by decide +kernel
theorem w_r1270 : w_rg 1270 := w_rg_s (n := 1269) w_r1269 w_g1269
set_option maxRecDepth 100000 in
theorem w_g1270 : w_g (nat_lit 1270) = true := by decide +kernel
theorem w_r1271 : w_rg 1271 := w_rg_s (n := 1270) w_r1270 w_g1270
set_option maxRecDepth 100000 in
theorem w_g1271 : w_g (nat_lit 1271) = true := by decide +kernel
theorem w_r1272 : w_rg 1272 := w_rg_s (n := 1271) w_r1271 w_g1271
set_option maxRecDepth 100000 in
theorem w_g1272 : w_g (nat_lit 1272) = true := by decide +kernel
theorem w_r1273 : w_rg 1273 := w_rg_s (n := 1272) w_r1272 w_g1272
set_option maxRecDepth 100000 in
theorem w_g1273 : w_g (nat_lit 1273) = true := by decide +kernel
theorem w_r1274 : w_rg 1274 := w_rg_s (n := 1273) w_r1273 w_g1273
set_option maxRecDepth 100000 in
theorem w_g1274 : w_g (nat_lit 1274) = true := by decide +kernel
theorem w_r1275 : w_rg 1275 := w_rg_s (n := 1274) w_r1274 w_g1274
set_option maxRecDepth 100000 in
theorem w_g1275 : w_g (nat_lit 1275) = true := by decide +kernel
theorem w_r1276 : w_rg 1276 := w_rg_s (n := 1275) w_r1275 w_g1275
set_option maxRecDepth 100000 in
theorem w_g1276 : w_g (nat_lit 1276) = true := by decide +kernel
theorem w_r1277 : w_rg 1277 := w_rg_s (n := 1276) w_r1276 w_g1276
set_option maxRecDepth 100000 in
theorem w_g1277 : w_g (nat_lit 1277) = true := by decide +kernel
theorem w_r1278 : w_rg 1278 := w_rg_s (n := 1277) w_r1277 w_g1277
set_option maxRecDepth 100000 in
theorem w_g1278 : w_g (nat_lit 1278) = true := by decide +kernel
theorem w_r1279 : w_rg 1279 := w_rg_s (n := 1278) w_r1278 w_g1278
set_option maxRecDepth 100000 in
theorem w_g1279 : w_g (nat_lit 1279) = true := by decide +kernel
theorem w_r1280 : w_rg 1280 := w_rg_s (n := 1279) w_r1279 w_g1279
set_option maxRecDepth 100000 in
theorem w_g1280 : w_g (nat_lit 1280) = true := by decide +kernel
theorem w_r1281 : w_rg 1281 := w_rg_s (n := 1280) w_r1280 w_g1280
set_option maxRecDepth 100000 in
theorem w_g1281 : w_g (nat_lit 1281) = true := by decide +kernel
theorem w_r1282 : w_rg 1282 := w_rg_s (n := 1281) w_r1281 w_g1281
set_option maxRecDepth 100000 in
theorem w_g1282 : w_g (nat_lit 1282) = true := by decide +kernel
theorem w_r1283 : w_rg 1283 := w_rg_s (n := 1282) w_r1282 w_g1282
set_option maxRecDepth 100000 in
theorem w_g1283 : w_g (nat_lit 1283) = true := by decide +kernel
theorem w_r1284 : w_rg 1284 := w_rg_s (n := 1283) w_r1283 w_g1283
set_option maxRecDepth 100000 in
theorem w_g1284 : w_g (nat_lit 1284) = true := by decide +kernel
theorem w_r1285 : w_rg 1285 := w_rg_s (n := 1284) w_r1284 w_g1284
set_option maxRecDepth 100000 in
theorem w_g1285 : w_g (nat_lit 1285) = true := by decide +kernel
theorem w_r1286 : w_rg 1286 := w_rg_s (n := 1285) w_r1285 w_g1285
set_option maxRecDepth 100000 in
theorem w_g1286 : w_g (nat_lit 1286) = true := by decide +kernel
theorem w_r1287 : w_rg 1287 := w_rg_s (n := 1286) w_r1286 w_g1286
set_option maxRecDepth 100000 in
theorem w_g1287 : w_g (nat_lit 1287) = true := by decide +kernel
theorem w_r1288 : w_rg 1288 := w_rg_s (n := 1287) w_r1287 w_g1287
set_option maxRecDepth 100000 in
theorem w_g1288 : w_g (nat_lit 1288) = true := by decide +kernel
theorem w_r1289 : w_rg 1289 := w_rg_s (n := 1288) w_r1288 w_g1288
set_option maxRecDepth 100000 in
theorem w_g1289 : w_g (nat_lit 1289) = true := by decide +kernel
theorem w_r1290 : w_rg 1290 := w_rg_s (n := 1289) w_r1289 w_g1289
set_option maxRecDepth 100000 in
theorem w_g1290 : w_g (nat_lit 1290) = true := by decide +kernel
theorem w_r1291 : w_rg 1291 := w_rg_s (n := 1290) w_r1290 w_g1290
set_option maxRecDepth 100000 in
theorem w_g1291 : w_g (nat_lit 1291) = true := by decide +kernel
theorem w_r1292 : w_rg 1292 := w_rg_s (n := 1291) w_r1291 w_g1291
set_option maxRecDepth 100000 in
theorem w_g1292 : w_g (nat_lit 1292) = true := by decide +kernel
theorem w_r1293 : w_rg 1293 := w_rg_s (n := 1292) w_r1292 w_g1292
set_option maxRecDepth 100000 in
theorem w_g1293 : w_g (nat_lit 1293) = true := by decide +kernel
theorem w_r1294 : w_rg 1294 := w_rg_s (n := 1293) w_r1293 w_g1293
set_option maxRecDepth 100000 in
theorem w_g1294 : w_g (nat_lit 1294) = true := by decide +kernel
theorem w_r1295 : w_rg 1295 := w_rg_s (n := 1294) w_r1294 w_g1294
set_option maxRecDepth 100000 in
theorem w_g1295 : w_g (nat_lit 1295) = true := by decide +kernel
theorem w_r1296 : w_rg 1296 := w_rg_s (n := 1295) w_r1295 w_g1295
set_option maxRecDepth 100000 in
theorem w_g1296 : w_g (nat_lit 1296) = true := by decide +kernel
theorem w_r1297 : w_rg 1297 := w_rg_s (n := 1296) w_r1296 w_g1296
set_option maxRecDepth 100000 in
theorem w_g1297 : w_g (nat_lit 1297) = true := by decide +kernel
theorem w_r1298 : w_rg 1298 := w_rg_s (n := 1297) w_r1297 w_g1297
set_option maxRecDepth 100000 in
theorem w_g1298 : w_g (nat_lit 1298) = true := by decide +kernel
theorem w_r1299 : w_rg 1299 := w_rg_s (n := 1298) w_r1298 w_g1298
set_option maxRecDepth 100000 in
theorem w_g1299 : w_g (nat_lit 1299) = true := by decide +kernel
theorem w_r1300 : w_rg 1300 := w_rg_s (n := 1299) w_r1299 w_g1299
set_option maxRecDepth 100000 in
theorem w_g1300 : w_g (nat_lit 1300) = true := by decide +kernel
theorem w_r1301 : w_rg 1301 := w_rg_s (n := 1300) w_r1300 w_g1300
set_option maxRecDepth 100000 in
theorem w_g1301 : w_g (nat_lit 1301) = true := by decide +kernel
theorem w_r1302 : w_rg 1302 := w_rg_s (n := 1301) w_r1301 w_g1301
set_option maxRecDepth 100000 in
theorem w_g1302 : w_g (nat_lit 1302) = true := by decide +kernel
theorem w_r1303 : w_rg 1303 := w_rg_s (n := 1302) w_r1302 w_g1302
set_option maxRecDepth 100000 in
theorem w_g1303 : w_g (nat_lit 1303) = true := by decide +kernel
theorem w_r1304 : w_rg 1304 := w_rg_s (n := 1303) w_r1303 w_g1303
set_option maxRecDepth 100000 in
theorem w_g1304 : w_g (nat_lit 1304) = true := by decide +kernel
theorem w_r1305 : w_rg 1305 := w_rg_s (n := 1304) w_r1304 w_g1304
set_option maxRecDepth 100000 in
theorem w_g1305 : w_g (nat_lit 1305) = true := by decide +kernel
theorem w_r1306 : w_rg 1306 := w_rg_s (n := 1305) w_r1305 w_g1305
set_option maxRecDepth 100000 in
theorem w_g1306 : w_g (nat_lit 1306) = true := by decide +kernel
theorem w_r1307 : w_rg 1307 := w_rg_s (n := 1306) w_r1306 w_g1306
set_option maxRecDepth 100000 in
theorem w_g1307 : w_g (nat_lit 1307) = true := by decide +kernel
theorem w_r1308 : w_rg 1308 := w_rg_s (n := 1307) w_r1307 w_g1307
set_option maxRecDepth 100000 in
theorem w_g1308 : w_g (nat_lit 1308) = true := by decide +kernel
theorem w_r1309 : w_rg 1309 := w_rg_s (n := 1308) w_r1308 w_g1308
set_option maxRecDepth 100000 in
theorem w_g1309 : w_g (nat_lit 1309) = true := by decide +kernel
theorem w_r1310 : w_rg 1310 := w_rg_s (n := 1309) w_r1309 w_g1309
set_option maxRecDepth 100000 in
theorem w_g1310 : w_g (nat_lit 1310) = true := by decide +kernel
theorem w_r1311 : w_rg 1311 := w_rg_s (n := 1310) w_r1310 w_g1310
set_option maxRecDepth 100000 in
theorem w_g1311 : w_g (nat_lit 1311) = true := by decide +kernel
theorem w_r1312 : w_rg 1312 := w_rg_s (n := 1311) w_r1311 w_g1311
set_option maxRecDepth 100000 in
theorem w_g1312 : w_g (nat_lit 1312) = true := by decide +kernel
theorem w_r1313 : w_rg 1313 := w_rg_s (n := 1312) w_r1312 w_g1312
set_option maxRecDepth 100000 in
theorem w_g1313 : w_g (nat_lit 1313) = true := by decide +kernel
theorem w_r1314 : w_rg 1314 := w_rg_s (n := 1313) w_r1313 w_g1313
set_option maxRecDepth 100000 in
theorem w_g1314 : w_g (nat_lit 1314) = true := by decide +kernel
theorem w_r1315 : w_rg 1315 := w_rg_s (n := 1314) w_r1314 w_g1314
set_option maxRecDepth 100000 in
theorem w_g1315 : w_g (nat_lit 1315) = true := by decide +kernel
theorem w_r1316 : w_rg 1316 := w_rg_s (n := 1315) w_r1315 w_g1315
set_option maxRecDepth 100000 in
theorem w_g1316 : w_g (nat_lit 1316) = true := by decide +kernel
theorem w_r1317 : w_rg 1317 := w_rg_s (n := 1316) w_r1316 w_g1316
set_option maxRecDepth 100000 in
theorem w_g1317 : w_g (nat_lit 1317) = true := by decide +kernel
theorem w_r1318 : w_rg 1318 := w_rg_s (n := 1317) w_r1317 w_g1317
set_option maxRecDepth 100000 in
theorem w_g1318 : w_g (nat_lit 1318) = true := by decide +kernel
theorem w_r1319 : w_rg 1319 := w_rg_s (n := 1318) w_r1318 w_g1318
set_option maxRecDepth 100000 in
theorem w_g1319 : w_g (nat_lit 1319) = true := by decide +kernel
theorem w_r1320 : w_rg 1320 := w_rg_s (n := 1319) w_r1319 w_g1319
set_option maxRecDepth 100000 in
theorem w_g1320 : w_g (nat_lit 1320) = true := by decide +kernel
theorem w_r1321 : w_rg 1321 := w_rg_s (n := 1320) w_r1320 w_g1320
set_option maxRecDepth 100000 in
theorem w_g1321 : w_g (nat_lit 1321) = true := by decide +kernel
theorem w_r1322 : w_rg 1322 := w_rg_s (n := 1321) w_r1321 w_g1321
set_option maxRecDepth 100000 in
theorem w_g1322 : w_g (nat_lit 1322) = true := by decide +kernel
theorem w_r1323 : w_rg 1323 := w_rg_s (n := 1322) w_r1322 w_g1322
set_option maxRecDepth 100000 in
theorem w_g1323 : w_g (nat_lit 1323) = true := by decide +kernel
theorem w_r1324 : w_rg 1324 := w_rg_s (n := 1323) w_r1323 w_g1323
set_option maxRecDepth 100000 in
theorem w_g1324 : w_g (nat_lit 1324) = true := by decide +kernel
theorem w_r1325 : w_rg 1325 := w_rg_s (n := 1324) w_r1324 w_g1324
set_option maxRecDepth 100000 in
theorem w_g1325 : w_g (nat_lit 1325) = true := by decide +kernel
theorem w_r1326 : w_rg 1326 := w_rg_s (n := 1325) w_r1325 w_g1325
set_option maxRecDepth 100000 in
theorem w_g1326 : w_g (nat_lit 1326) = true := by decide +kernel
theorem w_r1327 : w_rg 1327 := w_rg_s (n := 1326) w_r1326 w_g1326
set_option maxRecDepth 100000 in
theorem w_g1327 : w_g (nat_lit 1327) = true := by decide +kernel
theorem w_r1328 : w_rg 1328 := w_rg_s (n := 1327) w_r1327 w_g1327
set_option maxRecDepth 100000 in
theorem w_g1328 : w_g (nat_lit 1328) = true := by decide +kernel
theorem w_r1329 : w_rg 1329 := w_rg_s (n := 1328) w_r1328 w_g1328
set_option maxRecDepth 100000 in
theorem w_g1329 : w_g (nat_lit 1329) = true := by decide +kernel
theorem w_r1330 : w_rg 1330 := w_rg_s (n := 1329) w_r1329 w_g1329
set_option maxRecDepth 100000 in
theorem w_g1330 : w_g (nat_lit 1330) = true := by decide +kernel
theorem w_r1331 : w_rg 1331 := w_rg_s (n := 1330) w_r1330 w_g1330
set_option maxRecDepth 100000 in
theorem w_g1331 : w_g (nat_lit 1331) = true := by decide +kernel
theorem w_r1332 : w_rg 1332 := w_rg_s (n := 1331) w_r1331 w_g1331
set_option maxRecDepth 100000 in
theorem w_g1332 : w_g (nat_lit 1332) = true := by decide +kernel
theorem w_r1333 : w_rg 1333 := w_rg_s (n := 1332) w_r1332 w_g1332
set_option maxRecDepth 100000 in
theorem w_g1333 : w_g (nat_lit 1333) = true := by decide +kernel
theorem w_r1334 : w_rg 1334 := w_rg_s (n := 1333) w_r1333 w_g1333
set_option maxRecDepth 100000 in
theorem w_g1334 : w_g (nat_lit 1334) = true := by decide +kernel
theorem w_r1335 : w_rg 1335 := w_rg_s (n := 1334) w_r1334 w_g1334
set_option maxRecDepth 100000 in
theorem w_g1335 : w_g (nat_lit 1335) = true := by decide +kernel
theorem w_r1336 : w_rg 1336 := w_rg_s (n := 1335) w_r1335 w_g1335
set_option maxRecDepth 100000 in
theorem w_g1336 : w_g (nat_lit 1336) = true := by decide +kernel
theorem w_r1337 : w_rg 1337 := w_rg_s (n := 1336) w_r1336 w_g1336
set_option maxRecDepth 100000 in
theorem w_g1337 : w_g (nat_lit 1337) = true := by decide +kernel
theorem w_r1338 : w_rg 1338 := w_rg_s (n := 1337) w_r1337 w_g1337
set_option maxRecDepth 100000 in
theorem w_g1338 : w_g (nat_lit 1338) = true := by decide +kernel
theorem w_r1339 : w_rg 1339 := w_rg_s (n := 1338) w_r1338 w_g1338
set_option maxRecDepth 100000 in
theorem w_g1339 : w_g (nat_lit 1339) = true := by decide +kernel
theorem w_r1340 : w_rg 1340 := w_rg_s (n := 1339) w_r1339 w_g1339
set_option maxRecDepth 100000 in
theorem w_g1340 : w_g (nat_lit 1340) = true := by decide +kernel
theorem w_r1341 : w_rg 1341 := w_rg_s (n := 1340) w_r1340 w_g1340
set_option maxRecDepth 100000 in
theorem w_g1341 : w_g (nat_lit 1341) = true := by decide +kernel
theorem w_r1342 : w_rg 1342 := w_rg_s (n := 1341) w_r1341 w_g1341
set_option maxRecDepth 100000 in
theorem w_g1342 : w_g (nat_lit 1342) = true := by decide +kernel
theorem w_r1343 : w_rg 1343 := w_rg_s (n := 1342) w_r1342 w_g1342
set_option maxRecDepth 100000 in
theorem w_g1343 : w_g (nat_lit 1343) = true := by decide +kernel
theorem w_r1344 : w_rg 1344 := w_rg_s (n := 1343) w_r1343 w_g1343
set_option maxRecDepth 100000 in
theorem w_g1344 : w_g (nat_lit 1344) = true := by decide +kernel
theorem w_r1345 : w_rg 1345 := w_rg_s (n := 1344) w_r1344 w_g1344
set_option maxRecDepth 100000 in
theorem w_g1345 : w_g (nat_lit 1345) = true := by decide +kernel
theorem w_r1346 : w_rg 1346 := w_rg_s (n := 1345) w_r1345 w_g1345
set_option maxRecDepth 100000 in
theorem w_g1346 : w_g (nat_lit 1346) = true := by decide +kernel
theorem w_r1347 : w_rg 1347 := w_rg_s (n := 1346) w_r1346 w_g1346
set_option maxRecDepth 100000 in
theorem w_g1347 : w_g (nat_lit 1347) = true := by decide +kernel
theorem w_r1348 : w_rg 1348 := w_rg_s (n := 1347) w_r1347 w_g1347
set_option maxRecDepth 100000 in
theorem w_g1348 : w_g (nat_lit 1348) = true := by decide +kernel
theorem w_r1349 : w_rg 1349 := w_rg_s (n := 1348) w_r1348 w_g1348
set_option maxRecDepth 100000 in
theorem w_g1349 : w_g (nat_lit 1349) = true := by decide +kernel
theorem w_r1350 : w_rg 1350 := w_rg_s (n := 1349) w_r1349 w_g1349
set_option maxRecDepth 100000 in
theorem w_g1350 : w_g (nat_lit 1350) = true := by decide +kernel
theorem w_r1351 : w_rg 1351 := w_rg_s (n := 1350) w_r1350 w_g1350
set_option maxRecDepth 100000 in
theorem w_g1351 : w_g (nat_lit 1351) = true := by decide +kernel
theorem w_r1352 : w_rg 1352 := w_rg_s (n := 1351) w_r1351 w_g1351
set_option maxRecDepth 100000 in
theorem w_g1352 : w_g (nat_lit 1352) = true := by decide +kernel
theorem w_r1353 : w_rg 1353 := w_rg_s (n := 1352) w_r1352 w_g1352
set_option maxRecDepth 100000 in
theorem w_g1353 : w_g (nat_lit 1353) = true := by decide +kernel
theorem w_r1354 : w_rg 1354 := w_rg_s (n := 1353) w_r1353 w_g1353
set_option maxRecDepth 100000 in
theorem w_g1354 : w_g (nat_lit 1354) = true := by decide +kernel
theorem w_r1355 : w_rg 1355 := w_rg_s (n := 1354) w_r1354 w_g1354
set_option maxRecDepth 100000 in
theorem w_g1355 : w_g (nat_lit 1355) = true := by decide +kernel
theorem w_r1356 : w_rg 1356 := w_rg_s (n := 1355) w_r1355 w_g1355
set_option maxRecDepth 100000 in
theorem w_g1356 : w_g (nat_lit 1356) = true := by decide +kernel
theorem w_r1357 : w_rg 1357 := w_rg_s (n := 1356) w_r1356 w_g1356
set_option maxRecDepth 100000 in
theorem w_g1357 : w_g (nat_lit 1357) = true := by decide +kernel
theorem w_r1358 : w_rg 1358 := w_rg_s (n := 1357) w_r1357 w_g1357
set_option maxRecDepth 100000 in
theorem w_g1358 : w_g (nat_lit 1358) = true := by decide +kernel
theorem w_r1359 : w_rg 1359 := w_rg_s (n := 1358) w_r1358 w_g1358
set_option maxRecDepth 100000 in
theorem w_g1359 : w_g (nat_lit 1359) = true := by decide +kernel
theorem w_r1360 : w_rg 1360 := w_rg_s (n := 1359) w_r1359 w_g1359
set_option maxRecDepth 100000 in
theorem w_g1360 : w_g (nat_lit 1360) = true := by decide +kernel
theorem w_r1361 : w_rg 1361 := w_rg_s (n := 1360) w_r1360 w_g1360
set_option maxRecDepth 100000 in
theorem w_g1361 : w_g (nat_lit 1361) = true := by decide +kernel
theorem w_r1362 : w_rg 1362 := w_rg_s (n := 1361) w_r1361 w_g1361
set_option maxRecDepth 100000 in
theorem w_g1362 : w_g (nat_lit 1362) = true := by decide +kernel
theorem w_r1363 : w_rg 1363 := w_rg_s (n := 1362) w_r1362 w_g1362
set_option maxRecDepth 100000 in
theorem w_g1363 : w_g (nat_lit 1363) = true := by decide +kernel
theorem w_r1364 : w_rg 1364 := w_rg_s (n := 1363) w_r1363 w_g1363
set_option maxRecDepth 100000 in
theorem w_g1364 : w_g (nat_lit 1364) = true := by decide +kernel
theorem w_r1365 : w_rg 1365 := w_rg_s (n := 1364) w_r1364 w_g1364
set_option maxRecDepth 100000 in
theorem w_g1365 : w_g (nat_lit 1365) = true := by decide +kernel
theorem w_r1366 : w_rg 1366 := w_rg_s (n := 1365) w_r1365 w_g1365
set_option maxRecDepth 100000 in
theorem w_g1366 : w_g (nat_lit 1366) = true := by decide +kernel
theorem w_r1367 : w_rg 1367 := w_rg_s (n := 1366) w_r1366 w_g1366
set_option maxRecDepth 100000 in
theorem w_g1367 : w_g (nat_lit 1367) = true := by decide +kernel
theorem w_r1368 : w_rg 1368 := w_rg_s (n := 1367) w_r1367 w_g1367
set_option maxRecDepth 100000 in
theorem w_g1368 : w_g (nat_lit 1368) = true := by decide +kernel
theorem w_r1369 : w_rg 1369 := w_rg_s (n := 1368) w_r1368 w_g1368
set_option maxRecDepth 100000 in
theorem w_g1369 : w_g (nat_lit 1369) = true := by decide +kernel
theorem w_r1370 : w_rg 1370 := w_rg_s (n := 1369) w_r1369 w_g1369
set_option maxRecDepth 100000 in
theorem w_g1370 : w_g (nat_lit 1370) = true := by decide +kernel
theorem w_r1371 : w_rg 1371 := w_rg_s (n := 1370) w_r1370 w_g1370
set_option maxRecDepth 100000 in
theorem w_g1371 : w_g (nat_lit 1371) = true := by decide +kernel
theorem w_r1372 : w_rg 1372 := w_rg_s (n := 1371) w_r1371 w_g1371
set_option maxRecDepth 100000 in
theorem w_g1372 : w_g (nat_lit 1372) = true := by decide +kernel
theorem w_r1373 : w_rg 1373 := w_rg_s (n := 1372) w_r1372 w_g1372
set_option maxRecDepth 100000 in
theorem w_g1373 : w_g (nat_lit 1373) = true := by decide +kernel
theorem w_r1374 : w_rg 1374 := w_rg_s (n := 1373) w_r1373 w_g1373
set_option maxRecDepth 100000 in
theorem w_g1374 : w_g (nat_lit 1374) = true := by decide +kernel
theorem w_r1375 : w_rg 1375 := w_rg_s (n := 1374) w_r1374 w_g1374
set_option maxRecDepth 100000 in
theorem w_g1375 : w_g (nat_lit 1375) = true := by decide +kernel
theorem w_r1376 : w_rg 1376 := w_rg_s (n := 1375) w_r1375 w_g1375
set_option maxRecDepth 100000 in
theorem w_g1376 : w_g (nat_lit 1376) = true := by decide +kernel
theorem w_r1377 : w_rg 1377 := w_rg_s (n := 1376) w_r1376 w_g1376
set_option maxRecDepth 100000 in
theorem w_g1377 : w_g (nat_lit 1377) = true := by decide +kernel
theorem w_r1378 : w_rg 1378 := w_rg_s (n := 1377) w_r1377 w_g1377
set_option maxRecDepth 100000 in
theorem w_g1378 : w_g (nat_lit 1378) = true := by decide +kernel
theorem w_r1379 : w_rg 1379 := w_rg_s (n := 1378) w_r1378 w_g1378
set_option maxRecDepth 100000 in
theorem w_g1379 : w_g (nat_lit 1379) = true := by decide +kernel
theorem w_r1380 : w_rg 1380 := w_rg_s (n := 1379) w_r1379 w_g1379
set_option maxRecDepth 100000 in
theorem w_g1380 : w_g (nat_lit 1380) = true := by decide +kernel
theorem w_r1381 : w_rg 1381 := w_rg_s (n := 1380) w_r1380 w_g1380
set_option maxRecDepth 100000 in
theorem w_g1381 : w_g (nat_lit 1381) = true := by decide +kernel
theorem w_r1382 : w_rg 1382 := w_rg_s (n := 1381) w_r1381 w_g1381
set_option maxRecDepth 100000 in
theorem w_g1382 : w_g (nat_lit 1382) = true := by decide +kernel
theorem w_r1383 : w_rg 1383 := w_rg_s (n := 1382) w_r1382 w_g1382
set_option maxRecDepth 100000 in
theorem w_g1383 : w_g (nat_lit 1383) = true := by decide +kernel
theorem w_r1384 : w_rg 1384 := w_rg_s (n := 1383) w_r1383 w_g1383
set_option maxRecDepth 100000 in
theorem w_g1384 : w_g (nat_lit 1384) = true := by decide +kernel
theorem w_r1385 : w_rg 1385 := w_rg_s (n := 1384) w_r1384 w_g1384
set_option maxRecDepth 100000 in
theorem w_g1385 : w_g (nat_lit 1385) = true := by decide +kernel
theorem w_r1386 : w_rg 1386 := w_rg_s (n := 1385) w_r1385 w_g1385
set_option maxRecDepth 100000 in
theorem w_g1386 : w_g (nat_lit 1386) = true := by decide +kernel
theorem w_r1387 : w_rg 1387 := w_rg_s (n := 1386) w_r1386 w_g1386
set_option maxRecDepth 100000 in
theorem w_g1387 : w_g (nat_lit 1387) = true := by decide +kernel
theorem w_r1388 : w_rg 1388 := w_rg_s (n := 1387) w_r1387 w_g1387
set_option maxRecDepth 100000 in
theorem w_g1388 : w_g (nat_lit 1388) = true := by decide +kernel
theorem w_r1389 : w_rg 1389 := w_rg_s (n := 1388) w_r1388 w_g1388
set_option maxRecDepth 100000 in
theorem w_g1389 : w_g (nat_lit 1389) = true := by decide +kernel
theorem w_r1390 : w_rg 1390 := w_rg_s (n := 1389) w_r1389 w_g1389
set_option maxRecDepth 100000 in
theorem w_g1390 : w_g (nat_lit 1390) = true := by decide +kernel
theorem w_r1391 : w_rg 1391 := w_rg_s (n := 1390) w_r1390 w_g1390
set_option maxRecDepth 100000 in
theorem w_g1391 : w_g (nat_lit 1391) = true := by decide +kernel
theorem w_r1392 : w_rg 1392 := w_rg_s (n := 1391) w_r1391 w_g1391
set_option maxRecDepth 100000 in
theorem w_g1392 : w_g (nat_lit 1392) = true := by decide +kernel
theorem w_r1393 : w_rg 1393 := w_rg_s (n := 1392) w_r1392 w_g1392
