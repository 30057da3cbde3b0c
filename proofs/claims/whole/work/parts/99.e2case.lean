/-! the law's cases -/
/-- worst -/
theorem lc_26 {K : LK} (C : LCx K) {σ : St} (hR : Rel σ) {i : Nat} (hi : i + 6 ≤ K.L) (kk : ∀ σ', Rel σ' → LW K σ' 1838 (lvL K i) []) : LW K σ 1112 (lvL K i) [] := by
  obtain ⟨Rz1, hM1, h1⟩ := p_worst hR (K.xs (i + 1))
  refine lw_aload C 2 dL_law_1112 rfl ?_
  refine lw_arg C 1 (by decide) (by omega) dL_law_1113 dL_law_1114 dL_law_1115 dL_law_1116 dL_law_1117 ?_
  refine lw_call C (b := 0) (ci := 8) [K.xs (i + 1)] (rest := []) hM1 lk_L_124 rfl rfl (by decide) rfl (by show (0 : Nat) ≤ 8; decide) rfl dL_law_1118 rfl (fun v σ1 hq => ?_)
  obtain ⟨⟨x, rfl⟩, Rz2, hM2, h2⟩ := h1 v σ1 hq
  refine lw_aload C 3 dL_law_1121 rfl ?_
  refine lw_arg C 1 (by decide) (by omega) dL_law_1122 dL_law_1123 dL_law_1124 dL_law_1125 dL_law_1126 ?_
  refine lw_call C (b := 73) (ci := 9) [K.xs (i + 1)] (rest := [.int x]) hM2 lk_L_127 rfl rfl (by decide) rfl (by show (1 : Nat) ≤ 8; decide) rfl dL_law_1127 rfl (fun w σ2 hq2 => ?_)
  obtain ⟨rfl, hR2⟩ := h2 w σ2 hq2
  exact lw_eqI C 1838 dL_law_1130 (by decide) (kk σ2 hR2)
/-- spoon -/
theorem lc_27 {K : LK} (C : LCx K) {σ : St} (hR : Rel σ) {i : Nat} (hi : i + 6 ≤ K.L) (kk : ∀ σ', Rel σ' → LW K σ' 1838 (lvL K i) []) : LW K σ 1135 (lvL K i) [] := by
  obtain ⟨Rz1, hM1, h1⟩ := p_spoon hR (K.xs (i + 1))
  refine lw_aload C 2 dL_law_1135 rfl ?_
  refine lw_arg C 1 (by decide) (by omega) dL_law_1136 dL_law_1137 dL_law_1138 dL_law_1139 dL_law_1140 ?_
  refine lw_call C (b := 0) (ci := 8) [K.xs (i + 1)] (rest := []) hM1 lk_L_128 rfl rfl (by decide) rfl (by show (0 : Nat) ≤ 8; decide) rfl dL_law_1141 rfl (fun v σ1 hq => ?_)
  obtain ⟨⟨x, rfl⟩, Rz2, hM2, h2⟩ := h1 v σ1 hq
  refine lw_aload C 3 dL_law_1144 rfl ?_
  refine lw_arg C 1 (by decide) (by omega) dL_law_1145 dL_law_1146 dL_law_1147 dL_law_1148 dL_law_1149 ?_
  refine lw_call C (b := 73) (ci := 9) [K.xs (i + 1)] (rest := [.int x]) hM2 lk_L_131 rfl rfl (by decide) rfl (by show (1 : Nat) ≤ 8; decide) rfl dL_law_1150 rfl (fun w σ2 hq2 => ?_)
  obtain ⟨rfl, hR2⟩ := h2 w σ2 hq2
  exact lw_eqI C 1838 dL_law_1153 (by decide) (kk σ2 hR2)
/-- armFor -/
theorem lc_28 {K : LK} (C : LCx K) {σ : St} (hR : Rel σ) {i : Nat} (hi : i + 6 ≤ K.L) (kk : ∀ σ', Rel σ' → LW K σ' 1838 (lvL K i) []) : LW K σ 1158 (lvL K i) [] := by
  obtain ⟨Rz1, hM1, h1⟩ := p_armFor hR (K.xs (i + 1)) (K.xs (i + 2))
  refine lw_aload C 2 dL_law_1158 rfl ?_
  refine lw_arg C 1 (by decide) (by omega) dL_law_1159 dL_law_1160 dL_law_1161 dL_law_1162 dL_law_1163 ?_
  refine lw_arg C 2 (by decide) (by omega) dL_law_1164 dL_law_1165 dL_law_1166 dL_law_1167 dL_law_1168 ?_
  refine lw_call C (b := 0) (ci := 8) [K.xs (i + 1), K.xs (i + 2)] (rest := []) hM1 lk_L_132 rfl rfl (by decide) rfl (by show (0 : Nat) ≤ 8; decide) rfl dL_law_1169 rfl (fun v σ1 hq => ?_)
  obtain ⟨⟨x, rfl⟩, Rz2, hM2, h2⟩ := h1 v σ1 hq
  refine lw_aload C 3 dL_law_1172 rfl ?_
  refine lw_arg C 1 (by decide) (by omega) dL_law_1173 dL_law_1174 dL_law_1175 dL_law_1176 dL_law_1177 ?_
  refine lw_arg C 2 (by decide) (by omega) dL_law_1178 dL_law_1179 dL_law_1180 dL_law_1181 dL_law_1182 ?_
  refine lw_call C (b := 73) (ci := 9) [K.xs (i + 1), K.xs (i + 2)] (rest := [.int x]) hM2 lk_L_135 rfl rfl (by decide) rfl (by show (1 : Nat) ≤ 8; decide) rfl dL_law_1183 rfl (fun w σ2 hq2 => ?_)
  obtain ⟨rfl, hR2⟩ := h2 w σ2 hq2
  exact lw_eqI C 1838 dL_law_1186 (by decide) (kk σ2 hR2)
/-- later -/
theorem lc_29 {K : LK} (C : LCx K) {σ : St} (hR : Rel σ) {i : Nat} (hi : i + 6 ≤ K.L) (kk : ∀ σ', Rel σ' → LW K σ' 1838 (lvL K i) []) : LW K σ 1191 (lvL K i) [] := by
  obtain ⟨Rz1, hM1, h1⟩ := p_later hR (K.xs (i + 1))
  refine lw_aload C 2 dL_law_1191 rfl ?_
  refine lw_arg C 1 (by decide) (by omega) dL_law_1192 dL_law_1193 dL_law_1194 dL_law_1195 dL_law_1196 ?_
  refine lw_call C (b := 0) (ci := 8) [K.xs (i + 1)] (rest := []) hM1 lk_L_136 rfl rfl (by decide) rfl (by show (0 : Nat) ≤ 8; decide) rfl dL_law_1197 rfl (fun v σ1 hq => ?_)
  obtain ⟨⟨x, rfl⟩, Rz2, hM2, h2⟩ := h1 v σ1 hq
  refine lw_aload C 3 dL_law_1200 rfl ?_
  refine lw_arg C 1 (by decide) (by omega) dL_law_1201 dL_law_1202 dL_law_1203 dL_law_1204 dL_law_1205 ?_
  refine lw_call C (b := 73) (ci := 9) [K.xs (i + 1)] (rest := [.int x]) hM2 lk_L_139 rfl rfl (by decide) rfl (by show (1 : Nat) ≤ 8; decide) rfl dL_law_1206 rfl (fun w σ2 hq2 => ?_)
  obtain ⟨rfl, hR2⟩ := h2 w σ2 hq2
  exact lw_eqI C 1838 dL_law_1209 (by decide) (kk σ2 hR2)
/-- team -/
theorem lc_30 {K : LK} (C : LCx K) {σ : St} (hR : Rel σ) {i : Nat} (hi : i + 6 ≤ K.L) (kk : ∀ σ', Rel σ' → LW K σ' 1838 (lvL K i) []) : LW K σ 1214 (lvL K i) [] := by
  obtain ⟨Rz1, hM1, h1⟩ := p_team hR (K.xs (i + 1))
  refine lw_aload C 2 dL_law_1214 rfl ?_
  refine lw_arg C 1 (by decide) (by omega) dL_law_1215 dL_law_1216 dL_law_1217 dL_law_1218 dL_law_1219 ?_
  refine lw_call C (b := 0) (ci := 8) [K.xs (i + 1)] (rest := []) hM1 lk_L_140 rfl rfl (by decide) rfl (by show (0 : Nat) ≤ 8; decide) rfl dL_law_1220 rfl (fun v σ1 hq => ?_)
  obtain ⟨⟨x, rfl⟩, Rz2, hM2, h2⟩ := h1 v σ1 hq
  refine lw_aload C 3 dL_law_1223 rfl ?_
  refine lw_arg C 1 (by decide) (by omega) dL_law_1224 dL_law_1225 dL_law_1226 dL_law_1227 dL_law_1228 ?_
  refine lw_call C (b := 73) (ci := 9) [K.xs (i + 1)] (rest := [.int x]) hM2 lk_L_143 rfl rfl (by decide) rfl (by show (1 : Nat) ≤ 8; decide) rfl dL_law_1229 rfl (fun w σ2 hq2 => ?_)
  obtain ⟨rfl, hR2⟩ := h2 w σ2 hq2
  exact lw_eqI C 1838 dL_law_1232 (by decide) (kk σ2 hR2)
/-- leg -/
theorem lc_31 {K : LK} (C : LCx K) {σ : St} (hR : Rel σ) {i : Nat} (hi : i + 6 ≤ K.L) (kk : ∀ σ', Rel σ' → LW K σ' 1838 (lvL K i) []) : LW K σ 1237 (lvL K i) [] := by
  obtain ⟨Rz1, hM1, h1⟩ := p_leg hR (K.xs (i + 1)) (K.xs (i + 2))
  refine lw_aload C 2 dL_law_1237 rfl ?_
  refine lw_arg C 1 (by decide) (by omega) dL_law_1238 dL_law_1239 dL_law_1240 dL_law_1241 dL_law_1242 ?_
  refine lw_arg C 2 (by decide) (by omega) dL_law_1243 dL_law_1244 dL_law_1245 dL_law_1246 dL_law_1247 ?_
  refine lw_call C (b := 0) (ci := 8) [K.xs (i + 1), K.xs (i + 2)] (rest := []) hM1 lk_L_144 rfl rfl (by decide) rfl (by show (0 : Nat) ≤ 8; decide) rfl dL_law_1248 rfl (fun v σ1 hq => ?_)
  obtain ⟨⟨x, rfl⟩, Rz2, hM2, h2⟩ := h1 v σ1 hq
  refine lw_aload C 3 dL_law_1251 rfl ?_
  refine lw_arg C 1 (by decide) (by omega) dL_law_1252 dL_law_1253 dL_law_1254 dL_law_1255 dL_law_1256 ?_
  refine lw_arg C 2 (by decide) (by omega) dL_law_1257 dL_law_1258 dL_law_1259 dL_law_1260 dL_law_1261 ?_
  refine lw_call C (b := 73) (ci := 9) [K.xs (i + 1), K.xs (i + 2)] (rest := [.int x]) hM2 lk_L_147 rfl rfl (by decide) rfl (by show (1 : Nat) ≤ 8; decide) rfl dL_law_1262 rfl (fun w σ2 hq2 => ?_)
  obtain ⟨rfl, hR2⟩ := h2 w σ2 hq2
  exact lw_eqI C 1838 dL_law_1265 (by decide) (kk σ2 hR2)
/-- gum -/
theorem lc_32 {K : LK} (C : LCx K) {σ : St} (hR : Rel σ) {i : Nat} (hi : i + 6 ≤ K.L) (kk : ∀ σ', Rel σ' → LW K σ' 1838 (lvL K i) []) : LW K σ 1270 (lvL K i) [] := by
  obtain ⟨Rz1, hM1, h1⟩ := p_gum hR (K.xs (i + 1)) (K.xs (i + 2)) (K.xs (i + 3)) (K.xs (i + 4)) (K.xs (i + 5))
  refine lw_aload C 2 dL_law_1270 rfl ?_
  refine lw_arg C 1 (by decide) (by omega) dL_law_1271 dL_law_1272 dL_law_1273 dL_law_1274 dL_law_1275 ?_
  refine lw_arg C 2 (by decide) (by omega) dL_law_1276 dL_law_1277 dL_law_1278 dL_law_1279 dL_law_1280 ?_
  refine lw_arg C 3 (by decide) (by omega) dL_law_1281 dL_law_1282 dL_law_1283 dL_law_1284 dL_law_1285 ?_
  refine lw_arg C 4 (by decide) (by omega) dL_law_1286 dL_law_1287 dL_law_1288 dL_law_1289 dL_law_1290 ?_
  refine lw_arg C 5 (by decide) (by omega) dL_law_1291 dL_law_1292 dL_law_1293 dL_law_1294 dL_law_1295 ?_
  refine lw_call C (b := 0) (ci := 8) [K.xs (i + 1), K.xs (i + 2), K.xs (i + 3), K.xs (i + 4), K.xs (i + 5)] (rest := []) hM1 lk_L_148 rfl rfl (by decide) rfl (by show (0 : Nat) ≤ 8; decide) rfl dL_law_1296 rfl (fun v σ1 hq => ?_)
  obtain ⟨⟨x, rfl⟩, Rz2, hM2, h2⟩ := h1 v σ1 hq
  refine lw_aload C 3 dL_law_1299 rfl ?_
  refine lw_arg C 1 (by decide) (by omega) dL_law_1300 dL_law_1301 dL_law_1302 dL_law_1303 dL_law_1304 ?_
  refine lw_arg C 2 (by decide) (by omega) dL_law_1305 dL_law_1306 dL_law_1307 dL_law_1308 dL_law_1309 ?_
  refine lw_arg C 3 (by decide) (by omega) dL_law_1310 dL_law_1311 dL_law_1312 dL_law_1313 dL_law_1314 ?_
  refine lw_arg C 4 (by decide) (by omega) dL_law_1315 dL_law_1316 dL_law_1317 dL_law_1318 dL_law_1319 ?_
  refine lw_arg C 5 (by decide) (by omega) dL_law_1320 dL_law_1321 dL_law_1322 dL_law_1323 dL_law_1324 ?_
  refine lw_call C (b := 73) (ci := 9) [K.xs (i + 1), K.xs (i + 2), K.xs (i + 3), K.xs (i + 4), K.xs (i + 5)] (rest := [.long x]) hM2 lk_L_152 rfl rfl (by decide) rfl (by show (2 : Nat) ≤ 8; decide) rfl dL_law_1325 rfl (fun w σ2 hq2 => ?_)
  obtain ⟨rfl, hR2⟩ := h2 w σ2 hq2
  exact lw_eqL C 1838 dL_law_1328 dL_law_1329 (by decide) (kk σ2 hR2)
/-- suspect -/
theorem lc_33 {K : LK} (C : LCx K) {σ : St} (hR : Rel σ) {i : Nat} (hi : i + 6 ≤ K.L) (kk : ∀ σ', Rel σ' → LW K σ' 1838 (lvL K i) []) : LW K σ 1334 (lvL K i) [] := by
  obtain ⟨Rz1, hM1, h1⟩ := p_suspect hR (K.xs (i + 1)) (K.xs (i + 2)) (K.xs (i + 3))
  refine lw_aload C 2 dL_law_1334 rfl ?_
  refine lw_arg C 1 (by decide) (by omega) dL_law_1335 dL_law_1336 dL_law_1337 dL_law_1338 dL_law_1339 ?_
  refine lw_arg C 2 (by decide) (by omega) dL_law_1340 dL_law_1341 dL_law_1342 dL_law_1343 dL_law_1344 ?_
  refine lw_arg C 3 (by decide) (by omega) dL_law_1345 dL_law_1346 dL_law_1347 dL_law_1348 dL_law_1349 ?_
  refine lw_call C (b := 0) (ci := 8) [K.xs (i + 1), K.xs (i + 2), K.xs (i + 3)] (rest := []) hM1 lk_L_153 rfl rfl (by decide) rfl (by show (0 : Nat) ≤ 8; decide) rfl dL_law_1350 rfl (fun v σ1 hq => ?_)
  obtain ⟨⟨x, rfl⟩, Rz2, hM2, h2⟩ := h1 v σ1 hq
  refine lw_aload C 3 dL_law_1353 rfl ?_
  refine lw_arg C 1 (by decide) (by omega) dL_law_1354 dL_law_1355 dL_law_1356 dL_law_1357 dL_law_1358 ?_
  refine lw_arg C 2 (by decide) (by omega) dL_law_1359 dL_law_1360 dL_law_1361 dL_law_1362 dL_law_1363 ?_
  refine lw_arg C 3 (by decide) (by omega) dL_law_1364 dL_law_1365 dL_law_1366 dL_law_1367 dL_law_1368 ?_
  refine lw_call C (b := 73) (ci := 9) [K.xs (i + 1), K.xs (i + 2), K.xs (i + 3)] (rest := [.int x]) hM2 lk_L_156 rfl rfl (by decide) rfl (by show (1 : Nat) ≤ 8; decide) rfl dL_law_1369 rfl (fun w σ2 hq2 => ?_)
  obtain ⟨rfl, hR2⟩ := h2 w σ2 hq2
  exact lw_eqI C 1838 dL_law_1372 (by decide) (kk σ2 hR2)
/-- rain -/
theorem lc_34 {K : LK} (C : LCx K) {σ : St} (hR : Rel σ) {i : Nat} (hi : i + 6 ≤ K.L) (kk : ∀ σ', Rel σ' → LW K σ' 1838 (lvL K i) []) : LW K σ 1377 (lvL K i) [] := by
  obtain ⟨Rz1, hM1, h1⟩ := p_rain hR (K.xs (i + 1))
  refine lw_aload C 2 dL_law_1377 rfl ?_
  refine lw_arg C 1 (by decide) (by omega) dL_law_1378 dL_law_1379 dL_law_1380 dL_law_1381 dL_law_1382 ?_
  refine lw_call C (b := 0) (ci := 8) [K.xs (i + 1)] (rest := []) hM1 lk_L_157 rfl rfl (by decide) rfl (by show (0 : Nat) ≤ 8; decide) rfl dL_law_1383 rfl (fun v σ1 hq => ?_)
  obtain ⟨⟨x, rfl⟩, Rz2, hM2, h2⟩ := h1 v σ1 hq
  refine lw_aload C 3 dL_law_1386 rfl ?_
  refine lw_arg C 1 (by decide) (by omega) dL_law_1387 dL_law_1388 dL_law_1389 dL_law_1390 dL_law_1391 ?_
  refine lw_call C (b := 73) (ci := 9) [K.xs (i + 1)] (rest := [.int x]) hM2 lk_L_160 rfl rfl (by decide) rfl (by show (1 : Nat) ≤ 8; decide) rfl dL_law_1392 rfl (fun w σ2 hq2 => ?_)
  obtain ⟨rfl, hR2⟩ := h2 w σ2 hq2
  exact lw_eqI C 1838 dL_law_1395 (by decide) (kk σ2 hR2)
/-- seed -/
theorem lc_35 {K : LK} (C : LCx K) {σ : St} (hR : Rel σ) {i : Nat} (hi : i + 6 ≤ K.L) (kk : ∀ σ', Rel σ' → LW K σ' 1838 (lvL K i) []) : LW K σ 1400 (lvL K i) [] := by
  obtain ⟨Rz1, hM1, h1⟩ := p_seed hR (K.xs (i + 1))
  refine lw_aload C 2 dL_law_1400 rfl ?_
  refine lw_arg C 1 (by decide) (by omega) dL_law_1401 dL_law_1402 dL_law_1403 dL_law_1404 dL_law_1405 ?_
  refine lw_call C (b := 0) (ci := 8) [K.xs (i + 1)] (rest := []) hM1 lk_L_161 rfl rfl (by decide) rfl (by show (0 : Nat) ≤ 8; decide) rfl dL_law_1406 rfl (fun v σ1 hq => ?_)
  obtain ⟨⟨x, rfl⟩, Rz2, hM2, h2⟩ := h1 v σ1 hq
  refine lw_aload C 3 dL_law_1409 rfl ?_
  refine lw_arg C 1 (by decide) (by omega) dL_law_1410 dL_law_1411 dL_law_1412 dL_law_1413 dL_law_1414 ?_
  refine lw_call C (b := 73) (ci := 9) [K.xs (i + 1)] (rest := [.int x]) hM2 lk_L_164 rfl rfl (by decide) rfl (by show (1 : Nat) ≤ 8; decide) rfl dL_law_1415 rfl (fun w σ2 hq2 => ?_)
  obtain ⟨rfl, hR2⟩ := h2 w σ2 hq2
  exact lw_eqI C 1838 dL_law_1418 (by decide) (kk σ2 hR2)
/-- feed -/
theorem lc_36 {K : LK} (C : LCx K) {σ : St} (hR : Rel σ) {i : Nat} (hi : i + 6 ≤ K.L) (kk : ∀ σ', Rel σ' → LW K σ' 1838 (lvL K i) []) : LW K σ 1423 (lvL K i) [] := by
  obtain ⟨Rz1, hM1, h1⟩ := p_feed hR (K.xs (i + 1)) (K.xs (i + 2))
  refine lw_aload C 2 dL_law_1423 rfl ?_
  refine lw_arg C 1 (by decide) (by omega) dL_law_1424 dL_law_1425 dL_law_1426 dL_law_1427 dL_law_1428 ?_
  refine lw_arg C 2 (by decide) (by omega) dL_law_1429 dL_law_1430 dL_law_1431 dL_law_1432 dL_law_1433 ?_
  refine lw_call C (b := 0) (ci := 8) [K.xs (i + 1), K.xs (i + 2)] (rest := []) hM1 lk_L_165 rfl rfl (by decide) rfl (by show (0 : Nat) ≤ 8; decide) rfl dL_law_1434 rfl (fun v σ1 hq => ?_)
  obtain ⟨⟨x, rfl⟩, Rz2, hM2, h2⟩ := h1 v σ1 hq
  refine lw_aload C 3 dL_law_1437 rfl ?_
  refine lw_arg C 1 (by decide) (by omega) dL_law_1438 dL_law_1439 dL_law_1440 dL_law_1441 dL_law_1442 ?_
  refine lw_arg C 2 (by decide) (by omega) dL_law_1443 dL_law_1444 dL_law_1445 dL_law_1446 dL_law_1447 ?_
  refine lw_call C (b := 73) (ci := 9) [K.xs (i + 1), K.xs (i + 2)] (rest := [.int x]) hM2 lk_L_168 rfl rfl (by decide) rfl (by show (1 : Nat) ≤ 8; decide) rfl dL_law_1448 rfl (fun w σ2 hq2 => ?_)
  obtain ⟨rfl, hR2⟩ := h2 w σ2 hq2
  exact lw_eqI C 1838 dL_law_1451 (by decide) (kk σ2 hR2)
/-- wipe -/
theorem lc_37 {K : LK} (C : LCx K) {σ : St} (hR : Rel σ) {i : Nat} (hi : i + 6 ≤ K.L) (kk : ∀ σ', Rel σ' → LW K σ' 1838 (lvL K i) []) : LW K σ 1456 (lvL K i) [] := by
  obtain ⟨Rz1, hM1, h1⟩ := p_wipe hR 
  refine lw_aload C 2 dL_law_1456 rfl ?_
  refine lw_call C (b := 0) (ci := 8) [] (rest := []) hM1 lk_L_169 rfl rfl (by decide) rfl (by show (0 : Nat) ≤ 8; decide) rfl dL_law_1457 rfl (fun v σ1 hq => ?_)
  obtain ⟨⟨x, rfl⟩, Rz2, hM2, h2⟩ := h1 v σ1 hq
  refine lw_aload C 3 dL_law_1460 rfl ?_
  refine lw_call C (b := 73) (ci := 9) [] (rest := [.int x]) hM2 lk_L_172 rfl rfl (by decide) rfl (by show (1 : Nat) ≤ 8; decide) rfl dL_law_1461 rfl (fun w σ2 hq2 => ?_)
  obtain ⟨rfl, hR2⟩ := h2 w σ2 hq2
  exact lw_eqI C 1838 dL_law_1464 (by decide) (kk σ2 hR2)
/-- text -/
theorem lc_38 {K : LK} (C : LCx K) {σ : St} (hR : Rel σ) {i : Nat} (hi : i + 6 ≤ K.L) (kk : ∀ σ', Rel σ' → LW K σ' 1838 (lvL K i) []) : LW K σ 1469 (lvL K i) [] := by
  obtain ⟨Rz1, hM1, h1⟩ := p_text hR 
  refine lw_aload C 2 dL_law_1469 rfl ?_
  refine lw_call C (b := 0) (ci := 8) [] (rest := []) hM1 lk_L_173 rfl rfl (by decide) rfl (by show (0 : Nat) ≤ 8; decide) rfl dL_law_1470 rfl (fun v σ1 hq => ?_)
  obtain ⟨⟨x, rfl⟩, Rz2, hM2, h2⟩ := h1 v σ1 hq
  refine lw_aload C 3 dL_law_1473 rfl ?_
  refine lw_call C (b := 73) (ci := 9) [] (rest := [.int x]) hM2 lk_L_176 rfl rfl (by decide) rfl (by show (1 : Nat) ≤ 8; decide) rfl dL_law_1474 rfl (fun w σ2 hq2 => ?_)
  obtain ⟨rfl, hR2⟩ := h2 w σ2 hq2
  exact lw_eqI C 1838 dL_law_1477 (by decide) (kk σ2 hR2)
