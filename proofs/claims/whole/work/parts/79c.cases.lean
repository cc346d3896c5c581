section LCC
variable {p : Program} {l : Launch} {e : Env} {s : State} {m : MethodId} {below : List Frame} {meth : Method} {c : Code} {b L : Nat} {xs : Nat → Int32} {ac am : Nat → Nat} {D : va_G} {yc ym : Nat → ClassId} {kc ks : Nat} {i : Nat} {σ τ : xH} {S : St}
set_option maxHeartbeats 2000000 in
theorem law_wipe (B : lB p s m meth c b L xs ac am D yc ym kc ks) (h6 : i + 6 ≤ L) (hS : cS σ S) (hM : mS τ S) (hO : sOk S) (hk : ∀ σ τ S, cS σ S → mS τ S → sOk S → Lw p l e s m below meth c b ac am D yc ym kc ks 1452 i [] σ τ) : Lw p l e s m below meth c b ac am D yc ym kc ks 1042 i [] σ τ := by
  refine r_x B dL_law_1042 ?_
  refine r_cC0 B dL_law_1043 okX4_wipe ml_L_121 rfl (Nat.le_of_ble_eq_true rfl) ⟨by decide, by decide⟩ (Nat.le_of_ble_eq_true rfl) (c_X4_wipe hS  (fun σ1 hS1 => ?_))
  refine r_m B dL_law_1046 ?_
  refine r_cM0 B dL_law_1047 okX5_wipe ml_L_124 rfl (Nat.le_of_ble_eq_true rfl) ⟨by decide, by decide⟩ (Nat.le_of_ble_eq_true rfl) (c_X5_wipe hM hO.1  (fun τ1 hM1 => ?_))
  refine r_eq (tgt := 1452) B dL_law_1050 rfl rfl ?_
  exact hk _ _ _ hS1 hM1 (k_wipe hO)
set_option maxHeartbeats 2000000 in
theorem law_town (B : lB p s m meth c b L xs ac am D yc ym kc ks) (h6 : i + 6 ≤ L) (hS : cS σ S) (hM : mS τ S) (hO : sOk S) (hk : ∀ σ τ S, cS σ S → mS τ S → sOk S → Lw p l e s m below meth c b ac am D yc ym kc ks 1452 i [] σ τ) : Lw p l e s m below meth c b ac am D yc ym kc ks 1055 i [] σ τ := by
  refine r_x B dL_law_1055 ?_
  refine r_cC0 B dL_law_1056 okX4_town ml_L_125 rfl (Nat.le_of_ble_eq_true rfl) ⟨by decide, by decide⟩ (Nat.le_of_ble_eq_true rfl) (c_X4_town hS  (fun σ1 hS1 => ?_))
  refine r_m B dL_law_1059 ?_
  refine r_cM0 B dL_law_1060 okX5_town ml_L_128 rfl (Nat.le_of_ble_eq_true rfl) ⟨by decide, by decide⟩ (Nat.le_of_ble_eq_true rfl) (c_X5_town hM hO.1  (fun τ1 hM1 => ?_))
  refine r_eq (tgt := 1452) B dL_law_1063 rfl rfl ?_
  exact hk _ _ _ hS1 hM1 (k_town hO)
set_option maxHeartbeats 2000000 in
theorem law_sheet (B : lB p s m meth c b L xs ac am D yc ym kc ks) (h6 : i + 6 ≤ L) (hS : cS σ S) (hM : mS τ S) (hO : sOk S) (hk : ∀ σ τ S, cS σ S → mS τ S → sOk S → Lw p l e s m below meth c b ac am D yc ym kc ks 1452 i [] σ τ) : Lw p l e s m below meth c b ac am D yc ym kc ks 1068 i [] σ τ := by
  refine r_x B dL_law_1068 ?_
  refine r_s (k := 1) B (by omega) dL_law_1069 dL_law_1070 dL_law_1071 dL_law_1072 dL_law_1073 ?_
  refine r_s (k := 2) B (by omega) dL_law_1074 dL_law_1075 dL_law_1076 dL_law_1077 dL_law_1078 ?_
  refine r_s (k := 3) B (by omega) dL_law_1079 dL_law_1080 dL_law_1081 dL_law_1082 dL_law_1083 ?_
  refine r_cC3 B dL_law_1084 okX4_sheet ml_L_129 rfl (Nat.le_of_ble_eq_true rfl) ⟨by decide, by decide⟩ (Nat.le_of_ble_eq_true rfl) (c_X4_sheet hS _ _ _ (fun σ1 hS1 => ?_))
  refine r_m B dL_law_1087 ?_
  refine r_s (k := 1) B (by omega) dL_law_1088 dL_law_1089 dL_law_1090 dL_law_1091 dL_law_1092 ?_
  refine r_s (k := 2) B (by omega) dL_law_1093 dL_law_1094 dL_law_1095 dL_law_1096 dL_law_1097 ?_
  refine r_s (k := 3) B (by omega) dL_law_1098 dL_law_1099 dL_law_1100 dL_law_1101 dL_law_1102 ?_
  refine r_cM3 B dL_law_1103 okX5_sheet ml_L_132 rfl (Nat.le_of_ble_eq_true rfl) ⟨by decide, by decide⟩ (Nat.le_of_ble_eq_true rfl) (c_X5_sheet hM hO.1 _ _ _ (fun τ1 hM1 => ?_))
  refine r_eq (tgt := 1452) B dL_law_1106 rfl rfl ?_
  exact hk _ _ _ hS1 hM1 (k_sheet hO _ _ _)
set_option maxHeartbeats 2000000 in
theorem law_write (B : lB p s m meth c b L xs ac am D yc ym kc ks) (h6 : i + 6 ≤ L) (hS : cS σ S) (hM : mS τ S) (hO : sOk S) (hk : ∀ σ τ S, cS σ S → mS τ S → sOk S → Lw p l e s m below meth c b ac am D yc ym kc ks 1452 i [] σ τ) : Lw p l e s m below meth c b ac am D yc ym kc ks 1111 i [] σ τ := by
  refine r_x B dL_law_1111 ?_
  refine r_s (k := 1) B (by omega) dL_law_1112 dL_law_1113 dL_law_1114 dL_law_1115 dL_law_1116 ?_
  refine r_s (k := 2) B (by omega) dL_law_1117 dL_law_1118 dL_law_1119 dL_law_1120 dL_law_1121 ?_
  refine r_s (k := 3) B (by omega) dL_law_1122 dL_law_1123 dL_law_1124 dL_law_1125 dL_law_1126 ?_
  refine r_i2l B dL_law_1127 ?_
  refine r_shl B dL_law_1128 dL_law_1130 ?_
  refine r_s (k := 4) B (by omega) dL_law_1131 dL_law_1132 dL_law_1133 dL_law_1134 dL_law_1135 ?_
  refine r_i2l B dL_law_1136 ?_
  refine r_and B dL_law_1137 dL_law_1140 dL_law_1141 ?_
  refine r_cC3l B dL_law_1142 okX4_write ml_L_135 rfl (Nat.le_of_ble_eq_true rfl) ⟨by decide, by decide⟩ (Nat.le_of_ble_eq_true rfl) (c_X4_write hS _ _ _ (fun σ1 hS1 => ?_))
  refine r_m B dL_law_1145 ?_
  refine r_s (k := 1) B (by omega) dL_law_1146 dL_law_1147 dL_law_1148 dL_law_1149 dL_law_1150 ?_
  refine r_s (k := 2) B (by omega) dL_law_1151 dL_law_1152 dL_law_1153 dL_law_1154 dL_law_1155 ?_
  refine r_s (k := 3) B (by omega) dL_law_1156 dL_law_1157 dL_law_1158 dL_law_1159 dL_law_1160 ?_
  refine r_i2l B dL_law_1161 ?_
  refine r_shl B dL_law_1162 dL_law_1164 ?_
  refine r_s (k := 4) B (by omega) dL_law_1165 dL_law_1166 dL_law_1167 dL_law_1168 dL_law_1169 ?_
  refine r_i2l B dL_law_1170 ?_
  refine r_and B dL_law_1171 dL_law_1174 dL_law_1175 ?_
  refine r_cM3l B dL_law_1176 okX5_write ml_L_139 rfl (Nat.le_of_ble_eq_true rfl) ⟨by decide, by decide⟩ (Nat.le_of_ble_eq_true rfl) (c_X5_write hM hO.1 _ _ _ (fun τ1 hM1 => ?_))
  refine r_leq (tgt := 1452) B dL_law_1179 dL_law_1180 rfl rfl ?_
  exact hk _ _ _ hS1 hM1 (k_write hO _ _ _)
set_option maxHeartbeats 2000000 in
theorem law_copy (B : lB p s m meth c b L xs ac am D yc ym kc ks) (h6 : i + 6 ≤ L) (hS : cS σ S) (hM : mS τ S) (hO : sOk S) (hk : ∀ σ τ S, cS σ S → mS τ S → sOk S → Lw p l e s m below meth c b ac am D yc ym kc ks 1452 i [] σ τ) : Lw p l e s m below meth c b ac am D yc ym kc ks 1185 i [] σ τ := by
  refine r_x B dL_law_1185 ?_
  refine r_s (k := 1) B (by omega) dL_law_1186 dL_law_1187 dL_law_1188 dL_law_1189 dL_law_1190 ?_
  refine r_s (k := 2) B (by omega) dL_law_1191 dL_law_1192 dL_law_1193 dL_law_1194 dL_law_1195 ?_
  refine r_s (k := 3) B (by omega) dL_law_1196 dL_law_1197 dL_law_1198 dL_law_1199 dL_law_1200 ?_
  refine r_s (k := 4) B (by omega) dL_law_1201 dL_law_1202 dL_law_1203 dL_law_1204 dL_law_1205 ?_
  refine r_s (k := 5) B (by omega) dL_law_1206 dL_law_1207 dL_law_1208 dL_law_1209 dL_law_1210 ?_
  refine r_cC5 B dL_law_1211 okX4_copy ml_L_140 rfl (Nat.le_of_ble_eq_true rfl) ⟨by decide, by decide⟩ (Nat.le_of_ble_eq_true rfl) (c_X4_copy hS _ _ _ _ _ (fun σ1 hS1 => ?_))
  refine r_m B dL_law_1214 ?_
  refine r_s (k := 1) B (by omega) dL_law_1215 dL_law_1216 dL_law_1217 dL_law_1218 dL_law_1219 ?_
  refine r_s (k := 2) B (by omega) dL_law_1220 dL_law_1221 dL_law_1222 dL_law_1223 dL_law_1224 ?_
  refine r_s (k := 3) B (by omega) dL_law_1225 dL_law_1226 dL_law_1227 dL_law_1228 dL_law_1229 ?_
  refine r_s (k := 4) B (by omega) dL_law_1230 dL_law_1231 dL_law_1232 dL_law_1233 dL_law_1234 ?_
  refine r_s (k := 5) B (by omega) dL_law_1235 dL_law_1236 dL_law_1237 dL_law_1238 dL_law_1239 ?_
  refine r_cM5 B dL_law_1240 okX5_copy ml_L_144 rfl (Nat.le_of_ble_eq_true rfl) ⟨by decide, by decide⟩ (Nat.le_of_ble_eq_true rfl) (c_X5_copy hM hO.1 _ _ _ _ _ (fun τ1 hM1 => ?_))
  refine r_eq (tgt := 1452) B dL_law_1243 rfl rfl ?_
  exact hk _ _ _ hS1 hM1 (k_copy hO _ _ _ _ _)
set_option maxHeartbeats 2000000 in
theorem law_lays (B : lB p s m meth c b L xs ac am D yc ym kc ks) (h6 : i + 6 ≤ L) (hS : cS σ S) (hM : mS τ S) (hO : sOk S) (hk : ∀ σ τ S, cS σ S → mS τ S → sOk S → Lw p l e s m below meth c b ac am D yc ym kc ks 1452 i [] σ τ) : Lw p l e s m below meth c b ac am D yc ym kc ks 1248 i [] σ τ := by
  refine r_x B dL_law_1248 ?_
  refine r_s (k := 1) B (by omega) dL_law_1249 dL_law_1250 dL_law_1251 dL_law_1252 dL_law_1253 ?_
  refine r_s (k := 2) B (by omega) dL_law_1254 dL_law_1255 dL_law_1256 dL_law_1257 dL_law_1258 ?_
  refine r_cC2 B dL_law_1259 okX4_lays ml_L_145 rfl (Nat.le_of_ble_eq_true rfl) ⟨by decide, by decide⟩ (Nat.le_of_ble_eq_true rfl) (c_X4_lays hS _ _ (fun σ1 hS1 => ?_))
  refine r_m B dL_law_1262 ?_
  refine r_s (k := 1) B (by omega) dL_law_1263 dL_law_1264 dL_law_1265 dL_law_1266 dL_law_1267 ?_
  refine r_s (k := 2) B (by omega) dL_law_1268 dL_law_1269 dL_law_1270 dL_law_1271 dL_law_1272 ?_
  refine r_cM2 B dL_law_1273 okX5_lays ml_L_148 rfl (Nat.le_of_ble_eq_true rfl) ⟨by decide, by decide⟩ (Nat.le_of_ble_eq_true rfl) (c_X5_lays hM hO.1 _ _ (fun τ1 hM1 => ?_))
  refine r_eq (tgt := 1452) B dL_law_1276 rfl rfl ?_
  exact hk _ _ _ hS1 hM1 (k_lays hO _ _)
set_option maxHeartbeats 2000000 in
theorem law_book (B : lB p s m meth c b L xs ac am D yc ym kc ks) (h6 : i + 6 ≤ L) (hS : cS σ S) (hM : mS τ S) (hO : sOk S) (hk : ∀ σ τ S, cS σ S → mS τ S → sOk S → Lw p l e s m below meth c b ac am D yc ym kc ks 1452 i [] σ τ) : Lw p l e s m below meth c b ac am D yc ym kc ks 1281 i [] σ τ := by
  refine r_x B dL_law_1281 ?_
  refine r_s (k := 1) B (by omega) dL_law_1282 dL_law_1283 dL_law_1284 dL_law_1285 dL_law_1286 ?_
  refine r_s (k := 2) B (by omega) dL_law_1287 dL_law_1288 dL_law_1289 dL_law_1290 dL_law_1291 ?_
  refine r_s (k := 3) B (by omega) dL_law_1292 dL_law_1293 dL_law_1294 dL_law_1295 dL_law_1296 ?_
  refine r_cC3 B dL_law_1297 okX4_book ml_L_149 rfl (Nat.le_of_ble_eq_true rfl) ⟨by decide, by decide⟩ (Nat.le_of_ble_eq_true rfl) (c_X4_book hS _ _ _ (fun σ1 hS1 => ?_))
  refine r_m B dL_law_1300 ?_
  refine r_s (k := 1) B (by omega) dL_law_1301 dL_law_1302 dL_law_1303 dL_law_1304 dL_law_1305 ?_
  refine r_s (k := 2) B (by omega) dL_law_1306 dL_law_1307 dL_law_1308 dL_law_1309 dL_law_1310 ?_
  refine r_s (k := 3) B (by omega) dL_law_1311 dL_law_1312 dL_law_1313 dL_law_1314 dL_law_1315 ?_
  refine r_cM3 B dL_law_1316 okX5_book ml_L_152 rfl (Nat.le_of_ble_eq_true rfl) ⟨by decide, by decide⟩ (Nat.le_of_ble_eq_true rfl) (c_X5_book hM hO.1 _ _ _ (fun τ1 hM1 => ?_))
  refine r_eq (tgt := 1452) B dL_law_1319 rfl rfl ?_
  exact hk _ _ _ hS1 hM1 (k_book hO _ _ _)
set_option maxHeartbeats 2000000 in
theorem law_read (B : lB p s m meth c b L xs ac am D yc ym kc ks) (h6 : i + 6 ≤ L) (hS : cS σ S) (hM : mS τ S) (hO : sOk S) (hk : ∀ σ τ S, cS σ S → mS τ S → sOk S → Lw p l e s m below meth c b ac am D yc ym kc ks 1452 i [] σ τ) : Lw p l e s m below meth c b ac am D yc ym kc ks 1324 i [] σ τ := by
  refine r_x B dL_law_1324 ?_
  refine r_s (k := 1) B (by omega) dL_law_1325 dL_law_1326 dL_law_1327 dL_law_1328 dL_law_1329 ?_
  refine r_s (k := 2) B (by omega) dL_law_1330 dL_law_1331 dL_law_1332 dL_law_1333 dL_law_1334 ?_
  refine r_s (k := 3) B (by omega) dL_law_1335 dL_law_1336 dL_law_1337 dL_law_1338 dL_law_1339 ?_
  refine r_cC3 B dL_law_1340 okX4_read ml_L_153 rfl (Nat.le_of_ble_eq_true rfl) ⟨by decide, by decide⟩ (Nat.le_of_ble_eq_true rfl) (c_X4_read hS _ _ _ (fun σ1 hS1 => ?_))
  refine r_m B dL_law_1343 ?_
  refine r_s (k := 1) B (by omega) dL_law_1344 dL_law_1345 dL_law_1346 dL_law_1347 dL_law_1348 ?_
  refine r_s (k := 2) B (by omega) dL_law_1349 dL_law_1350 dL_law_1351 dL_law_1352 dL_law_1353 ?_
  refine r_s (k := 3) B (by omega) dL_law_1354 dL_law_1355 dL_law_1356 dL_law_1357 dL_law_1358 ?_
  refine r_cM3 B dL_law_1359 okX5_read ml_L_156 rfl (Nat.le_of_ble_eq_true rfl) ⟨by decide, by decide⟩ (Nat.le_of_ble_eq_true rfl) (c_X5_read hM hO.1 _ _ _ (fun τ1 hM1 => ?_))
  refine r_eq (tgt := 1452) B dL_law_1362 rfl rfl ?_
  exact hk _ _ _ hS1 hM1 (k_read hO _ _ _)
set_option maxHeartbeats 2000000 in
theorem law_image (B : lB p s m meth c b L xs ac am D yc ym kc ks) (h6 : i + 6 ≤ L) (hS : cS σ S) (hM : mS τ S) (hO : sOk S) (hk : ∀ σ τ S, cS σ S → mS τ S → sOk S → Lw p l e s m below meth c b ac am D yc ym kc ks 1452 i [] σ τ) : Lw p l e s m below meth c b ac am D yc ym kc ks 1367 i [] σ τ := by
  refine r_x B dL_law_1367 ?_
  refine r_cC0 B dL_law_1368 okX4_image ml_L_157 rfl (Nat.le_of_ble_eq_true rfl) ⟨by decide, by decide⟩ (Nat.le_of_ble_eq_true rfl) (c_X4_image hS  (fun σ1 hS1 => ?_))
  refine r_m B dL_law_1371 ?_
  refine r_cM0 B dL_law_1372 okX5_image ml_L_160 rfl (Nat.le_of_ble_eq_true rfl) ⟨by decide, by decide⟩ (Nat.le_of_ble_eq_true rfl) (c_X5_image hM hO.1  (fun τ1 hM1 => ?_))
  refine r_eq (tgt := 1452) B dL_law_1375 rfl rfl ?_
  exact hk _ _ _ hS1 hM1 (k_image hO)
set_option maxHeartbeats 2000000 in
theorem law_undo (B : lB p s m meth c b L xs ac am D yc ym kc ks) (h6 : i + 6 ≤ L) (hS : cS σ S) (hM : mS τ S) (hO : sOk S) (hk : ∀ σ τ S, cS σ S → mS τ S → sOk S → Lw p l e s m below meth c b ac am D yc ym kc ks 1452 i [] σ τ) : Lw p l e s m below meth c b ac am D yc ym kc ks 1380 i [] σ τ := by
  refine r_x B dL_law_1380 ?_
  refine r_cC0 B dL_law_1381 okX4_undo ml_L_161 rfl (Nat.le_of_ble_eq_true rfl) ⟨by decide, by decide⟩ (Nat.le_of_ble_eq_true rfl) (c_X4_undo hS  (fun σ1 hS1 => ?_))
  refine r_m B dL_law_1384 ?_
  refine r_cM0 B dL_law_1385 okX5_undo ml_L_164 rfl (Nat.le_of_ble_eq_true rfl) ⟨by decide, by decide⟩ (Nat.le_of_ble_eq_true rfl) (c_X5_undo hM hO.1  (fun τ1 hM1 => ?_))
  refine r_eq (tgt := 1452) B dL_law_1388 rfl rfl ?_
  exact hk _ _ _ hS1 hM1 (k_undo hO)
set_option maxHeartbeats 2000000 in
theorem law_tear (B : lB p s m meth c b L xs ac am D yc ym kc ks) (h6 : i + 6 ≤ L) (hS : cS σ S) (hM : mS τ S) (hO : sOk S) (hk : ∀ σ τ S, cS σ S → mS τ S → sOk S → Lw p l e s m below meth c b ac am D yc ym kc ks 1452 i [] σ τ) : Lw p l e s m below meth c b ac am D yc ym kc ks 1393 i [] σ τ := by
  refine r_x B dL_law_1393 ?_
  refine r_cC0 B dL_law_1394 okX4_tear ml_L_165 rfl (Nat.le_of_ble_eq_true rfl) ⟨by decide, by decide⟩ (Nat.le_of_ble_eq_true rfl) (c_X4_tear hS  (fun σ1 hS1 => ?_))
  refine r_m B dL_law_1397 ?_
  refine r_cM0 B dL_law_1398 okX5_tear ml_L_168 rfl (Nat.le_of_ble_eq_true rfl) ⟨by decide, by decide⟩ (Nat.le_of_ble_eq_true rfl) (c_X5_tear hM hO.1  (fun τ1 hM1 => ?_))
  refine r_eq (tgt := 1452) B dL_law_1401 rfl rfl ?_
  exact hk _ _ _ hS1 hM1 (k_tear hO)
set_option maxHeartbeats 2000000 in
theorem law_count (B : lB p s m meth c b L xs ac am D yc ym kc ks) (h6 : i + 6 ≤ L) (hS : cS σ S) (hM : mS τ S) (hO : sOk S) (hk : ∀ σ τ S, cS σ S → mS τ S → sOk S → Lw p l e s m below meth c b ac am D yc ym kc ks 1452 i [] σ τ) : Lw p l e s m below meth c b ac am D yc ym kc ks 1406 i [] σ τ := by
  refine r_x B dL_law_1406 ?_
  refine r_s (k := 1) B (by omega) dL_law_1407 dL_law_1408 dL_law_1409 dL_law_1410 dL_law_1411 ?_
  refine r_cC1 B dL_law_1412 okX4_count ml_L_169 rfl (Nat.le_of_ble_eq_true rfl) ⟨by decide, by decide⟩ (Nat.le_of_ble_eq_true rfl) (c_X4_count hS _ (fun σ1 hS1 => ?_))
  refine r_m B dL_law_1415 ?_
  refine r_s (k := 1) B (by omega) dL_law_1416 dL_law_1417 dL_law_1418 dL_law_1419 dL_law_1420 ?_
  refine r_cM1 B dL_law_1421 okX5_count ml_L_172 rfl (Nat.le_of_ble_eq_true rfl) ⟨by decide, by decide⟩ (Nat.le_of_ble_eq_true rfl) (c_X5_count hM hO.1 _ (fun τ1 hM1 => ?_))
  refine r_eq (tgt := 1452) B dL_law_1424 rfl rfl ?_
  exact hk _ _ _ hS1 hM1 (k_count hO _)
set_option maxHeartbeats 2000000 in
theorem law_status (B : lB p s m meth c b L xs ac am D yc ym kc ks) (h6 : i + 6 ≤ L) (hS : cS σ S) (hM : mS τ S) (hO : sOk S) (hk : ∀ σ τ S, cS σ S → mS τ S → sOk S → Lw p l e s m below meth c b ac am D yc ym kc ks 1452 i [] σ τ) : Lw p l e s m below meth c b ac am D yc ym kc ks 1429 i [] σ τ := by
  refine r_x B dL_law_1429 ?_
  refine r_s (k := 1) B (by omega) dL_law_1430 dL_law_1431 dL_law_1432 dL_law_1433 dL_law_1434 ?_
  refine r_cC1 B dL_law_1435 okX4_status ml_L_173 rfl (Nat.le_of_ble_eq_true rfl) ⟨by decide, by decide⟩ (Nat.le_of_ble_eq_true rfl) (c_X4_status hS _ (fun σ1 hS1 => ?_))
  refine r_m B dL_law_1438 ?_
  refine r_s (k := 1) B (by omega) dL_law_1439 dL_law_1440 dL_law_1441 dL_law_1442 dL_law_1443 ?_
  refine r_cM1 B dL_law_1444 okX5_status ml_L_176 rfl (Nat.le_of_ble_eq_true rfl) ⟨by decide, by decide⟩ (Nat.le_of_ble_eq_true rfl) (c_X5_status hM hO.1 _ (fun τ1 hM1 => ?_))
  refine r_eq (tgt := 1452) B dL_law_1447 rfl rfl ?_
  exact hk _ _ _ hS1 hM1 (k_status hO _)
end LCC
