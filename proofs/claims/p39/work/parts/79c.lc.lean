theorem dL_law_1066 : decode cL_law 1066 = .ok (.aload_n 1, 1) := by decide +kernel
theorem dL_law_1070 : decode cL_law 1070 = .ok (.pop, 1) := by decide +kernel
theorem dL_law_1071 : decode cL_law 1071 = .ok (.aload_n 2, 1) := by decide +kernel
theorem dL_law_1075 : decode cL_law 1075 = .ok (.pop, 1) := by decide +kernel
theorem dL_law_1076 : decode cL_law 1076 = .ok (.goto 302, 3) := by decide +kernel
theorem dL_law_1079 : decode cL_law 1079 = .ok (.aload_n 1, 1) := by decide +kernel
theorem dL_law_1080 : decode cL_law 1080 = .ok (.aload_n 0, 1) := by decide +kernel
theorem dL_law_1081 : decode cL_law 1081 = .ok (.iload 4, 2) := by decide +kernel
theorem dL_law_1083 : decode cL_law 1083 = .ok (.iconst 1, 1) := by decide +kernel
theorem dL_law_1084 : decode cL_law 1084 = .ok (.iadd, 1) := by decide +kernel
theorem dL_law_1085 : decode cL_law 1085 = .ok (.iaload, 1) := by decide +kernel
theorem dL_law_1089 : decode cL_law 1089 = .ok (.pop, 1) := by decide +kernel
theorem dL_law_1090 : decode cL_law 1090 = .ok (.aload_n 2, 1) := by decide +kernel
theorem dL_law_1091 : decode cL_law 1091 = .ok (.aload_n 0, 1) := by decide +kernel
theorem dL_law_1092 : decode cL_law 1092 = .ok (.iload 4, 2) := by decide +kernel
theorem dL_law_1094 : decode cL_law 1094 = .ok (.iconst 1, 1) := by decide +kernel
theorem dL_law_1095 : decode cL_law 1095 = .ok (.iadd, 1) := by decide +kernel
theorem dL_law_1096 : decode cL_law 1096 = .ok (.iaload, 1) := by decide +kernel
theorem dL_law_1100 : decode cL_law 1100 = .ok (.pop, 1) := by decide +kernel
theorem dL_law_1101 : decode cL_law 1101 = .ok (.goto 277, 3) := by decide +kernel
theorem dL_law_1104 : decode cL_law 1104 = .ok (.aload_n 1, 1) := by decide +kernel
theorem dL_law_1105 : decode cL_law 1105 = .ok (.aload_n 0, 1) := by decide +kernel
theorem dL_law_1106 : decode cL_law 1106 = .ok (.iload 4, 2) := by decide +kernel
theorem dL_law_1108 : decode cL_law 1108 = .ok (.iconst 1, 1) := by decide +kernel
theorem dL_law_1109 : decode cL_law 1109 = .ok (.iadd, 1) := by decide +kernel
theorem dL_law_1110 : decode cL_law 1110 = .ok (.iaload, 1) := by decide +kernel
theorem dL_law_1114 : decode cL_law 1114 = .ok (.pop, 1) := by decide +kernel
theorem dL_law_1115 : decode cL_law 1115 = .ok (.aload_n 2, 1) := by decide +kernel
theorem dL_law_1116 : decode cL_law 1116 = .ok (.aload_n 0, 1) := by decide +kernel
theorem dL_law_1117 : decode cL_law 1117 = .ok (.iload 4, 2) := by decide +kernel
theorem dL_law_1119 : decode cL_law 1119 = .ok (.iconst 1, 1) := by decide +kernel
theorem dL_law_1120 : decode cL_law 1120 = .ok (.iadd, 1) := by decide +kernel
theorem dL_law_1121 : decode cL_law 1121 = .ok (.iaload, 1) := by decide +kernel
theorem dL_law_1125 : decode cL_law 1125 = .ok (.pop, 1) := by decide +kernel
theorem dL_law_1126 : decode cL_law 1126 = .ok (.goto 252, 3) := by decide +kernel
theorem dL_law_1129 : decode cL_law 1129 = .ok (.aload_n 1, 1) := by decide +kernel
theorem dL_law_1130 : decode cL_law 1130 = .ok (.aload_n 0, 1) := by decide +kernel
theorem dL_law_1131 : decode cL_law 1131 = .ok (.iload 4, 2) := by decide +kernel
theorem dL_law_1133 : decode cL_law 1133 = .ok (.iconst 1, 1) := by decide +kernel
theorem dL_law_1134 : decode cL_law 1134 = .ok (.iadd, 1) := by decide +kernel
theorem dL_law_1135 : decode cL_law 1135 = .ok (.iaload, 1) := by decide +kernel
theorem dL_law_1136 : decode cL_law 1136 = .ok (.aload_n 0, 1) := by decide +kernel
theorem dL_law_1137 : decode cL_law 1137 = .ok (.iload 4, 2) := by decide +kernel
theorem dL_law_1139 : decode cL_law 1139 = .ok (.iconst 2, 1) := by decide +kernel
theorem dL_law_1140 : decode cL_law 1140 = .ok (.iadd, 1) := by decide +kernel
theorem dL_law_1141 : decode cL_law 1141 = .ok (.iaload, 1) := by decide +kernel
theorem dL_law_1145 : decode cL_law 1145 = .ok (.pop, 1) := by decide +kernel
theorem dL_law_1146 : decode cL_law 1146 = .ok (.aload_n 2, 1) := by decide +kernel
theorem dL_law_1147 : decode cL_law 1147 = .ok (.aload_n 0, 1) := by decide +kernel
theorem dL_law_1148 : decode cL_law 1148 = .ok (.iload 4, 2) := by decide +kernel
theorem dL_law_1150 : decode cL_law 1150 = .ok (.iconst 1, 1) := by decide +kernel
theorem dL_law_1151 : decode cL_law 1151 = .ok (.iadd, 1) := by decide +kernel
theorem dL_law_1152 : decode cL_law 1152 = .ok (.iaload, 1) := by decide +kernel
theorem dL_law_1153 : decode cL_law 1153 = .ok (.aload_n 0, 1) := by decide +kernel
theorem dL_law_1154 : decode cL_law 1154 = .ok (.iload 4, 2) := by decide +kernel
theorem dL_law_1156 : decode cL_law 1156 = .ok (.iconst 2, 1) := by decide +kernel
theorem dL_law_1157 : decode cL_law 1157 = .ok (.iadd, 1) := by decide +kernel
theorem dL_law_1158 : decode cL_law 1158 = .ok (.iaload, 1) := by decide +kernel
theorem dL_law_1162 : decode cL_law 1162 = .ok (.pop, 1) := by decide +kernel
theorem dL_law_1163 : decode cL_law 1163 = .ok (.goto 215, 3) := by decide +kernel
theorem dL_law_1166 : decode cL_law 1166 = .ok (.aload_n 1, 1) := by decide +kernel
theorem dL_law_1167 : decode cL_law 1167 = .ok (.aload_n 0, 1) := by decide +kernel
theorem dL_law_1168 : decode cL_law 1168 = .ok (.iload 4, 2) := by decide +kernel
theorem dL_law_1170 : decode cL_law 1170 = .ok (.iconst 1, 1) := by decide +kernel
theorem dL_law_1171 : decode cL_law 1171 = .ok (.iadd, 1) := by decide +kernel
theorem dL_law_1172 : decode cL_law 1172 = .ok (.iaload, 1) := by decide +kernel
theorem dL_law_1173 : decode cL_law 1173 = .ok (.aload_n 0, 1) := by decide +kernel
theorem dL_law_1174 : decode cL_law 1174 = .ok (.iload 4, 2) := by decide +kernel
theorem dL_law_1176 : decode cL_law 1176 = .ok (.iconst 2, 1) := by decide +kernel
theorem dL_law_1177 : decode cL_law 1177 = .ok (.iadd, 1) := by decide +kernel
theorem dL_law_1178 : decode cL_law 1178 = .ok (.iaload, 1) := by decide +kernel
theorem dL_law_1179 : decode cL_law 1179 = .ok (.aload_n 0, 1) := by decide +kernel
theorem dL_law_1180 : decode cL_law 1180 = .ok (.iload 4, 2) := by decide +kernel
theorem dL_law_1182 : decode cL_law 1182 = .ok (.iconst 3, 1) := by decide +kernel
theorem dL_law_1183 : decode cL_law 1183 = .ok (.iadd, 1) := by decide +kernel
theorem dL_law_1184 : decode cL_law 1184 = .ok (.iaload, 1) := by decide +kernel
theorem dL_law_1188 : decode cL_law 1188 = .ok (.pop, 1) := by decide +kernel
theorem dL_law_1189 : decode cL_law 1189 = .ok (.aload_n 2, 1) := by decide +kernel
theorem dL_law_1190 : decode cL_law 1190 = .ok (.aload_n 0, 1) := by decide +kernel
theorem dL_law_1191 : decode cL_law 1191 = .ok (.iload 4, 2) := by decide +kernel
theorem dL_law_1193 : decode cL_law 1193 = .ok (.iconst 1, 1) := by decide +kernel
theorem dL_law_1194 : decode cL_law 1194 = .ok (.iadd, 1) := by decide +kernel
theorem dL_law_1195 : decode cL_law 1195 = .ok (.iaload, 1) := by decide +kernel
theorem dL_law_1196 : decode cL_law 1196 = .ok (.aload_n 0, 1) := by decide +kernel
theorem dL_law_1197 : decode cL_law 1197 = .ok (.iload 4, 2) := by decide +kernel
theorem dL_law_1199 : decode cL_law 1199 = .ok (.iconst 2, 1) := by decide +kernel
theorem dL_law_1200 : decode cL_law 1200 = .ok (.iadd, 1) := by decide +kernel
theorem dL_law_1201 : decode cL_law 1201 = .ok (.iaload, 1) := by decide +kernel
theorem dL_law_1202 : decode cL_law 1202 = .ok (.aload_n 0, 1) := by decide +kernel
theorem dL_law_1203 : decode cL_law 1203 = .ok (.iload 4, 2) := by decide +kernel
theorem dL_law_1205 : decode cL_law 1205 = .ok (.iconst 3, 1) := by decide +kernel
theorem dL_law_1206 : decode cL_law 1206 = .ok (.iadd, 1) := by decide +kernel
theorem dL_law_1207 : decode cL_law 1207 = .ok (.iaload, 1) := by decide +kernel
theorem dL_law_1211 : decode cL_law 1211 = .ok (.pop, 1) := by decide +kernel
theorem dL_law_1212 : decode cL_law 1212 = .ok (.goto 166, 3) := by decide +kernel
theorem dL_law_1215 : decode cL_law 1215 = .ok (.aload_n 1, 1) := by decide +kernel
theorem dL_law_1216 : decode cL_law 1216 = .ok (.aload_n 0, 1) := by decide +kernel
theorem dL_law_1217 : decode cL_law 1217 = .ok (.iload 4, 2) := by decide +kernel
theorem dL_law_1219 : decode cL_law 1219 = .ok (.iconst 1, 1) := by decide +kernel
theorem dL_law_1220 : decode cL_law 1220 = .ok (.iadd, 1) := by decide +kernel
theorem dL_law_1221 : decode cL_law 1221 = .ok (.iaload, 1) := by decide +kernel
theorem dL_law_1225 : decode cL_law 1225 = .ok (.pop, 1) := by decide +kernel
theorem dL_law_1226 : decode cL_law 1226 = .ok (.aload_n 2, 1) := by decide +kernel
theorem dL_law_1227 : decode cL_law 1227 = .ok (.aload_n 0, 1) := by decide +kernel
theorem dL_law_1228 : decode cL_law 1228 = .ok (.iload 4, 2) := by decide +kernel
theorem dL_law_1230 : decode cL_law 1230 = .ok (.iconst 1, 1) := by decide +kernel
theorem dL_law_1231 : decode cL_law 1231 = .ok (.iadd, 1) := by decide +kernel
theorem dL_law_1232 : decode cL_law 1232 = .ok (.iaload, 1) := by decide +kernel
theorem dL_law_1236 : decode cL_law 1236 = .ok (.pop, 1) := by decide +kernel
theorem dL_law_1237 : decode cL_law 1237 = .ok (.goto 141, 3) := by decide +kernel
theorem dL_law_1240 : decode cL_law 1240 = .ok (.aload_n 1, 1) := by decide +kernel
theorem dL_law_1241 : decode cL_law 1241 = .ok (.aload_n 0, 1) := by decide +kernel
theorem dL_law_1242 : decode cL_law 1242 = .ok (.iload 4, 2) := by decide +kernel
theorem dL_law_1244 : decode cL_law 1244 = .ok (.iconst 1, 1) := by decide +kernel
theorem dL_law_1245 : decode cL_law 1245 = .ok (.iadd, 1) := by decide +kernel
theorem dL_law_1246 : decode cL_law 1246 = .ok (.iaload, 1) := by decide +kernel
theorem dL_law_1250 : decode cL_law 1250 = .ok (.pop, 1) := by decide +kernel
theorem dL_law_1251 : decode cL_law 1251 = .ok (.aload_n 2, 1) := by decide +kernel
theorem dL_law_1252 : decode cL_law 1252 = .ok (.aload_n 0, 1) := by decide +kernel
theorem dL_law_1253 : decode cL_law 1253 = .ok (.iload 4, 2) := by decide +kernel
theorem dL_law_1255 : decode cL_law 1255 = .ok (.iconst 1, 1) := by decide +kernel
theorem dL_law_1256 : decode cL_law 1256 = .ok (.iadd, 1) := by decide +kernel
theorem dL_law_1257 : decode cL_law 1257 = .ok (.iaload, 1) := by decide +kernel
theorem dL_law_1261 : decode cL_law 1261 = .ok (.pop, 1) := by decide +kernel
theorem dL_law_1262 : decode cL_law 1262 = .ok (.goto 116, 3) := by decide +kernel
theorem dL_law_1265 : decode cL_law 1265 = .ok (.aload_n 1, 1) := by decide +kernel
theorem dL_law_1269 : decode cL_law 1269 = .ok (.pop, 1) := by decide +kernel
theorem dL_law_1270 : decode cL_law 1270 = .ok (.aload_n 2, 1) := by decide +kernel
theorem dL_law_1274 : decode cL_law 1274 = .ok (.pop, 1) := by decide +kernel
theorem dL_law_1275 : decode cL_law 1275 = .ok (.goto 103, 3) := by decide +kernel
theorem dL_law_1278 : decode cL_law 1278 = .ok (.aload_n 1, 1) := by decide +kernel
theorem dL_law_1279 : decode cL_law 1279 = .ok (.aload_n 0, 1) := by decide +kernel
theorem dL_law_1280 : decode cL_law 1280 = .ok (.iload 4, 2) := by decide +kernel
theorem dL_law_1282 : decode cL_law 1282 = .ok (.iconst 1, 1) := by decide +kernel
theorem dL_law_1283 : decode cL_law 1283 = .ok (.iadd, 1) := by decide +kernel
theorem dL_law_1284 : decode cL_law 1284 = .ok (.iaload, 1) := by decide +kernel
theorem dL_law_1288 : decode cL_law 1288 = .ok (.pop, 1) := by decide +kernel
theorem dL_law_1289 : decode cL_law 1289 = .ok (.aload_n 2, 1) := by decide +kernel
theorem dL_law_1290 : decode cL_law 1290 = .ok (.aload_n 0, 1) := by decide +kernel
theorem dL_law_1291 : decode cL_law 1291 = .ok (.iload 4, 2) := by decide +kernel
theorem dL_law_1293 : decode cL_law 1293 = .ok (.iconst 1, 1) := by decide +kernel
theorem dL_law_1294 : decode cL_law 1294 = .ok (.iadd, 1) := by decide +kernel
theorem dL_law_1295 : decode cL_law 1295 = .ok (.iaload, 1) := by decide +kernel
theorem dL_law_1299 : decode cL_law 1299 = .ok (.pop, 1) := by decide +kernel
theorem dL_law_1300 : decode cL_law 1300 = .ok (.goto 78, 3) := by decide +kernel
theorem dL_law_1303 : decode cL_law 1303 = .ok (.aload_n 1, 1) := by decide +kernel
theorem dL_law_1304 : decode cL_law 1304 = .ok (.aload_n 0, 1) := by decide +kernel
theorem dL_law_1305 : decode cL_law 1305 = .ok (.iload 4, 2) := by decide +kernel
theorem dL_law_1307 : decode cL_law 1307 = .ok (.iconst 1, 1) := by decide +kernel
theorem dL_law_1308 : decode cL_law 1308 = .ok (.iadd, 1) := by decide +kernel
theorem dL_law_1309 : decode cL_law 1309 = .ok (.iaload, 1) := by decide +kernel
theorem dL_law_1313 : decode cL_law 1313 = .ok (.aload_n 2, 1) := by decide +kernel
theorem dL_law_1314 : decode cL_law 1314 = .ok (.aload_n 0, 1) := by decide +kernel
theorem dL_law_1315 : decode cL_law 1315 = .ok (.iload 4, 2) := by decide +kernel
theorem dL_law_1317 : decode cL_law 1317 = .ok (.iconst 1, 1) := by decide +kernel
theorem dL_law_1318 : decode cL_law 1318 = .ok (.iadd, 1) := by decide +kernel
theorem dL_law_1319 : decode cL_law 1319 = .ok (.iaload, 1) := by decide +kernel
theorem dL_law_1323 : decode cL_law 1323 = .ok (.if_icmp .eq 55, 3) := by decide +kernel
theorem dL_law_1328 : decode cL_law 1328 = .ok (.aload_n 1, 1) := by decide +kernel
theorem dL_law_1329 : decode cL_law 1329 = .ok (.aload_n 0, 1) := by decide +kernel
theorem dL_law_1330 : decode cL_law 1330 = .ok (.iload 4, 2) := by decide +kernel
theorem dL_law_1332 : decode cL_law 1332 = .ok (.iconst 1, 1) := by decide +kernel
theorem dL_law_1333 : decode cL_law 1333 = .ok (.iadd, 1) := by decide +kernel
theorem dL_law_1334 : decode cL_law 1334 = .ok (.iaload, 1) := by decide +kernel
theorem dL_law_1338 : decode cL_law 1338 = .ok (.pop, 1) := by decide +kernel
theorem dL_law_1339 : decode cL_law 1339 = .ok (.aload_n 2, 1) := by decide +kernel
theorem dL_law_1340 : decode cL_law 1340 = .ok (.aload_n 0, 1) := by decide +kernel
theorem dL_law_1341 : decode cL_law 1341 = .ok (.iload 4, 2) := by decide +kernel
theorem dL_law_1343 : decode cL_law 1343 = .ok (.iconst 1, 1) := by decide +kernel
theorem dL_law_1344 : decode cL_law 1344 = .ok (.iadd, 1) := by decide +kernel
theorem dL_law_1345 : decode cL_law 1345 = .ok (.iaload, 1) := by decide +kernel
theorem dL_law_1349 : decode cL_law 1349 = .ok (.pop, 1) := by decide +kernel
theorem dL_law_1350 : decode cL_law 1350 = .ok (.goto 28, 3) := by decide +kernel
theorem dL_law_1353 : decode cL_law 1353 = .ok (.aload_n 1, 1) := by decide +kernel
theorem dL_law_1354 : decode cL_law 1354 = .ok (.aload_n 0, 1) := by decide +kernel
theorem dL_law_1355 : decode cL_law 1355 = .ok (.iload 4, 2) := by decide +kernel
theorem dL_law_1357 : decode cL_law 1357 = .ok (.iconst 1, 1) := by decide +kernel
theorem dL_law_1358 : decode cL_law 1358 = .ok (.iadd, 1) := by decide +kernel
theorem dL_law_1359 : decode cL_law 1359 = .ok (.iaload, 1) := by decide +kernel
theorem dL_law_1363 : decode cL_law 1363 = .ok (.pop, 1) := by decide +kernel
theorem dL_law_1364 : decode cL_law 1364 = .ok (.aload_n 2, 1) := by decide +kernel
theorem dL_law_1365 : decode cL_law 1365 = .ok (.aload_n 0, 1) := by decide +kernel
theorem dL_law_1366 : decode cL_law 1366 = .ok (.iload 4, 2) := by decide +kernel
theorem dL_law_1368 : decode cL_law 1368 = .ok (.iconst 1, 1) := by decide +kernel
theorem dL_law_1369 : decode cL_law 1369 = .ok (.iadd, 1) := by decide +kernel
theorem dL_law_1370 : decode cL_law 1370 = .ok (.iaload, 1) := by decide +kernel
theorem dL_law_1374 : decode cL_law 1374 = .ok (.pop, 1) := by decide +kernel
theorem dL_law_1375 : decode cL_law 1375 = .ok (.goto 3, 3) := by decide +kernel
set_option maxHeartbeats 4000000 in
set_option maxRecDepth 100000 in
theorem lc_fleets {p : Program} {l : Launch} {e : Env} {s : State} {m : MethodId} {args : Array Value} {below : List Frame} {meth : Method} {c : Code} {Q : State → Prop} {dC : Nat → ClassId} {dI : Nat → Nat → Nat} {ky : Nat → ClassId} {A : Nat → Prop} {cells slots : Nat} {H : Heap} {locs : List Loc} {ls : Array Slot} {adK adV : Nat → Nat} {b L : Nat} {xs : Nat → Int32} {t o out : Nat} (hx : p.tables.exec = Jvm.exec) (hb : c.code = cL_law) (hml : c.maxLocals = 7) (hown : s.vm.findClass RL = some m.cls) (hts : ∀ w ∈ lw_tbl, w.before args s = true) (hK : Kk dC dI ky s) (hA : ∀ q, s.heap.size ≤ q → A q) (hE : SEnv adK adV A s s.heap) (hst : l.stackTraces = false) (hTh : ThE s s.heap) (hAn : ∀ a, a < s.heap.size → ¬ A a) (hX : va_X b L xs s s.heap) (hbl : b < s.heap.size) (hbA : ¬ A b) (hL : L ≤ 3072) (hcap : cells + 1 ≤ room_1.cells ∧ slots + 6 ≤ room_1.slots) {i : Nat} (hi : i + 6 ≤ L) (hLI : LI dC dI ky A t o out H) (hS : va_S A s.heap H locs) (hl : lv_has ls 7 [(4, .int (nI i)), (3, .ref out), (2, .ref o), (1, .ref t), (0, .ref b)]) (kx : ∀ (H : Heap) (locs : List Loc) (ls : Array Slot), LI dC dI ky A t o out H → va_S A s.heap H locs → lv_has ls 7 [(4, .int (nI i)), (3, .ref out), (2, .ref o), (1, .ref t), (0, .ref b)] → W p l e room_1 s m args below meth c H locs (cells + 1) (slots + 6) Q (F0 m 1378 ls [])) : W p l e room_1 s m args below meth c H locs cells slots Q (F0 m 1066 ls []) := by
  obtain ⟨tl, z0, z1, kz, w, wm, fo, hCI, hMI, hP, hD⟩ := hLI
  have hcs : cells + 0 ≤ room_1.cells ∧ slots + 0 ≤ room_1.slots := ⟨by omega, by omega⟩
  refine lv_aload_n hx hb dL_law_1066 rfl (lv_at hl 3 rfl) ?_
  refine ci_fleets (rest := []) hx hb hml hown hts hK hA hcs hl (Nat.le_of_ble_eq_true rfl)  hCI hP hD hS (fun r tl9 y0 y1 w9 H locs hf hCI hP hD hS => ?_)
  refine lv_pop hx hb dL_law_1070 rfl ?_
  have hP := hP.perm (pm_sw wm [(out, .inl (ky 1, 1, .inr (.inl fo)))] w9)
  have hD := hD.perm (pm_sw wm [(out, .inl (ky 1, 1, .inr (.inl fo)))] w9)
  refine lv_aload_n hx hb dL_law_1071 rfl (lv_at hl 2 rfl) ?_
  refine mi_fleets (rest := []) hx hb hml hown hts hK hA hcs hl (Nat.le_of_ble_eq_true rfl)  hMI hP hD hS (fun r2 tm9 kz9 wm9 H locs hf2 hMI hP hD hS => ?_)
  have hP := hP.perm (pm_sw w9 [(out, .inl (ky 1, 1, .inr (.inl fo)))] wm9)
  have hD := hD.perm (pm_sw w9 [(out, .inl (ky 1, 1, .inr (.inl fo)))] wm9)
  refine lv_pop hx hb dL_law_1075 rfl ?_
  subst hf hf2
  refine lv_goto (tgt := 1378) hx hb dL_law_1076 (by decide) ?_
  refine W.widen (k := cells + 1) (n := slots + 6) (by omega) (by omega) ?_
  exact kx H locs ls ⟨_, y0, y1, kz9, w9, wm9, fo, hCI, hMI, hP, hD⟩ hS hl
set_option maxHeartbeats 4000000 in
set_option maxRecDepth 100000 in
theorem lc_chart {p : Program} {l : Launch} {e : Env} {s : State} {m : MethodId} {args : Array Value} {below : List Frame} {meth : Method} {c : Code} {Q : State → Prop} {dC : Nat → ClassId} {dI : Nat → Nat → Nat} {ky : Nat → ClassId} {A : Nat → Prop} {cells slots : Nat} {H : Heap} {locs : List Loc} {ls : Array Slot} {adK adV : Nat → Nat} {b L : Nat} {xs : Nat → Int32} {t o out : Nat} (hx : p.tables.exec = Jvm.exec) (hb : c.code = cL_law) (hml : c.maxLocals = 7) (hown : s.vm.findClass RL = some m.cls) (hts : ∀ w ∈ lw_tbl, w.before args s = true) (hK : Kk dC dI ky s) (hA : ∀ q, s.heap.size ≤ q → A q) (hE : SEnv adK adV A s s.heap) (hst : l.stackTraces = false) (hTh : ThE s s.heap) (hAn : ∀ a, a < s.heap.size → ¬ A a) (hX : va_X b L xs s s.heap) (hbl : b < s.heap.size) (hbA : ¬ A b) (hL : L ≤ 3072) (hcap : cells + 1 ≤ room_1.cells ∧ slots + 6 ≤ room_1.slots) {i : Nat} (hi : i + 6 ≤ L) (hLI : LI dC dI ky A t o out H) (hS : va_S A s.heap H locs) (hl : lv_has ls 7 [(4, .int (nI i)), (3, .ref out), (2, .ref o), (1, .ref t), (0, .ref b)]) (kx : ∀ (H : Heap) (locs : List Loc) (ls : Array Slot), LI dC dI ky A t o out H → va_S A s.heap H locs → lv_has ls 7 [(4, .int (nI i)), (3, .ref out), (2, .ref o), (1, .ref t), (0, .ref b)] → W p l e room_1 s m args below meth c H locs (cells + 1) (slots + 6) Q (F0 m 1378 ls [])) : W p l e room_1 s m args below meth c H locs cells slots Q (F0 m 1079 ls []) := by
  obtain ⟨tl, z0, z1, kz, w, wm, fo, hCI, hMI, hP, hD⟩ := hLI
  have hcs : cells + 0 ≤ room_1.cells ∧ slots + 0 ≤ room_1.slots := ⟨by omega, by omega⟩
  refine lv_aload_n hx hb dL_law_1079 rfl (lv_at hl 3 rfl) ?_
  refine lv_aload_n hx hb dL_law_1080 rfl (lv_at hl 4 rfl) ?_
  refine lv_iload hx hb dL_law_1081 (lv_at hl 0 rfl) ?_
  refine lv_iconst (v := nI 1) hx hb dL_law_1083 (by decide) ?_
  refine lv_iadd hx hb dL_law_1084 ?_
  refine r_ti (nI (i + 1)) (nI_add _ _) ?_
  refine r_sld hx hb hX hbl hbA hS (i + 1) (by omega) (by omega) (xs (i + 1)) rfl dL_law_1085 ?_
  refine ci_chart (rest := []) hx hb hml hown hts hK hA hcs hl (Nat.le_of_ble_eq_true rfl) hE (xs (i + 1)) hCI hP hD hS (fun r tl9 y0 y1 w9 H locs hf hCI hP hD hS => ?_)
  refine lv_pop hx hb dL_law_1089 rfl ?_
  have hP := hP.perm (pm_sw wm [(out, .inl (ky 1, 1, .inr (.inl fo)))] w9)
  have hD := hD.perm (pm_sw wm [(out, .inl (ky 1, 1, .inr (.inl fo)))] w9)
  refine lv_aload_n hx hb dL_law_1090 rfl (lv_at hl 2 rfl) ?_
  refine lv_aload_n hx hb dL_law_1091 rfl (lv_at hl 4 rfl) ?_
  refine lv_iload hx hb dL_law_1092 (lv_at hl 0 rfl) ?_
  refine lv_iconst (v := nI 1) hx hb dL_law_1094 (by decide) ?_
  refine lv_iadd hx hb dL_law_1095 ?_
  refine r_ti (nI (i + 1)) (nI_add _ _) ?_
  refine r_sld hx hb hX hbl hbA hS (i + 1) (by omega) (by omega) (xs (i + 1)) rfl dL_law_1096 ?_
  refine mi_chart (rest := []) hx hb hml hown hts hK hA hcs hl (Nat.le_of_ble_eq_true rfl) (xs (i + 1)) hMI hP hD hS (fun r2 tm9 kz9 wm9 H locs hf2 hMI hP hD hS => ?_)
  have hP := hP.perm (pm_sw w9 [(out, .inl (ky 1, 1, .inr (.inl fo)))] wm9)
  have hD := hD.perm (pm_sw w9 [(out, .inl (ky 1, 1, .inr (.inl fo)))] wm9)
  refine lv_pop hx hb dL_law_1100 rfl ?_
  subst hf hf2
  refine lv_goto (tgt := 1378) hx hb dL_law_1101 (by decide) ?_
  refine W.widen (k := cells + 1) (n := slots + 6) (by omega) (by omega) ?_
  exact kx H locs ls ⟨_, y0, y1, kz9, w9, wm9, fo, hCI, hMI, hP, hD⟩ hS hl
set_option maxHeartbeats 4000000 in
set_option maxRecDepth 100000 in
theorem lc_byteAt {p : Program} {l : Launch} {e : Env} {s : State} {m : MethodId} {args : Array Value} {below : List Frame} {meth : Method} {c : Code} {Q : State → Prop} {dC : Nat → ClassId} {dI : Nat → Nat → Nat} {ky : Nat → ClassId} {A : Nat → Prop} {cells slots : Nat} {H : Heap} {locs : List Loc} {ls : Array Slot} {adK adV : Nat → Nat} {b L : Nat} {xs : Nat → Int32} {t o out : Nat} (hx : p.tables.exec = Jvm.exec) (hb : c.code = cL_law) (hml : c.maxLocals = 7) (hown : s.vm.findClass RL = some m.cls) (hts : ∀ w ∈ lw_tbl, w.before args s = true) (hK : Kk dC dI ky s) (hA : ∀ q, s.heap.size ≤ q → A q) (hE : SEnv adK adV A s s.heap) (hst : l.stackTraces = false) (hTh : ThE s s.heap) (hAn : ∀ a, a < s.heap.size → ¬ A a) (hX : va_X b L xs s s.heap) (hbl : b < s.heap.size) (hbA : ¬ A b) (hL : L ≤ 3072) (hcap : cells + 1 ≤ room_1.cells ∧ slots + 6 ≤ room_1.slots) {i : Nat} (hi : i + 6 ≤ L) (hLI : LI dC dI ky A t o out H) (hS : va_S A s.heap H locs) (hl : lv_has ls 7 [(4, .int (nI i)), (3, .ref out), (2, .ref o), (1, .ref t), (0, .ref b)]) (kx : ∀ (H : Heap) (locs : List Loc) (ls : Array Slot), LI dC dI ky A t o out H → va_S A s.heap H locs → lv_has ls 7 [(4, .int (nI i)), (3, .ref out), (2, .ref o), (1, .ref t), (0, .ref b)] → W p l e room_1 s m args below meth c H locs (cells + 1) (slots + 6) Q (F0 m 1378 ls [])) : W p l e room_1 s m args below meth c H locs cells slots Q (F0 m 1104 ls []) := by
  obtain ⟨tl, z0, z1, kz, w, wm, fo, hCI, hMI, hP, hD⟩ := hLI
  have hcs : cells + 0 ≤ room_1.cells ∧ slots + 0 ≤ room_1.slots := ⟨by omega, by omega⟩
  refine lv_aload_n hx hb dL_law_1104 rfl (lv_at hl 3 rfl) ?_
  refine lv_aload_n hx hb dL_law_1105 rfl (lv_at hl 4 rfl) ?_
  refine lv_iload hx hb dL_law_1106 (lv_at hl 0 rfl) ?_
  refine lv_iconst (v := nI 1) hx hb dL_law_1108 (by decide) ?_
  refine lv_iadd hx hb dL_law_1109 ?_
  refine r_ti (nI (i + 1)) (nI_add _ _) ?_
  refine r_sld hx hb hX hbl hbA hS (i + 1) (by omega) (by omega) (xs (i + 1)) rfl dL_law_1110 ?_
  refine ci_byteAt (rest := []) hx hb hml hown hts hK hA hcs hl (Nat.le_of_ble_eq_true rfl) (xs (i + 1)) hCI hP hD hS (fun r tl9 y0 y1 w9 H locs hf hCI hP hD hS => ?_)
  refine lv_pop hx hb dL_law_1114 rfl ?_
  have hP := hP.perm (pm_sw wm [(out, .inl (ky 1, 1, .inr (.inl fo)))] w9)
  have hD := hD.perm (pm_sw wm [(out, .inl (ky 1, 1, .inr (.inl fo)))] w9)
  refine lv_aload_n hx hb dL_law_1115 rfl (lv_at hl 2 rfl) ?_
  refine lv_aload_n hx hb dL_law_1116 rfl (lv_at hl 4 rfl) ?_
  refine lv_iload hx hb dL_law_1117 (lv_at hl 0 rfl) ?_
  refine lv_iconst (v := nI 1) hx hb dL_law_1119 (by decide) ?_
  refine lv_iadd hx hb dL_law_1120 ?_
  refine r_ti (nI (i + 1)) (nI_add _ _) ?_
  refine r_sld hx hb hX hbl hbA hS (i + 1) (by omega) (by omega) (xs (i + 1)) rfl dL_law_1121 ?_
  refine mi_byteAt (rest := []) hx hb hml hown hts hK hA hcs hl (Nat.le_of_ble_eq_true rfl) (xs (i + 1)) hMI hP hD hS (fun r2 tm9 kz9 wm9 H locs hf2 hMI hP hD hS => ?_)
  have hP := hP.perm (pm_sw w9 [(out, .inl (ky 1, 1, .inr (.inl fo)))] wm9)
  have hD := hD.perm (pm_sw w9 [(out, .inl (ky 1, 1, .inr (.inl fo)))] wm9)
  refine lv_pop hx hb dL_law_1125 rfl ?_
  subst hf hf2
  refine lv_goto (tgt := 1378) hx hb dL_law_1126 (by decide) ?_
  refine W.widen (k := cells + 1) (n := slots + 6) (by omega) (by omega) ?_
  exact kx H locs ls ⟨_, y0, y1, kz9, w9, wm9, fo, hCI, hMI, hP, hD⟩ hS hl
set_option maxHeartbeats 4000000 in
set_option maxRecDepth 100000 in
theorem lc_drawn {p : Program} {l : Launch} {e : Env} {s : State} {m : MethodId} {args : Array Value} {below : List Frame} {meth : Method} {c : Code} {Q : State → Prop} {dC : Nat → ClassId} {dI : Nat → Nat → Nat} {ky : Nat → ClassId} {A : Nat → Prop} {cells slots : Nat} {H : Heap} {locs : List Loc} {ls : Array Slot} {adK adV : Nat → Nat} {b L : Nat} {xs : Nat → Int32} {t o out : Nat} (hx : p.tables.exec = Jvm.exec) (hb : c.code = cL_law) (hml : c.maxLocals = 7) (hown : s.vm.findClass RL = some m.cls) (hts : ∀ w ∈ lw_tbl, w.before args s = true) (hK : Kk dC dI ky s) (hA : ∀ q, s.heap.size ≤ q → A q) (hE : SEnv adK adV A s s.heap) (hst : l.stackTraces = false) (hTh : ThE s s.heap) (hAn : ∀ a, a < s.heap.size → ¬ A a) (hX : va_X b L xs s s.heap) (hbl : b < s.heap.size) (hbA : ¬ A b) (hL : L ≤ 3072) (hcap : cells + 1 ≤ room_1.cells ∧ slots + 6 ≤ room_1.slots) {i : Nat} (hi : i + 6 ≤ L) (hLI : LI dC dI ky A t o out H) (hS : va_S A s.heap H locs) (hl : lv_has ls 7 [(4, .int (nI i)), (3, .ref out), (2, .ref o), (1, .ref t), (0, .ref b)]) (kx : ∀ (H : Heap) (locs : List Loc) (ls : Array Slot), LI dC dI ky A t o out H → va_S A s.heap H locs → lv_has ls 7 [(4, .int (nI i)), (3, .ref out), (2, .ref o), (1, .ref t), (0, .ref b)] → W p l e room_1 s m args below meth c H locs (cells + 1) (slots + 6) Q (F0 m 1378 ls [])) : W p l e room_1 s m args below meth c H locs cells slots Q (F0 m 1129 ls []) := by
  obtain ⟨tl, z0, z1, kz, w, wm, fo, hCI, hMI, hP, hD⟩ := hLI
  have hcs : cells + 0 ≤ room_1.cells ∧ slots + 0 ≤ room_1.slots := ⟨by omega, by omega⟩
  refine lv_aload_n hx hb dL_law_1129 rfl (lv_at hl 3 rfl) ?_
  refine lv_aload_n hx hb dL_law_1130 rfl (lv_at hl 4 rfl) ?_
  refine lv_iload hx hb dL_law_1131 (lv_at hl 0 rfl) ?_
  refine lv_iconst (v := nI 1) hx hb dL_law_1133 (by decide) ?_
  refine lv_iadd hx hb dL_law_1134 ?_
  refine r_ti (nI (i + 1)) (nI_add _ _) ?_
  refine r_sld hx hb hX hbl hbA hS (i + 1) (by omega) (by omega) (xs (i + 1)) rfl dL_law_1135 ?_
  refine lv_aload_n hx hb dL_law_1136 rfl (lv_at hl 4 rfl) ?_
  refine lv_iload hx hb dL_law_1137 (lv_at hl 0 rfl) ?_
  refine lv_iconst (v := nI 2) hx hb dL_law_1139 (by decide) ?_
  refine lv_iadd hx hb dL_law_1140 ?_
  refine r_ti (nI (i + 2)) (nI_add _ _) ?_
  refine r_sld hx hb hX hbl hbA hS (i + 2) (by omega) (by omega) (xs (i + 2)) rfl dL_law_1141 ?_
  refine ci_drawn (rest := []) hx hb hml hown hts hK hA hcs hl (Nat.le_of_ble_eq_true rfl) (xs (i + 1)) (xs (i + 2)) hCI hP hD hS (fun r tl9 y0 y1 w9 H locs hf hCI hP hD hS => ?_)
  refine lv_pop hx hb dL_law_1145 rfl ?_
  have hP := hP.perm (pm_sw wm [(out, .inl (ky 1, 1, .inr (.inl fo)))] w9)
  have hD := hD.perm (pm_sw wm [(out, .inl (ky 1, 1, .inr (.inl fo)))] w9)
  refine lv_aload_n hx hb dL_law_1146 rfl (lv_at hl 2 rfl) ?_
  refine lv_aload_n hx hb dL_law_1147 rfl (lv_at hl 4 rfl) ?_
  refine lv_iload hx hb dL_law_1148 (lv_at hl 0 rfl) ?_
  refine lv_iconst (v := nI 1) hx hb dL_law_1150 (by decide) ?_
  refine lv_iadd hx hb dL_law_1151 ?_
  refine r_ti (nI (i + 1)) (nI_add _ _) ?_
  refine r_sld hx hb hX hbl hbA hS (i + 1) (by omega) (by omega) (xs (i + 1)) rfl dL_law_1152 ?_
  refine lv_aload_n hx hb dL_law_1153 rfl (lv_at hl 4 rfl) ?_
  refine lv_iload hx hb dL_law_1154 (lv_at hl 0 rfl) ?_
  refine lv_iconst (v := nI 2) hx hb dL_law_1156 (by decide) ?_
  refine lv_iadd hx hb dL_law_1157 ?_
  refine r_ti (nI (i + 2)) (nI_add _ _) ?_
  refine r_sld hx hb hX hbl hbA hS (i + 2) (by omega) (by omega) (xs (i + 2)) rfl dL_law_1158 ?_
  refine mi_drawn (rest := []) hx hb hml hown hts hK hA hcs hl (Nat.le_of_ble_eq_true rfl) (xs (i + 1)) (xs (i + 2)) hMI hP hD hS (fun r2 tm9 kz9 wm9 H locs hf2 hMI hP hD hS => ?_)
  have hP := hP.perm (pm_sw w9 [(out, .inl (ky 1, 1, .inr (.inl fo)))] wm9)
  have hD := hD.perm (pm_sw w9 [(out, .inl (ky 1, 1, .inr (.inl fo)))] wm9)
  refine lv_pop hx hb dL_law_1162 rfl ?_
  subst hf hf2
  refine lv_goto (tgt := 1378) hx hb dL_law_1163 (by decide) ?_
  refine W.widen (k := cells + 1) (n := slots + 6) (by omega) (by omega) ?_
  exact kx H locs ls ⟨_, y0, y1, kz9, w9, wm9, fo, hCI, hMI, hP, hD⟩ hS hl
set_option maxHeartbeats 4000000 in
set_option maxRecDepth 100000 in
theorem lc_odds {p : Program} {l : Launch} {e : Env} {s : State} {m : MethodId} {args : Array Value} {below : List Frame} {meth : Method} {c : Code} {Q : State → Prop} {dC : Nat → ClassId} {dI : Nat → Nat → Nat} {ky : Nat → ClassId} {A : Nat → Prop} {cells slots : Nat} {H : Heap} {locs : List Loc} {ls : Array Slot} {adK adV : Nat → Nat} {b L : Nat} {xs : Nat → Int32} {t o out : Nat} (hx : p.tables.exec = Jvm.exec) (hb : c.code = cL_law) (hml : c.maxLocals = 7) (hown : s.vm.findClass RL = some m.cls) (hts : ∀ w ∈ lw_tbl, w.before args s = true) (hK : Kk dC dI ky s) (hA : ∀ q, s.heap.size ≤ q → A q) (hE : SEnv adK adV A s s.heap) (hst : l.stackTraces = false) (hTh : ThE s s.heap) (hAn : ∀ a, a < s.heap.size → ¬ A a) (hX : va_X b L xs s s.heap) (hbl : b < s.heap.size) (hbA : ¬ A b) (hL : L ≤ 3072) (hcap : cells + 1 ≤ room_1.cells ∧ slots + 6 ≤ room_1.slots) {i : Nat} (hi : i + 6 ≤ L) (hLI : LI dC dI ky A t o out H) (hS : va_S A s.heap H locs) (hl : lv_has ls 7 [(4, .int (nI i)), (3, .ref out), (2, .ref o), (1, .ref t), (0, .ref b)]) (kx : ∀ (H : Heap) (locs : List Loc) (ls : Array Slot), LI dC dI ky A t o out H → va_S A s.heap H locs → lv_has ls 7 [(4, .int (nI i)), (3, .ref out), (2, .ref o), (1, .ref t), (0, .ref b)] → W p l e room_1 s m args below meth c H locs (cells + 1) (slots + 6) Q (F0 m 1378 ls [])) : W p l e room_1 s m args below meth c H locs cells slots Q (F0 m 1166 ls []) := by
  obtain ⟨tl, z0, z1, kz, w, wm, fo, hCI, hMI, hP, hD⟩ := hLI
  have hcs : cells + 0 ≤ room_1.cells ∧ slots + 0 ≤ room_1.slots := ⟨by omega, by omega⟩
  refine lv_aload_n hx hb dL_law_1166 rfl (lv_at hl 3 rfl) ?_
  refine lv_aload_n hx hb dL_law_1167 rfl (lv_at hl 4 rfl) ?_
  refine lv_iload hx hb dL_law_1168 (lv_at hl 0 rfl) ?_
  refine lv_iconst (v := nI 1) hx hb dL_law_1170 (by decide) ?_
  refine lv_iadd hx hb dL_law_1171 ?_
  refine r_ti (nI (i + 1)) (nI_add _ _) ?_
  refine r_sld hx hb hX hbl hbA hS (i + 1) (by omega) (by omega) (xs (i + 1)) rfl dL_law_1172 ?_
  refine lv_aload_n hx hb dL_law_1173 rfl (lv_at hl 4 rfl) ?_
  refine lv_iload hx hb dL_law_1174 (lv_at hl 0 rfl) ?_
  refine lv_iconst (v := nI 2) hx hb dL_law_1176 (by decide) ?_
  refine lv_iadd hx hb dL_law_1177 ?_
  refine r_ti (nI (i + 2)) (nI_add _ _) ?_
  refine r_sld hx hb hX hbl hbA hS (i + 2) (by omega) (by omega) (xs (i + 2)) rfl dL_law_1178 ?_
  refine lv_aload_n hx hb dL_law_1179 rfl (lv_at hl 4 rfl) ?_
  refine lv_iload hx hb dL_law_1180 (lv_at hl 0 rfl) ?_
  refine lv_iconst (v := nI 3) hx hb dL_law_1182 (by decide) ?_
  refine lv_iadd hx hb dL_law_1183 ?_
  refine r_ti (nI (i + 3)) (nI_add _ _) ?_
  refine r_sld hx hb hX hbl hbA hS (i + 3) (by omega) (by omega) (xs (i + 3)) rfl dL_law_1184 ?_
  refine ci_odds (rest := []) hx hb hml hown hts hK hA hcs hl (Nat.le_of_ble_eq_true rfl) (xs (i + 1)) (xs (i + 2)) (xs (i + 3)) hCI hP hD hS (fun r tl9 y0 y1 w9 H locs hf hCI hP hD hS => ?_)
  refine lv_pop hx hb dL_law_1188 rfl ?_
  have hP := hP.perm (pm_sw wm [(out, .inl (ky 1, 1, .inr (.inl fo)))] w9)
  have hD := hD.perm (pm_sw wm [(out, .inl (ky 1, 1, .inr (.inl fo)))] w9)
  refine lv_aload_n hx hb dL_law_1189 rfl (lv_at hl 2 rfl) ?_
  refine lv_aload_n hx hb dL_law_1190 rfl (lv_at hl 4 rfl) ?_
  refine lv_iload hx hb dL_law_1191 (lv_at hl 0 rfl) ?_
  refine lv_iconst (v := nI 1) hx hb dL_law_1193 (by decide) ?_
  refine lv_iadd hx hb dL_law_1194 ?_
  refine r_ti (nI (i + 1)) (nI_add _ _) ?_
  refine r_sld hx hb hX hbl hbA hS (i + 1) (by omega) (by omega) (xs (i + 1)) rfl dL_law_1195 ?_
  refine lv_aload_n hx hb dL_law_1196 rfl (lv_at hl 4 rfl) ?_
  refine lv_iload hx hb dL_law_1197 (lv_at hl 0 rfl) ?_
  refine lv_iconst (v := nI 2) hx hb dL_law_1199 (by decide) ?_
  refine lv_iadd hx hb dL_law_1200 ?_
  refine r_ti (nI (i + 2)) (nI_add _ _) ?_
  refine r_sld hx hb hX hbl hbA hS (i + 2) (by omega) (by omega) (xs (i + 2)) rfl dL_law_1201 ?_
  refine lv_aload_n hx hb dL_law_1202 rfl (lv_at hl 4 rfl) ?_
  refine lv_iload hx hb dL_law_1203 (lv_at hl 0 rfl) ?_
  refine lv_iconst (v := nI 3) hx hb dL_law_1205 (by decide) ?_
  refine lv_iadd hx hb dL_law_1206 ?_
  refine r_ti (nI (i + 3)) (nI_add _ _) ?_
  refine r_sld hx hb hX hbl hbA hS (i + 3) (by omega) (by omega) (xs (i + 3)) rfl dL_law_1207 ?_
  refine mi_odds (rest := []) hx hb hml hown hts hK hA hcs hl (Nat.le_of_ble_eq_true rfl) (xs (i + 1)) (xs (i + 2)) (xs (i + 3)) hMI hP hD hS (fun r2 tm9 kz9 wm9 H locs hf2 hMI hP hD hS => ?_)
  have hP := hP.perm (pm_sw w9 [(out, .inl (ky 1, 1, .inr (.inl fo)))] wm9)
  have hD := hD.perm (pm_sw w9 [(out, .inl (ky 1, 1, .inr (.inl fo)))] wm9)
  refine lv_pop hx hb dL_law_1211 rfl ?_
  subst hf hf2
  refine lv_goto (tgt := 1378) hx hb dL_law_1212 (by decide) ?_
  refine W.widen (k := cells + 1) (n := slots + 6) (by omega) (by omega) ?_
  exact kx H locs ls ⟨_, y0, y1, kz9, w9, wm9, fo, hCI, hMI, hP, hD⟩ hS hl
set_option maxHeartbeats 4000000 in
set_option maxRecDepth 100000 in
theorem lc_book {p : Program} {l : Launch} {e : Env} {s : State} {m : MethodId} {args : Array Value} {below : List Frame} {meth : Method} {c : Code} {Q : State → Prop} {dC : Nat → ClassId} {dI : Nat → Nat → Nat} {ky : Nat → ClassId} {A : Nat → Prop} {cells slots : Nat} {H : Heap} {locs : List Loc} {ls : Array Slot} {adK adV : Nat → Nat} {b L : Nat} {xs : Nat → Int32} {t o out : Nat} (hx : p.tables.exec = Jvm.exec) (hb : c.code = cL_law) (hml : c.maxLocals = 7) (hown : s.vm.findClass RL = some m.cls) (hts : ∀ w ∈ lw_tbl, w.before args s = true) (hK : Kk dC dI ky s) (hA : ∀ q, s.heap.size ≤ q → A q) (hE : SEnv adK adV A s s.heap) (hst : l.stackTraces = false) (hTh : ThE s s.heap) (hAn : ∀ a, a < s.heap.size → ¬ A a) (hX : va_X b L xs s s.heap) (hbl : b < s.heap.size) (hbA : ¬ A b) (hL : L ≤ 3072) (hcap : cells + 1 ≤ room_1.cells ∧ slots + 6 ≤ room_1.slots) {i : Nat} (hi : i + 6 ≤ L) (hLI : LI dC dI ky A t o out H) (hS : va_S A s.heap H locs) (hl : lv_has ls 7 [(4, .int (nI i)), (3, .ref out), (2, .ref o), (1, .ref t), (0, .ref b)]) (kx : ∀ (H : Heap) (locs : List Loc) (ls : Array Slot), LI dC dI ky A t o out H → va_S A s.heap H locs → lv_has ls 7 [(4, .int (nI i)), (3, .ref out), (2, .ref o), (1, .ref t), (0, .ref b)] → W p l e room_1 s m args below meth c H locs (cells + 1) (slots + 6) Q (F0 m 1378 ls [])) : W p l e room_1 s m args below meth c H locs cells slots Q (F0 m 1215 ls []) := by
  obtain ⟨tl, z0, z1, kz, w, wm, fo, hCI, hMI, hP, hD⟩ := hLI
  have hcs : cells + 0 ≤ room_1.cells ∧ slots + 0 ≤ room_1.slots := ⟨by omega, by omega⟩
  refine lv_aload_n hx hb dL_law_1215 rfl (lv_at hl 3 rfl) ?_
  refine lv_aload_n hx hb dL_law_1216 rfl (lv_at hl 4 rfl) ?_
  refine lv_iload hx hb dL_law_1217 (lv_at hl 0 rfl) ?_
  refine lv_iconst (v := nI 1) hx hb dL_law_1219 (by decide) ?_
  refine lv_iadd hx hb dL_law_1220 ?_
  refine r_ti (nI (i + 1)) (nI_add _ _) ?_
  refine r_sld hx hb hX hbl hbA hS (i + 1) (by omega) (by omega) (xs (i + 1)) rfl dL_law_1221 ?_
  refine ci_book (rest := []) hx hb hml hown hts hK hA hcs hl (Nat.le_of_ble_eq_true rfl) hE (xs (i + 1)) hCI hP hD hS (fun r tl9 y0 y1 w9 H locs hf hCI hP hD hS => ?_)
  refine lv_pop hx hb dL_law_1225 rfl ?_
  have hP := hP.perm (pm_sw wm [(out, .inl (ky 1, 1, .inr (.inl fo)))] w9)
  have hD := hD.perm (pm_sw wm [(out, .inl (ky 1, 1, .inr (.inl fo)))] w9)
  refine lv_aload_n hx hb dL_law_1226 rfl (lv_at hl 2 rfl) ?_
  refine lv_aload_n hx hb dL_law_1227 rfl (lv_at hl 4 rfl) ?_
  refine lv_iload hx hb dL_law_1228 (lv_at hl 0 rfl) ?_
  refine lv_iconst (v := nI 1) hx hb dL_law_1230 (by decide) ?_
  refine lv_iadd hx hb dL_law_1231 ?_
  refine r_ti (nI (i + 1)) (nI_add _ _) ?_
  refine r_sld hx hb hX hbl hbA hS (i + 1) (by omega) (by omega) (xs (i + 1)) rfl dL_law_1232 ?_
  refine mi_book (rest := []) hx hb hml hown hts hK hA hcs hl (Nat.le_of_ble_eq_true rfl) (xs (i + 1)) hMI hP hD hS (fun r2 tm9 kz9 wm9 H locs hf2 hMI hP hD hS => ?_)
  have hP := hP.perm (pm_sw w9 [(out, .inl (ky 1, 1, .inr (.inl fo)))] wm9)
  have hD := hD.perm (pm_sw w9 [(out, .inl (ky 1, 1, .inr (.inl fo)))] wm9)
  refine lv_pop hx hb dL_law_1236 rfl ?_
  obtain rfl : tm9 = tl9 := by
    omega
  refine lv_goto (tgt := 1378) hx hb dL_law_1237 (by decide) ?_
  refine W.widen (k := cells + 1) (n := slots + 6) (by omega) (by omega) ?_
  exact kx H locs ls ⟨_, y0, y1, kz9, w9, wm9, fo, hCI, hMI, hP, hD⟩ hS hl
set_option maxHeartbeats 4000000 in
set_option maxRecDepth 100000 in
theorem lc_told {p : Program} {l : Launch} {e : Env} {s : State} {m : MethodId} {args : Array Value} {below : List Frame} {meth : Method} {c : Code} {Q : State → Prop} {dC : Nat → ClassId} {dI : Nat → Nat → Nat} {ky : Nat → ClassId} {A : Nat → Prop} {cells slots : Nat} {H : Heap} {locs : List Loc} {ls : Array Slot} {adK adV : Nat → Nat} {b L : Nat} {xs : Nat → Int32} {t o out : Nat} (hx : p.tables.exec = Jvm.exec) (hb : c.code = cL_law) (hml : c.maxLocals = 7) (hown : s.vm.findClass RL = some m.cls) (hts : ∀ w ∈ lw_tbl, w.before args s = true) (hK : Kk dC dI ky s) (hA : ∀ q, s.heap.size ≤ q → A q) (hE : SEnv adK adV A s s.heap) (hst : l.stackTraces = false) (hTh : ThE s s.heap) (hAn : ∀ a, a < s.heap.size → ¬ A a) (hX : va_X b L xs s s.heap) (hbl : b < s.heap.size) (hbA : ¬ A b) (hL : L ≤ 3072) (hcap : cells + 1 ≤ room_1.cells ∧ slots + 6 ≤ room_1.slots) {i : Nat} (hi : i + 6 ≤ L) (hLI : LI dC dI ky A t o out H) (hS : va_S A s.heap H locs) (hl : lv_has ls 7 [(4, .int (nI i)), (3, .ref out), (2, .ref o), (1, .ref t), (0, .ref b)]) (kx : ∀ (H : Heap) (locs : List Loc) (ls : Array Slot), LI dC dI ky A t o out H → va_S A s.heap H locs → lv_has ls 7 [(4, .int (nI i)), (3, .ref out), (2, .ref o), (1, .ref t), (0, .ref b)] → W p l e room_1 s m args below meth c H locs (cells + 1) (slots + 6) Q (F0 m 1378 ls [])) : W p l e room_1 s m args below meth c H locs cells slots Q (F0 m 1240 ls []) := by
  obtain ⟨tl, z0, z1, kz, w, wm, fo, hCI, hMI, hP, hD⟩ := hLI
  have hcs : cells + 0 ≤ room_1.cells ∧ slots + 0 ≤ room_1.slots := ⟨by omega, by omega⟩
  refine lv_aload_n hx hb dL_law_1240 rfl (lv_at hl 3 rfl) ?_
  refine lv_aload_n hx hb dL_law_1241 rfl (lv_at hl 4 rfl) ?_
  refine lv_iload hx hb dL_law_1242 (lv_at hl 0 rfl) ?_
  refine lv_iconst (v := nI 1) hx hb dL_law_1244 (by decide) ?_
  refine lv_iadd hx hb dL_law_1245 ?_
  refine r_ti (nI (i + 1)) (nI_add _ _) ?_
  refine r_sld hx hb hX hbl hbA hS (i + 1) (by omega) (by omega) (xs (i + 1)) rfl dL_law_1246 ?_
  refine ci_told (rest := []) hx hb hml hown hts hK hA hcs hl (Nat.le_of_ble_eq_true rfl) (xs (i + 1)) hCI hP hD hS (fun r tl9 y0 y1 w9 H locs hf hCI hP hD hS => ?_)
  refine lv_pop hx hb dL_law_1250 rfl ?_
  have hP := hP.perm (pm_sw wm [(out, .inl (ky 1, 1, .inr (.inl fo)))] w9)
  have hD := hD.perm (pm_sw wm [(out, .inl (ky 1, 1, .inr (.inl fo)))] w9)
  refine lv_aload_n hx hb dL_law_1251 rfl (lv_at hl 2 rfl) ?_
  refine lv_aload_n hx hb dL_law_1252 rfl (lv_at hl 4 rfl) ?_
  refine lv_iload hx hb dL_law_1253 (lv_at hl 0 rfl) ?_
  refine lv_iconst (v := nI 1) hx hb dL_law_1255 (by decide) ?_
  refine lv_iadd hx hb dL_law_1256 ?_
  refine r_ti (nI (i + 1)) (nI_add _ _) ?_
  refine r_sld hx hb hX hbl hbA hS (i + 1) (by omega) (by omega) (xs (i + 1)) rfl dL_law_1257 ?_
  refine mi_told (rest := []) hx hb hml hown hts hK hA hcs hl (Nat.le_of_ble_eq_true rfl) (xs (i + 1)) hMI hP hD hS (fun r2 tm9 kz9 wm9 H locs hf2 hMI hP hD hS => ?_)
  have hP := hP.perm (pm_sw w9 [(out, .inl (ky 1, 1, .inr (.inl fo)))] wm9)
  have hD := hD.perm (pm_sw w9 [(out, .inl (ky 1, 1, .inr (.inl fo)))] wm9)
  refine lv_pop hx hb dL_law_1261 rfl ?_
  subst hf hf2
  refine lv_goto (tgt := 1378) hx hb dL_law_1262 (by decide) ?_
  refine W.widen (k := cells + 1) (n := slots + 6) (by omega) (by omega) ?_
  exact kx H locs ls ⟨_, y0, y1, kz9, w9, wm9, fo, hCI, hMI, hP, hD⟩ hS hl
set_option maxHeartbeats 4000000 in
set_option maxRecDepth 100000 in
theorem lc_sentence {p : Program} {l : Launch} {e : Env} {s : State} {m : MethodId} {args : Array Value} {below : List Frame} {meth : Method} {c : Code} {Q : State → Prop} {dC : Nat → ClassId} {dI : Nat → Nat → Nat} {ky : Nat → ClassId} {A : Nat → Prop} {cells slots : Nat} {H : Heap} {locs : List Loc} {ls : Array Slot} {adK adV : Nat → Nat} {b L : Nat} {xs : Nat → Int32} {t o out : Nat} (hx : p.tables.exec = Jvm.exec) (hb : c.code = cL_law) (hml : c.maxLocals = 7) (hown : s.vm.findClass RL = some m.cls) (hts : ∀ w ∈ lw_tbl, w.before args s = true) (hK : Kk dC dI ky s) (hA : ∀ q, s.heap.size ≤ q → A q) (hE : SEnv adK adV A s s.heap) (hst : l.stackTraces = false) (hTh : ThE s s.heap) (hAn : ∀ a, a < s.heap.size → ¬ A a) (hX : va_X b L xs s s.heap) (hbl : b < s.heap.size) (hbA : ¬ A b) (hL : L ≤ 3072) (hcap : cells + 1 ≤ room_1.cells ∧ slots + 6 ≤ room_1.slots) {i : Nat} (hi : i + 6 ≤ L) (hLI : LI dC dI ky A t o out H) (hS : va_S A s.heap H locs) (hl : lv_has ls 7 [(4, .int (nI i)), (3, .ref out), (2, .ref o), (1, .ref t), (0, .ref b)]) (kx : ∀ (H : Heap) (locs : List Loc) (ls : Array Slot), LI dC dI ky A t o out H → va_S A s.heap H locs → lv_has ls 7 [(4, .int (nI i)), (3, .ref out), (2, .ref o), (1, .ref t), (0, .ref b)] → W p l e room_1 s m args below meth c H locs (cells + 1) (slots + 6) Q (F0 m 1378 ls [])) : W p l e room_1 s m args below meth c H locs cells slots Q (F0 m 1265 ls []) := by
  obtain ⟨tl, z0, z1, kz, w, wm, fo, hCI, hMI, hP, hD⟩ := hLI
  have hcs : cells + 0 ≤ room_1.cells ∧ slots + 0 ≤ room_1.slots := ⟨by omega, by omega⟩
  refine lv_aload_n hx hb dL_law_1265 rfl (lv_at hl 3 rfl) ?_
  refine ci_sentence (rest := []) hx hb hml hown hts hK hA hcs hl (Nat.le_of_ble_eq_true rfl) hE  hCI hP hD hS (fun r tl9 y0 y1 w9 H locs hf hCI hP hD hS => ?_)
  refine lv_pop hx hb dL_law_1269 rfl ?_
  have hP := hP.perm (pm_sw wm [(out, .inl (ky 1, 1, .inr (.inl fo)))] w9)
  have hD := hD.perm (pm_sw wm [(out, .inl (ky 1, 1, .inr (.inl fo)))] w9)
  refine lv_aload_n hx hb dL_law_1270 rfl (lv_at hl 2 rfl) ?_
  refine mi_sentence (rest := []) hx hb hml hown hts hK hA hcs hl (Nat.le_of_ble_eq_true rfl)  hMI hP hD hS (fun r2 tm9 kz9 wm9 H locs hf2 hMI hP hD hS => ?_)
  have hP := hP.perm (pm_sw w9 [(out, .inl (ky 1, 1, .inr (.inl fo)))] wm9)
  have hD := hD.perm (pm_sw w9 [(out, .inl (ky 1, 1, .inr (.inl fo)))] wm9)
  refine lv_pop hx hb dL_law_1274 rfl ?_
  obtain rfl : tm9 = tl9 := by
    omega
  refine lv_goto (tgt := 1378) hx hb dL_law_1275 (by decide) ?_
  refine W.widen (k := cells + 1) (n := slots + 6) (by omega) (by omega) ?_
  exact kx H locs ls ⟨_, y0, y1, kz9, w9, wm9, fo, hCI, hMI, hP, hD⟩ hS hl
set_option maxHeartbeats 4000000 in
set_option maxRecDepth 100000 in
theorem lc_said {p : Program} {l : Launch} {e : Env} {s : State} {m : MethodId} {args : Array Value} {below : List Frame} {meth : Method} {c : Code} {Q : State → Prop} {dC : Nat → ClassId} {dI : Nat → Nat → Nat} {ky : Nat → ClassId} {A : Nat → Prop} {cells slots : Nat} {H : Heap} {locs : List Loc} {ls : Array Slot} {adK adV : Nat → Nat} {b L : Nat} {xs : Nat → Int32} {t o out : Nat} (hx : p.tables.exec = Jvm.exec) (hb : c.code = cL_law) (hml : c.maxLocals = 7) (hown : s.vm.findClass RL = some m.cls) (hts : ∀ w ∈ lw_tbl, w.before args s = true) (hK : Kk dC dI ky s) (hA : ∀ q, s.heap.size ≤ q → A q) (hE : SEnv adK adV A s s.heap) (hst : l.stackTraces = false) (hTh : ThE s s.heap) (hAn : ∀ a, a < s.heap.size → ¬ A a) (hX : va_X b L xs s s.heap) (hbl : b < s.heap.size) (hbA : ¬ A b) (hL : L ≤ 3072) (hcap : cells + 1 ≤ room_1.cells ∧ slots + 6 ≤ room_1.slots) {i : Nat} (hi : i + 6 ≤ L) (hLI : LI dC dI ky A t o out H) (hS : va_S A s.heap H locs) (hl : lv_has ls 7 [(4, .int (nI i)), (3, .ref out), (2, .ref o), (1, .ref t), (0, .ref b)]) (kx : ∀ (H : Heap) (locs : List Loc) (ls : Array Slot), LI dC dI ky A t o out H → va_S A s.heap H locs → lv_has ls 7 [(4, .int (nI i)), (3, .ref out), (2, .ref o), (1, .ref t), (0, .ref b)] → W p l e room_1 s m args below meth c H locs (cells + 1) (slots + 6) Q (F0 m 1378 ls [])) : W p l e room_1 s m args below meth c H locs cells slots Q (F0 m 1278 ls []) := by
  obtain ⟨tl, z0, z1, kz, w, wm, fo, hCI, hMI, hP, hD⟩ := hLI
  have hcs : cells + 0 ≤ room_1.cells ∧ slots + 0 ≤ room_1.slots := ⟨by omega, by omega⟩
  refine lv_aload_n hx hb dL_law_1278 rfl (lv_at hl 3 rfl) ?_
  refine lv_aload_n hx hb dL_law_1279 rfl (lv_at hl 4 rfl) ?_
  refine lv_iload hx hb dL_law_1280 (lv_at hl 0 rfl) ?_
  refine lv_iconst (v := nI 1) hx hb dL_law_1282 (by decide) ?_
  refine lv_iadd hx hb dL_law_1283 ?_
  refine r_ti (nI (i + 1)) (nI_add _ _) ?_
  refine r_sld hx hb hX hbl hbA hS (i + 1) (by omega) (by omega) (xs (i + 1)) rfl dL_law_1284 ?_
  refine ci_said (rest := []) hx hb hml hown hts hK hA hcs hl (Nat.le_of_ble_eq_true rfl) (xs (i + 1)) hCI hP hD hS (fun r tl9 y0 y1 w9 H locs hf hCI hP hD hS => ?_)
  refine lv_pop hx hb dL_law_1288 rfl ?_
  have hP := hP.perm (pm_sw wm [(out, .inl (ky 1, 1, .inr (.inl fo)))] w9)
  have hD := hD.perm (pm_sw wm [(out, .inl (ky 1, 1, .inr (.inl fo)))] w9)
  refine lv_aload_n hx hb dL_law_1289 rfl (lv_at hl 2 rfl) ?_
  refine lv_aload_n hx hb dL_law_1290 rfl (lv_at hl 4 rfl) ?_
  refine lv_iload hx hb dL_law_1291 (lv_at hl 0 rfl) ?_
  refine lv_iconst (v := nI 1) hx hb dL_law_1293 (by decide) ?_
  refine lv_iadd hx hb dL_law_1294 ?_
  refine r_ti (nI (i + 1)) (nI_add _ _) ?_
  refine r_sld hx hb hX hbl hbA hS (i + 1) (by omega) (by omega) (xs (i + 1)) rfl dL_law_1295 ?_
  refine mi_said (rest := []) hx hb hml hown hts hK hA hcs hl (Nat.le_of_ble_eq_true rfl) (xs (i + 1)) hMI hP hD hS (fun r2 tm9 kz9 wm9 H locs hf2 hMI hP hD hS => ?_)
  have hP := hP.perm (pm_sw w9 [(out, .inl (ky 1, 1, .inr (.inl fo)))] wm9)
  have hD := hD.perm (pm_sw w9 [(out, .inl (ky 1, 1, .inr (.inl fo)))] wm9)
  refine lv_pop hx hb dL_law_1299 rfl ?_
  subst hf hf2
  refine lv_goto (tgt := 1378) hx hb dL_law_1300 (by decide) ?_
  refine W.widen (k := cells + 1) (n := slots + 6) (by omega) (by omega) ?_
  exact kx H locs ls ⟨_, y0, y1, kz9, w9, wm9, fo, hCI, hMI, hP, hD⟩ hS hl
set_option maxHeartbeats 4000000 in
set_option maxRecDepth 100000 in
theorem lc_image {p : Program} {l : Launch} {e : Env} {s : State} {m : MethodId} {args : Array Value} {below : List Frame} {meth : Method} {c : Code} {Q : State → Prop} {dC : Nat → ClassId} {dI : Nat → Nat → Nat} {ky : Nat → ClassId} {A : Nat → Prop} {cells slots : Nat} {H : Heap} {locs : List Loc} {ls : Array Slot} {adK adV : Nat → Nat} {b L : Nat} {xs : Nat → Int32} {t o out : Nat} (hx : p.tables.exec = Jvm.exec) (hb : c.code = cL_law) (hml : c.maxLocals = 7) (hown : s.vm.findClass RL = some m.cls) (hts : ∀ w ∈ lw_tbl, w.before args s = true) (hK : Kk dC dI ky s) (hA : ∀ q, s.heap.size ≤ q → A q) (hE : SEnv adK adV A s s.heap) (hst : l.stackTraces = false) (hTh : ThE s s.heap) (hAn : ∀ a, a < s.heap.size → ¬ A a) (hX : va_X b L xs s s.heap) (hbl : b < s.heap.size) (hbA : ¬ A b) (hL : L ≤ 3072) (hcap : cells + 1 ≤ room_1.cells ∧ slots + 6 ≤ room_1.slots) {i : Nat} (hi : i + 6 ≤ L) (hLI : LI dC dI ky A t o out H) (hS : va_S A s.heap H locs) (hl : lv_has ls 7 [(4, .int (nI i)), (3, .ref out), (2, .ref o), (1, .ref t), (0, .ref b)]) (kx : ∀ (H : Heap) (locs : List Loc) (ls : Array Slot), LI dC dI ky A t o out H → va_S A s.heap H locs → lv_has ls 7 [(4, .int (nI i)), (3, .ref out), (2, .ref o), (1, .ref t), (0, .ref b)] → W p l e room_1 s m args below meth c H locs (cells + 1) (slots + 6) Q (F0 m 1378 ls [])) : W p l e room_1 s m args below meth c H locs cells slots Q (F0 m 1303 ls []) := by
  obtain ⟨tl, z0, z1, kz, w, wm, fo, hCI, hMI, hP, hD⟩ := hLI
  have hcs : cells + 0 ≤ room_1.cells ∧ slots + 0 ≤ room_1.slots := ⟨by omega, by omega⟩
  refine lv_aload_n hx hb dL_law_1303 rfl (lv_at hl 3 rfl) ?_
  refine lv_aload_n hx hb dL_law_1304 rfl (lv_at hl 4 rfl) ?_
  refine lv_iload hx hb dL_law_1305 (lv_at hl 0 rfl) ?_
  refine lv_iconst (v := nI 1) hx hb dL_law_1307 (by decide) ?_
  refine lv_iadd hx hb dL_law_1308 ?_
  refine r_ti (nI (i + 1)) (nI_add _ _) ?_
  refine r_sld hx hb hX hbl hbA hS (i + 1) (by omega) (by omega) (xs (i + 1)) rfl dL_law_1309 ?_
  refine ci_image (rest := []) hx hb hml hown hts hK hA hcs hl (Nat.le_of_ble_eq_true rfl) (xs (i + 1)) hCI hP hD hS (fun r tl9 y0 y1 w9 H locs hf hCI hP hD hS => ?_)
  have hP := hP.perm (pm_sw wm [(out, .inl (ky 1, 1, .inr (.inl fo)))] w9)
  have hD := hD.perm (pm_sw wm [(out, .inl (ky 1, 1, .inr (.inl fo)))] w9)
  refine lv_aload_n hx hb dL_law_1313 rfl (lv_at hl 2 rfl) ?_
  refine lv_aload_n hx hb dL_law_1314 rfl (lv_at hl 4 rfl) ?_
  refine lv_iload hx hb dL_law_1315 (lv_at hl 0 rfl) ?_
  refine lv_iconst (v := nI 1) hx hb dL_law_1317 (by decide) ?_
  refine lv_iadd hx hb dL_law_1318 ?_
  refine r_ti (nI (i + 1)) (nI_add _ _) ?_
  refine r_sld hx hb hX hbl hbA hS (i + 1) (by omega) (by omega) (xs (i + 1)) rfl dL_law_1319 ?_
  refine mi_image (rest := [.int r]) hx hb hml hown hts hK hA hcs hl (Nat.le_of_ble_eq_true rfl) (xs (i + 1)) hMI hP hD hS (fun r2 tm9 kz9 wm9 H locs hf2 hMI hP hD hS => ?_)
  have hP := hP.perm (pm_sw w9 [(out, .inl (ky 1, 1, .inr (.inl fo)))] wm9)
  have hD := hD.perm (pm_sw w9 [(out, .inl (ky 1, 1, .inr (.inl fo)))] wm9)
  obtain ⟨hf, hr1⟩ := hf
  obtain ⟨hf2, hr2⟩ := hf2
  subst hf hf2 hr1 hr2
  refine lv_icmp_eq (tgt := 1378) hx hb dL_law_1323 (by decide) (fun _ => ?_) (fun h => absurd rfl h)
  refine W.widen (k := cells + 1) (n := slots + 6) (by omega) (by omega) ?_
  exact kx H locs ls ⟨_, y0, y1, kz9, w9, wm9, fo, hCI, hMI, hP, hD⟩ hS hl
set_option maxHeartbeats 4000000 in
set_option maxRecDepth 100000 in
theorem lc_restore {p : Program} {l : Launch} {e : Env} {s : State} {m : MethodId} {args : Array Value} {below : List Frame} {meth : Method} {c : Code} {Q : State → Prop} {dC : Nat → ClassId} {dI : Nat → Nat → Nat} {ky : Nat → ClassId} {A : Nat → Prop} {cells slots : Nat} {H : Heap} {locs : List Loc} {ls : Array Slot} {adK adV : Nat → Nat} {b L : Nat} {xs : Nat → Int32} {t o out : Nat} (hx : p.tables.exec = Jvm.exec) (hb : c.code = cL_law) (hml : c.maxLocals = 7) (hown : s.vm.findClass RL = some m.cls) (hts : ∀ w ∈ lw_tbl, w.before args s = true) (hK : Kk dC dI ky s) (hA : ∀ q, s.heap.size ≤ q → A q) (hE : SEnv adK adV A s s.heap) (hst : l.stackTraces = false) (hTh : ThE s s.heap) (hAn : ∀ a, a < s.heap.size → ¬ A a) (hX : va_X b L xs s s.heap) (hbl : b < s.heap.size) (hbA : ¬ A b) (hL : L ≤ 3072) (hcap : cells + 1 ≤ room_1.cells ∧ slots + 6 ≤ room_1.slots) {i : Nat} (hi : i + 6 ≤ L) (hLI : LI dC dI ky A t o out H) (hS : va_S A s.heap H locs) (hl : lv_has ls 7 [(4, .int (nI i)), (3, .ref out), (2, .ref o), (1, .ref t), (0, .ref b)]) (kx : ∀ (H : Heap) (locs : List Loc) (ls : Array Slot), LI dC dI ky A t o out H → va_S A s.heap H locs → lv_has ls 7 [(4, .int (nI i)), (3, .ref out), (2, .ref o), (1, .ref t), (0, .ref b)] → W p l e room_1 s m args below meth c H locs (cells + 1) (slots + 6) Q (F0 m 1378 ls [])) : W p l e room_1 s m args below meth c H locs cells slots Q (F0 m 1328 ls []) := by
  obtain ⟨tl, z0, z1, kz, w, wm, fo, hCI, hMI, hP, hD⟩ := hLI
  have hcs : cells + 0 ≤ room_1.cells ∧ slots + 0 ≤ room_1.slots := ⟨by omega, by omega⟩
  refine lv_aload_n hx hb dL_law_1328 rfl (lv_at hl 3 rfl) ?_
  refine lv_aload_n hx hb dL_law_1329 rfl (lv_at hl 4 rfl) ?_
  refine lv_iload hx hb dL_law_1330 (lv_at hl 0 rfl) ?_
  refine lv_iconst (v := nI 1) hx hb dL_law_1332 (by decide) ?_
  refine lv_iadd hx hb dL_law_1333 ?_
  refine r_ti (nI (i + 1)) (nI_add _ _) ?_
  refine r_sld hx hb hX hbl hbA hS (i + 1) (by omega) (by omega) (xs (i + 1)) rfl dL_law_1334 ?_
  refine ci_restore (rest := []) hx hb hml hown hts hK hA hcs hl (Nat.le_of_ble_eq_true rfl) (xs (i + 1)) hCI hP hD hS (fun r tl9 y0 y1 w9 H locs hf hCI hP hD hS => ?_)
  refine lv_pop hx hb dL_law_1338 rfl ?_
  have hP := hP.perm (pm_sw wm [(out, .inl (ky 1, 1, .inr (.inl fo)))] w9)
  have hD := hD.perm (pm_sw wm [(out, .inl (ky 1, 1, .inr (.inl fo)))] w9)
  refine lv_aload_n hx hb dL_law_1339 rfl (lv_at hl 2 rfl) ?_
  refine lv_aload_n hx hb dL_law_1340 rfl (lv_at hl 4 rfl) ?_
  refine lv_iload hx hb dL_law_1341 (lv_at hl 0 rfl) ?_
  refine lv_iconst (v := nI 1) hx hb dL_law_1343 (by decide) ?_
  refine lv_iadd hx hb dL_law_1344 ?_
  refine r_ti (nI (i + 1)) (nI_add _ _) ?_
  refine r_sld hx hb hX hbl hbA hS (i + 1) (by omega) (by omega) (xs (i + 1)) rfl dL_law_1345 ?_
  refine mi_restore (rest := []) hx hb hml hown hts hK hA hcs hl (Nat.le_of_ble_eq_true rfl) (xs (i + 1)) hMI hP hD hS (fun r2 tm9 kz9 wm9 H locs hf2 hMI hP hD hS => ?_)
  have hP := hP.perm (pm_sw w9 [(out, .inl (ky 1, 1, .inr (.inl fo)))] wm9)
  have hD := hD.perm (pm_sw w9 [(out, .inl (ky 1, 1, .inr (.inl fo)))] wm9)
  refine lv_pop hx hb dL_law_1349 rfl ?_
  subst hf hf2
  refine lv_goto (tgt := 1378) hx hb dL_law_1350 (by decide) ?_
  refine W.widen (k := cells + 1) (n := slots + 6) (by omega) (by omega) ?_
  exact kx H locs ls ⟨_, y0, y1, kz9, w9, wm9, fo, hCI, hMI, hP, hD⟩ hS hl
set_option maxHeartbeats 4000000 in
set_option maxRecDepth 100000 in
theorem lc_count {p : Program} {l : Launch} {e : Env} {s : State} {m : MethodId} {args : Array Value} {below : List Frame} {meth : Method} {c : Code} {Q : State → Prop} {dC : Nat → ClassId} {dI : Nat → Nat → Nat} {ky : Nat → ClassId} {A : Nat → Prop} {cells slots : Nat} {H : Heap} {locs : List Loc} {ls : Array Slot} {adK adV : Nat → Nat} {b L : Nat} {xs : Nat → Int32} {t o out : Nat} (hx : p.tables.exec = Jvm.exec) (hb : c.code = cL_law) (hml : c.maxLocals = 7) (hown : s.vm.findClass RL = some m.cls) (hts : ∀ w ∈ lw_tbl, w.before args s = true) (hK : Kk dC dI ky s) (hA : ∀ q, s.heap.size ≤ q → A q) (hE : SEnv adK adV A s s.heap) (hst : l.stackTraces = false) (hTh : ThE s s.heap) (hAn : ∀ a, a < s.heap.size → ¬ A a) (hX : va_X b L xs s s.heap) (hbl : b < s.heap.size) (hbA : ¬ A b) (hL : L ≤ 3072) (hcap : cells + 1 ≤ room_1.cells ∧ slots + 6 ≤ room_1.slots) {i : Nat} (hi : i + 6 ≤ L) (hLI : LI dC dI ky A t o out H) (hS : va_S A s.heap H locs) (hl : lv_has ls 7 [(4, .int (nI i)), (3, .ref out), (2, .ref o), (1, .ref t), (0, .ref b)]) (kx : ∀ (H : Heap) (locs : List Loc) (ls : Array Slot), LI dC dI ky A t o out H → va_S A s.heap H locs → lv_has ls 7 [(4, .int (nI i)), (3, .ref out), (2, .ref o), (1, .ref t), (0, .ref b)] → W p l e room_1 s m args below meth c H locs (cells + 1) (slots + 6) Q (F0 m 1378 ls [])) : W p l e room_1 s m args below meth c H locs cells slots Q (F0 m 1353 ls []) := by
  obtain ⟨tl, z0, z1, kz, w, wm, fo, hCI, hMI, hP, hD⟩ := hLI
  have hcs : cells + 0 ≤ room_1.cells ∧ slots + 0 ≤ room_1.slots := ⟨by omega, by omega⟩
  refine lv_aload_n hx hb dL_law_1353 rfl (lv_at hl 3 rfl) ?_
  refine lv_aload_n hx hb dL_law_1354 rfl (lv_at hl 4 rfl) ?_
  refine lv_iload hx hb dL_law_1355 (lv_at hl 0 rfl) ?_
  refine lv_iconst (v := nI 1) hx hb dL_law_1357 (by decide) ?_
  refine lv_iadd hx hb dL_law_1358 ?_
  refine r_ti (nI (i + 1)) (nI_add _ _) ?_
  refine r_sld hx hb hX hbl hbA hS (i + 1) (by omega) (by omega) (xs (i + 1)) rfl dL_law_1359 ?_
  refine ci_count (rest := []) hx hb hml hown hts hK hA hcs hl (Nat.le_of_ble_eq_true rfl) (xs (i + 1)) hCI hP hD hS (fun r tl9 y0 y1 w9 H locs hf hCI hP hD hS => ?_)
  refine lv_pop hx hb dL_law_1363 rfl ?_
  have hP := hP.perm (pm_sw wm [(out, .inl (ky 1, 1, .inr (.inl fo)))] w9)
  have hD := hD.perm (pm_sw wm [(out, .inl (ky 1, 1, .inr (.inl fo)))] w9)
  refine lv_aload_n hx hb dL_law_1364 rfl (lv_at hl 2 rfl) ?_
  refine lv_aload_n hx hb dL_law_1365 rfl (lv_at hl 4 rfl) ?_
  refine lv_iload hx hb dL_law_1366 (lv_at hl 0 rfl) ?_
  refine lv_iconst (v := nI 1) hx hb dL_law_1368 (by decide) ?_
  refine lv_iadd hx hb dL_law_1369 ?_
  refine r_ti (nI (i + 1)) (nI_add _ _) ?_
  refine r_sld hx hb hX hbl hbA hS (i + 1) (by omega) (by omega) (xs (i + 1)) rfl dL_law_1370 ?_
  refine mi_count (rest := []) hx hb hml hown hts hK hA hcs hl (Nat.le_of_ble_eq_true rfl) (xs (i + 1)) hMI hP hD hS (fun r2 tm9 kz9 wm9 H locs hf2 hMI hP hD hS => ?_)
  have hP := hP.perm (pm_sw w9 [(out, .inl (ky 1, 1, .inr (.inl fo)))] wm9)
  have hD := hD.perm (pm_sw w9 [(out, .inl (ky 1, 1, .inr (.inl fo)))] wm9)
  refine lv_pop hx hb dL_law_1374 rfl ?_
  subst hf hf2
  refine lv_goto (tgt := 1378) hx hb dL_law_1375 (by decide) ?_
  refine W.widen (k := cells + 1) (n := slots + 6) (by omega) (by omega) ?_
  exact kx H locs ls ⟨_, y0, y1, kz9, w9, wm9, fo, hCI, hMI, hP, hD⟩ hS hl
