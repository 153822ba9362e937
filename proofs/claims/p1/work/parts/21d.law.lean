theorem dL_law_1097 : decode cL_law 1097 = .ok (.aload_n 1, 1) := by decide +kernel
theorem dL_law_1098 : decode cL_law 1098 = .ok (.aload_n 0, 1) := by decide +kernel
theorem dL_law_1099 : decode cL_law 1099 = .ok (.iload 4, 2) := by decide +kernel
theorem dL_law_1101 : decode cL_law 1101 = .ok (.iconst 1, 1) := by decide +kernel
theorem dL_law_1102 : decode cL_law 1102 = .ok (.iadd, 1) := by decide +kernel
theorem dL_law_1103 : decode cL_law 1103 = .ok (.iaload, 1) := by decide +kernel
theorem dL_law_1104 : decode cL_law 1104 = .ok (.invokevirtual 139, 3) := by decide +kernel
theorem dL_law_1107 : decode cL_law 1107 = .ok (.aload_n 2, 1) := by decide +kernel
theorem dL_law_1108 : decode cL_law 1108 = .ok (.aload_n 0, 1) := by decide +kernel
theorem dL_law_1109 : decode cL_law 1109 = .ok (.iload 4, 2) := by decide +kernel
theorem dL_law_1111 : decode cL_law 1111 = .ok (.iconst 1, 1) := by decide +kernel
theorem dL_law_1112 : decode cL_law 1112 = .ok (.iadd, 1) := by decide +kernel
theorem dL_law_1113 : decode cL_law 1113 = .ok (.iaload, 1) := by decide +kernel
theorem dL_law_1114 : decode cL_law 1114 = .ok (.invokevirtual 142, 3) := by decide +kernel
theorem dL_law_1117 : decode cL_law 1117 = .ok (.if_icmp .eq 317, 3) := by decide +kernel
theorem dL_law_1122 : decode cL_law 1122 = .ok (.aload_n 1, 1) := by decide +kernel
theorem dL_law_1123 : decode cL_law 1123 = .ok (.invokevirtual 143, 3) := by decide +kernel
theorem dL_law_1126 : decode cL_law 1126 = .ok (.aload_n 2, 1) := by decide +kernel
theorem dL_law_1127 : decode cL_law 1127 = .ok (.invokevirtual 146, 3) := by decide +kernel
theorem dL_law_1130 : decode cL_law 1130 = .ok (.if_icmp .eq 304, 3) := by decide +kernel
theorem dL_law_1135 : decode cL_law 1135 = .ok (.aload_n 1, 1) := by decide +kernel
theorem dL_law_1136 : decode cL_law 1136 = .ok (.aload_n 0, 1) := by decide +kernel
theorem dL_law_1137 : decode cL_law 1137 = .ok (.iload 4, 2) := by decide +kernel
theorem dL_law_1139 : decode cL_law 1139 = .ok (.iconst 1, 1) := by decide +kernel
theorem dL_law_1140 : decode cL_law 1140 = .ok (.iadd, 1) := by decide +kernel
theorem dL_law_1141 : decode cL_law 1141 = .ok (.iaload, 1) := by decide +kernel
theorem dL_law_1142 : decode cL_law 1142 = .ok (.invokevirtual 147, 3) := by decide +kernel
theorem dL_law_1145 : decode cL_law 1145 = .ok (.aload_n 2, 1) := by decide +kernel
theorem dL_law_1146 : decode cL_law 1146 = .ok (.aload_n 0, 1) := by decide +kernel
theorem dL_law_1147 : decode cL_law 1147 = .ok (.iload 4, 2) := by decide +kernel
theorem dL_law_1149 : decode cL_law 1149 = .ok (.iconst 1, 1) := by decide +kernel
theorem dL_law_1150 : decode cL_law 1150 = .ok (.iadd, 1) := by decide +kernel
theorem dL_law_1151 : decode cL_law 1151 = .ok (.iaload, 1) := by decide +kernel
theorem dL_law_1152 : decode cL_law 1152 = .ok (.invokevirtual 150, 3) := by decide +kernel
theorem dL_law_1155 : decode cL_law 1155 = .ok (.if_icmp .eq 279, 3) := by decide +kernel
theorem dL_law_1160 : decode cL_law 1160 = .ok (.aload_n 1, 1) := by decide +kernel
theorem dL_law_1161 : decode cL_law 1161 = .ok (.aload_n 0, 1) := by decide +kernel
theorem dL_law_1162 : decode cL_law 1162 = .ok (.iload 4, 2) := by decide +kernel
theorem dL_law_1164 : decode cL_law 1164 = .ok (.iconst 1, 1) := by decide +kernel
theorem dL_law_1165 : decode cL_law 1165 = .ok (.iadd, 1) := by decide +kernel
theorem dL_law_1166 : decode cL_law 1166 = .ok (.iaload, 1) := by decide +kernel
theorem dL_law_1167 : decode cL_law 1167 = .ok (.invokevirtual 151, 3) := by decide +kernel
theorem dL_law_1170 : decode cL_law 1170 = .ok (.aload_n 2, 1) := by decide +kernel
theorem dL_law_1171 : decode cL_law 1171 = .ok (.aload_n 0, 1) := by decide +kernel
theorem dL_law_1172 : decode cL_law 1172 = .ok (.iload 4, 2) := by decide +kernel
theorem dL_law_1174 : decode cL_law 1174 = .ok (.iconst 1, 1) := by decide +kernel
theorem dL_law_1175 : decode cL_law 1175 = .ok (.iadd, 1) := by decide +kernel
theorem dL_law_1176 : decode cL_law 1176 = .ok (.iaload, 1) := by decide +kernel
theorem dL_law_1177 : decode cL_law 1177 = .ok (.invokevirtual 154, 3) := by decide +kernel
theorem dL_law_1180 : decode cL_law 1180 = .ok (.if_icmp .eq 254, 3) := by decide +kernel
theorem dL_law_1185 : decode cL_law 1185 = .ok (.aload_n 1, 1) := by decide +kernel
theorem dL_law_1186 : decode cL_law 1186 = .ok (.aload_n 0, 1) := by decide +kernel
theorem dL_law_1187 : decode cL_law 1187 = .ok (.iload 4, 2) := by decide +kernel
theorem dL_law_1189 : decode cL_law 1189 = .ok (.iconst 1, 1) := by decide +kernel
theorem dL_law_1190 : decode cL_law 1190 = .ok (.iadd, 1) := by decide +kernel
theorem dL_law_1191 : decode cL_law 1191 = .ok (.iaload, 1) := by decide +kernel
theorem dL_law_1192 : decode cL_law 1192 = .ok (.aload_n 0, 1) := by decide +kernel
theorem dL_law_1193 : decode cL_law 1193 = .ok (.iload 4, 2) := by decide +kernel
theorem dL_law_1195 : decode cL_law 1195 = .ok (.iconst 2, 1) := by decide +kernel
theorem dL_law_1196 : decode cL_law 1196 = .ok (.iadd, 1) := by decide +kernel
theorem dL_law_1197 : decode cL_law 1197 = .ok (.iaload, 1) := by decide +kernel
theorem dL_law_1198 : decode cL_law 1198 = .ok (.invokevirtual 155, 3) := by decide +kernel
theorem dL_law_1201 : decode cL_law 1201 = .ok (.aload_n 2, 1) := by decide +kernel
theorem dL_law_1202 : decode cL_law 1202 = .ok (.aload_n 0, 1) := by decide +kernel
theorem dL_law_1203 : decode cL_law 1203 = .ok (.iload 4, 2) := by decide +kernel
theorem dL_law_1205 : decode cL_law 1205 = .ok (.iconst 1, 1) := by decide +kernel
theorem dL_law_1206 : decode cL_law 1206 = .ok (.iadd, 1) := by decide +kernel
theorem dL_law_1207 : decode cL_law 1207 = .ok (.iaload, 1) := by decide +kernel
theorem dL_law_1208 : decode cL_law 1208 = .ok (.aload_n 0, 1) := by decide +kernel
theorem dL_law_1209 : decode cL_law 1209 = .ok (.iload 4, 2) := by decide +kernel
theorem dL_law_1211 : decode cL_law 1211 = .ok (.iconst 2, 1) := by decide +kernel
theorem dL_law_1212 : decode cL_law 1212 = .ok (.iadd, 1) := by decide +kernel
theorem dL_law_1213 : decode cL_law 1213 = .ok (.iaload, 1) := by decide +kernel
theorem dL_law_1214 : decode cL_law 1214 = .ok (.invokevirtual 158, 3) := by decide +kernel
theorem dL_law_1217 : decode cL_law 1217 = .ok (.if_icmp .eq 217, 3) := by decide +kernel
theorem dL_law_1222 : decode cL_law 1222 = .ok (.aload_n 1, 1) := by decide +kernel
theorem dL_law_1223 : decode cL_law 1223 = .ok (.aload_n 0, 1) := by decide +kernel
theorem dL_law_1224 : decode cL_law 1224 = .ok (.iload 4, 2) := by decide +kernel
theorem dL_law_1226 : decode cL_law 1226 = .ok (.iconst 1, 1) := by decide +kernel
theorem dL_law_1227 : decode cL_law 1227 = .ok (.iadd, 1) := by decide +kernel
theorem dL_law_1228 : decode cL_law 1228 = .ok (.iaload, 1) := by decide +kernel
theorem dL_law_1229 : decode cL_law 1229 = .ok (.aload_n 0, 1) := by decide +kernel
theorem dL_law_1230 : decode cL_law 1230 = .ok (.iload 4, 2) := by decide +kernel
theorem dL_law_1232 : decode cL_law 1232 = .ok (.iconst 2, 1) := by decide +kernel
theorem dL_law_1233 : decode cL_law 1233 = .ok (.iadd, 1) := by decide +kernel
theorem dL_law_1234 : decode cL_law 1234 = .ok (.iaload, 1) := by decide +kernel
theorem dL_law_1235 : decode cL_law 1235 = .ok (.aload_n 0, 1) := by decide +kernel
theorem dL_law_1236 : decode cL_law 1236 = .ok (.iload 4, 2) := by decide +kernel
theorem dL_law_1238 : decode cL_law 1238 = .ok (.iconst 3, 1) := by decide +kernel
theorem dL_law_1239 : decode cL_law 1239 = .ok (.iadd, 1) := by decide +kernel
theorem dL_law_1240 : decode cL_law 1240 = .ok (.iaload, 1) := by decide +kernel
theorem dL_law_1241 : decode cL_law 1241 = .ok (.invokevirtual 159, 3) := by decide +kernel
theorem dL_law_1244 : decode cL_law 1244 = .ok (.aload_n 2, 1) := by decide +kernel
theorem dL_law_1245 : decode cL_law 1245 = .ok (.aload_n 0, 1) := by decide +kernel
theorem dL_law_1246 : decode cL_law 1246 = .ok (.iload 4, 2) := by decide +kernel
theorem dL_law_1248 : decode cL_law 1248 = .ok (.iconst 1, 1) := by decide +kernel
theorem dL_law_1249 : decode cL_law 1249 = .ok (.iadd, 1) := by decide +kernel
theorem dL_law_1250 : decode cL_law 1250 = .ok (.iaload, 1) := by decide +kernel
theorem dL_law_1251 : decode cL_law 1251 = .ok (.aload_n 0, 1) := by decide +kernel
theorem dL_law_1252 : decode cL_law 1252 = .ok (.iload 4, 2) := by decide +kernel
theorem dL_law_1254 : decode cL_law 1254 = .ok (.iconst 2, 1) := by decide +kernel
theorem dL_law_1255 : decode cL_law 1255 = .ok (.iadd, 1) := by decide +kernel
theorem dL_law_1256 : decode cL_law 1256 = .ok (.iaload, 1) := by decide +kernel
theorem dL_law_1257 : decode cL_law 1257 = .ok (.aload_n 0, 1) := by decide +kernel
theorem dL_law_1258 : decode cL_law 1258 = .ok (.iload 4, 2) := by decide +kernel
theorem dL_law_1260 : decode cL_law 1260 = .ok (.iconst 3, 1) := by decide +kernel
theorem dL_law_1261 : decode cL_law 1261 = .ok (.iadd, 1) := by decide +kernel
theorem dL_law_1262 : decode cL_law 1262 = .ok (.iaload, 1) := by decide +kernel
theorem dL_law_1263 : decode cL_law 1263 = .ok (.invokevirtual 162, 3) := by decide +kernel
theorem dL_law_1266 : decode cL_law 1266 = .ok (.if_icmp .eq 168, 3) := by decide +kernel
set_option maxHeartbeats 4000000 in
set_option maxRecDepth 100000 in
theorem law_27 {p : Program} {l : Launch} {e : Env} {s : State} {m : MethodId} {args : Array Value} {below : List Frame} {meth : Method} {c : Code} {Q : State → Prop} {dC : Nat → ClassId} {dI : Nat → Nat → Nat} {ky : Nat → ClassId} {A : Nat → Prop} {b : Nat} {xs : Nat → Int32} (hx : p.tables.exec = Jvm.exec) (hb : c.code = cL_law) (hml : c.maxLocals = 7) (hown : s.vm.findClass RL = some m.cls) (hts : ∀ w ∈ lw_tbl, w.before args s = true) (hK : Kk dC dI ky s) (hA : ∀ q, s.heap.size ≤ q → A q) (hX : va_X b 6 xs s s.heap) (hbl : b < s.heap.size) (hbA : ¬ A b) (reader : Nat) (sea : Nat) (spareSea : Nat) (seaText : Nat) (book : Nat) (sentence : Nat) (spareSentence : Nat) (route : Nat) (meeting : Nat) (sighting : Nat) (draws : Nat) (history : Nat) (images : Nat) (chartBytes : Nat) (thickness : Nat) (lumpNames : Nat) (lumpCells : Nat) (boatNames : Nat) (boatCells : Nat) (loads : Nat) (spoons : Nat) (spoonsLeft : Nat) (depths : Nat) (ktape : Nat) (know : Nat) (kread : Nat) (kkept : Nat) (ksnaps : Nat) (kaside : Nat) (kname : Nat) (kreadName : Nat) (kkeptName : Nat) (kisKept : Nat) (konces : Nat) (kpoured : Nat) (kfar : Nat) (ksides : Nat) (klines : Nat) (kmet : Nat) (ksunk : Nat) (ktrying : Nat) (ktext : Nat) (kline : Nat) (kwritten : Nat) (knode : Nat) (knowG : Nat → Int32) (t : Nat) (o : Nat) (out : Nat) (hN : NowOk knowG) (x1 x2 x3 x4 x5 : Int32) (hx1 : xs 1 = x1) (hx2 : xs 2 = x2) (hx3 : xs 3 = x3) (hx4 : xs 4 = x4) (hx5 : xs 5 = x5) (kx : ∀ (H : Heap) (locs : List Loc) (ls : Array Slot), va_S A s.heap H locs → W p l e room_1 s m args below meth c H locs 172 6147 Q (F0 m 1440 ls [])) : ∀ (H : Heap) (locs : List Loc) (ls : Array Slot), va_P (dC, dI) vwCl [(t, .inr (11, [.ref reader, .int (nI 0), .int (nI 0), .ref sea, .ref spareSea, .ref seaText, .ref book, .ref sentence, .ref spareSentence, .ref route, .ref meeting, .ref sighting, .ref draws, .ref history, .ref images, .ref chartBytes, .int (nI 0), .int (-1 : Int32)])), (sea, .inr (7, [.int (nI 4), .int (nI 4), .int (nI 10), .int (nI 1), .int (nI 3), .int (nI 0), .int (nI 0), .int (nI 0), .int (nI 0), .int (nI 0), .ref thickness, .ref lumpNames, .ref lumpCells, .ref boatNames, .ref boatCells, .ref loads, .ref spoons, .ref spoonsLeft, .ref depths])), (o, .inr (12, [.int (nI 0), .ref ktape, .int (nI 0), .int (nI 0), .int (nI 0), .int (nI 0), .int (nI 0), .int (nI 0), .int (nI 0), .int (nI 0), .int (nI 0), .int (nI 0), .long 0, .int (nI 0), .ref know, .ref kread, .ref kkept, .ref ksnaps, .ref kaside, .ref kname, .ref kreadName, .ref kkeptName, .ref kisKept, .ref konces, .int (nI 0), .int (nI 0), .ref kpoured, .ref kfar, .ref ksides, .int (nI 0), .int (-1 : Int32), .int (nI 0), .ref klines, .ref kmet, .int (nI 0), .ref ksunk, .ref ktrying, .int (nI 0), .int (-1 : Int32), .int (-1 : Int32), .ref ktext, .int (nI 0), .int (nI 0), .ref kline, .ref kwritten, .int (nI 0), .int (nI 0), .ref knode, .int (nI 0), .int (nI 0), .int (nI 0), .int (nI 0)])), (know, .inl (ky 0, 373, .inl knowG))] H → va_D A [(t, .inr (11, [.ref reader, .int (nI 0), .int (nI 0), .ref sea, .ref spareSea, .ref seaText, .ref book, .ref sentence, .ref spareSentence, .ref route, .ref meeting, .ref sighting, .ref draws, .ref history, .ref images, .ref chartBytes, .int (nI 0), .int (-1 : Int32)])), (sea, .inr (7, [.int (nI 4), .int (nI 4), .int (nI 10), .int (nI 1), .int (nI 3), .int (nI 0), .int (nI 0), .int (nI 0), .int (nI 0), .int (nI 0), .ref thickness, .ref lumpNames, .ref lumpCells, .ref boatNames, .ref boatCells, .ref loads, .ref spoons, .ref spoonsLeft, .ref depths])), (o, .inr (12, [.int (nI 0), .ref ktape, .int (nI 0), .int (nI 0), .int (nI 0), .int (nI 0), .int (nI 0), .int (nI 0), .int (nI 0), .int (nI 0), .int (nI 0), .int (nI 0), .long 0, .int (nI 0), .ref know, .ref kread, .ref kkept, .ref ksnaps, .ref kaside, .ref kname, .ref kreadName, .ref kkeptName, .ref kisKept, .ref konces, .int (nI 0), .int (nI 0), .ref kpoured, .ref kfar, .ref ksides, .int (nI 0), .int (-1 : Int32), .int (nI 0), .ref klines, .ref kmet, .int (nI 0), .ref ksunk, .ref ktrying, .int (nI 0), .int (-1 : Int32), .int (-1 : Int32), .ref ktext, .int (nI 0), .int (nI 0), .ref kline, .ref kwritten, .int (nI 0), .int (nI 0), .ref knode, .int (nI 0), .int (nI 0), .int (nI 0), .int (nI 0)])), (know, .inl (ky 0, 373, .inl knowG))] → va_S A s.heap H locs → lv_has ls 7 [(4, .int (nI 0)), (3, .ref out), (2, .ref o), (1, .ref t), (0, .ref b)] → W p l e room_1 s m args below meth c H locs 172 6147 Q (F0 m 1097 ls []) := by
  intro H locs ls hP hD hS hl
  refine lv_aload_n hx hb dL_law_1097 rfl (lv_at hl 3 rfl) ?_
  refine lv_aload_n hx hb dL_law_1098 rfl (lv_at hl 4 rfl) ?_
  refine lv_iload hx hb dL_law_1099 (lv_at hl 0 rfl) ?_
  refine lv_iconst (v := nI 1) hx hb dL_law_1101 (by decide) ?_
  refine lv_iadd hx hb dL_law_1102 ?_
  refine r_ti (nI 1) (by decide) ?_
  refine r_sld hx hb hX hbl hbA hS 1 (by decide) (by decide) x1 hx1 dL_law_1103 ?_
  refine vp_callSi (W.runV (As := [.int x1]) (rest := []) ⟨hx, hb, hml, hown, hts⟩ (c_fleet l dC dI ky t reader sea spareSea seaText book sentence spareSentence route meeting sighting draws history images chartBytes thickness lumpNames lumpCells boatNames boatCells loads spoons spoonsLeft depths x1) (cwV 1 hts gl_X11_fleet rfl rfl rfl (by decide +kernel) ⟨(Nat.le_of_ble_eq_true rfl), (Nat.le_of_ble_eq_true rfl)⟩) (pre_PV hK hP [0, 1] rfl (ci := 11) (q0 := 0) rfl rfl) rfl rfl hl.1 rfl (lv_room (Nat.le_of_ble_eq_true rfl)) dL_law_1104 ⟨(Nat.le_of_ble_eq_true rfl), (Nat.le_of_ble_eq_true rfl)⟩) (fun r1 p2 => ?_)
  subst p2
  refine lv_aload_n hx hb dL_law_1107 rfl (lv_at hl 2 rfl) ?_
  refine lv_aload_n hx hb dL_law_1108 rfl (lv_at hl 4 rfl) ?_
  refine lv_iload hx hb dL_law_1109 (lv_at hl 0 rfl) ?_
  refine lv_iconst (v := nI 1) hx hb dL_law_1111 (by decide) ?_
  refine lv_iadd hx hb dL_law_1112 ?_
  refine r_ti (nI 1) (by decide) ?_
  refine r_sld hx hb hX hbl hbA hS 1 (by decide) (by decide) x1 hx1 dL_law_1113 ?_
  refine r_call_i (wr := [(t, .inr (11, [.ref reader, .int (nI 0), .int (nI 0), .ref sea, .ref spareSea, .ref seaText, .ref book, .ref sentence, .ref spareSentence, .ref route, .ref meeting, .ref sighting, .ref draws, .ref history, .ref images, .ref chartBytes, .int (nI 0), .int (-1 : Int32)])), (sea, .inr (7, [.int (nI 4), .int (nI 4), .int (nI 10), .int (nI 1), .int (nI 3), .int (nI 0), .int (nI 0), .int (nI 0), .int (nI 0), .int (nI 0), .ref thickness, .ref lumpNames, .ref lumpCells, .ref boatNames, .ref boatCells, .ref loads, .ref spoons, .ref spoonsLeft, .ref depths]))]) (va_runV (As := [.int x1]) (rest := [.int (-1 : Int32)]) ⟨hx, hb, hml, hown, hts⟩ (c_m_fleet l dC dI ky H.size o ktape know kread kkept ksnaps kaside kname kreadName kkeptName kisKept konces kpoured kfar ksides klines kmet ksunk ktrying ktext kline kwritten knode knowG x1 hN) (cwV 1 hts gl_X12_fleet rfl rfl rfl (by decide +kernel) ⟨(Nat.le_of_ble_eq_true rfl), (Nat.le_of_ble_eq_true rfl)⟩) (pre_UV hK hP hD [2, 3] (by decide) rfl (ci := 12) (q0 := 2) rfl rfl) rfl rfl hl.1 rfl (lv_room (Nat.le_of_ble_eq_true rfl)) dL_law_1114 ⟨(Nat.le_of_ble_eq_true rfl), (Nat.le_of_ble_eq_true rfl)⟩) hP hD hS hA [2, 3] [0, 1] rfl rfl (by decide) (by decide) (fun r5 u3 H locs p4 hP hD hS => ?_)
  try dsimp only at p4
  have p6 := p4
  refine W.widen (k := 172) (n := 6147) (Nat.le_of_ble_eq_true rfl) (Nat.le_of_ble_eq_true rfl) ?_
  have hP : va_P (dC, dI) vwCl [(t, .inr (11, [.ref reader, .int (nI 0), .int (nI 0), .ref sea, .ref spareSea, .ref seaText, .ref book, .ref sentence, .ref spareSentence, .ref route, .ref meeting, .ref sighting, .ref draws, .ref history, .ref images, .ref chartBytes, .int (nI 0), .int (-1 : Int32)])), (sea, .inr (7, [.int (nI 4), .int (nI 4), .int (nI 10), .int (nI 1), .int (nI 3), .int (nI 0), .int (nI 0), .int (nI 0), .int (nI 0), .int (nI 0), .ref thickness, .ref lumpNames, .ref lumpCells, .ref boatNames, .ref boatCells, .ref loads, .ref spoons, .ref spoonsLeft, .ref depths]))] H := hP
  have hD : va_D A [(t, .inr (11, [.ref reader, .int (nI 0), .int (nI 0), .ref sea, .ref spareSea, .ref seaText, .ref book, .ref sentence, .ref spareSentence, .ref route, .ref meeting, .ref sighting, .ref draws, .ref history, .ref images, .ref chartBytes, .int (nI 0), .int (-1 : Int32)])), (sea, .inr (7, [.int (nI 4), .int (nI 4), .int (nI 10), .int (nI 1), .int (nI 3), .int (nI 0), .int (nI 0), .int (nI 0), .int (nI 0), .int (nI 0), .ref thickness, .ref lumpNames, .ref lumpCells, .ref boatNames, .ref boatCells, .ref loads, .ref spoons, .ref spoonsLeft, .ref depths]))] := hD
  subst p6
  refine lv_icmp_eq (tgt := 1434) hx hb dL_law_1117 (by decide) (fun c7 => ?_) (fun c7 => absurd (by decide) c7)
  refine lv_iinc (v := nI 6) (lv' := [(4, .int (nI 6)), (3, .ref out), (2, .ref o), (1, .ref t), (0, .ref b)]) hx hb dL_law_1434 hl (k := 0) rfl (by decide) (by decide) rfl (fun ls hl => ?_)
  refine lv_goto (tgt := 23) hx hb dL_law_1437 (by decide) ?_
  refine lv_iload hx hb dL_law_23 (lv_at hl 0 rfl) ?_
  refine lv_aload_n hx hb dL_law_25 rfl (lv_at hl 4 rfl) ?_
  refine va_slen hx hb hX hbl hbA hS dL_law_26 ?_
  refine r_ti (nI 6) rfl ?_
  refine lv_bipush (v := nI 6) hx hb dL_law_27 (by decide) ?_
  refine lv_isub hx hb dL_law_29 ?_
  refine r_ti (nI 0) (by decide) ?_
  refine lv_icmp_gt (tgt := 1440) hx hb dL_law_30 (by decide) (fun c8 => ?_) (fun c8 => absurd (by decide) c8)
  exact kx H locs ls hS
set_option maxHeartbeats 4000000 in
set_option maxRecDepth 100000 in
theorem law_28 {p : Program} {l : Launch} {e : Env} {s : State} {m : MethodId} {args : Array Value} {below : List Frame} {meth : Method} {c : Code} {Q : State → Prop} {dC : Nat → ClassId} {dI : Nat → Nat → Nat} {ky : Nat → ClassId} {A : Nat → Prop} {b : Nat} {xs : Nat → Int32} (hx : p.tables.exec = Jvm.exec) (hb : c.code = cL_law) (hml : c.maxLocals = 7) (hown : s.vm.findClass RL = some m.cls) (hts : ∀ w ∈ lw_tbl, w.before args s = true) (hK : Kk dC dI ky s) (hA : ∀ q, s.heap.size ≤ q → A q) (hX : va_X b 6 xs s s.heap) (hbl : b < s.heap.size) (hbA : ¬ A b) (reader : Nat) (sea : Nat) (spareSea : Nat) (seaText : Nat) (book : Nat) (sentence : Nat) (spareSentence : Nat) (route : Nat) (meeting : Nat) (sighting : Nat) (draws : Nat) (history : Nat) (images : Nat) (chartBytes : Nat) (ktape : Nat) (know : Nat) (kread : Nat) (kkept : Nat) (ksnaps : Nat) (kaside : Nat) (kname : Nat) (kreadName : Nat) (kkeptName : Nat) (kisKept : Nat) (konces : Nat) (kpoured : Nat) (kfar : Nat) (ksides : Nat) (klines : Nat) (kmet : Nat) (ksunk : Nat) (ktrying : Nat) (ktext : Nat) (kline : Nat) (kwritten : Nat) (knode : Nat) (t : Nat) (o : Nat) (out : Nat)  (x1 x2 x3 x4 x5 : Int32) (hx1 : xs 1 = x1) (hx2 : xs 2 = x2) (hx3 : xs 3 = x3) (hx4 : xs 4 = x4) (hx5 : xs 5 = x5) (kx : ∀ (H : Heap) (locs : List Loc) (ls : Array Slot), va_S A s.heap H locs → W p l e room_1 s m args below meth c H locs 172 6147 Q (F0 m 1440 ls [])) : ∀ (H : Heap) (locs : List Loc) (ls : Array Slot), va_P (dC, dI) vwCl [(t, .inr (11, [.ref reader, .int (nI 0), .int (nI 0), .ref sea, .ref spareSea, .ref seaText, .ref book, .ref sentence, .ref spareSentence, .ref route, .ref meeting, .ref sighting, .ref draws, .ref history, .ref images, .ref chartBytes, .int (nI 0), .int (-1 : Int32)])), (o, .inr (12, [.int (nI 0), .ref ktape, .int (nI 0), .int (nI 0), .int (nI 0), .int (nI 0), .int (nI 0), .int (nI 0), .int (nI 0), .int (nI 0), .int (nI 0), .int (nI 0), .long 0, .int (nI 0), .ref know, .ref kread, .ref kkept, .ref ksnaps, .ref kaside, .ref kname, .ref kreadName, .ref kkeptName, .ref kisKept, .ref konces, .int (nI 0), .int (nI 0), .ref kpoured, .ref kfar, .ref ksides, .int (nI 0), .int (-1 : Int32), .int (nI 0), .ref klines, .ref kmet, .int (nI 0), .ref ksunk, .ref ktrying, .int (nI 0), .int (-1 : Int32), .int (-1 : Int32), .ref ktext, .int (nI 0), .int (nI 0), .ref kline, .ref kwritten, .int (nI 0), .int (nI 0), .ref knode, .int (nI 0), .int (nI 0), .int (nI 0), .int (nI 0)]))] H → va_D A [(t, .inr (11, [.ref reader, .int (nI 0), .int (nI 0), .ref sea, .ref spareSea, .ref seaText, .ref book, .ref sentence, .ref spareSentence, .ref route, .ref meeting, .ref sighting, .ref draws, .ref history, .ref images, .ref chartBytes, .int (nI 0), .int (-1 : Int32)])), (o, .inr (12, [.int (nI 0), .ref ktape, .int (nI 0), .int (nI 0), .int (nI 0), .int (nI 0), .int (nI 0), .int (nI 0), .int (nI 0), .int (nI 0), .int (nI 0), .int (nI 0), .long 0, .int (nI 0), .ref know, .ref kread, .ref kkept, .ref ksnaps, .ref kaside, .ref kname, .ref kreadName, .ref kkeptName, .ref kisKept, .ref konces, .int (nI 0), .int (nI 0), .ref kpoured, .ref kfar, .ref ksides, .int (nI 0), .int (-1 : Int32), .int (nI 0), .ref klines, .ref kmet, .int (nI 0), .ref ksunk, .ref ktrying, .int (nI 0), .int (-1 : Int32), .int (-1 : Int32), .ref ktext, .int (nI 0), .int (nI 0), .ref kline, .ref kwritten, .int (nI 0), .int (nI 0), .ref knode, .int (nI 0), .int (nI 0), .int (nI 0), .int (nI 0)]))] → va_S A s.heap H locs → lv_has ls 7 [(4, .int (nI 0)), (3, .ref out), (2, .ref o), (1, .ref t), (0, .ref b)] → W p l e room_1 s m args below meth c H locs 172 6147 Q (F0 m 1122 ls []) := by
  intro H locs ls hP hD hS hl
  refine lv_aload_n hx hb dL_law_1122 rfl (lv_at hl 3 rfl) ?_
  refine vp_callSi (W.runV (As := []) (rest := []) ⟨hx, hb, hml, hown, hts⟩ (c_fleets l dC dI ky t reader sea spareSea seaText book sentence spareSentence route meeting sighting draws history images chartBytes) (cwV 0 hts gl_X11_fleets rfl rfl rfl (by decide +kernel) ⟨(Nat.le_of_ble_eq_true rfl), (Nat.le_of_ble_eq_true rfl)⟩) (pre_PV hK hP [0] rfl (ci := 11) (q0 := 0) rfl rfl) rfl rfl hl.1 rfl (lv_room (Nat.le_of_ble_eq_true rfl)) dL_law_1123 ⟨(Nat.le_of_ble_eq_true rfl), (Nat.le_of_ble_eq_true rfl)⟩) (fun r1 p2 => ?_)
  subst p2
  refine lv_aload_n hx hb dL_law_1126 rfl (lv_at hl 2 rfl) ?_
  refine r_call_i (wr := [(t, .inr (11, [.ref reader, .int (nI 0), .int (nI 0), .ref sea, .ref spareSea, .ref seaText, .ref book, .ref sentence, .ref spareSentence, .ref route, .ref meeting, .ref sighting, .ref draws, .ref history, .ref images, .ref chartBytes, .int (nI 0), .int (-1 : Int32)]))]) (va_runV (As := []) (rest := [.int (-1 : Int32)]) ⟨hx, hb, hml, hown, hts⟩ (c_m_fleets l dC dI ky H.size o ktape know kread kkept ksnaps kaside kname kreadName kkeptName kisKept konces kpoured kfar ksides klines kmet ksunk ktrying ktext kline kwritten knode) (cwV 0 hts gl_X12_fleets rfl rfl rfl (by decide +kernel) ⟨(Nat.le_of_ble_eq_true rfl), (Nat.le_of_ble_eq_true rfl)⟩) (pre_UV hK hP hD [1] (by decide) rfl (ci := 12) (q0 := 1) rfl rfl) rfl rfl hl.1 rfl (lv_room (Nat.le_of_ble_eq_true rfl)) dL_law_1127 ⟨(Nat.le_of_ble_eq_true rfl), (Nat.le_of_ble_eq_true rfl)⟩) hP hD hS hA [1] [0] rfl rfl (by decide) (by decide) (fun r5 u3 H locs p4 hP hD hS => ?_)
  try dsimp only at p4
  have p6 := p4
  refine W.widen (k := 172) (n := 6147) (Nat.le_of_ble_eq_true rfl) (Nat.le_of_ble_eq_true rfl) ?_
  have hP : va_P (dC, dI) vwCl [(t, .inr (11, [.ref reader, .int (nI 0), .int (nI 0), .ref sea, .ref spareSea, .ref seaText, .ref book, .ref sentence, .ref spareSentence, .ref route, .ref meeting, .ref sighting, .ref draws, .ref history, .ref images, .ref chartBytes, .int (nI 0), .int (-1 : Int32)]))] H := hP
  have hD : va_D A [(t, .inr (11, [.ref reader, .int (nI 0), .int (nI 0), .ref sea, .ref spareSea, .ref seaText, .ref book, .ref sentence, .ref spareSentence, .ref route, .ref meeting, .ref sighting, .ref draws, .ref history, .ref images, .ref chartBytes, .int (nI 0), .int (-1 : Int32)]))] := hD
  subst p6
  refine lv_icmp_eq (tgt := 1434) hx hb dL_law_1130 (by decide) (fun c7 => ?_) (fun c7 => absurd (by decide) c7)
  refine lv_iinc (v := nI 6) (lv' := [(4, .int (nI 6)), (3, .ref out), (2, .ref o), (1, .ref t), (0, .ref b)]) hx hb dL_law_1434 hl (k := 0) rfl (by decide) (by decide) rfl (fun ls hl => ?_)
  refine lv_goto (tgt := 23) hx hb dL_law_1437 (by decide) ?_
  refine lv_iload hx hb dL_law_23 (lv_at hl 0 rfl) ?_
  refine lv_aload_n hx hb dL_law_25 rfl (lv_at hl 4 rfl) ?_
  refine va_slen hx hb hX hbl hbA hS dL_law_26 ?_
  refine r_ti (nI 6) rfl ?_
  refine lv_bipush (v := nI 6) hx hb dL_law_27 (by decide) ?_
  refine lv_isub hx hb dL_law_29 ?_
  refine r_ti (nI 0) (by decide) ?_
  refine lv_icmp_gt (tgt := 1440) hx hb dL_law_30 (by decide) (fun c8 => ?_) (fun c8 => absurd (by decide) c8)
  exact kx H locs ls hS
set_option maxHeartbeats 4000000 in
set_option maxRecDepth 100000 in
theorem law_29 {p : Program} {l : Launch} {e : Env} {s : State} {m : MethodId} {args : Array Value} {below : List Frame} {meth : Method} {c : Code} {Q : State → Prop} {dC : Nat → ClassId} {dI : Nat → Nat → Nat} {ky : Nat → ClassId} {A : Nat → Prop} {b : Nat} {xs : Nat → Int32} (hx : p.tables.exec = Jvm.exec) (hb : c.code = cL_law) (hml : c.maxLocals = 7) (hown : s.vm.findClass RL = some m.cls) (hts : ∀ w ∈ lw_tbl, w.before args s = true) (hK : Kk dC dI ky s) (hA : ∀ q, s.heap.size ≤ q → A q) (hX : va_X b 6 xs s s.heap) (hbl : b < s.heap.size) (hbA : ¬ A b) (reader : Nat) (sea : Nat) (spareSea : Nat) (seaText : Nat) (book : Nat) (sentence : Nat) (spareSentence : Nat) (route : Nat) (meeting : Nat) (sighting : Nat) (draws : Nat) (history : Nat) (images : Nat) (chartBytes : Nat) (thickness : Nat) (lumpNames : Nat) (lumpCells : Nat) (boatNames : Nat) (boatCells : Nat) (loads : Nat) (spoons : Nat) (spoonsLeft : Nat) (depths : Nat) (ktape : Nat) (know : Nat) (kread : Nat) (kkept : Nat) (ksnaps : Nat) (kaside : Nat) (kname : Nat) (kreadName : Nat) (kkeptName : Nat) (kisKept : Nat) (konces : Nat) (kpoured : Nat) (kfar : Nat) (ksides : Nat) (klines : Nat) (kmet : Nat) (ksunk : Nat) (ktrying : Nat) (ktext : Nat) (kline : Nat) (kwritten : Nat) (knode : Nat) (knowG : Nat → Int32) (t : Nat) (o : Nat) (out : Nat) (hN : NowOk knowG) (x1 x2 x3 x4 x5 : Int32) (hx1 : xs 1 = x1) (hx2 : xs 2 = x2) (hx3 : xs 3 = x3) (hx4 : xs 4 = x4) (hx5 : xs 5 = x5) (kx : ∀ (H : Heap) (locs : List Loc) (ls : Array Slot), va_S A s.heap H locs → W p l e room_1 s m args below meth c H locs 172 6147 Q (F0 m 1440 ls [])) : ∀ (H : Heap) (locs : List Loc) (ls : Array Slot), va_P (dC, dI) vwCl [(t, .inr (11, [.ref reader, .int (nI 0), .int (nI 0), .ref sea, .ref spareSea, .ref seaText, .ref book, .ref sentence, .ref spareSentence, .ref route, .ref meeting, .ref sighting, .ref draws, .ref history, .ref images, .ref chartBytes, .int (nI 0), .int (-1 : Int32)])), (sea, .inr (7, [.int (nI 4), .int (nI 4), .int (nI 10), .int (nI 1), .int (nI 3), .int (nI 0), .int (nI 0), .int (nI 0), .int (nI 0), .int (nI 0), .ref thickness, .ref lumpNames, .ref lumpCells, .ref boatNames, .ref boatCells, .ref loads, .ref spoons, .ref spoonsLeft, .ref depths])), (o, .inr (12, [.int (nI 0), .ref ktape, .int (nI 0), .int (nI 0), .int (nI 0), .int (nI 0), .int (nI 0), .int (nI 0), .int (nI 0), .int (nI 0), .int (nI 0), .int (nI 0), .long 0, .int (nI 0), .ref know, .ref kread, .ref kkept, .ref ksnaps, .ref kaside, .ref kname, .ref kreadName, .ref kkeptName, .ref kisKept, .ref konces, .int (nI 0), .int (nI 0), .ref kpoured, .ref kfar, .ref ksides, .int (nI 0), .int (-1 : Int32), .int (nI 0), .ref klines, .ref kmet, .int (nI 0), .ref ksunk, .ref ktrying, .int (nI 0), .int (-1 : Int32), .int (-1 : Int32), .ref ktext, .int (nI 0), .int (nI 0), .ref kline, .ref kwritten, .int (nI 0), .int (nI 0), .ref knode, .int (nI 0), .int (nI 0), .int (nI 0), .int (nI 0)])), (know, .inl (ky 0, 373, .inl knowG))] H → va_D A [(t, .inr (11, [.ref reader, .int (nI 0), .int (nI 0), .ref sea, .ref spareSea, .ref seaText, .ref book, .ref sentence, .ref spareSentence, .ref route, .ref meeting, .ref sighting, .ref draws, .ref history, .ref images, .ref chartBytes, .int (nI 0), .int (-1 : Int32)])), (sea, .inr (7, [.int (nI 4), .int (nI 4), .int (nI 10), .int (nI 1), .int (nI 3), .int (nI 0), .int (nI 0), .int (nI 0), .int (nI 0), .int (nI 0), .ref thickness, .ref lumpNames, .ref lumpCells, .ref boatNames, .ref boatCells, .ref loads, .ref spoons, .ref spoonsLeft, .ref depths])), (o, .inr (12, [.int (nI 0), .ref ktape, .int (nI 0), .int (nI 0), .int (nI 0), .int (nI 0), .int (nI 0), .int (nI 0), .int (nI 0), .int (nI 0), .int (nI 0), .int (nI 0), .long 0, .int (nI 0), .ref know, .ref kread, .ref kkept, .ref ksnaps, .ref kaside, .ref kname, .ref kreadName, .ref kkeptName, .ref kisKept, .ref konces, .int (nI 0), .int (nI 0), .ref kpoured, .ref kfar, .ref ksides, .int (nI 0), .int (-1 : Int32), .int (nI 0), .ref klines, .ref kmet, .int (nI 0), .ref ksunk, .ref ktrying, .int (nI 0), .int (-1 : Int32), .int (-1 : Int32), .ref ktext, .int (nI 0), .int (nI 0), .ref kline, .ref kwritten, .int (nI 0), .int (nI 0), .ref knode, .int (nI 0), .int (nI 0), .int (nI 0), .int (nI 0)])), (know, .inl (ky 0, 373, .inl knowG))] → va_S A s.heap H locs → lv_has ls 7 [(4, .int (nI 0)), (3, .ref out), (2, .ref o), (1, .ref t), (0, .ref b)] → W p l e room_1 s m args below meth c H locs 172 6147 Q (F0 m 1135 ls []) := by
  intro H locs ls hP hD hS hl
  refine lv_aload_n hx hb dL_law_1135 rfl (lv_at hl 3 rfl) ?_
  refine lv_aload_n hx hb dL_law_1136 rfl (lv_at hl 4 rfl) ?_
  refine lv_iload hx hb dL_law_1137 (lv_at hl 0 rfl) ?_
  refine lv_iconst (v := nI 1) hx hb dL_law_1139 (by decide) ?_
  refine lv_iadd hx hb dL_law_1140 ?_
  refine r_ti (nI 1) (by decide) ?_
  refine r_sld hx hb hX hbl hbA hS 1 (by decide) (by decide) x1 hx1 dL_law_1141 ?_
  refine vp_callSi (W.runV (As := [.int x1]) (rest := []) ⟨hx, hb, hml, hown, hts⟩ (c_chart l dC dI ky t reader sea spareSea seaText book sentence spareSentence route meeting sighting draws history images chartBytes thickness lumpNames lumpCells boatNames boatCells loads spoons spoonsLeft depths x1) (cwV 1 hts gl_X11_chart rfl rfl rfl (by decide +kernel) ⟨(Nat.le_of_ble_eq_true rfl), (Nat.le_of_ble_eq_true rfl)⟩) (pre_PV hK hP [0, 1] rfl (ci := 11) (q0 := 0) rfl rfl) rfl rfl hl.1 rfl (lv_room (Nat.le_of_ble_eq_true rfl)) dL_law_1142 ⟨(Nat.le_of_ble_eq_true rfl), (Nat.le_of_ble_eq_true rfl)⟩) (fun r1 p2 => ?_)
  subst p2
  refine lv_aload_n hx hb dL_law_1145 rfl (lv_at hl 2 rfl) ?_
  refine lv_aload_n hx hb dL_law_1146 rfl (lv_at hl 4 rfl) ?_
  refine lv_iload hx hb dL_law_1147 (lv_at hl 0 rfl) ?_
  refine lv_iconst (v := nI 1) hx hb dL_law_1149 (by decide) ?_
  refine lv_iadd hx hb dL_law_1150 ?_
  refine r_ti (nI 1) (by decide) ?_
  refine r_sld hx hb hX hbl hbA hS 1 (by decide) (by decide) x1 hx1 dL_law_1151 ?_
  refine r_call_i (wr := [(t, .inr (11, [.ref reader, .int (nI 0), .int (nI 0), .ref sea, .ref spareSea, .ref seaText, .ref book, .ref sentence, .ref spareSentence, .ref route, .ref meeting, .ref sighting, .ref draws, .ref history, .ref images, .ref chartBytes, .int (nI 0), .int (-1 : Int32)])), (sea, .inr (7, [.int (nI 4), .int (nI 4), .int (nI 10), .int (nI 1), .int (nI 3), .int (nI 0), .int (nI 0), .int (nI 0), .int (nI 0), .int (nI 0), .ref thickness, .ref lumpNames, .ref lumpCells, .ref boatNames, .ref boatCells, .ref loads, .ref spoons, .ref spoonsLeft, .ref depths]))]) (va_runV (As := [.int x1]) (rest := [.int (-1 : Int32)]) ⟨hx, hb, hml, hown, hts⟩ (c_m_chart l dC dI ky H.size o ktape know kread kkept ksnaps kaside kname kreadName kkeptName kisKept konces kpoured kfar ksides klines kmet ksunk ktrying ktext kline kwritten knode knowG x1 hN) (cwV 1 hts gl_X12_chart rfl rfl rfl (by decide +kernel) ⟨(Nat.le_of_ble_eq_true rfl), (Nat.le_of_ble_eq_true rfl)⟩) (pre_UV hK hP hD [2, 3] (by decide) rfl (ci := 12) (q0 := 2) rfl rfl) rfl rfl hl.1 rfl (lv_room (Nat.le_of_ble_eq_true rfl)) dL_law_1152 ⟨(Nat.le_of_ble_eq_true rfl), (Nat.le_of_ble_eq_true rfl)⟩) hP hD hS hA [2, 3] [0, 1] rfl rfl (by decide) (by decide) (fun r5 u3 H locs p4 hP hD hS => ?_)
  try dsimp only at p4
  have p6 := p4
  refine W.widen (k := 172) (n := 6147) (Nat.le_of_ble_eq_true rfl) (Nat.le_of_ble_eq_true rfl) ?_
  have hP : va_P (dC, dI) vwCl [(t, .inr (11, [.ref reader, .int (nI 0), .int (nI 0), .ref sea, .ref spareSea, .ref seaText, .ref book, .ref sentence, .ref spareSentence, .ref route, .ref meeting, .ref sighting, .ref draws, .ref history, .ref images, .ref chartBytes, .int (nI 0), .int (-1 : Int32)])), (sea, .inr (7, [.int (nI 4), .int (nI 4), .int (nI 10), .int (nI 1), .int (nI 3), .int (nI 0), .int (nI 0), .int (nI 0), .int (nI 0), .int (nI 0), .ref thickness, .ref lumpNames, .ref lumpCells, .ref boatNames, .ref boatCells, .ref loads, .ref spoons, .ref spoonsLeft, .ref depths]))] H := hP
  have hD : va_D A [(t, .inr (11, [.ref reader, .int (nI 0), .int (nI 0), .ref sea, .ref spareSea, .ref seaText, .ref book, .ref sentence, .ref spareSentence, .ref route, .ref meeting, .ref sighting, .ref draws, .ref history, .ref images, .ref chartBytes, .int (nI 0), .int (-1 : Int32)])), (sea, .inr (7, [.int (nI 4), .int (nI 4), .int (nI 10), .int (nI 1), .int (nI 3), .int (nI 0), .int (nI 0), .int (nI 0), .int (nI 0), .int (nI 0), .ref thickness, .ref lumpNames, .ref lumpCells, .ref boatNames, .ref boatCells, .ref loads, .ref spoons, .ref spoonsLeft, .ref depths]))] := hD
  subst p6
  refine lv_icmp_eq (tgt := 1434) hx hb dL_law_1155 (by decide) (fun c7 => ?_) (fun c7 => absurd (by decide) c7)
  refine lv_iinc (v := nI 6) (lv' := [(4, .int (nI 6)), (3, .ref out), (2, .ref o), (1, .ref t), (0, .ref b)]) hx hb dL_law_1434 hl (k := 0) rfl (by decide) (by decide) rfl (fun ls hl => ?_)
  refine lv_goto (tgt := 23) hx hb dL_law_1437 (by decide) ?_
  refine lv_iload hx hb dL_law_23 (lv_at hl 0 rfl) ?_
  refine lv_aload_n hx hb dL_law_25 rfl (lv_at hl 4 rfl) ?_
  refine va_slen hx hb hX hbl hbA hS dL_law_26 ?_
  refine r_ti (nI 6) rfl ?_
  refine lv_bipush (v := nI 6) hx hb dL_law_27 (by decide) ?_
  refine lv_isub hx hb dL_law_29 ?_
  refine r_ti (nI 0) (by decide) ?_
  refine lv_icmp_gt (tgt := 1440) hx hb dL_law_30 (by decide) (fun c8 => ?_) (fun c8 => absurd (by decide) c8)
  exact kx H locs ls hS
set_option maxHeartbeats 4000000 in
set_option maxRecDepth 100000 in
theorem law_30 {p : Program} {l : Launch} {e : Env} {s : State} {m : MethodId} {args : Array Value} {below : List Frame} {meth : Method} {c : Code} {Q : State → Prop} {dC : Nat → ClassId} {dI : Nat → Nat → Nat} {ky : Nat → ClassId} {A : Nat → Prop} {b : Nat} {xs : Nat → Int32} (hx : p.tables.exec = Jvm.exec) (hb : c.code = cL_law) (hml : c.maxLocals = 7) (hown : s.vm.findClass RL = some m.cls) (hts : ∀ w ∈ lw_tbl, w.before args s = true) (hK : Kk dC dI ky s) (hA : ∀ q, s.heap.size ≤ q → A q) (hX : va_X b 6 xs s s.heap) (hbl : b < s.heap.size) (hbA : ¬ A b) (reader : Nat) (sea : Nat) (spareSea : Nat) (seaText : Nat) (book : Nat) (sentence : Nat) (spareSentence : Nat) (route : Nat) (meeting : Nat) (sighting : Nat) (draws : Nat) (history : Nat) (images : Nat) (chartBytes : Nat) (ktape : Nat) (know : Nat) (kread : Nat) (kkept : Nat) (ksnaps : Nat) (kaside : Nat) (kname : Nat) (kreadName : Nat) (kkeptName : Nat) (kisKept : Nat) (konces : Nat) (kpoured : Nat) (kfar : Nat) (ksides : Nat) (klines : Nat) (kmet : Nat) (ksunk : Nat) (ktrying : Nat) (ktext : Nat) (kline : Nat) (kwritten : Nat) (knode : Nat) (t : Nat) (o : Nat) (out : Nat)  (x1 x2 x3 x4 x5 : Int32) (hx1 : xs 1 = x1) (hx2 : xs 2 = x2) (hx3 : xs 3 = x3) (hx4 : xs 4 = x4) (hx5 : xs 5 = x5) (kx : ∀ (H : Heap) (locs : List Loc) (ls : Array Slot), va_S A s.heap H locs → W p l e room_1 s m args below meth c H locs 172 6147 Q (F0 m 1440 ls [])) : ∀ (H : Heap) (locs : List Loc) (ls : Array Slot), va_P (dC, dI) vwCl [(t, .inr (11, [.ref reader, .int (nI 0), .int (nI 0), .ref sea, .ref spareSea, .ref seaText, .ref book, .ref sentence, .ref spareSentence, .ref route, .ref meeting, .ref sighting, .ref draws, .ref history, .ref images, .ref chartBytes, .int (nI 0), .int (-1 : Int32)])), (o, .inr (12, [.int (nI 0), .ref ktape, .int (nI 0), .int (nI 0), .int (nI 0), .int (nI 0), .int (nI 0), .int (nI 0), .int (nI 0), .int (nI 0), .int (nI 0), .int (nI 0), .long 0, .int (nI 0), .ref know, .ref kread, .ref kkept, .ref ksnaps, .ref kaside, .ref kname, .ref kreadName, .ref kkeptName, .ref kisKept, .ref konces, .int (nI 0), .int (nI 0), .ref kpoured, .ref kfar, .ref ksides, .int (nI 0), .int (-1 : Int32), .int (nI 0), .ref klines, .ref kmet, .int (nI 0), .ref ksunk, .ref ktrying, .int (nI 0), .int (-1 : Int32), .int (-1 : Int32), .ref ktext, .int (nI 0), .int (nI 0), .ref kline, .ref kwritten, .int (nI 0), .int (nI 0), .ref knode, .int (nI 0), .int (nI 0), .int (nI 0), .int (nI 0)]))] H → va_D A [(t, .inr (11, [.ref reader, .int (nI 0), .int (nI 0), .ref sea, .ref spareSea, .ref seaText, .ref book, .ref sentence, .ref spareSentence, .ref route, .ref meeting, .ref sighting, .ref draws, .ref history, .ref images, .ref chartBytes, .int (nI 0), .int (-1 : Int32)])), (o, .inr (12, [.int (nI 0), .ref ktape, .int (nI 0), .int (nI 0), .int (nI 0), .int (nI 0), .int (nI 0), .int (nI 0), .int (nI 0), .int (nI 0), .int (nI 0), .int (nI 0), .long 0, .int (nI 0), .ref know, .ref kread, .ref kkept, .ref ksnaps, .ref kaside, .ref kname, .ref kreadName, .ref kkeptName, .ref kisKept, .ref konces, .int (nI 0), .int (nI 0), .ref kpoured, .ref kfar, .ref ksides, .int (nI 0), .int (-1 : Int32), .int (nI 0), .ref klines, .ref kmet, .int (nI 0), .ref ksunk, .ref ktrying, .int (nI 0), .int (-1 : Int32), .int (-1 : Int32), .ref ktext, .int (nI 0), .int (nI 0), .ref kline, .ref kwritten, .int (nI 0), .int (nI 0), .ref knode, .int (nI 0), .int (nI 0), .int (nI 0), .int (nI 0)]))] → va_S A s.heap H locs → lv_has ls 7 [(4, .int (nI 0)), (3, .ref out), (2, .ref o), (1, .ref t), (0, .ref b)] → W p l e room_1 s m args below meth c H locs 172 6147 Q (F0 m 1160 ls []) := by
  intro H locs ls hP hD hS hl
  refine lv_aload_n hx hb dL_law_1160 rfl (lv_at hl 3 rfl) ?_
  refine lv_aload_n hx hb dL_law_1161 rfl (lv_at hl 4 rfl) ?_
  refine lv_iload hx hb dL_law_1162 (lv_at hl 0 rfl) ?_
  refine lv_iconst (v := nI 1) hx hb dL_law_1164 (by decide) ?_
  refine lv_iadd hx hb dL_law_1165 ?_
  refine r_ti (nI 1) (by decide) ?_
  refine r_sld hx hb hX hbl hbA hS 1 (by decide) (by decide) x1 hx1 dL_law_1166 ?_
  refine vp_callSi (W.runV (As := [.int x1]) (rest := []) ⟨hx, hb, hml, hown, hts⟩ (c_byteAt l dC dI ky t reader sea spareSea seaText book sentence spareSentence route meeting sighting draws history images chartBytes x1) (cwV 1 hts gl_X11_byteAt rfl rfl rfl (by decide +kernel) ⟨(Nat.le_of_ble_eq_true rfl), (Nat.le_of_ble_eq_true rfl)⟩) (pre_PV hK hP [0] rfl (ci := 11) (q0 := 0) rfl rfl) rfl rfl hl.1 rfl (lv_room (Nat.le_of_ble_eq_true rfl)) dL_law_1167 ⟨(Nat.le_of_ble_eq_true rfl), (Nat.le_of_ble_eq_true rfl)⟩) (fun r1 p2 => ?_)
  subst p2
  refine lv_aload_n hx hb dL_law_1170 rfl (lv_at hl 2 rfl) ?_
  refine lv_aload_n hx hb dL_law_1171 rfl (lv_at hl 4 rfl) ?_
  refine lv_iload hx hb dL_law_1172 (lv_at hl 0 rfl) ?_
  refine lv_iconst (v := nI 1) hx hb dL_law_1174 (by decide) ?_
  refine lv_iadd hx hb dL_law_1175 ?_
  refine r_ti (nI 1) (by decide) ?_
  refine r_sld hx hb hX hbl hbA hS 1 (by decide) (by decide) x1 hx1 dL_law_1176 ?_
  refine r_call_i (wr := [(t, .inr (11, [.ref reader, .int (nI 0), .int (nI 0), .ref sea, .ref spareSea, .ref seaText, .ref book, .ref sentence, .ref spareSentence, .ref route, .ref meeting, .ref sighting, .ref draws, .ref history, .ref images, .ref chartBytes, .int (nI 0), .int (-1 : Int32)]))]) (va_runV (As := [.int x1]) (rest := [.int (-1 : Int32)]) ⟨hx, hb, hml, hown, hts⟩ (c_m_byteAt l dC dI ky H.size o ktape know kread kkept ksnaps kaside kname kreadName kkeptName kisKept konces kpoured kfar ksides klines kmet ksunk ktrying ktext kline kwritten knode x1) (cwV 1 hts gl_X12_byteAt rfl rfl rfl (by decide +kernel) ⟨(Nat.le_of_ble_eq_true rfl), (Nat.le_of_ble_eq_true rfl)⟩) (pre_UV hK hP hD [1] (by decide) rfl (ci := 12) (q0 := 1) rfl rfl) rfl rfl hl.1 rfl (lv_room (Nat.le_of_ble_eq_true rfl)) dL_law_1177 ⟨(Nat.le_of_ble_eq_true rfl), (Nat.le_of_ble_eq_true rfl)⟩) hP hD hS hA [1] [0] rfl rfl (by decide) (by decide) (fun r5 u3 H locs p4 hP hD hS => ?_)
  try dsimp only at p4
  have p6 := p4
  refine W.widen (k := 172) (n := 6147) (Nat.le_of_ble_eq_true rfl) (Nat.le_of_ble_eq_true rfl) ?_
  have hP : va_P (dC, dI) vwCl [(t, .inr (11, [.ref reader, .int (nI 0), .int (nI 0), .ref sea, .ref spareSea, .ref seaText, .ref book, .ref sentence, .ref spareSentence, .ref route, .ref meeting, .ref sighting, .ref draws, .ref history, .ref images, .ref chartBytes, .int (nI 0), .int (-1 : Int32)]))] H := hP
  have hD : va_D A [(t, .inr (11, [.ref reader, .int (nI 0), .int (nI 0), .ref sea, .ref spareSea, .ref seaText, .ref book, .ref sentence, .ref spareSentence, .ref route, .ref meeting, .ref sighting, .ref draws, .ref history, .ref images, .ref chartBytes, .int (nI 0), .int (-1 : Int32)]))] := hD
  subst p6
  refine lv_icmp_eq (tgt := 1434) hx hb dL_law_1180 (by decide) (fun c7 => ?_) (fun c7 => absurd (by decide) c7)
  refine lv_iinc (v := nI 6) (lv' := [(4, .int (nI 6)), (3, .ref out), (2, .ref o), (1, .ref t), (0, .ref b)]) hx hb dL_law_1434 hl (k := 0) rfl (by decide) (by decide) rfl (fun ls hl => ?_)
  refine lv_goto (tgt := 23) hx hb dL_law_1437 (by decide) ?_
  refine lv_iload hx hb dL_law_23 (lv_at hl 0 rfl) ?_
  refine lv_aload_n hx hb dL_law_25 rfl (lv_at hl 4 rfl) ?_
  refine va_slen hx hb hX hbl hbA hS dL_law_26 ?_
  refine r_ti (nI 6) rfl ?_
  refine lv_bipush (v := nI 6) hx hb dL_law_27 (by decide) ?_
  refine lv_isub hx hb dL_law_29 ?_
  refine r_ti (nI 0) (by decide) ?_
  refine lv_icmp_gt (tgt := 1440) hx hb dL_law_30 (by decide) (fun c8 => ?_) (fun c8 => absurd (by decide) c8)
  exact kx H locs ls hS
set_option maxRecDepth 20000 in
theorem lf_law_31_1 (reader : Nat) (sea : Nat) (spareSea : Nat) (seaText : Nat) (book : Nat) (sentence : Nat) (spareSentence : Nat) (route : Nat) (meeting : Nat) (sighting : Nat) (draws : Nat) (history : Nat) (images : Nat) (chartBytes : Nat) (ring : Nat) (rg : Nat) (ringF : Nat → Option Nat) (thickness : Nat) (lumpNames : Nat) (lumpCells : Nat) (boatNames : Nat) (boatCells : Nat) (loads : Nat) (spoons : Nat) (spoonsLeft : Nat) (depths : Nat) (thicknessG : Nat → Int32) (lumpNamesG : Nat → Int64) (lumpCellsG : Nat → Int32) (boatNamesG : Nat → Int64) (boatCellsG : Nat → Int32) (loadsG : Nat → Int32) (spoonsG : Nat → Int32) (spoonsLeftG : Nat → Int32) (depthsG : Nat → Int32) (gthickness : Nat) (glumpNames : Nat) (glumpCells : Nat) (gboatNames : Nat) (gboatCells : Nat) (gloads : Nat) (gspoons : Nat) (gspoonsLeft : Nat) (gdepths : Nat) (gthicknessG : Nat → Int32) (glumpNamesG : Nat → Int64) (glumpCellsG : Nat → Int32) (gboatNamesG : Nat → Int64) (gboatCellsG : Nat → Int32) (gloadsG : Nat → Int32) (gspoonsG : Nat → Int32) (gspoonsLeftG : Nat → Int32) (gdepthsG : Nat → Int32) (ktape : Nat) (know : Nat) (kread : Nat) (kkept : Nat) (ksnaps : Nat) (kaside : Nat) (kname : Nat) (kreadName : Nat) (kkeptName : Nat) (kisKept : Nat) (konces : Nat) (kpoured : Nat) (kfar : Nat) (ksides : Nat) (klines : Nat) (kmet : Nat) (ksunk : Nat) (ktrying : Nat) (ktext : Nat) (kline : Nat) (kwritten : Nat) (knode : Nat) (knowG : Nat → Int32) (ksnapsG : Nat → Int32) (kpouredG : Nat → Int32) (t : Nat) (o : Nat) (out : Nat) (x1 : Int32) (x2 : Int32) (x3 : Int32) (x4 : Int32) (x5 : Int32) (r3 : Int32) (r7 : Int32) (hz : ∀ j, j < 36 → thicknessG j = nI 0) (hr0 : ringF 0 = some rg) (hN : NowOk knowG) (p4 : (r3 = (-1 : Int32) ∧ ¬ (1 ≤ x1.toInt ∧ x1.toInt ≤ 60)) ∨ (r3 = x1 ∧ 1 ≤ x1.toInt ∧ x1.toInt ≤ 60)) (p8 : (r7 = (-1 : Int32) ∧ ¬ (1 ≤ x1.toInt ∧ x1.toInt ≤ 60)) ∨ (r7 = x1 ∧ 1 ≤ x1.toInt ∧ x1.toInt ≤ 60)) (c9 : ¬ r3 = r7) : False := by
  have k_0 := ia_n 0 (by decide)
  try simp only [ia_lt, ia_le, ia_eq, ia_m1, ia_0, ia_1, ne_eq, true_and, and_true, false_and, and_false, or_false, false_or, or_true, true_or, not_true_eq_false, not_false_eq_true] at *
  all_goals omega
set_option maxHeartbeats 4000000 in
set_option maxRecDepth 100000 in
theorem law_31 {p : Program} {l : Launch} {e : Env} {s : State} {m : MethodId} {args : Array Value} {below : List Frame} {meth : Method} {c : Code} {Q : State → Prop} {dC : Nat → ClassId} {dI : Nat → Nat → Nat} {ky : Nat → ClassId} {A : Nat → Prop} {b : Nat} {xs : Nat → Int32} (hx : p.tables.exec = Jvm.exec) (hb : c.code = cL_law) (hml : c.maxLocals = 7) (hown : s.vm.findClass RL = some m.cls) (hts : ∀ w ∈ lw_tbl, w.before args s = true) (hK : Kk dC dI ky s) (hA : ∀ q, s.heap.size ≤ q → A q) (hX : va_X b 6 xs s s.heap) (hbl : b < s.heap.size) (hbA : ¬ A b) (reader : Nat) (sea : Nat) (spareSea : Nat) (seaText : Nat) (book : Nat) (sentence : Nat) (spareSentence : Nat) (route : Nat) (meeting : Nat) (sighting : Nat) (draws : Nat) (history : Nat) (images : Nat) (chartBytes : Nat) (ring : Nat) (rg : Nat) (ringF : Nat → Option Nat) (thickness : Nat) (lumpNames : Nat) (lumpCells : Nat) (boatNames : Nat) (boatCells : Nat) (loads : Nat) (spoons : Nat) (spoonsLeft : Nat) (depths : Nat) (thicknessG : Nat → Int32) (lumpNamesG : Nat → Int64) (lumpCellsG : Nat → Int32) (boatNamesG : Nat → Int64) (boatCellsG : Nat → Int32) (loadsG : Nat → Int32) (spoonsG : Nat → Int32) (spoonsLeftG : Nat → Int32) (depthsG : Nat → Int32) (gthickness : Nat) (glumpNames : Nat) (glumpCells : Nat) (gboatNames : Nat) (gboatCells : Nat) (gloads : Nat) (gspoons : Nat) (gspoonsLeft : Nat) (gdepths : Nat) (gthicknessG : Nat → Int32) (glumpNamesG : Nat → Int64) (glumpCellsG : Nat → Int32) (gboatNamesG : Nat → Int64) (gboatCellsG : Nat → Int32) (gloadsG : Nat → Int32) (gspoonsG : Nat → Int32) (gspoonsLeftG : Nat → Int32) (gdepthsG : Nat → Int32) (ktape : Nat) (know : Nat) (kread : Nat) (kkept : Nat) (ksnaps : Nat) (kaside : Nat) (kname : Nat) (kreadName : Nat) (kkeptName : Nat) (kisKept : Nat) (konces : Nat) (kpoured : Nat) (kfar : Nat) (ksides : Nat) (klines : Nat) (kmet : Nat) (ksunk : Nat) (ktrying : Nat) (ktext : Nat) (kline : Nat) (kwritten : Nat) (knode : Nat) (knowG : Nat → Int32) (ksnapsG : Nat → Int32) (kpouredG : Nat → Int32) (t : Nat) (o : Nat) (out : Nat) (hz : ∀ j, j < 36 → thicknessG j = nI 0) (hr0 : ringF 0 = some rg) (hN : NowOk knowG) (x1 x2 x3 x4 x5 : Int32) (hx1 : xs 1 = x1) (hx2 : xs 2 = x2) (hx3 : xs 3 = x3) (hx4 : xs 4 = x4) (hx5 : xs 5 = x5) (kx : ∀ (H : Heap) (locs : List Loc) (ls : Array Slot), va_S A s.heap H locs → W p l e room_1 s m args below meth c H locs 172 6147 Q (F0 m 1440 ls [])) : ∀ (H : Heap) (locs : List Loc) (ls : Array Slot), va_P (dC, dI) vwCl [(t, .inr (11, [.ref reader, .int (nI 0), .int (nI 0), .ref sea, .ref spareSea, .ref seaText, .ref book, .ref sentence, .ref spareSentence, .ref route, .ref meeting, .ref sighting, .ref draws, .ref history, .ref images, .ref chartBytes, .int (nI 0), .int (-1 : Int32)])), (sea, .inr (7, [.int (nI 4), .int (nI 4), .int (nI 10), .int (nI 1), .int (nI 3), .int (nI 0), .int (nI 0), .int (nI 0), .int (nI 0), .int (nI 0), .ref thickness, .ref lumpNames, .ref lumpCells, .ref boatNames, .ref boatCells, .ref loads, .ref spoons, .ref spoonsLeft, .ref depths])), (thickness, .inl (ky 0, 36, .inl thicknessG)), (lumpNames, .inl (ky 1, 6, .inr (.inl lumpNamesG))), (lumpCells, .inl (ky 0, 6, .inl lumpCellsG)), (boatNames, .inl (ky 1, 6, .inr (.inl boatNamesG))), (boatCells, .inl (ky 0, 6, .inl boatCellsG)), (loads, .inl (ky 0, 6, .inl loadsG)), (spoons, .inl (ky 0, 6, .inl spoonsG)), (spoonsLeft, .inl (ky 0, 6, .inl spoonsLeftG)), (depths, .inl (ky 0, 6, .inl depthsG)), (draws, .inr (1, [.int (nI 0)])), (history, .inr (2, [.ref ring, .int (nI 0), .int (nI 0)])), (ring, .inl (ky 4, 8, .inr (.inr (.inr (.inr ringF))))), (rg, .inr (7, [.int (nI 4), .int (nI 4), .int (nI 10), .int (nI 1), .int (nI 3), .int (nI 0), .int (nI 0), .int (nI 0), .int (nI 0), .int (nI 0), .ref gthickness, .ref glumpNames, .ref glumpCells, .ref gboatNames, .ref gboatCells, .ref gloads, .ref gspoons, .ref gspoonsLeft, .ref gdepths])), (gthickness, .inl (ky 0, 36, .inl gthicknessG)), (glumpNames, .inl (ky 1, 6, .inr (.inl glumpNamesG))), (glumpCells, .inl (ky 0, 6, .inl glumpCellsG)), (gboatNames, .inl (ky 1, 6, .inr (.inl gboatNamesG))), (gboatCells, .inl (ky 0, 6, .inl gboatCellsG)), (gloads, .inl (ky 0, 6, .inl gloadsG)), (gspoons, .inl (ky 0, 6, .inl gspoonsG)), (gspoonsLeft, .inl (ky 0, 6, .inl gspoonsLeftG)), (gdepths, .inl (ky 0, 6, .inl gdepthsG)), (o, .inr (12, [.int (nI 0), .ref ktape, .int (nI 0), .int (nI 0), .int (nI 0), .int (nI 0), .int (nI 0), .int (nI 0), .int (nI 0), .int (nI 0), .int (nI 0), .int (nI 0), .long 0, .int (nI 0), .ref know, .ref kread, .ref kkept, .ref ksnaps, .ref kaside, .ref kname, .ref kreadName, .ref kkeptName, .ref kisKept, .ref konces, .int (nI 0), .int (nI 0), .ref kpoured, .ref kfar, .ref ksides, .int (nI 0), .int (-1 : Int32), .int (nI 0), .ref klines, .ref kmet, .int (nI 0), .ref ksunk, .ref ktrying, .int (nI 0), .int (-1 : Int32), .int (-1 : Int32), .ref ktext, .int (nI 0), .int (nI 0), .ref kline, .ref kwritten, .int (nI 0), .int (nI 0), .ref knode, .int (nI 0), .int (nI 0), .int (nI 0), .int (nI 0)])), (know, .inl (ky 0, 373, .inl knowG)), (ksnaps, .inl (ky 0, 512, .inl ksnapsG)), (kpoured, .inl (ky 0, 36, .inl kpouredG))] H → va_D A [(t, .inr (11, [.ref reader, .int (nI 0), .int (nI 0), .ref sea, .ref spareSea, .ref seaText, .ref book, .ref sentence, .ref spareSentence, .ref route, .ref meeting, .ref sighting, .ref draws, .ref history, .ref images, .ref chartBytes, .int (nI 0), .int (-1 : Int32)])), (sea, .inr (7, [.int (nI 4), .int (nI 4), .int (nI 10), .int (nI 1), .int (nI 3), .int (nI 0), .int (nI 0), .int (nI 0), .int (nI 0), .int (nI 0), .ref thickness, .ref lumpNames, .ref lumpCells, .ref boatNames, .ref boatCells, .ref loads, .ref spoons, .ref spoonsLeft, .ref depths])), (thickness, .inl (ky 0, 36, .inl thicknessG)), (lumpNames, .inl (ky 1, 6, .inr (.inl lumpNamesG))), (lumpCells, .inl (ky 0, 6, .inl lumpCellsG)), (boatNames, .inl (ky 1, 6, .inr (.inl boatNamesG))), (boatCells, .inl (ky 0, 6, .inl boatCellsG)), (loads, .inl (ky 0, 6, .inl loadsG)), (spoons, .inl (ky 0, 6, .inl spoonsG)), (spoonsLeft, .inl (ky 0, 6, .inl spoonsLeftG)), (depths, .inl (ky 0, 6, .inl depthsG)), (draws, .inr (1, [.int (nI 0)])), (history, .inr (2, [.ref ring, .int (nI 0), .int (nI 0)])), (ring, .inl (ky 4, 8, .inr (.inr (.inr (.inr ringF))))), (rg, .inr (7, [.int (nI 4), .int (nI 4), .int (nI 10), .int (nI 1), .int (nI 3), .int (nI 0), .int (nI 0), .int (nI 0), .int (nI 0), .int (nI 0), .ref gthickness, .ref glumpNames, .ref glumpCells, .ref gboatNames, .ref gboatCells, .ref gloads, .ref gspoons, .ref gspoonsLeft, .ref gdepths])), (gthickness, .inl (ky 0, 36, .inl gthicknessG)), (glumpNames, .inl (ky 1, 6, .inr (.inl glumpNamesG))), (glumpCells, .inl (ky 0, 6, .inl glumpCellsG)), (gboatNames, .inl (ky 1, 6, .inr (.inl gboatNamesG))), (gboatCells, .inl (ky 0, 6, .inl gboatCellsG)), (gloads, .inl (ky 0, 6, .inl gloadsG)), (gspoons, .inl (ky 0, 6, .inl gspoonsG)), (gspoonsLeft, .inl (ky 0, 6, .inl gspoonsLeftG)), (gdepths, .inl (ky 0, 6, .inl gdepthsG)), (o, .inr (12, [.int (nI 0), .ref ktape, .int (nI 0), .int (nI 0), .int (nI 0), .int (nI 0), .int (nI 0), .int (nI 0), .int (nI 0), .int (nI 0), .int (nI 0), .int (nI 0), .long 0, .int (nI 0), .ref know, .ref kread, .ref kkept, .ref ksnaps, .ref kaside, .ref kname, .ref kreadName, .ref kkeptName, .ref kisKept, .ref konces, .int (nI 0), .int (nI 0), .ref kpoured, .ref kfar, .ref ksides, .int (nI 0), .int (-1 : Int32), .int (nI 0), .ref klines, .ref kmet, .int (nI 0), .ref ksunk, .ref ktrying, .int (nI 0), .int (-1 : Int32), .int (-1 : Int32), .ref ktext, .int (nI 0), .int (nI 0), .ref kline, .ref kwritten, .int (nI 0), .int (nI 0), .ref knode, .int (nI 0), .int (nI 0), .int (nI 0), .int (nI 0)])), (know, .inl (ky 0, 373, .inl knowG)), (ksnaps, .inl (ky 0, 512, .inl ksnapsG)), (kpoured, .inl (ky 0, 36, .inl kpouredG))] → va_S A s.heap H locs → lv_has ls 7 [(4, .int (nI 0)), (3, .ref out), (2, .ref o), (1, .ref t), (0, .ref b)] → W p l e room_1 s m args below meth c H locs 172 6147 Q (F0 m 1185 ls []) := by
  intro H locs ls hP hD hS hl
  refine lv_aload_n hx hb dL_law_1185 rfl (lv_at hl 3 rfl) ?_
  refine lv_aload_n hx hb dL_law_1186 rfl (lv_at hl 4 rfl) ?_
  refine lv_iload hx hb dL_law_1187 (lv_at hl 0 rfl) ?_
  refine lv_iconst (v := nI 1) hx hb dL_law_1189 (by decide) ?_
  refine lv_iadd hx hb dL_law_1190 ?_
  refine r_ti (nI 1) (by decide) ?_
  refine r_sld hx hb hX hbl hbA hS 1 (by decide) (by decide) x1 hx1 dL_law_1191 ?_
  refine lv_aload_n hx hb dL_law_1192 rfl (lv_at hl 4 rfl) ?_
  refine lv_iload hx hb dL_law_1193 (lv_at hl 0 rfl) ?_
  refine lv_iconst (v := nI 2) hx hb dL_law_1195 (by decide) ?_
  refine lv_iadd hx hb dL_law_1196 ?_
  refine r_ti (nI 2) (by decide) ?_
  refine r_sld hx hb hX hbl hbA hS 2 (by decide) (by decide) x2 hx2 dL_law_1197 ?_
  refine r_call_i (wr := [(o, .inr (12, [.int (nI 0), .ref ktape, .int (nI 0), .int (nI 0), .int (nI 0), .int (nI 0), .int (nI 0), .int (nI 0), .int (nI 0), .int (nI 0), .int (nI 0), .int (nI 0), .long 0, .int (nI 0), .ref know, .ref kread, .ref kkept, .ref ksnaps, .ref kaside, .ref kname, .ref kreadName, .ref kkeptName, .ref kisKept, .ref konces, .int (nI 0), .int (nI 0), .ref kpoured, .ref kfar, .ref ksides, .int (nI 0), .int (-1 : Int32), .int (nI 0), .ref klines, .ref kmet, .int (nI 0), .ref ksunk, .ref ktrying, .int (nI 0), .int (-1 : Int32), .int (-1 : Int32), .ref ktext, .int (nI 0), .int (nI 0), .ref kline, .ref kwritten, .int (nI 0), .int (nI 0), .ref knode, .int (nI 0), .int (nI 0), .int (nI 0), .int (nI 0)])), (know, .inl (ky 0, 373, .inl knowG)), (ksnaps, .inl (ky 0, 512, .inl ksnapsG)), (kpoured, .inl (ky 0, 36, .inl kpouredG))]) (va_runV (As := [.int x1, .int x2]) (rest := []) ⟨hx, hb, hml, hown, hts⟩ (c_drawn l dC dI ky H.size t reader sea spareSea seaText book sentence spareSentence route meeting sighting draws history images chartBytes ring ringF rg (nI 4) (nI 4) (nI 10) (nI 1) (nI 3) (nI 0) (nI 0) (nI 0) (nI 0) (nI 0) gthickness glumpNames glumpCells gboatNames gboatCells gloads gspoons gspoonsLeft gdepths gthicknessG glumpNamesG glumpCellsG gboatNamesG gboatCellsG gloadsG gspoonsG gspoonsLeftG gdepthsG thickness lumpNames lumpCells boatNames boatCells loads spoons spoonsLeft depths thicknessG lumpNamesG lumpCellsG boatNamesG boatCellsG loadsG spoonsG spoonsLeftG depthsG (nI 0) x1 x2 hr0) (cwV 2 hts gl_X11_drawn rfl rfl rfl (by decide +kernel) ⟨(Nat.le_of_ble_eq_true rfl), (Nat.le_of_ble_eq_true rfl)⟩) (pre_UV hK hP hD [0, 12, 13, 1, 2, 3, 4, 5, 6, 7, 8, 9, 10, 14, 15, 16, 17, 18, 19, 20, 21, 22, 23, 11] (by decide) rfl (ci := 11) (q0 := 0) rfl rfl) rfl rfl hl.1 rfl (lv_room (Nat.le_of_ble_eq_true rfl)) dL_law_1198 ⟨(Nat.le_of_ble_eq_true rfl), (Nat.le_of_ble_eq_true rfl)⟩) hP hD hS hA [0, 12, 13, 1, 2, 3, 4, 5, 6, 7, 8, 9, 10, 14, 15, 16, 17, 18, 19, 20, 21, 22, 23, 11] [24, 25, 26, 27] rfl rfl (by decide) (by decide) (fun r3 u1 H locs p2 hP hD hS => ?_)
  try dsimp only at p2
  have p4 := p2
  refine W.widen (k := 172) (n := 6147) (Nat.le_of_ble_eq_true rfl) (Nat.le_of_ble_eq_true rfl) ?_
  have hP : va_P (dC, dI) vwCl [(o, .inr (12, [.int (nI 0), .ref ktape, .int (nI 0), .int (nI 0), .int (nI 0), .int (nI 0), .int (nI 0), .int (nI 0), .int (nI 0), .int (nI 0), .int (nI 0), .int (nI 0), .long 0, .int (nI 0), .ref know, .ref kread, .ref kkept, .ref ksnaps, .ref kaside, .ref kname, .ref kreadName, .ref kkeptName, .ref kisKept, .ref konces, .int (nI 0), .int (nI 0), .ref kpoured, .ref kfar, .ref ksides, .int (nI 0), .int (-1 : Int32), .int (nI 0), .ref klines, .ref kmet, .int (nI 0), .ref ksunk, .ref ktrying, .int (nI 0), .int (-1 : Int32), .int (-1 : Int32), .ref ktext, .int (nI 0), .int (nI 0), .ref kline, .ref kwritten, .int (nI 0), .int (nI 0), .ref knode, .int (nI 0), .int (nI 0), .int (nI 0), .int (nI 0)])), (know, .inl (ky 0, 373, .inl knowG)), (ksnaps, .inl (ky 0, 512, .inl ksnapsG)), (kpoured, .inl (ky 0, 36, .inl kpouredG))] H := hP
  have hD : va_D A [(o, .inr (12, [.int (nI 0), .ref ktape, .int (nI 0), .int (nI 0), .int (nI 0), .int (nI 0), .int (nI 0), .int (nI 0), .int (nI 0), .int (nI 0), .int (nI 0), .int (nI 0), .long 0, .int (nI 0), .ref know, .ref kread, .ref kkept, .ref ksnaps, .ref kaside, .ref kname, .ref kreadName, .ref kkeptName, .ref kisKept, .ref konces, .int (nI 0), .int (nI 0), .ref kpoured, .ref kfar, .ref ksides, .int (nI 0), .int (-1 : Int32), .int (nI 0), .ref klines, .ref kmet, .int (nI 0), .ref ksunk, .ref ktrying, .int (nI 0), .int (-1 : Int32), .int (-1 : Int32), .ref ktext, .int (nI 0), .int (nI 0), .ref kline, .ref kwritten, .int (nI 0), .int (nI 0), .ref knode, .int (nI 0), .int (nI 0), .int (nI 0), .int (nI 0)])), (know, .inl (ky 0, 373, .inl knowG)), (ksnaps, .inl (ky 0, 512, .inl ksnapsG)), (kpoured, .inl (ky 0, 36, .inl kpouredG))] := hD
  refine lv_aload_n hx hb dL_law_1201 rfl (lv_at hl 2 rfl) ?_
  refine lv_aload_n hx hb dL_law_1202 rfl (lv_at hl 4 rfl) ?_
  refine lv_iload hx hb dL_law_1203 (lv_at hl 0 rfl) ?_
  refine lv_iconst (v := nI 1) hx hb dL_law_1205 (by decide) ?_
  refine lv_iadd hx hb dL_law_1206 ?_
  refine r_ti (nI 1) (by decide) ?_
  refine r_sld hx hb hX hbl hbA hS 1 (by decide) (by decide) x1 hx1 dL_law_1207 ?_
  refine lv_aload_n hx hb dL_law_1208 rfl (lv_at hl 4 rfl) ?_
  refine lv_iload hx hb dL_law_1209 (lv_at hl 0 rfl) ?_
  refine lv_iconst (v := nI 2) hx hb dL_law_1211 (by decide) ?_
  refine lv_iadd hx hb dL_law_1212 ?_
  refine r_ti (nI 2) (by decide) ?_
  refine r_sld hx hb hX hbl hbA hS 2 (by decide) (by decide) x2 hx2 dL_law_1213 ?_
  refine r_call_i (wr := []) (va_runV (As := [.int x1, .int x2]) (rest := [.int r3]) ⟨hx, hb, hml, hown, hts⟩ (c_m_drawn l dC dI ky H.size o ktape know kread kkept ksnaps kaside kname kreadName kkeptName kisKept konces kpoured kfar ksides klines kmet ksunk ktrying ktext kline kwritten knode knowG ksnapsG kpouredG x1 x2 hN) (cwV 2 hts gl_X12_drawn rfl rfl rfl (by decide +kernel) ⟨(Nat.le_of_ble_eq_true rfl), (Nat.le_of_ble_eq_true rfl)⟩) (pre_UV hK hP hD [0, 1, 2, 3] (by decide) rfl (ci := 12) (q0 := 0) rfl rfl) rfl rfl hl.1 rfl (lv_room (Nat.le_of_ble_eq_true rfl)) dL_law_1214 ⟨(Nat.le_of_ble_eq_true rfl), (Nat.le_of_ble_eq_true rfl)⟩) hP hD hS hA [0, 1, 2, 3] [] rfl rfl (by decide) (by decide) (fun r7 u5 H locs p6 hP hD hS => ?_)
  try dsimp only at p6
  have p8 := p6
  refine W.widen (k := 172) (n := 6147) (Nat.le_of_ble_eq_true rfl) (Nat.le_of_ble_eq_true rfl) ?_
  have hP : va_P (dC, dI) vwCl [] H := hP
  have hD : va_D A [] := hD
  refine lv_icmp_eq (tgt := 1434) hx hb dL_law_1217 (by decide) (fun c9 => ?_) (fun c9 => ?_)
  · refine lv_iinc (v := nI 6) (lv' := [(4, .int (nI 6)), (3, .ref out), (2, .ref o), (1, .ref t), (0, .ref b)]) hx hb dL_law_1434 hl (k := 0) rfl (by decide) (by decide) rfl (fun ls hl => ?_)
    refine lv_goto (tgt := 23) hx hb dL_law_1437 (by decide) ?_
    refine lv_iload hx hb dL_law_23 (lv_at hl 0 rfl) ?_
    refine lv_aload_n hx hb dL_law_25 rfl (lv_at hl 4 rfl) ?_
    refine va_slen hx hb hX hbl hbA hS dL_law_26 ?_
    refine r_ti (nI 6) rfl ?_
    refine lv_bipush (v := nI 6) hx hb dL_law_27 (by decide) ?_
    refine lv_isub hx hb dL_law_29 ?_
    refine r_ti (nI 0) (by decide) ?_
    refine lv_icmp_gt (tgt := 1440) hx hb dL_law_30 (by decide) (fun c10 => ?_) (fun c10 => absurd (by decide) c10)
    exact kx H locs ls hS
  · exact ((lf_law_31_1 reader sea spareSea seaText book sentence spareSentence route meeting sighting draws history images chartBytes ring rg ringF thickness lumpNames lumpCells boatNames boatCells loads spoons spoonsLeft depths thicknessG lumpNamesG lumpCellsG boatNamesG boatCellsG loadsG spoonsG spoonsLeftG depthsG gthickness glumpNames glumpCells gboatNames gboatCells gloads gspoons gspoonsLeft gdepths gthicknessG glumpNamesG glumpCellsG gboatNamesG gboatCellsG gloadsG gspoonsG gspoonsLeftG gdepthsG ktape know kread kkept ksnaps kaside kname kreadName kkeptName kisKept konces kpoured kfar ksides klines kmet ksunk ktrying ktext kline kwritten knode knowG ksnapsG kpouredG t o out x1 x2 x3 x4 x5 r3 r7 hz hr0 hN p4 p8 c9)).elim
set_option maxHeartbeats 4000000 in
set_option maxRecDepth 100000 in
theorem law_32 {p : Program} {l : Launch} {e : Env} {s : State} {m : MethodId} {args : Array Value} {below : List Frame} {meth : Method} {c : Code} {Q : State → Prop} {dC : Nat → ClassId} {dI : Nat → Nat → Nat} {ky : Nat → ClassId} {A : Nat → Prop} {b : Nat} {xs : Nat → Int32} (hx : p.tables.exec = Jvm.exec) (hb : c.code = cL_law) (hml : c.maxLocals = 7) (hown : s.vm.findClass RL = some m.cls) (hts : ∀ w ∈ lw_tbl, w.before args s = true) (hK : Kk dC dI ky s) (hA : ∀ q, s.heap.size ≤ q → A q) (hX : va_X b 6 xs s s.heap) (hbl : b < s.heap.size) (hbA : ¬ A b) (reader : Nat) (sea : Nat) (spareSea : Nat) (seaText : Nat) (book : Nat) (sentence : Nat) (spareSentence : Nat) (route : Nat) (meeting : Nat) (sighting : Nat) (draws : Nat) (history : Nat) (images : Nat) (chartBytes : Nat) (thickness : Nat) (lumpNames : Nat) (lumpCells : Nat) (boatNames : Nat) (boatCells : Nat) (loads : Nat) (spoons : Nat) (spoonsLeft : Nat) (depths : Nat) (ktape : Nat) (know : Nat) (kread : Nat) (kkept : Nat) (ksnaps : Nat) (kaside : Nat) (kname : Nat) (kreadName : Nat) (kkeptName : Nat) (kisKept : Nat) (konces : Nat) (kpoured : Nat) (kfar : Nat) (ksides : Nat) (klines : Nat) (kmet : Nat) (ksunk : Nat) (ktrying : Nat) (ktext : Nat) (kline : Nat) (kwritten : Nat) (knode : Nat) (knowG : Nat → Int32) (t : Nat) (o : Nat) (out : Nat) (hN : NowOk knowG) (x1 x2 x3 x4 x5 : Int32) (hx1 : xs 1 = x1) (hx2 : xs 2 = x2) (hx3 : xs 3 = x3) (hx4 : xs 4 = x4) (hx5 : xs 5 = x5) (kx : ∀ (H : Heap) (locs : List Loc) (ls : Array Slot), va_S A s.heap H locs → W p l e room_1 s m args below meth c H locs 172 6147 Q (F0 m 1440 ls [])) : ∀ (H : Heap) (locs : List Loc) (ls : Array Slot), va_P (dC, dI) vwCl [(t, .inr (11, [.ref reader, .int (nI 0), .int (nI 0), .ref sea, .ref spareSea, .ref seaText, .ref book, .ref sentence, .ref spareSentence, .ref route, .ref meeting, .ref sighting, .ref draws, .ref history, .ref images, .ref chartBytes, .int (nI 0), .int (-1 : Int32)])), (sea, .inr (7, [.int (nI 4), .int (nI 4), .int (nI 10), .int (nI 1), .int (nI 3), .int (nI 0), .int (nI 0), .int (nI 0), .int (nI 0), .int (nI 0), .ref thickness, .ref lumpNames, .ref lumpCells, .ref boatNames, .ref boatCells, .ref loads, .ref spoons, .ref spoonsLeft, .ref depths])), (o, .inr (12, [.int (nI 0), .ref ktape, .int (nI 0), .int (nI 0), .int (nI 0), .int (nI 0), .int (nI 0), .int (nI 0), .int (nI 0), .int (nI 0), .int (nI 0), .int (nI 0), .long 0, .int (nI 0), .ref know, .ref kread, .ref kkept, .ref ksnaps, .ref kaside, .ref kname, .ref kreadName, .ref kkeptName, .ref kisKept, .ref konces, .int (nI 0), .int (nI 0), .ref kpoured, .ref kfar, .ref ksides, .int (nI 0), .int (-1 : Int32), .int (nI 0), .ref klines, .ref kmet, .int (nI 0), .ref ksunk, .ref ktrying, .int (nI 0), .int (-1 : Int32), .int (-1 : Int32), .ref ktext, .int (nI 0), .int (nI 0), .ref kline, .ref kwritten, .int (nI 0), .int (nI 0), .ref knode, .int (nI 0), .int (nI 0), .int (nI 0), .int (nI 0)])), (know, .inl (ky 0, 373, .inl knowG))] H → va_D A [(t, .inr (11, [.ref reader, .int (nI 0), .int (nI 0), .ref sea, .ref spareSea, .ref seaText, .ref book, .ref sentence, .ref spareSentence, .ref route, .ref meeting, .ref sighting, .ref draws, .ref history, .ref images, .ref chartBytes, .int (nI 0), .int (-1 : Int32)])), (sea, .inr (7, [.int (nI 4), .int (nI 4), .int (nI 10), .int (nI 1), .int (nI 3), .int (nI 0), .int (nI 0), .int (nI 0), .int (nI 0), .int (nI 0), .ref thickness, .ref lumpNames, .ref lumpCells, .ref boatNames, .ref boatCells, .ref loads, .ref spoons, .ref spoonsLeft, .ref depths])), (o, .inr (12, [.int (nI 0), .ref ktape, .int (nI 0), .int (nI 0), .int (nI 0), .int (nI 0), .int (nI 0), .int (nI 0), .int (nI 0), .int (nI 0), .int (nI 0), .int (nI 0), .long 0, .int (nI 0), .ref know, .ref kread, .ref kkept, .ref ksnaps, .ref kaside, .ref kname, .ref kreadName, .ref kkeptName, .ref kisKept, .ref konces, .int (nI 0), .int (nI 0), .ref kpoured, .ref kfar, .ref ksides, .int (nI 0), .int (-1 : Int32), .int (nI 0), .ref klines, .ref kmet, .int (nI 0), .ref ksunk, .ref ktrying, .int (nI 0), .int (-1 : Int32), .int (-1 : Int32), .ref ktext, .int (nI 0), .int (nI 0), .ref kline, .ref kwritten, .int (nI 0), .int (nI 0), .ref knode, .int (nI 0), .int (nI 0), .int (nI 0), .int (nI 0)])), (know, .inl (ky 0, 373, .inl knowG))] → va_S A s.heap H locs → lv_has ls 7 [(4, .int (nI 0)), (3, .ref out), (2, .ref o), (1, .ref t), (0, .ref b)] → W p l e room_1 s m args below meth c H locs 172 6147 Q (F0 m 1222 ls []) := by
  intro H locs ls hP hD hS hl
  refine lv_aload_n hx hb dL_law_1222 rfl (lv_at hl 3 rfl) ?_
  refine lv_aload_n hx hb dL_law_1223 rfl (lv_at hl 4 rfl) ?_
  refine lv_iload hx hb dL_law_1224 (lv_at hl 0 rfl) ?_
  refine lv_iconst (v := nI 1) hx hb dL_law_1226 (by decide) ?_
  refine lv_iadd hx hb dL_law_1227 ?_
  refine r_ti (nI 1) (by decide) ?_
  refine r_sld hx hb hX hbl hbA hS 1 (by decide) (by decide) x1 hx1 dL_law_1228 ?_
  refine lv_aload_n hx hb dL_law_1229 rfl (lv_at hl 4 rfl) ?_
  refine lv_iload hx hb dL_law_1230 (lv_at hl 0 rfl) ?_
  refine lv_iconst (v := nI 2) hx hb dL_law_1232 (by decide) ?_
  refine lv_iadd hx hb dL_law_1233 ?_
  refine r_ti (nI 2) (by decide) ?_
  refine r_sld hx hb hX hbl hbA hS 2 (by decide) (by decide) x2 hx2 dL_law_1234 ?_
  refine lv_aload_n hx hb dL_law_1235 rfl (lv_at hl 4 rfl) ?_
  refine lv_iload hx hb dL_law_1236 (lv_at hl 0 rfl) ?_
  refine lv_iconst (v := nI 3) hx hb dL_law_1238 (by decide) ?_
  refine lv_iadd hx hb dL_law_1239 ?_
  refine r_ti (nI 3) (by decide) ?_
  refine r_sld hx hb hX hbl hbA hS 3 (by decide) (by decide) x3 hx3 dL_law_1240 ?_
  refine vp_callSi (W.runV (As := [.int x1, .int x2, .int x3]) (rest := []) ⟨hx, hb, hml, hown, hts⟩ (c_odds l dC dI ky t reader sea spareSea seaText book sentence spareSentence route meeting sighting draws history images chartBytes thickness lumpNames lumpCells boatNames boatCells loads spoons spoonsLeft depths x1 x2 x3) (cwV 3 hts gl_X11_odds rfl rfl rfl (by decide +kernel) ⟨(Nat.le_of_ble_eq_true rfl), (Nat.le_of_ble_eq_true rfl)⟩) (pre_PV hK hP [0, 1] rfl (ci := 11) (q0 := 0) rfl rfl) rfl rfl hl.1 rfl (lv_room (Nat.le_of_ble_eq_true rfl)) dL_law_1241 ⟨(Nat.le_of_ble_eq_true rfl), (Nat.le_of_ble_eq_true rfl)⟩) (fun r1 p2 => ?_)
  subst p2
  refine lv_aload_n hx hb dL_law_1244 rfl (lv_at hl 2 rfl) ?_
  refine lv_aload_n hx hb dL_law_1245 rfl (lv_at hl 4 rfl) ?_
  refine lv_iload hx hb dL_law_1246 (lv_at hl 0 rfl) ?_
  refine lv_iconst (v := nI 1) hx hb dL_law_1248 (by decide) ?_
  refine lv_iadd hx hb dL_law_1249 ?_
  refine r_ti (nI 1) (by decide) ?_
  refine r_sld hx hb hX hbl hbA hS 1 (by decide) (by decide) x1 hx1 dL_law_1250 ?_
  refine lv_aload_n hx hb dL_law_1251 rfl (lv_at hl 4 rfl) ?_
  refine lv_iload hx hb dL_law_1252 (lv_at hl 0 rfl) ?_
  refine lv_iconst (v := nI 2) hx hb dL_law_1254 (by decide) ?_
  refine lv_iadd hx hb dL_law_1255 ?_
  refine r_ti (nI 2) (by decide) ?_
  refine r_sld hx hb hX hbl hbA hS 2 (by decide) (by decide) x2 hx2 dL_law_1256 ?_
  refine lv_aload_n hx hb dL_law_1257 rfl (lv_at hl 4 rfl) ?_
  refine lv_iload hx hb dL_law_1258 (lv_at hl 0 rfl) ?_
  refine lv_iconst (v := nI 3) hx hb dL_law_1260 (by decide) ?_
  refine lv_iadd hx hb dL_law_1261 ?_
  refine r_ti (nI 3) (by decide) ?_
  refine r_sld hx hb hX hbl hbA hS 3 (by decide) (by decide) x3 hx3 dL_law_1262 ?_
  refine r_call_i (wr := [(t, .inr (11, [.ref reader, .int (nI 0), .int (nI 0), .ref sea, .ref spareSea, .ref seaText, .ref book, .ref sentence, .ref spareSentence, .ref route, .ref meeting, .ref sighting, .ref draws, .ref history, .ref images, .ref chartBytes, .int (nI 0), .int (-1 : Int32)])), (sea, .inr (7, [.int (nI 4), .int (nI 4), .int (nI 10), .int (nI 1), .int (nI 3), .int (nI 0), .int (nI 0), .int (nI 0), .int (nI 0), .int (nI 0), .ref thickness, .ref lumpNames, .ref lumpCells, .ref boatNames, .ref boatCells, .ref loads, .ref spoons, .ref spoonsLeft, .ref depths]))]) (va_runV (As := [.int x1, .int x2, .int x3]) (rest := [.int (-1 : Int32)]) ⟨hx, hb, hml, hown, hts⟩ (c_m_odds l dC dI ky H.size o ktape know kread kkept ksnaps kaside kname kreadName kkeptName kisKept konces kpoured kfar ksides klines kmet ksunk ktrying ktext kline kwritten knode knowG x1 x2 x3 hN) (cwV 3 hts gl_X12_odds rfl rfl rfl (by decide +kernel) ⟨(Nat.le_of_ble_eq_true rfl), (Nat.le_of_ble_eq_true rfl)⟩) (pre_UV hK hP hD [2, 3] (by decide) rfl (ci := 12) (q0 := 2) rfl rfl) rfl rfl hl.1 rfl (lv_room (Nat.le_of_ble_eq_true rfl)) dL_law_1263 ⟨(Nat.le_of_ble_eq_true rfl), (Nat.le_of_ble_eq_true rfl)⟩) hP hD hS hA [2, 3] [0, 1] rfl rfl (by decide) (by decide) (fun r5 u3 H locs p4 hP hD hS => ?_)
  try dsimp only at p4
  have p6 := p4
  refine W.widen (k := 172) (n := 6147) (Nat.le_of_ble_eq_true rfl) (Nat.le_of_ble_eq_true rfl) ?_
  have hP : va_P (dC, dI) vwCl [(t, .inr (11, [.ref reader, .int (nI 0), .int (nI 0), .ref sea, .ref spareSea, .ref seaText, .ref book, .ref sentence, .ref spareSentence, .ref route, .ref meeting, .ref sighting, .ref draws, .ref history, .ref images, .ref chartBytes, .int (nI 0), .int (-1 : Int32)])), (sea, .inr (7, [.int (nI 4), .int (nI 4), .int (nI 10), .int (nI 1), .int (nI 3), .int (nI 0), .int (nI 0), .int (nI 0), .int (nI 0), .int (nI 0), .ref thickness, .ref lumpNames, .ref lumpCells, .ref boatNames, .ref boatCells, .ref loads, .ref spoons, .ref spoonsLeft, .ref depths]))] H := hP
  have hD : va_D A [(t, .inr (11, [.ref reader, .int (nI 0), .int (nI 0), .ref sea, .ref spareSea, .ref seaText, .ref book, .ref sentence, .ref spareSentence, .ref route, .ref meeting, .ref sighting, .ref draws, .ref history, .ref images, .ref chartBytes, .int (nI 0), .int (-1 : Int32)])), (sea, .inr (7, [.int (nI 4), .int (nI 4), .int (nI 10), .int (nI 1), .int (nI 3), .int (nI 0), .int (nI 0), .int (nI 0), .int (nI 0), .int (nI 0), .ref thickness, .ref lumpNames, .ref lumpCells, .ref boatNames, .ref boatCells, .ref loads, .ref spoons, .ref spoonsLeft, .ref depths]))] := hD
  subst p6
  refine lv_icmp_eq (tgt := 1434) hx hb dL_law_1266 (by decide) (fun c7 => ?_) (fun c7 => absurd (by decide) c7)
  refine lv_iinc (v := nI 6) (lv' := [(4, .int (nI 6)), (3, .ref out), (2, .ref o), (1, .ref t), (0, .ref b)]) hx hb dL_law_1434 hl (k := 0) rfl (by decide) (by decide) rfl (fun ls hl => ?_)
  refine lv_goto (tgt := 23) hx hb dL_law_1437 (by decide) ?_
  refine lv_iload hx hb dL_law_23 (lv_at hl 0 rfl) ?_
  refine lv_aload_n hx hb dL_law_25 rfl (lv_at hl 4 rfl) ?_
  refine va_slen hx hb hX hbl hbA hS dL_law_26 ?_
  refine r_ti (nI 6) rfl ?_
  refine lv_bipush (v := nI 6) hx hb dL_law_27 (by decide) ?_
  refine lv_isub hx hb dL_law_29 ?_
  refine r_ti (nI 0) (by decide) ?_
  refine lv_icmp_gt (tgt := 1440) hx hb dL_law_30 (by decide) (fun c8 => ?_) (fun c8 => absurd (by decide) c8)
  exact kx H locs ls hS
