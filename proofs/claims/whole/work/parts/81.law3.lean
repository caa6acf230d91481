/-! the law's cases, 3 -/
set_option maxHeartbeats 2000000 in
set_option maxRecDepth 100000 in
theorem law_meet {p : Program} {l : Launch} {e : Env} {s : State} {m : MethodId} {args : Array Value} {below : List Frame} {meth : Method} {c : Code} {D : va_G} {A : Nat → Prop} {k n : Nat} {Q : State → Prop} {cI cJ : ClassId} {ad bd : Nat → Nat} {b L o i : Nat} {xs : Nat → Int32} {wx wy : va_W} {t0 : Int32} {g : Nat → Int64} (h0 : LH p l m c s args D A cI cJ b L xs) (h : WP cI ad bd wx wy t0) (hi : i + 5 < L) (hk : k + 1 ≤ 1059) (hn : n + 6 ≤ 9105) (kk : ∀ (wx' wy' : va_W) (t' : Int32) (g' : Nat → Int64), WP cI ad bd wx' wy' t' → V p l e room_1 s m args below meth c D A 7 (k + 1) (n + 6) Q (oC cJ o g' :: (wx' ++ wy')) [(4, .int (nI i)), (3, .ref o), (2, .ref (bd 0)), (1, .ref (ad 0)), (0, .ref b)] 1492 []) : V p l e room_1 s m args below meth c D A 7 k n Q (oC cJ o g :: (wx ++ wy)) [(4, .int (nI i)), (3, .ref o), (2, .ref (bd 0)), (1, .ref (ad 0)), (0, .ref b)] 1207 [] := by
  obtain ⟨C0, hst, hK, hA, hEN, hX, hbl, hbA, hL⟩ := h0
  have hK1 : va_K D vwCl (TI cI) s := hK.sub [0] rfl
  obtain ⟨fy, hy0⟩ := h.y0
  obtain ⟨wx', wy', r, TH, g', hw, hy, hE, hg⟩ := u_meet (cJ := cJ) l hst D h o g (xs (i + 1)) (xs (i + 2)) (xs (i + 3)) (xs (i + 4))
  obtain ⟨fy1, hy1⟩ := hw.y0
  refine v_aload_n C0 (pc' := 1208) 3 rfl rfl dL_law_1207 rfl ?_
  refine v_scr C0 hX hbl hbA (i := i) (a := 1) (pc' := 1214) (by omega) hL (by decide) 4 0 rfl rfl dL_law_1208 dL_law_1209 dL_law_1211 dL_law_1212 dL_law_1213 rfl ?_
  refine v_scr C0 hX hbl hbA (i := i) (a := 2) (pc' := 1220) (by omega) hL (by decide) 4 0 rfl rfl dL_law_1214 dL_law_1215 dL_law_1217 dL_law_1218 dL_law_1219 rfl ?_
  refine v_scr C0 hX hbl hbA (i := i) (a := 3) (pc' := 1226) (by omega) hL (by decide) 4 0 rfl rfl dL_law_1220 dL_law_1221 dL_law_1223 dL_law_1224 dL_law_1225 rfl ?_
  refine v_scr C0 hX hbl hbA (i := i) (a := 4) (pc' := 1232) (by omega) hL (by decide) 4 0 rfl rfl dL_law_1226 dL_law_1227 dL_law_1229 dL_law_1230 dL_law_1231 rfl ?_
  refine v_aload_n C0 (pc' := 1233) 1 rfl rfl dL_law_1232 rfl ?_
  refine v_callSE C0 (av := [.ref (ad 0), .int (xs (i + 1)), .int (xs (i + 2)), .int (xs (i + 3)), .int (xs (i + 4)), .ref o]) (rest := []) (ws' := oC cJ o g' :: (wx' ++ wy)) (pc' := 1236) hK hA hEN hE (vx_cwSW 6 C0.2.2.2.2 gL_law_L_meet rfl rfl rfl (by decide +kernel) ⟨Nat.le_of_ble_eq_true rfl, Nat.le_of_ble_eq_true rfl⟩) (PLs.lf (W0 := oC cJ o g :: wx) (W1 := oC cJ o g' :: wx') (R := wy)) rfl rfl (Nat.le_of_ble_eq_true rfl) ⟨hk, hn⟩ dL_law_1233 rfl ?_
  refine v_istore C0 (lv' := [(5, .int TH), (4, .int (nI i)), (3, .ref o), (2, .ref (bd 0)), (1, .ref (ad 0)), (0, .ref b)]) (pc' := 1238) (by decide) rfl dL_law_1236 rfl ?_
  refine v_aload_n C0 (pc' := 1239) 3 rfl rfl dL_law_1238 rfl ?_
  refine v_scr C0 hX hbl hbA (i := i) (a := 1) (pc' := 1245) (by omega) hL (by decide) 5 1 rfl rfl dL_law_1239 dL_law_1240 dL_law_1242 dL_law_1243 dL_law_1244 rfl ?_
  refine v_scr C0 hX hbl hbA (i := i) (a := 2) (pc' := 1251) (by omega) hL (by decide) 5 1 rfl rfl dL_law_1245 dL_law_1246 dL_law_1248 dL_law_1249 dL_law_1250 rfl ?_
  refine v_scr C0 hX hbl hbA (i := i) (a := 3) (pc' := 1257) (by omega) hL (by decide) 5 1 rfl rfl dL_law_1251 dL_law_1252 dL_law_1254 dL_law_1255 dL_law_1256 rfl ?_
  refine v_scr C0 hX hbl hbA (i := i) (a := 4) (pc' := 1263) (by omega) hL (by decide) 5 1 rfl rfl dL_law_1257 dL_law_1258 dL_law_1260 dL_law_1261 dL_law_1262 rfl ?_
  refine v_callVi0 C0 (av := [.int (xs (i + 1)), .int (xs (i + 2)), .int (xs (i + 3)), .int (xs (i + 4))]) (rest := []) (ws' := oC cJ o g' :: (wx' ++ wy')) (pc' := 1266) hK1 hA hy (cwV 4 C0.2.2.2.2 gL_law_X1_meet rfl rfl rfl (by decide +kernel) ⟨Nat.le_of_ble_eq_true rfl, Nat.le_of_ble_eq_true rfl⟩) ⟨_, 1, _, _, _, rfl, ap_r (A := oC cJ o g' :: wx') hy0⟩ (PLs.rt (P := oC cJ o g' :: wx')) rfl rfl (Nat.le_of_ble_eq_true rfl) ⟨hk, hn⟩ dL_law_1263 rfl ?_
  refine v_istore C0 (lv' := [(6, .int r), (5, .int TH), (4, .int (nI i)), (3, .ref o), (2, .ref (bd 0)), (1, .ref (ad 0)), (0, .ref b)]) (pc' := 1268) (by decide) rfl dL_law_1266 rfl ?_
  refine v_aload_n C0 (pc' := 1269) 4 rfl rfl dL_law_1268 rfl ?_
  refine v_callVi0 C0 (av := []) (rest := []) (ws' := oC cJ o g' :: (wx' ++ wy')) (pc' := 1272) hK1 hA (hw.th l D) (cwV 0 C0.2.2.2.2 gL_law_X1_thrown rfl rfl rfl (by decide +kernel) ⟨Nat.le_of_ble_eq_true rfl, Nat.le_of_ble_eq_true rfl⟩) ⟨_, 1, _, _, _, rfl, ap_r (A := oC cJ o g' :: wx') hy1⟩ (PLs.rt (P := oC cJ o g' :: wx')) rfl rfl (Nat.le_of_ble_eq_true rfl) ⟨hk, hn⟩ dL_law_1269 rfl ?_
  refine v_iload C0 (pc' := 1274) 1 rfl dL_law_1272 rfl ?_
  refine v_icmp_eq C0 1279 (pc' := 1277) dL_law_1274 (by decide) rfl (fun _ => ?_) (fun z => absurd rfl z)
  refine v_iload C0 (pc' := 1281) 1 rfl dL_law_1279 rfl ?_
  refine v_if_ne C0 1303 (pc' := 1284) dL_law_1281 (by decide) rfl (fun z => ?_) (fun z => ?_)
  · refine v_goto C0 1492 dL_law_1303 (by decide) ?_
    exact v_sub (lv' := [(4, .int (nI i)), (3, .ref o), (2, .ref (bd 0)), (1, .ref (ad 0)), (0, .ref b)]) [2, 3, 4, 5, 6] rfl (kk wx' wy' TH g' hw)
  · have eg := hg z
    refine v_aload_n C0 (pc' := 1285) 3 rfl rfl dL_law_1284 rfl ?_
    refine v_iconst C0 (pc' := 1286) 0 (by decide) dL_law_1285 rfl ?_
    refine v_lald C0 hK (pc' := 1287) 0 1 rfl rfl vin01 dL_law_1286 rfl ?_
    refine v_iload C0 (pc' := 1289) 0 rfl dL_law_1287 rfl ?_
    refine v_lz C0 1296 1297 dL_law_1289 (by decide) dL_law_1292 dL_law_1293 (by decide) dL_law_1296 rfl ?_
    refine v_lcmp C0 (pc' := 1298) dL_law_1297 rfl ?_
    refine v_if_eq C0 1303 (pc' := 1301) dL_law_1298 (by decide) rfl (fun _ => ?_) (fun z2 => absurd (by rw [eg]; exact lg_self _) z2)
    refine v_goto C0 1492 dL_law_1303 (by decide) ?_
    exact v_sub (lv' := [(4, .int (nI i)), (3, .ref o), (2, .ref (bd 0)), (1, .ref (ad 0)), (0, .ref b)]) [2, 3, 4, 5, 6] rfl (kk wx' wy' TH g' hw)
set_option maxHeartbeats 2000000 in
set_option maxRecDepth 100000 in
theorem law_joined {p : Program} {l : Launch} {e : Env} {s : State} {m : MethodId} {args : Array Value} {below : List Frame} {meth : Method} {c : Code} {D : va_G} {A : Nat → Prop} {k n : Nat} {Q : State → Prop} {cI cJ : ClassId} {ad bd : Nat → Nat} {b L o i : Nat} {xs : Nat → Int32} {wx wy : va_W} {t0 : Int32} {g : Nat → Int64} (h0 : LH p l m c s args D A cI cJ b L xs) (h : WP cI ad bd wx wy t0) (hi : i + 5 < L) (hk : k + 1 ≤ 1059) (hn : n + 6 ≤ 9105) (kk : ∀ (wx' wy' : va_W) (t' : Int32) (g' : Nat → Int64), WP cI ad bd wx' wy' t' → V p l e room_1 s m args below meth c D A 7 (k + 1) (n + 6) Q (oC cJ o g' :: (wx' ++ wy')) [(4, .int (nI i)), (3, .ref o), (2, .ref (bd 0)), (1, .ref (ad 0)), (0, .ref b)] 1492 []) : V p l e room_1 s m args below meth c D A 7 k n Q (oC cJ o g :: (wx ++ wy)) [(4, .int (nI i)), (3, .ref o), (2, .ref (bd 0)), (1, .ref (ad 0)), (0, .ref b)] 1306 [] := by
  obtain ⟨C0, hst, hK, hA, hEN, hX, hbl, hbA, hL⟩ := h0
  have hK1 : va_K D vwCl (TI cI) s := hK.sub [0] rfl
  obtain ⟨fy, hy0⟩ := h.y0
  obtain ⟨wx', wy', r, TH, g', hw, hy, hE, hg⟩ := u_joined (cJ := cJ) l hst D h o g (xs (i + 1)) (xs (i + 2))
  obtain ⟨fy1, hy1⟩ := hw.y0
  refine v_aload_n C0 (pc' := 1307) 3 rfl rfl dL_law_1306 rfl ?_
  refine v_scr C0 hX hbl hbA (i := i) (a := 1) (pc' := 1313) (by omega) hL (by decide) 4 0 rfl rfl dL_law_1307 dL_law_1308 dL_law_1310 dL_law_1311 dL_law_1312 rfl ?_
  refine v_scr C0 hX hbl hbA (i := i) (a := 2) (pc' := 1319) (by omega) hL (by decide) 4 0 rfl rfl dL_law_1313 dL_law_1314 dL_law_1316 dL_law_1317 dL_law_1318 rfl ?_
  refine v_aload_n C0 (pc' := 1320) 1 rfl rfl dL_law_1319 rfl ?_
  refine v_callSE C0 (av := [.ref (ad 0), .int (xs (i + 1)), .int (xs (i + 2)), .ref o]) (rest := []) (ws' := oC cJ o g' :: (wx' ++ wy)) (pc' := 1323) hK hA hEN hE (vx_cwSW 4 C0.2.2.2.2 gL_law_L_joined rfl rfl rfl (by decide +kernel) ⟨Nat.le_of_ble_eq_true rfl, Nat.le_of_ble_eq_true rfl⟩) (PLs.lf (W0 := oC cJ o g :: wx) (W1 := oC cJ o g' :: wx') (R := wy)) rfl rfl (Nat.le_of_ble_eq_true rfl) ⟨hk, hn⟩ dL_law_1320 rfl ?_
  refine v_istore C0 (lv' := [(5, .int TH), (4, .int (nI i)), (3, .ref o), (2, .ref (bd 0)), (1, .ref (ad 0)), (0, .ref b)]) (pc' := 1325) (by decide) rfl dL_law_1323 rfl ?_
  refine v_aload_n C0 (pc' := 1326) 3 rfl rfl dL_law_1325 rfl ?_
  refine v_scr C0 hX hbl hbA (i := i) (a := 1) (pc' := 1332) (by omega) hL (by decide) 5 1 rfl rfl dL_law_1326 dL_law_1327 dL_law_1329 dL_law_1330 dL_law_1331 rfl ?_
  refine v_scr C0 hX hbl hbA (i := i) (a := 2) (pc' := 1338) (by omega) hL (by decide) 5 1 rfl rfl dL_law_1332 dL_law_1333 dL_law_1335 dL_law_1336 dL_law_1337 rfl ?_
  refine v_callVi0 C0 (av := [.int (xs (i + 1)), .int (xs (i + 2))]) (rest := []) (ws' := oC cJ o g' :: (wx' ++ wy')) (pc' := 1341) hK1 hA hy (cwV 2 C0.2.2.2.2 gL_law_X1_joined rfl rfl rfl (by decide +kernel) ⟨Nat.le_of_ble_eq_true rfl, Nat.le_of_ble_eq_true rfl⟩) ⟨_, 1, _, _, _, rfl, ap_r (A := oC cJ o g' :: wx') hy0⟩ (PLs.rt (P := oC cJ o g' :: wx')) rfl rfl (Nat.le_of_ble_eq_true rfl) ⟨hk, hn⟩ dL_law_1338 rfl ?_
  refine v_istore C0 (lv' := [(6, .int r), (5, .int TH), (4, .int (nI i)), (3, .ref o), (2, .ref (bd 0)), (1, .ref (ad 0)), (0, .ref b)]) (pc' := 1343) (by decide) rfl dL_law_1341 rfl ?_
  refine v_aload_n C0 (pc' := 1344) 4 rfl rfl dL_law_1343 rfl ?_
  refine v_callVi0 C0 (av := []) (rest := []) (ws' := oC cJ o g' :: (wx' ++ wy')) (pc' := 1347) hK1 hA (hw.th l D) (cwV 0 C0.2.2.2.2 gL_law_X1_thrown rfl rfl rfl (by decide +kernel) ⟨Nat.le_of_ble_eq_true rfl, Nat.le_of_ble_eq_true rfl⟩) ⟨_, 1, _, _, _, rfl, ap_r (A := oC cJ o g' :: wx') hy1⟩ (PLs.rt (P := oC cJ o g' :: wx')) rfl rfl (Nat.le_of_ble_eq_true rfl) ⟨hk, hn⟩ dL_law_1344 rfl ?_
  refine v_iload C0 (pc' := 1349) 1 rfl dL_law_1347 rfl ?_
  refine v_icmp_eq C0 1354 (pc' := 1352) dL_law_1349 (by decide) rfl (fun _ => ?_) (fun z => absurd rfl z)
  refine v_iload C0 (pc' := 1356) 1 rfl dL_law_1354 rfl ?_
  refine v_if_ne C0 1371 (pc' := 1359) dL_law_1356 (by decide) rfl (fun z => ?_) (fun z => ?_)
  · refine v_goto C0 1492 dL_law_1371 (by decide) ?_
    exact v_sub (lv' := [(4, .int (nI i)), (3, .ref o), (2, .ref (bd 0)), (1, .ref (ad 0)), (0, .ref b)]) [2, 3, 4, 5, 6] rfl (kk wx' wy' TH g' hw)
  · have eg := hg z
    refine v_aload_n C0 (pc' := 1360) 3 rfl rfl dL_law_1359 rfl ?_
    refine v_iconst C0 (pc' := 1361) 0 (by decide) dL_law_1360 rfl ?_
    refine v_lald C0 hK (pc' := 1362) 0 1 rfl rfl vin01 dL_law_1361 rfl ?_
    refine v_iload C0 (pc' := 1364) 0 rfl dL_law_1362 rfl ?_
    refine v_i2l C0 (pc' := 1365) dL_law_1364 rfl ?_
    refine v_lcmp C0 (pc' := 1366) dL_law_1365 rfl ?_
    refine v_if_eq C0 1371 (pc' := 1369) dL_law_1366 (by decide) rfl (fun _ => ?_) (fun z2 => absurd (by rw [eg]; exact lg_self _) z2)
    refine v_goto C0 1492 dL_law_1371 (by decide) ?_
    exact v_sub (lv' := [(4, .int (nI i)), (3, .ref o), (2, .ref (bd 0)), (1, .ref (ad 0)), (0, .ref b)]) [2, 3, 4, 5, 6] rfl (kk wx' wy' TH g' hw)
set_option maxHeartbeats 2000000 in
set_option maxRecDepth 100000 in
theorem law_islands {p : Program} {l : Launch} {e : Env} {s : State} {m : MethodId} {args : Array Value} {below : List Frame} {meth : Method} {c : Code} {D : va_G} {A : Nat → Prop} {k n : Nat} {Q : State → Prop} {cI cJ : ClassId} {ad bd : Nat → Nat} {b L o i : Nat} {xs : Nat → Int32} {wx wy : va_W} {t0 : Int32} {g : Nat → Int64} (h0 : LH p l m c s args D A cI cJ b L xs) (h : WP cI ad bd wx wy t0) (hi : i + 5 < L) (hk : k + 1 ≤ 1059) (hn : n + 6 ≤ 9105) (kk : ∀ (wx' wy' : va_W) (t' : Int32) (g' : Nat → Int64), WP cI ad bd wx' wy' t' → V p l e room_1 s m args below meth c D A 7 (k + 1) (n + 6) Q (oC cJ o g' :: (wx' ++ wy')) [(4, .int (nI i)), (3, .ref o), (2, .ref (bd 0)), (1, .ref (ad 0)), (0, .ref b)] 1492 []) : V p l e room_1 s m args below meth c D A 7 k n Q (oC cJ o g :: (wx ++ wy)) [(4, .int (nI i)), (3, .ref o), (2, .ref (bd 0)), (1, .ref (ad 0)), (0, .ref b)] 1374 [] := by
  obtain ⟨C0, hst, hK, hA, hEN, hX, hbl, hbA, hL⟩ := h0
  have hK1 : va_K D vwCl (TI cI) s := hK.sub [0] rfl
  obtain ⟨fy, hy0⟩ := h.y0
  obtain ⟨wx', wy', r, hw, hy, hx⟩ := q_islands l D h
  obtain ⟨fy1, hy1⟩ := hw.y0
  refine v_aload_n C0 (pc' := 1375) 3 rfl rfl dL_law_1374 rfl ?_
  obtain ⟨fx, hx0⟩ := h.x0
  refine v_callVi0 C0 (av := []) (rest := []) (ws' := oC cJ o g :: (wx' ++ wy)) (pc' := 1378) hK1 hA hx (cwV 0 C0.2.2.2.2 gL_law_X0_islands rfl rfl rfl (by decide +kernel) ⟨Nat.le_of_ble_eq_true rfl, Nat.le_of_ble_eq_true rfl⟩) ⟨1, 0, _, _, _, rfl, gx1 (ap_l hx0)⟩ (PLs.mid (P := [oC cJ o g])) rfl rfl (Nat.le_of_ble_eq_true rfl) ⟨Nat.le_trans (Nat.le_succ _) hk, Nat.le_trans (Nat.le_add_right _ 6) hn⟩ dL_law_1375 rfl ?_
  refine v_aload_n C0 (pc' := 1379) 2 rfl rfl dL_law_1378 rfl ?_
  refine v_callVi0 C0 (av := []) (rest := [.int r]) (ws' := oC cJ o g :: (wx' ++ wy')) (pc' := 1382) hK1 hA hy (cwV 0 C0.2.2.2.2 gL_law_X1_islands rfl rfl rfl (by decide +kernel) ⟨Nat.le_of_ble_eq_true rfl, Nat.le_of_ble_eq_true rfl⟩) ⟨_, 1, _, _, _, rfl, ap_r (A := oC cJ o g :: wx') hy0⟩ (PLs.rt (P := oC cJ o g :: wx')) rfl rfl (Nat.le_of_ble_eq_true rfl) ⟨Nat.le_trans (Nat.le_succ _) hk, Nat.le_trans (Nat.le_add_right _ 6) hn⟩ dL_law_1379 rfl ?_
  refine v_icmp_eq C0 1492 (pc' := 1385) dL_law_1382 (by decide) rfl (fun _ => ?_) (fun z => absurd rfl z)
  refine v_widen (k2 := k + 1) (n2 := n + 6) (Nat.le_succ _) (Nat.le_add_right _ 6) ?_
  exact kk wx' wy' 0 g hw
set_option maxHeartbeats 2000000 in
set_option maxRecDepth 100000 in
theorem law_loops {p : Program} {l : Launch} {e : Env} {s : State} {m : MethodId} {args : Array Value} {below : List Frame} {meth : Method} {c : Code} {D : va_G} {A : Nat → Prop} {k n : Nat} {Q : State → Prop} {cI cJ : ClassId} {ad bd : Nat → Nat} {b L o i : Nat} {xs : Nat → Int32} {wx wy : va_W} {t0 : Int32} {g : Nat → Int64} (h0 : LH p l m c s args D A cI cJ b L xs) (h : WP cI ad bd wx wy t0) (hi : i + 5 < L) (hk : k + 1 ≤ 1059) (hn : n + 6 ≤ 9105) (kk : ∀ (wx' wy' : va_W) (t' : Int32) (g' : Nat → Int64), WP cI ad bd wx' wy' t' → V p l e room_1 s m args below meth c D A 7 (k + 1) (n + 6) Q (oC cJ o g' :: (wx' ++ wy')) [(4, .int (nI i)), (3, .ref o), (2, .ref (bd 0)), (1, .ref (ad 0)), (0, .ref b)] 1492 []) : V p l e room_1 s m args below meth c D A 7 k n Q (oC cJ o g :: (wx ++ wy)) [(4, .int (nI i)), (3, .ref o), (2, .ref (bd 0)), (1, .ref (ad 0)), (0, .ref b)] 1387 [] := by
  obtain ⟨C0, hst, hK, hA, hEN, hX, hbl, hbA, hL⟩ := h0
  have hK1 : va_K D vwCl (TI cI) s := hK.sub [0] rfl
  obtain ⟨fy, hy0⟩ := h.y0
  obtain ⟨wx', wy', r, hw, hy, hx⟩ := q_loops l D h
  obtain ⟨fy1, hy1⟩ := hw.y0
  refine v_aload_n C0 (pc' := 1388) 3 rfl rfl dL_law_1387 rfl ?_
  obtain ⟨fx, hx0⟩ := h.x0
  refine v_callVi0 C0 (av := []) (rest := []) (ws' := oC cJ o g :: (wx' ++ wy)) (pc' := 1391) hK1 hA hx (cwV 0 C0.2.2.2.2 gL_law_X0_loops rfl rfl rfl (by decide +kernel) ⟨Nat.le_of_ble_eq_true rfl, Nat.le_of_ble_eq_true rfl⟩) ⟨1, 0, _, _, _, rfl, gx1 (ap_l hx0)⟩ (PLs.mid (P := [oC cJ o g])) rfl rfl (Nat.le_of_ble_eq_true rfl) ⟨Nat.le_trans (Nat.le_succ _) hk, Nat.le_trans (Nat.le_add_right _ 6) hn⟩ dL_law_1388 rfl ?_
  refine v_aload_n C0 (pc' := 1392) 2 rfl rfl dL_law_1391 rfl ?_
  refine v_callVi0 C0 (av := []) (rest := [.int r]) (ws' := oC cJ o g :: (wx' ++ wy')) (pc' := 1395) hK1 hA hy (cwV 0 C0.2.2.2.2 gL_law_X1_loops rfl rfl rfl (by decide +kernel) ⟨Nat.le_of_ble_eq_true rfl, Nat.le_of_ble_eq_true rfl⟩) ⟨_, 1, _, _, _, rfl, ap_r (A := oC cJ o g :: wx') hy0⟩ (PLs.rt (P := oC cJ o g :: wx')) rfl rfl (Nat.le_of_ble_eq_true rfl) ⟨Nat.le_trans (Nat.le_succ _) hk, Nat.le_trans (Nat.le_add_right _ 6) hn⟩ dL_law_1392 rfl ?_
  refine v_icmp_eq C0 1492 (pc' := 1398) dL_law_1395 (by decide) rfl (fun _ => ?_) (fun z => absurd rfl z)
  refine v_widen (k2 := k + 1) (n2 := n + 6) (Nat.le_succ _) (Nat.le_add_right _ 6) ?_
  exact kk wx' wy' 0 g hw
set_option maxHeartbeats 2000000 in
set_option maxRecDepth 100000 in
theorem law_changes {p : Program} {l : Launch} {e : Env} {s : State} {m : MethodId} {args : Array Value} {below : List Frame} {meth : Method} {c : Code} {D : va_G} {A : Nat → Prop} {k n : Nat} {Q : State → Prop} {cI cJ : ClassId} {ad bd : Nat → Nat} {b L o i : Nat} {xs : Nat → Int32} {wx wy : va_W} {t0 : Int32} {g : Nat → Int64} (h0 : LH p l m c s args D A cI cJ b L xs) (h : WP cI ad bd wx wy t0) (hi : i + 5 < L) (hk : k + 1 ≤ 1059) (hn : n + 6 ≤ 9105) (kk : ∀ (wx' wy' : va_W) (t' : Int32) (g' : Nat → Int64), WP cI ad bd wx' wy' t' → V p l e room_1 s m args below meth c D A 7 (k + 1) (n + 6) Q (oC cJ o g' :: (wx' ++ wy')) [(4, .int (nI i)), (3, .ref o), (2, .ref (bd 0)), (1, .ref (ad 0)), (0, .ref b)] 1492 []) : V p l e room_1 s m args below meth c D A 7 k n Q (oC cJ o g :: (wx ++ wy)) [(4, .int (nI i)), (3, .ref o), (2, .ref (bd 0)), (1, .ref (ad 0)), (0, .ref b)] 1400 [] := by
  obtain ⟨C0, hst, hK, hA, hEN, hX, hbl, hbA, hL⟩ := h0
  have hK1 : va_K D vwCl (TI cI) s := hK.sub [0] rfl
  obtain ⟨fy, hy0⟩ := h.y0
  obtain ⟨wx', wy', r, TH, g', hw, hy, hE, hg⟩ := u_changes (cJ := cJ) l hst D h o g (xs (i + 1)) (xs (i + 2)) (xs (i + 3)) (xs (i + 4))
  obtain ⟨fy1, hy1⟩ := hw.y0
  refine v_aload_n C0 (pc' := 1401) 3 rfl rfl dL_law_1400 rfl ?_
  refine v_scr C0 hX hbl hbA (i := i) (a := 1) (pc' := 1407) (by omega) hL (by decide) 4 0 rfl rfl dL_law_1401 dL_law_1402 dL_law_1404 dL_law_1405 dL_law_1406 rfl ?_
  refine v_scr C0 hX hbl hbA (i := i) (a := 2) (pc' := 1413) (by omega) hL (by decide) 4 0 rfl rfl dL_law_1407 dL_law_1408 dL_law_1410 dL_law_1411 dL_law_1412 rfl ?_
  refine v_scr C0 hX hbl hbA (i := i) (a := 3) (pc' := 1419) (by omega) hL (by decide) 4 0 rfl rfl dL_law_1413 dL_law_1414 dL_law_1416 dL_law_1417 dL_law_1418 rfl ?_
  refine v_scr C0 hX hbl hbA (i := i) (a := 4) (pc' := 1425) (by omega) hL (by decide) 4 0 rfl rfl dL_law_1419 dL_law_1420 dL_law_1422 dL_law_1423 dL_law_1424 rfl ?_
  refine v_aload_n C0 (pc' := 1426) 1 rfl rfl dL_law_1425 rfl ?_
  refine v_callSE C0 (av := [.ref (ad 0), .int (xs (i + 1)), .int (xs (i + 2)), .int (xs (i + 3)), .int (xs (i + 4)), .ref o]) (rest := []) (ws' := oC cJ o g' :: (wx' ++ wy)) (pc' := 1429) hK hA hEN hE (vx_cwSW 6 C0.2.2.2.2 gL_law_L_changes rfl rfl rfl (by decide +kernel) ⟨Nat.le_of_ble_eq_true rfl, Nat.le_of_ble_eq_true rfl⟩) (PLs.lf (W0 := oC cJ o g :: wx) (W1 := oC cJ o g' :: wx') (R := wy)) rfl rfl (Nat.le_of_ble_eq_true rfl) ⟨hk, hn⟩ dL_law_1426 rfl ?_
  refine v_istore C0 (lv' := [(5, .int TH), (4, .int (nI i)), (3, .ref o), (2, .ref (bd 0)), (1, .ref (ad 0)), (0, .ref b)]) (pc' := 1431) (by decide) rfl dL_law_1429 rfl ?_
  refine v_aload_n C0 (pc' := 1432) 3 rfl rfl dL_law_1431 rfl ?_
  refine v_scr C0 hX hbl hbA (i := i) (a := 1) (pc' := 1438) (by omega) hL (by decide) 5 1 rfl rfl dL_law_1432 dL_law_1433 dL_law_1435 dL_law_1436 dL_law_1437 rfl ?_
  refine v_scr C0 hX hbl hbA (i := i) (a := 2) (pc' := 1444) (by omega) hL (by decide) 5 1 rfl rfl dL_law_1438 dL_law_1439 dL_law_1441 dL_law_1442 dL_law_1443 rfl ?_
  refine v_scr C0 hX hbl hbA (i := i) (a := 3) (pc' := 1450) (by omega) hL (by decide) 5 1 rfl rfl dL_law_1444 dL_law_1445 dL_law_1447 dL_law_1448 dL_law_1449 rfl ?_
  refine v_scr C0 hX hbl hbA (i := i) (a := 4) (pc' := 1456) (by omega) hL (by decide) 5 1 rfl rfl dL_law_1450 dL_law_1451 dL_law_1453 dL_law_1454 dL_law_1455 rfl ?_
  refine v_callVi0 C0 (av := [.int (xs (i + 1)), .int (xs (i + 2)), .int (xs (i + 3)), .int (xs (i + 4))]) (rest := []) (ws' := oC cJ o g' :: (wx' ++ wy')) (pc' := 1459) hK1 hA hy (cwV 4 C0.2.2.2.2 gL_law_X1_changes rfl rfl rfl (by decide +kernel) ⟨Nat.le_of_ble_eq_true rfl, Nat.le_of_ble_eq_true rfl⟩) ⟨_, 1, _, _, _, rfl, ap_r (A := oC cJ o g' :: wx') hy0⟩ (PLs.rt (P := oC cJ o g' :: wx')) rfl rfl (Nat.le_of_ble_eq_true rfl) ⟨hk, hn⟩ dL_law_1456 rfl ?_
  refine v_istore C0 (lv' := [(6, .int r), (5, .int TH), (4, .int (nI i)), (3, .ref o), (2, .ref (bd 0)), (1, .ref (ad 0)), (0, .ref b)]) (pc' := 1461) (by decide) rfl dL_law_1459 rfl ?_
  refine v_aload_n C0 (pc' := 1462) 4 rfl rfl dL_law_1461 rfl ?_
  refine v_callVi0 C0 (av := []) (rest := []) (ws' := oC cJ o g' :: (wx' ++ wy')) (pc' := 1465) hK1 hA (hw.th l D) (cwV 0 C0.2.2.2.2 gL_law_X1_thrown rfl rfl rfl (by decide +kernel) ⟨Nat.le_of_ble_eq_true rfl, Nat.le_of_ble_eq_true rfl⟩) ⟨_, 1, _, _, _, rfl, ap_r (A := oC cJ o g' :: wx') hy1⟩ (PLs.rt (P := oC cJ o g' :: wx')) rfl rfl (Nat.le_of_ble_eq_true rfl) ⟨hk, hn⟩ dL_law_1462 rfl ?_
  refine v_iload C0 (pc' := 1467) 1 rfl dL_law_1465 rfl ?_
  refine v_icmp_eq C0 1472 (pc' := 1470) dL_law_1467 (by decide) rfl (fun _ => ?_) (fun z => absurd rfl z)
  refine v_iload C0 (pc' := 1474) 1 rfl dL_law_1472 rfl ?_
  refine v_if_ne C0 1489 (pc' := 1477) dL_law_1474 (by decide) rfl (fun z => ?_) (fun z => ?_)
  · refine v_goto C0 1492 dL_law_1489 (by decide) ?_
    exact v_sub (lv' := [(4, .int (nI i)), (3, .ref o), (2, .ref (bd 0)), (1, .ref (ad 0)), (0, .ref b)]) [2, 3, 4, 5, 6] rfl (kk wx' wy' TH g' hw)
  · have eg := hg z
    refine v_aload_n C0 (pc' := 1478) 3 rfl rfl dL_law_1477 rfl ?_
    refine v_iconst C0 (pc' := 1479) 0 (by decide) dL_law_1478 rfl ?_
    refine v_lald C0 hK (pc' := 1480) 0 1 rfl rfl vin01 dL_law_1479 rfl ?_
    refine v_iload C0 (pc' := 1482) 0 rfl dL_law_1480 rfl ?_
    refine v_i2l C0 (pc' := 1483) dL_law_1482 rfl ?_
    refine v_lcmp C0 (pc' := 1484) dL_law_1483 rfl ?_
    refine v_if_eq C0 1489 (pc' := 1487) dL_law_1484 (by decide) rfl (fun _ => ?_) (fun z2 => absurd (by rw [eg]; exact lg_self _) z2)
    refine v_goto C0 1492 dL_law_1489 (by decide) ?_
    exact v_sub (lv' := [(4, .int (nI i)), (3, .ref o), (2, .ref (bd 0)), (1, .ref (ad 0)), (0, .ref b)]) [2, 3, 4, 5, 6] rfl (kk wx' wy' TH g' hw)
