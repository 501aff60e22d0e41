set_option maxHeartbeats 4000000 in
set_option maxRecDepth 100000 in
theorem case_shuffled (l : Launch) (D : va_G) (a b : Nat → Nat) (c : Nat → ClassId) (o : Nat) (hl0 : l.stackTraces = false) {G : Gt} {sb L : Nat} {xs : Nat → Int32} (KE : OkE l room_1 G cL_law 7 wsL_law RL D (tyW c)) (KS : OkS l room_1 G cL_law 7 wsL_law RL D (tyW c) sb L xs) {m k n i : Nat} (S J : St) (f : Nat → Int64) (J2 : St) (hI : Inv m S) (hm : m ≤ 600) (hi : i + 5 ≤ L) (hL : L ≤ 2560) (hk : k + 10 ≤ 602188) (hn : n + 60 ≤ 7289539) (NX : Next G sb a b o c (m + 1) k n i) : G k n (wL a b o c S J f J2) (lvL sb (a 0) (b 0) o i) 1233 [] := by
  have K := KE.ok
  have hV := hI.V hm
  have hO := hI.2.2.1
  unfold wL lvL
  obtain ⟨x, hx_⟩ : ∃ x : Int32, x = xs (i + 1) := ⟨_, rfl⟩
  obtain ⟨y, hy_⟩ : ∃ x : Int32, x = xs (i + 2) := ⟨_, rfl⟩
  obtain ⟨z, hz_⟩ : ∃ x : Int32, x = xs (i + 3) := ⟨_, rfl⟩
  refine r_aload_n K dL_law_1233 rfl ?_
  refine r_aload_n K dL_law_1234 rfl ?_
  refine r_iload K dL_law_1235 rfl ?_
  refine r_iconst K (nI 1) dL_law_1237 (by decide) ?_
  refine r_iadd K dL_law_1238 ?_
  refine r_sld KS (by omega) hL dL_law_1239 ?_
  refine r_top hx_.symm ?_
  refine r_aload_n K dL_law_1240 rfl ?_
  refine r_iload K dL_law_1241 rfl ?_
  refine r_iconst K (nI 2) dL_law_1243 (by decide) ?_
  refine r_iadd K dL_law_1244 ?_
  refine r_sld KS (by omega) hL dL_law_1245 ?_
  refine r_top hy_.symm ?_
  refine r_aload_n K dL_law_1246 rfl ?_
  refine r_iload K dL_law_1247 rfl ?_
  refine r_iconst K (nI 3) dL_law_1249 (by decide) ?_
  refine r_iadd K dL_law_1250 ?_
  refine r_sld KS (by omega) hL dL_law_1251 ?_
  refine r_top hz_.symm ?_
  refine r_aload_n K dL_law_1252 rfl ?_
  refine r_callW (rest := []) (z := wM b c S J2) KE (c_L_shuffled l D a c S J o f hl0 hV x y z) 5 gL_law_L_shuffled rfl (by decide +kernel) rfl ⟨⟨Nat.le_of_ble_eq_true rfl, Nat.le_of_ble_eq_true rfl⟩, (by show k + 3 ≤ 602188; omega), (by show n + 18 ≤ 7289539; omega)⟩ rfl (Nat.le_of_ble_eq_true rfl) dL_law_1253 ?_
  rintro _ u ⟨rfl, hv⟩
  refine r_istore (lv' := [(0, .ref sb), (1, .ref (a 0)), (2, .ref (b 0)), (3, .ref o), (4, .int (nI i)), (5, .int (nI (thr (inB x 0 ((S 3 0 : Nat) - 1) && inB z 0 ((S 19 (tn x) : Nat) - 1)) (sdB y) (true))))]) K dL_law_1256 (by decide) rfl ?_
  refine r_aload_n K dL_law_1258 rfl ?_
  refine r_aload_n K dL_law_1259 rfl ?_
  refine r_iload K dL_law_1260 rfl ?_
  refine r_iconst K (nI 1) dL_law_1262 (by decide) ?_
  refine r_iadd K dL_law_1263 ?_
  refine r_sld KS (by omega) hL dL_law_1264 ?_
  refine r_top hx_.symm ?_
  refine r_aload_n K dL_law_1265 rfl ?_
  refine r_iload K dL_law_1266 rfl ?_
  refine r_iconst K (nI 2) dL_law_1268 (by decide) ?_
  refine r_iadd K dL_law_1269 ?_
  refine r_sld KS (by omega) hL dL_law_1270 ?_
  refine r_top hy_.symm ?_
  refine r_aload_n K dL_law_1271 rfl ?_
  refine r_iload K dL_law_1272 rfl ?_
  refine r_iconst K (nI 3) dL_law_1274 (by decide) ?_
  refine r_iadd K dL_law_1275 ?_
  refine r_sld KS (by omega) hL dL_law_1276 ?_
  refine r_top hz_.symm ?_
  refine r_callVr (rest := []) (z := (wC a c (if thr (inB x 0 ((S 3 0 : Nat) - 1) && inB z 0 ((S 19 (tn x) : Nat) - 1)) (sdB y) (true) = 0 then (S) else S) u.1 ++ lo o c u.2)) K (c_X7_shuffled l D b c S J2 hV x y z) 3 gL_law_X7_shuffled rfl (by decide +kernel) rfl ⟨⟨Nat.le_of_ble_eq_true rfl, Nat.le_of_ble_eq_true rfl⟩, (by show k + 3 + 0 ≤ 602188; omega), (by show n + 18 + 0 ≤ 7289539; omega)⟩ 0 (wM_g0 _ _ _ _) rfl rfl (Nat.le_of_ble_eq_true rfl) dL_law_1277 ?_
  rintro r2 J3 ⟨hJ, hv2⟩
  refine r_istore (lv' := [(0, .ref sb), (1, .ref (a 0)), (2, .ref (b 0)), (3, .ref o), (4, .int (nI i)), (5, .int (nI (thr (inB x 0 ((S 3 0 : Nat) - 1) && inB z 0 ((S 19 (tn x) : Nat) - 1)) (sdB y) (true)))), (6, .int r2)]) K dL_law_1280 (by decide) rfl ?_
  refine r_aload_n K dL_law_1282 rfl ?_
  refine r_callVr (rest := []) (z := (wC a c (if thr (inB x 0 ((S 3 0 : Nat) - 1) && inB z 0 ((S 19 (tn x) : Nat) - 1)) (sdB y) (true) = 0 then (S) else S) u.1 ++ lo o c u.2)) (w := wM b c S J3) K (c_X7_thrown l D b c S J3) 0 gL_law_X7_thrown rfl (by decide +kernel) rfl ⟨⟨Nat.le_of_ble_eq_true rfl, Nat.le_of_ble_eq_true rfl⟩, (by show k + 3 + 0 + 0 ≤ 602188; omega), (by show n + 18 + 0 + 0 ≤ 7289539; omega)⟩ 0 (wM_g0 _ _ _ _) rfl rfl (Nat.le_of_ble_eq_true rfl) dL_law_1283 ?_
  rintro _ _ rfl
  refine r_top (congrArg nI (hJ)) ?_
  refine r_iload K dL_law_1286 rfl ?_
  refine r_ic_eq K 1293 dL_law_1288 (by decide) (Nat.lt_of_le_of_lt (thr_le3 _ _ _) (by decide)) (Nat.lt_of_le_of_lt (thr_le3 _ _ _) (by decide)) (fun _ => ?_) (fun h => absurd rfl h)
  refine r_iload K dL_law_1293 rfl ?_
  refine r_if_ne K 1310 dL_law_1295 (by decide) (Nat.lt_of_le_of_lt (thr_le3 _ _ _) (by decide)) (fun h0 => ?_) (fun h0 => ?_)
  ·
    refine r_goto K 1592 dL_law_1310 (by decide) ?_
    refine r_pick [0, 1, 2, 3, 4] K rfl ?_
    refine r_w (ws' := wL a b o c S u.1 u.2 J3) (by unfold wL; rw [if_neg h0]) ?_
    exact NX _ _ S u.1 u.2 J3 (by show k + 3 + 0 + 0 ≤ k + 10; omega) (by show n + 18 + 0 + 0 ≤ n + 60; omega) (hI.mono (by omega))
  ·
    have h02 := h0
    obtain ⟨hb1, hb2, hb3⟩ := thr_eq0 h0
    refine r_aload_n K dL_law_1298 rfl ?_
    refine r_iconst K (nI 0) dL_law_1299 (by decide) ?_
    refine r_lald0 K (f := u.2) 42 3 rfl rfl (by decide) dL_law_1300 ?_
    refine r_iload K dL_law_1301 rfl ?_
    refine r_i2lR K dL_law_1303 ?_
    refine r_lcmpR K dL_law_1304 ?_
    refine r_top (show lg_cmp (u.2 0) r2.toInt64 = nI 0 from by rw [hv h0, hv2 h02]; exact lcmp_0 _) ?_
    refine r_if_eq K 1310 dL_law_1305 (by decide) (by decide) (fun _ => ?_) (fun h => absurd rfl h)
    refine r_goto K 1592 dL_law_1310 (by decide) ?_
    refine r_pick [0, 1, 2, 3, 4] K rfl ?_
    refine r_w (ws' := wL a b o c (S) u.1 u.2 J3) (by unfold wL; rw [if_pos h0]) ?_
    exact NX _ _ (S) u.1 u.2 J3 (by show k + 3 + 0 + 0 ≤ k + 10; omega) (by show n + 18 + 0 + 0 ≤ n + 60; omega) (hI.mono (by omega))

set_option maxHeartbeats 4000000 in
set_option maxRecDepth 100000 in
theorem case_orders (l : Launch) (D : va_G) (a b : Nat → Nat) (c : Nat → ClassId) (o : Nat) (hl0 : l.stackTraces = false) {G : Gt} {sb L : Nat} {xs : Nat → Int32} (KE : OkE l room_1 G cL_law 7 wsL_law RL D (tyW c)) (KS : OkS l room_1 G cL_law 7 wsL_law RL D (tyW c) sb L xs) {m k n i : Nat} (S J : St) (f : Nat → Int64) (J2 : St) (hI : Inv m S) (hm : m ≤ 600) (hi : i + 5 ≤ L) (hL : L ≤ 2560) (hk : k + 10 ≤ 602188) (hn : n + 60 ≤ 7289539) (NX : Next G sb a b o c (m + 1) k n i) : G k n (wL a b o c S J f J2) (lvL sb (a 0) (b 0) o i) 1313 [] := by
  have K := KE.ok
  have hV := hI.V hm
  have hO := hI.2.2.1
  unfold wL lvL
  obtain ⟨x, hx_⟩ : ∃ x : Int32, x = xs (i + 1) := ⟨_, rfl⟩
  obtain ⟨y, hy_⟩ : ∃ x : Int32, x = xs (i + 2) := ⟨_, rfl⟩
  obtain ⟨z, hz_⟩ : ∃ x : Int32, x = xs (i + 3) := ⟨_, rfl⟩
  refine r_aload_n K dL_law_1313 rfl ?_
  refine r_aload_n K dL_law_1314 rfl ?_
  refine r_iload K dL_law_1315 rfl ?_
  refine r_iconst K (nI 1) dL_law_1317 (by decide) ?_
  refine r_iadd K dL_law_1318 ?_
  refine r_sld KS (by omega) hL dL_law_1319 ?_
  refine r_top hx_.symm ?_
  refine r_aload_n K dL_law_1320 rfl ?_
  refine r_iload K dL_law_1321 rfl ?_
  refine r_iconst K (nI 2) dL_law_1323 (by decide) ?_
  refine r_iadd K dL_law_1324 ?_
  refine r_sld KS (by omega) hL dL_law_1325 ?_
  refine r_top hy_.symm ?_
  refine r_aload_n K dL_law_1326 rfl ?_
  refine r_iload K dL_law_1327 rfl ?_
  refine r_iconst K (nI 3) dL_law_1329 (by decide) ?_
  refine r_iadd K dL_law_1330 ?_
  refine r_sld KS (by omega) hL dL_law_1331 ?_
  refine r_top hz_.symm ?_
  refine r_aload_n K dL_law_1332 rfl ?_
  refine r_callW (rest := []) (z := wM b c S J2) KE (c_L_orders l D a c S J o f hl0 hV x y z) 5 gL_law_L_orders rfl (by decide +kernel) rfl ⟨⟨Nat.le_of_ble_eq_true rfl, Nat.le_of_ble_eq_true rfl⟩, (by show k + 3 ≤ 602188; omega), (by show n + 18 ≤ 7289539; omega)⟩ rfl (Nat.le_of_ble_eq_true rfl) dL_law_1333 ?_
  rintro _ u ⟨rfl, hv⟩
  refine r_istore (lv' := [(0, .ref sb), (1, .ref (a 0)), (2, .ref (b 0)), (3, .ref o), (4, .int (nI i)), (5, .int (nI (thr (inB x 0 ((S 3 0 : Nat) - 1) && inB y 0 15) (inB z 1 10) (true))))]) K dL_law_1336 (by decide) rfl ?_
  refine r_aload_n K dL_law_1338 rfl ?_
  refine r_aload_n K dL_law_1339 rfl ?_
  refine r_iload K dL_law_1340 rfl ?_
  refine r_iconst K (nI 1) dL_law_1342 (by decide) ?_
  refine r_iadd K dL_law_1343 ?_
  refine r_sld KS (by omega) hL dL_law_1344 ?_
  refine r_top hx_.symm ?_
  refine r_aload_n K dL_law_1345 rfl ?_
  refine r_iload K dL_law_1346 rfl ?_
  refine r_iconst K (nI 2) dL_law_1348 (by decide) ?_
  refine r_iadd K dL_law_1349 ?_
  refine r_sld KS (by omega) hL dL_law_1350 ?_
  refine r_top hy_.symm ?_
  refine r_aload_n K dL_law_1351 rfl ?_
  refine r_iload K dL_law_1352 rfl ?_
  refine r_iconst K (nI 3) dL_law_1354 (by decide) ?_
  refine r_iadd K dL_law_1355 ?_
  refine r_sld KS (by omega) hL dL_law_1356 ?_
  refine r_top hz_.symm ?_
  refine r_callVr (rest := []) (z := (wC a c (if thr (inB x 0 ((S 3 0 : Nat) - 1) && inB y 0 15) (inB z 1 10) (true) = 0 then (S) else S) u.1 ++ lo o c u.2)) K (c_X7_orders l D b c S J2 hV x y z) 3 gL_law_X7_orders rfl (by decide +kernel) rfl ⟨⟨Nat.le_of_ble_eq_true rfl, Nat.le_of_ble_eq_true rfl⟩, (by show k + 3 + 0 ≤ 602188; omega), (by show n + 18 + 0 ≤ 7289539; omega)⟩ 0 (wM_g0 _ _ _ _) rfl rfl (Nat.le_of_ble_eq_true rfl) dL_law_1357 ?_
  rintro r2 J3 ⟨hJ, hv2⟩
  refine r_istore (lv' := [(0, .ref sb), (1, .ref (a 0)), (2, .ref (b 0)), (3, .ref o), (4, .int (nI i)), (5, .int (nI (thr (inB x 0 ((S 3 0 : Nat) - 1) && inB y 0 15) (inB z 1 10) (true)))), (6, .int r2)]) K dL_law_1360 (by decide) rfl ?_
  refine r_aload_n K dL_law_1362 rfl ?_
  refine r_callVr (rest := []) (z := (wC a c (if thr (inB x 0 ((S 3 0 : Nat) - 1) && inB y 0 15) (inB z 1 10) (true) = 0 then (S) else S) u.1 ++ lo o c u.2)) (w := wM b c S J3) K (c_X7_thrown l D b c S J3) 0 gL_law_X7_thrown rfl (by decide +kernel) rfl ⟨⟨Nat.le_of_ble_eq_true rfl, Nat.le_of_ble_eq_true rfl⟩, (by show k + 3 + 0 + 0 ≤ 602188; omega), (by show n + 18 + 0 + 0 ≤ 7289539; omega)⟩ 0 (wM_g0 _ _ _ _) rfl rfl (Nat.le_of_ble_eq_true rfl) dL_law_1363 ?_
  rintro _ _ rfl
  refine r_top (congrArg nI (hJ)) ?_
  refine r_iload K dL_law_1366 rfl ?_
  refine r_ic_eq K 1373 dL_law_1368 (by decide) (Nat.lt_of_le_of_lt (thr_le3 _ _ _) (by decide)) (Nat.lt_of_le_of_lt (thr_le3 _ _ _) (by decide)) (fun _ => ?_) (fun h => absurd rfl h)
  refine r_iload K dL_law_1373 rfl ?_
  refine r_if_ne K 1390 dL_law_1375 (by decide) (Nat.lt_of_le_of_lt (thr_le3 _ _ _) (by decide)) (fun h0 => ?_) (fun h0 => ?_)
  ·
    refine r_goto K 1592 dL_law_1390 (by decide) ?_
    refine r_pick [0, 1, 2, 3, 4] K rfl ?_
    refine r_w (ws' := wL a b o c S u.1 u.2 J3) (by unfold wL; rw [if_neg h0]) ?_
    exact NX _ _ S u.1 u.2 J3 (by show k + 3 + 0 + 0 ≤ k + 10; omega) (by show n + 18 + 0 + 0 ≤ n + 60; omega) (hI.mono (by omega))
  ·
    have h02 := h0
    obtain ⟨hb1, hb2, hb3⟩ := thr_eq0 h0
    refine r_aload_n K dL_law_1378 rfl ?_
    refine r_iconst K (nI 0) dL_law_1379 (by decide) ?_
    refine r_lald0 K (f := u.2) 42 3 rfl rfl (by decide) dL_law_1380 ?_
    refine r_iload K dL_law_1381 rfl ?_
    refine r_i2lR K dL_law_1383 ?_
    refine r_lcmpR K dL_law_1384 ?_
    refine r_top (show lg_cmp (u.2 0) r2.toInt64 = nI 0 from by rw [hv h0, hv2 h02]; exact lcmp_0 _) ?_
    refine r_if_eq K 1390 dL_law_1385 (by decide) (by decide) (fun _ => ?_) (fun h => absurd rfl h)
    refine r_goto K 1592 dL_law_1390 (by decide) ?_
    refine r_pick [0, 1, 2, 3, 4] K rfl ?_
    refine r_w (ws' := wL a b o c (S) u.1 u.2 J3) (by unfold wL; rw [if_pos h0]) ?_
    exact NX _ _ (S) u.1 u.2 J3 (by show k + 3 + 0 + 0 ≤ k + 10; omega) (by show n + 18 + 0 + 0 ≤ n + 60; omega) (hI.mono (by omega))

set_option maxHeartbeats 4000000 in
set_option maxRecDepth 100000 in
theorem case_ordersByAll (l : Launch) (D : va_G) (a b : Nat → Nat) (c : Nat → ClassId) (o : Nat) (hl0 : l.stackTraces = false) {G : Gt} {sb L : Nat} {xs : Nat → Int32} (KE : OkE l room_1 G cL_law 7 wsL_law RL D (tyW c)) (KS : OkS l room_1 G cL_law 7 wsL_law RL D (tyW c) sb L xs) {m k n i : Nat} (S J : St) (f : Nat → Int64) (J2 : St) (hI : Inv m S) (hm : m ≤ 600) (hi : i + 5 ≤ L) (hL : L ≤ 2560) (hk : k + 10 ≤ 602188) (hn : n + 60 ≤ 7289539) (NX : Next G sb a b o c (m + 1) k n i) : G k n (wL a b o c S J f J2) (lvL sb (a 0) (b 0) o i) 1393 [] := by
  have K := KE.ok
  have hV := hI.V hm
  have hO := hI.2.2.1
  unfold wL lvL
  obtain ⟨x, hx_⟩ : ∃ x : Int32, x = xs (i + 1) := ⟨_, rfl⟩
  obtain ⟨y, hy_⟩ : ∃ x : Int32, x = xs (i + 2) := ⟨_, rfl⟩
  obtain ⟨z, hz_⟩ : ∃ x : Int32, x = xs (i + 3) := ⟨_, rfl⟩
  refine r_aload_n K dL_law_1393 rfl ?_
  refine r_aload_n K dL_law_1394 rfl ?_
  refine r_iload K dL_law_1395 rfl ?_
  refine r_iconst K (nI 1) dL_law_1397 (by decide) ?_
  refine r_iadd K dL_law_1398 ?_
  refine r_sld KS (by omega) hL dL_law_1399 ?_
  refine r_top hx_.symm ?_
  refine r_aload_n K dL_law_1400 rfl ?_
  refine r_iload K dL_law_1401 rfl ?_
  refine r_iconst K (nI 2) dL_law_1403 (by decide) ?_
  refine r_iadd K dL_law_1404 ?_
  refine r_sld KS (by omega) hL dL_law_1405 ?_
  refine r_top hy_.symm ?_
  refine r_aload_n K dL_law_1406 rfl ?_
  refine r_iload K dL_law_1407 rfl ?_
  refine r_iconst K (nI 3) dL_law_1409 (by decide) ?_
  refine r_iadd K dL_law_1410 ?_
  refine r_sld KS (by omega) hL dL_law_1411 ?_
  refine r_top hz_.symm ?_
  refine r_aload_n K dL_law_1412 rfl ?_
  refine r_callW (rest := []) (z := wM b c S J2) KE (c_L_ordersByAll l D a c S J o f hl0 hV x y z) 5 gL_law_L_ordersByAll rfl (by decide +kernel) rfl ⟨⟨Nat.le_of_ble_eq_true rfl, Nat.le_of_ble_eq_true rfl⟩, (by show k + 4 ≤ 602188; omega), (by show n + 24 ≤ 7289539; omega)⟩ rfl (Nat.le_of_ble_eq_true rfl) dL_law_1413 ?_
  rintro _ u ⟨rfl, hv⟩
  refine r_istore (lv' := [(0, .ref sb), (1, .ref (a 0)), (2, .ref (b 0)), (3, .ref o), (4, .int (nI i)), (5, .int (nI (thr (inB x 0 ((S 3 0 : Nat) - 1) && inB y 0 15) (inB z 1 10) (decide (S 19 (tn x) ≤ 7)))))]) K dL_law_1416 (by decide) rfl ?_
  refine r_aload_n K dL_law_1418 rfl ?_
  refine r_aload_n K dL_law_1419 rfl ?_
  refine r_iload K dL_law_1420 rfl ?_
  refine r_iconst K (nI 1) dL_law_1422 (by decide) ?_
  refine r_iadd K dL_law_1423 ?_
  refine r_sld KS (by omega) hL dL_law_1424 ?_
  refine r_top hx_.symm ?_
  refine r_aload_n K dL_law_1425 rfl ?_
  refine r_iload K dL_law_1426 rfl ?_
  refine r_iconst K (nI 2) dL_law_1428 (by decide) ?_
  refine r_iadd K dL_law_1429 ?_
  refine r_sld KS (by omega) hL dL_law_1430 ?_
  refine r_top hy_.symm ?_
  refine r_aload_n K dL_law_1431 rfl ?_
  refine r_iload K dL_law_1432 rfl ?_
  refine r_iconst K (nI 3) dL_law_1434 (by decide) ?_
  refine r_iadd K dL_law_1435 ?_
  refine r_sld KS (by omega) hL dL_law_1436 ?_
  refine r_top hz_.symm ?_
  refine r_callVr (rest := []) (z := (wC a c (if thr (inB x 0 ((S 3 0 : Nat) - 1) && inB y 0 15) (inB z 1 10) (decide (S 19 (tn x) ≤ 7)) = 0 then (S) else S) u.1 ++ lo o c u.2)) K (c_X7_ordersByAll l D b c S J2 hV x y z) 3 gL_law_X7_ordersByAll rfl (by decide +kernel) rfl ⟨⟨Nat.le_of_ble_eq_true rfl, Nat.le_of_ble_eq_true rfl⟩, (by show k + 4 + 0 ≤ 602188; omega), (by show n + 24 + 0 ≤ 7289539; omega)⟩ 0 (wM_g0 _ _ _ _) rfl rfl (Nat.le_of_ble_eq_true rfl) dL_law_1437 ?_
  rintro r2 J3 ⟨hJ, hv2⟩
  refine r_istore (lv' := [(0, .ref sb), (1, .ref (a 0)), (2, .ref (b 0)), (3, .ref o), (4, .int (nI i)), (5, .int (nI (thr (inB x 0 ((S 3 0 : Nat) - 1) && inB y 0 15) (inB z 1 10) (decide (S 19 (tn x) ≤ 7))))), (6, .int r2)]) K dL_law_1440 (by decide) rfl ?_
  refine r_aload_n K dL_law_1442 rfl ?_
  refine r_callVr (rest := []) (z := (wC a c (if thr (inB x 0 ((S 3 0 : Nat) - 1) && inB y 0 15) (inB z 1 10) (decide (S 19 (tn x) ≤ 7)) = 0 then (S) else S) u.1 ++ lo o c u.2)) (w := wM b c S J3) K (c_X7_thrown l D b c S J3) 0 gL_law_X7_thrown rfl (by decide +kernel) rfl ⟨⟨Nat.le_of_ble_eq_true rfl, Nat.le_of_ble_eq_true rfl⟩, (by show k + 4 + 0 + 0 ≤ 602188; omega), (by show n + 24 + 0 + 0 ≤ 7289539; omega)⟩ 0 (wM_g0 _ _ _ _) rfl rfl (Nat.le_of_ble_eq_true rfl) dL_law_1443 ?_
  rintro _ _ rfl
  have hth : thr (inB x 0 ((S 3 0 : Nat) - 1) && inB y 0 15) (inB z 1 10) ((inB x 0 ((S 3 0 : Nat) - 1) && inB y 0 15) && decide (S 19 (tn x) ≤ 7)) = thr (inB x 0 ((S 3 0 : Nat) - 1) && inB y 0 15) (inB z 1 10) (decide (S 19 (tn x) ≤ 7)) := thr_m2 _ _ _
  refine r_top (congrArg nI (hJ.trans hth)) ?_
  refine r_iload K dL_law_1446 rfl ?_
  refine r_ic_eq K 1453 dL_law_1448 (by decide) (Nat.lt_of_le_of_lt (thr_le3 _ _ _) (by decide)) (Nat.lt_of_le_of_lt (thr_le3 _ _ _) (by decide)) (fun _ => ?_) (fun h => absurd rfl h)
  refine r_iload K dL_law_1453 rfl ?_
  refine r_if_ne K 1470 dL_law_1455 (by decide) (Nat.lt_of_le_of_lt (thr_le3 _ _ _) (by decide)) (fun h0 => ?_) (fun h0 => ?_)
  ·
    refine r_goto K 1592 dL_law_1470 (by decide) ?_
    refine r_pick [0, 1, 2, 3, 4] K rfl ?_
    refine r_w (ws' := wL a b o c S u.1 u.2 J3) (by unfold wL; rw [if_neg h0]) ?_
    exact NX _ _ S u.1 u.2 J3 (by show k + 4 + 0 + 0 ≤ k + 10; omega) (by show n + 24 + 0 + 0 ≤ n + 60; omega) (hI.mono (by omega))
  ·
    have h02 := hth.trans h0
    obtain ⟨hb1, hb2, hb3⟩ := thr_eq0 h0
    refine r_aload_n K dL_law_1458 rfl ?_
    refine r_iconst K (nI 0) dL_law_1459 (by decide) ?_
    refine r_lald0 K (f := u.2) 42 3 rfl rfl (by decide) dL_law_1460 ?_
    refine r_iload K dL_law_1461 rfl ?_
    refine r_i2lR K dL_law_1463 ?_
    refine r_lcmpR K dL_law_1464 ?_
    refine r_top (show lg_cmp (u.2 0) r2.toInt64 = nI 0 from by rw [hv h0, hv2 h02, co_ord]; exact lcmp_0 _) ?_
    refine r_if_eq K 1470 dL_law_1465 (by decide) (by decide) (fun _ => ?_) (fun h => absurd rfl h)
    refine r_goto K 1592 dL_law_1470 (by decide) ?_
    refine r_pick [0, 1, 2, 3, 4] K rfl ?_
    refine r_w (ws' := wL a b o c (S) u.1 u.2 J3) (by unfold wL; rw [if_pos h0]) ?_
    exact NX _ _ (S) u.1 u.2 J3 (by show k + 4 + 0 + 0 ≤ k + 10; omega) (by show n + 24 + 0 + 0 ≤ n + 60; omega) (hI.mono (by omega))

set_option maxHeartbeats 4000000 in
set_option maxRecDepth 100000 in
theorem case_isOpen (l : Launch) (D : va_G) (a b : Nat → Nat) (c : Nat → ClassId) (o : Nat) (hl0 : l.stackTraces = false) {G : Gt} {sb L : Nat} {xs : Nat → Int32} (KE : OkE l room_1 G cL_law 7 wsL_law RL D (tyW c)) (KS : OkS l room_1 G cL_law 7 wsL_law RL D (tyW c) sb L xs) {m k n i : Nat} (S J : St) (f : Nat → Int64) (J2 : St) (hI : Inv m S) (hm : m ≤ 600) (hi : i + 5 ≤ L) (hL : L ≤ 2560) (hk : k + 10 ≤ 602188) (hn : n + 60 ≤ 7289539) (NX : Next G sb a b o c (m + 1) k n i) : G k n (wL a b o c S J f J2) (lvL sb (a 0) (b 0) o i) 1473 [] := by
  have K := KE.ok
  have hV := hI.V hm
  have hO := hI.2.2.1
  unfold wL lvL
  obtain ⟨x, hx_⟩ : ∃ x : Int32, x = xs (i + 1) := ⟨_, rfl⟩
  refine r_aload_n K dL_law_1473 rfl ?_
  refine r_aload_n K dL_law_1474 rfl ?_
  refine r_iload K dL_law_1475 rfl ?_
  refine r_iconst K (nI 1) dL_law_1477 (by decide) ?_
  refine r_iadd K dL_law_1478 ?_
  refine r_sld KS (by omega) hL dL_law_1479 ?_
  refine r_top hx_.symm ?_
  refine r_aload_n K dL_law_1480 rfl ?_
  refine r_callW (rest := []) (z := wM b c S J2) KE (c_L_isOpen l D a c S J o f hl0 hV hO.lt2 x) 3 gL_law_L_isOpen rfl (by decide +kernel) rfl ⟨⟨Nat.le_of_ble_eq_true rfl, Nat.le_of_ble_eq_true rfl⟩, (by show k + 1 ≤ 602188; omega), (by show n + 6 ≤ 7289539; omega)⟩ rfl (Nat.le_of_ble_eq_true rfl) dL_law_1481 ?_
  rintro _ u ⟨rfl, hv⟩
  refine r_istore (lv' := [(0, .ref sb), (1, .ref (a 0)), (2, .ref (b 0)), (3, .ref o), (4, .int (nI i)), (5, .int (nI (thr (inB x 0 ((S 4 0 : Nat) - 1)) (true) (true))))]) K dL_law_1484 (by decide) rfl ?_
  refine r_aload_n K dL_law_1486 rfl ?_
  refine r_aload_n K dL_law_1487 rfl ?_
  refine r_iload K dL_law_1488 rfl ?_
  refine r_iconst K (nI 1) dL_law_1490 (by decide) ?_
  refine r_iadd K dL_law_1491 ?_
  refine r_sld KS (by omega) hL dL_law_1492 ?_
  refine r_top hx_.symm ?_
  refine r_callVr (rest := []) (z := (wC a c (if thr (inB x 0 ((S 4 0 : Nat) - 1)) (true) (true) = 0 then (S) else S) u.1 ++ lo o c u.2)) K (c_X7_isOpen l D b c S J2 hV x) 1 gL_law_X7_isOpen rfl (by decide +kernel) rfl ⟨⟨Nat.le_of_ble_eq_true rfl, Nat.le_of_ble_eq_true rfl⟩, (by show k + 1 + 0 ≤ 602188; omega), (by show n + 6 + 0 ≤ 7289539; omega)⟩ 0 (wM_g0 _ _ _ _) rfl rfl (Nat.le_of_ble_eq_true rfl) dL_law_1493 ?_
  rintro r2 J3 ⟨hJ, hv2⟩
  refine r_istore (lv' := [(0, .ref sb), (1, .ref (a 0)), (2, .ref (b 0)), (3, .ref o), (4, .int (nI i)), (5, .int (nI (thr (inB x 0 ((S 4 0 : Nat) - 1)) (true) (true)))), (6, .int r2)]) K dL_law_1496 (by decide) rfl ?_
  refine r_aload_n K dL_law_1498 rfl ?_
  refine r_callVr (rest := []) (z := (wC a c (if thr (inB x 0 ((S 4 0 : Nat) - 1)) (true) (true) = 0 then (S) else S) u.1 ++ lo o c u.2)) (w := wM b c S J3) K (c_X7_thrown l D b c S J3) 0 gL_law_X7_thrown rfl (by decide +kernel) rfl ⟨⟨Nat.le_of_ble_eq_true rfl, Nat.le_of_ble_eq_true rfl⟩, (by show k + 1 + 0 + 0 ≤ 602188; omega), (by show n + 6 + 0 + 0 ≤ 7289539; omega)⟩ 0 (wM_g0 _ _ _ _) rfl rfl (Nat.le_of_ble_eq_true rfl) dL_law_1499 ?_
  rintro _ _ rfl
  refine r_top (congrArg nI (hJ)) ?_
  refine r_iload K dL_law_1502 rfl ?_
  refine r_ic_eq K 1509 dL_law_1504 (by decide) (Nat.lt_of_le_of_lt (thr_le3 _ _ _) (by decide)) (Nat.lt_of_le_of_lt (thr_le3 _ _ _) (by decide)) (fun _ => ?_) (fun h => absurd rfl h)
  refine r_iload K dL_law_1509 rfl ?_
  refine r_if_ne K 1533 dL_law_1511 (by decide) (Nat.lt_of_le_of_lt (thr_le3 _ _ _) (by decide)) (fun h0 => ?_) (fun h0 => ?_)
  ·
    refine r_goto K 1592 dL_law_1533 (by decide) ?_
    refine r_pick [0, 1, 2, 3, 4] K rfl ?_
    refine r_w (ws' := wL a b o c S u.1 u.2 J3) (by unfold wL; rw [if_neg h0]) ?_
    exact NX _ _ S u.1 u.2 J3 (by show k + 1 + 0 + 0 ≤ k + 10; omega) (by show n + 6 + 0 + 0 ≤ n + 60; omega) (hI.mono (by omega))
  ·
    have h02 := h0
    obtain ⟨hb1, hb2, hb3⟩ := thr_eq0 h0
    refine r_aload_n K dL_law_1514 rfl ?_
    refine r_iconst K (nI 0) dL_law_1515 (by decide) ?_
    refine r_lald0 K (f := u.2) 42 3 rfl rfl (by decide) dL_law_1516 ?_
    refine r_iload K dL_law_1517 rfl ?_
    refine r_top (hv2 h02) ?_
    refine r_if_eqB K 1526 dL_law_1519 (by decide) (fun hb => ?_) (fun hb => ?_)
    ·
      refine r_lconst K (lN 0) dL_law_1526 (by decide) ?_
      refine r_lcmpR K dL_law_1527 ?_
      refine r_top (show lg_cmp (u.2 0) (lN 0) = nI 0 from by rw [hv h0, ← hO.op_nat (show tn x < S 4 0 by have := inB_tn (by decide) hb1; omega), hb]; decide) ?_
      refine r_if_eq K 1533 dL_law_1528 (by decide) (by decide) (fun _ => ?_) (fun h => absurd rfl h)
      refine r_goto K 1592 dL_law_1533 (by decide) ?_
      refine r_pick [0, 1, 2, 3, 4] K rfl ?_
      refine r_w (ws' := wL a b o c (S) u.1 u.2 J3) (by unfold wL; rw [if_pos h0]) ?_
      exact NX _ _ (S) u.1 u.2 J3 (by show k + 1 + 0 + 0 ≤ k + 10; omega) (by show n + 6 + 0 + 0 ≤ n + 60; omega) (hI.mono (by omega))
    ·
      refine r_lconst K (lN 1) dL_law_1522 (by decide) ?_
      refine r_goto K 1527 dL_law_1523 (by decide) ?_
      refine r_lcmpR K dL_law_1527 ?_
      refine r_top (show lg_cmp (u.2 0) (lN 1) = nI 0 from by rw [hv h0, ← hO.op_nat (show tn x < S 4 0 by have := inB_tn (by decide) hb1; omega), hb]; decide) ?_
      refine r_if_eq K 1533 dL_law_1528 (by decide) (by decide) (fun _ => ?_) (fun h => absurd rfl h)
      refine r_goto K 1592 dL_law_1533 (by decide) ?_
      refine r_pick [0, 1, 2, 3, 4] K rfl ?_
      refine r_w (ws' := wL a b o c (S) u.1 u.2 J3) (by unfold wL; rw [if_pos h0]) ?_
      exact NX _ _ (S) u.1 u.2 J3 (by show k + 1 + 0 + 0 ≤ k + 10; omega) (by show n + 6 + 0 + 0 ≤ n + 60; omega) (hI.mono (by omega))

set_option maxHeartbeats 4000000 in
set_option maxRecDepth 100000 in
theorem case_ring (l : Launch) (D : va_G) (a b : Nat → Nat) (c : Nat → ClassId) (o : Nat) (hl0 : l.stackTraces = false) {G : Gt} {sb L : Nat} {xs : Nat → Int32} (KE : OkE l room_1 G cL_law 7 wsL_law RL D (tyW c)) (KS : OkS l room_1 G cL_law 7 wsL_law RL D (tyW c) sb L xs) {m k n i : Nat} (S J : St) (f : Nat → Int64) (J2 : St) (hI : Inv m S) (hm : m ≤ 600) (hi : i + 5 ≤ L) (hL : L ≤ 2560) (hk : k + 10 ≤ 602188) (hn : n + 60 ≤ 7289539) (NX : Next G sb a b o c (m + 1) k n i) : G k n (wL a b o c S J f J2) (lvL sb (a 0) (b 0) o i) 1536 [] := by
  have K := KE.ok
  have hV := hI.V hm
  have hO := hI.2.2.1
  unfold wL lvL
  obtain ⟨x, hx_⟩ : ∃ x : Int32, x = xs (i + 1) := ⟨_, rfl⟩
  refine r_aload_n K dL_law_1536 rfl ?_
  refine r_aload_n K dL_law_1537 rfl ?_
  refine r_iload K dL_law_1538 rfl ?_
  refine r_iconst K (nI 1) dL_law_1540 (by decide) ?_
  refine r_iadd K dL_law_1541 ?_
  refine r_sld KS (by omega) hL dL_law_1542 ?_
  refine r_top hx_.symm ?_
  refine r_aload_n K dL_law_1543 rfl ?_
  refine r_callW (rest := []) (z := wM b c S J2) KE (c_L_ring l D a c S J o f hl0 hV x) 3 gL_law_L_ring rfl (by decide +kernel) rfl ⟨⟨Nat.le_of_ble_eq_true rfl, Nat.le_of_ble_eq_true rfl⟩, (by show k + 1 ≤ 602188; omega), (by show n + 6 ≤ 7289539; omega)⟩ rfl (Nat.le_of_ble_eq_true rfl) dL_law_1544 ?_
  rintro _ u ⟨rfl, hv⟩
  refine r_istore (lv' := [(0, .ref sb), (1, .ref (a 0)), (2, .ref (b 0)), (3, .ref o), (4, .int (nI i)), (5, .int (nI (thr (sdB x) (true) (true))))]) K dL_law_1547 (by decide) rfl ?_
  refine r_aload_n K dL_law_1549 rfl ?_
  refine r_aload_n K dL_law_1550 rfl ?_
  refine r_iload K dL_law_1551 rfl ?_
  refine r_iconst K (nI 1) dL_law_1553 (by decide) ?_
  refine r_iadd K dL_law_1554 ?_
  refine r_sld KS (by omega) hL dL_law_1555 ?_
  refine r_top hx_.symm ?_
  refine r_callVr (rest := []) (z := (wC a c (if thr (sdB x) (true) (true) = 0 then (S) else S) u.1 ++ lo o c u.2)) K (c_X7_ring l D b c S J2 hV hO.Lk x) 1 gL_law_X7_ring rfl (by decide +kernel) rfl ⟨⟨Nat.le_of_ble_eq_true rfl, Nat.le_of_ble_eq_true rfl⟩, (by show k + 1 + 0 ≤ 602188; omega), (by show n + 6 + 0 ≤ 7289539; omega)⟩ 0 (wM_g0 _ _ _ _) rfl rfl (Nat.le_of_ble_eq_true rfl) dL_law_1556 ?_
  rintro r2 J3 ⟨hJ, hv2⟩
  refine r_istore (lv' := [(0, .ref sb), (1, .ref (a 0)), (2, .ref (b 0)), (3, .ref o), (4, .int (nI i)), (5, .int (nI (thr (sdB x) (true) (true)))), (6, .int r2)]) K dL_law_1559 (by decide) rfl ?_
  refine r_aload_n K dL_law_1561 rfl ?_
  refine r_callVr (rest := []) (z := (wC a c (if thr (sdB x) (true) (true) = 0 then (S) else S) u.1 ++ lo o c u.2)) (w := wM b c S J3) K (c_X7_thrown l D b c S J3) 0 gL_law_X7_thrown rfl (by decide +kernel) rfl ⟨⟨Nat.le_of_ble_eq_true rfl, Nat.le_of_ble_eq_true rfl⟩, (by show k + 1 + 0 + 0 ≤ 602188; omega), (by show n + 6 + 0 + 0 ≤ 7289539; omega)⟩ 0 (wM_g0 _ _ _ _) rfl rfl (Nat.le_of_ble_eq_true rfl) dL_law_1562 ?_
  rintro _ _ rfl
  refine r_top (congrArg nI (hJ)) ?_
  refine r_iload K dL_law_1565 rfl ?_
  refine r_ic_eq K 1572 dL_law_1567 (by decide) (Nat.lt_of_le_of_lt (thr_le3 _ _ _) (by decide)) (Nat.lt_of_le_of_lt (thr_le3 _ _ _) (by decide)) (fun _ => ?_) (fun h => absurd rfl h)
  refine r_iload K dL_law_1572 rfl ?_
  refine r_if_ne K 1589 dL_law_1574 (by decide) (Nat.lt_of_le_of_lt (thr_le3 _ _ _) (by decide)) (fun h0 => ?_) (fun h0 => ?_)
  ·
    refine r_goto K 1592 dL_law_1589 (by decide) ?_
    refine r_pick [0, 1, 2, 3, 4] K rfl ?_
    refine r_w (ws' := wL a b o c S u.1 u.2 J3) (by unfold wL; rw [if_neg h0]) ?_
    exact NX _ _ S u.1 u.2 J3 (by show k + 1 + 0 + 0 ≤ k + 10; omega) (by show n + 6 + 0 + 0 ≤ n + 60; omega) (hI.mono (by omega))
  ·
    have h02 := h0
    obtain ⟨hb1, hb2, hb3⟩ := thr_eq0 h0
    refine r_aload_n K dL_law_1577 rfl ?_
    refine r_iconst K (nI 0) dL_law_1578 (by decide) ?_
    refine r_lald0 K (f := u.2) 42 3 rfl rfl (by decide) dL_law_1579 ?_
    refine r_iload K dL_law_1580 rfl ?_
    refine r_i2lR K dL_law_1582 ?_
    refine r_lcmpR K dL_law_1583 ?_
    refine r_top (show lg_cmp (u.2 0) r2.toInt64 = nI 0 from by rw [hv h0, hv2 h02]; exact lcmp_0 _) ?_
    refine r_if_eq K 1589 dL_law_1584 (by decide) (by decide) (fun _ => ?_) (fun h => absurd rfl h)
    refine r_goto K 1592 dL_law_1589 (by decide) ?_
    refine r_pick [0, 1, 2, 3, 4] K rfl ?_
    refine r_w (ws' := wL a b o c (S) u.1 u.2 J3) (by unfold wL; rw [if_pos h0]) ?_
    exact NX _ _ (S) u.1 u.2 J3 (by show k + 1 + 0 + 0 ≤ k + 10; omega) (by show n + 6 + 0 + 0 ≤ n + 60; omega) (hI.mono (by omega))
