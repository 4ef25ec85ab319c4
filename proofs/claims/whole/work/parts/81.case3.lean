section LAWC
variable {p : Program} {l : Launch} {e : Env} {s : State} {m : MethodId} {below : List Frame} {meth : Method} {c : Code} {Q : State → Prop} {D : va_G} {Ca : Nat → ClassId} {ad : Nat → Nat → Nat} {adV : Nat → Nat} {b L : Nat} {xs : Nat → Int32}
set_option maxRecDepth 100000 in
theorem dl_34 : decode code 1267 = .ok (.aload_n 1, 1) ∧ decode code 1268 = .ok (.invokevirtual 160, 3) ∧ decode code 1271 = .ok (.aload_n 2, 1) ∧ decode code 1272 = .ok (.invokevirtual 163, 3) ∧ decode code 1275 = .ok (.if_icmp .eq 440, 3) ∧ decode code 1278 = .ok (.iconst 0, 1) ∧ decode code 1279 = .ok (.ireturn, 1) := ⟨by decide +kernel, by decide +kernel, by decide +kernel, by decide +kernel, by decide +kernel, by decide +kernel, by decide +kernel⟩
set_option maxRecDepth 100000 in
theorem lc_34 {mm : ax_M} {i : Nat} {H : Heap} {ls : Array Slot} (C : lw_H p s m c b L xs D Ca ad adV) (hi : i + 6 ≤ L) (I : lw_I s b D Ca ad mm i H ls) (kk : ∀ (mm' : ax_M) (H' : Heap), lw_I s b D Ca ad mm' i H' ls → W p l e room_1 s m #[Value.ref b] below meth c H' [] 600000 7302250 Q (F0 m 1715 ls [])) : W p l e room_1 s m #[Value.ref b] below meth c H [] 600000 7302250 Q (F0 m 1267 ls []) := by
  obtain ⟨hx, hb, hml, hown, hts, hSt, hinj, hX, hbl, hAs, hL⟩ := C
  obtain ⟨hz, hP, hS, hl⟩ := I
  have hbA : ¬ ax_A ad b := fun h => Nat.not_le.mpr hbl (hAs b h)
  obtain ⟨e1267, e1268, e1271, e1272, e1275, e1278, e1279⟩ := dl_34
  obtain ⟨G, hG⟩ := id hz
  obtain ⟨a, h1, h2⟩ := t_mutual  mm G hG
  have hz2 := hz
  refine lv_aload_n hx hb e1267 rfl (lv_at hl 2 rfl) ?_
  refine lw_call (d := 30) (mt := 135) (k := 0) (r := []) (a1 := []) hx hb hml hown hts hSt hinj rfl rfl rfl rfl rfl (by decide) (Nat.le_of_ble_eq_true rfl) (fun v hv => by cases hv) (R_X10_mutual (by decide) h1) (List.mem_of_getElem? (i := 923) (by decide +kernel)) ⟨Nat.le_of_ble_eq_true rfl, Nat.le_of_ble_eq_true rfl⟩ hP hS hl.1 rfl (Nat.le_of_ble_eq_true rfl) ⟨Nat.le_of_ble_eq_true rfl, Nat.le_of_ble_eq_true rfl⟩ e1268 (fun H locs hP hS => ?_)
  refine W.eq (g2 := F0 m 1271 ls [.int a]) rfl ?_
  refine lv_aload_n hx hb e1271 rfl (lv_at hl 1 rfl) ?_
  refine lw_call (d := 30) (mt := 231) (k := 22) (r := [.inl a]) (a1 := []) hx hb hml hown hts hSt hinj rfl rfl rfl rfl rfl (by decide) (Nat.le_of_ble_eq_true rfl) (fun v hv => by cases hv) (R_X11_mutual (by decide) h2) (List.mem_of_getElem? (i := 1482) (by decide +kernel)) ⟨Nat.le_of_ble_eq_true rfl, Nat.le_of_ble_eq_true rfl⟩ hP hS hl.1 rfl (Nat.le_of_ble_eq_true rfl) ⟨Nat.le_of_ble_eq_true rfl, Nat.le_of_ble_eq_true rfl⟩ e1272 (fun H locs hP hS => ?_)
  refine W.eq (g2 := F0 m 1275 ls [.int a, .int a]) rfl ?_
  refine lv_icmp_eq (tgt := 1715) hx hb e1275 (by decide) (fun _ => ?_) (fun h => absurd rfl h)
  exact lw_back hAs hS (fun hS => kk mm _ ⟨hz2, hP, hS, hl⟩)
set_option maxRecDepth 100000 in
theorem dl_35 : decode code 1280 = .ok (.aload_n 1, 1) ∧ decode code 1281 = .ok (.aload_n 0, 1) ∧ decode code 1282 = .ok (.iload_n 3, 1) ∧ decode code 1283 = .ok (.iconst 1, 1) ∧ decode code 1284 = .ok (.iadd, 1) ∧ decode code 1285 = .ok (.iaload, 1) ∧ decode code 1286 = .ok (.invokevirtual 164, 3) ∧ decode code 1289 = .ok (.aload_n 2, 1) ∧ decode code 1290 = .ok (.aload_n 0, 1) ∧ decode code 1291 = .ok (.iload_n 3, 1) ∧ decode code 1292 = .ok (.iconst 1, 1) ∧ decode code 1293 = .ok (.iadd, 1) ∧ decode code 1294 = .ok (.iaload, 1) ∧ decode code 1295 = .ok (.invokevirtual 167, 3) ∧ decode code 1298 = .ok (.if_icmp .eq 417, 3) ∧ decode code 1301 = .ok (.iconst 0, 1) ∧ decode code 1302 = .ok (.ireturn, 1) := ⟨by decide +kernel, by decide +kernel, by decide +kernel, by decide +kernel, by decide +kernel, by decide +kernel, by decide +kernel, by decide +kernel, by decide +kernel, by decide +kernel, by decide +kernel, by decide +kernel, by decide +kernel, by decide +kernel, by decide +kernel, by decide +kernel, by decide +kernel⟩
set_option maxRecDepth 100000 in
theorem lc_35 {mm : ax_M} {i : Nat} {H : Heap} {ls : Array Slot} (C : lw_H p s m c b L xs D Ca ad adV) (hi : i + 6 ≤ L) (I : lw_I s b D Ca ad mm i H ls) (kk : ∀ (mm' : ax_M) (H' : Heap), lw_I s b D Ca ad mm' i H' ls → W p l e room_1 s m #[Value.ref b] below meth c H' [] 600000 7302250 Q (F0 m 1715 ls [])) : W p l e room_1 s m #[Value.ref b] below meth c H [] 600000 7302250 Q (F0 m 1280 ls []) := by
  obtain ⟨hx, hb, hml, hown, hts, hSt, hinj, hX, hbl, hAs, hL⟩ := C
  obtain ⟨hz, hP, hS, hl⟩ := I
  have hbA : ¬ ax_A ad b := fun h => Nat.not_le.mpr hbl (hAs b h)
  obtain ⟨e1280, e1281, e1282, e1283, e1284, e1285, e1286, e1289, e1290, e1291, e1292, e1293, e1294, e1295, e1298, e1301, e1302⟩ := dl_35
  obtain ⟨a, m1, m2, h1, h2, hz2⟩ := t_ring (xs (i + 1)) mm hz
  refine lv_aload_n hx hb e1280 rfl (lv_at hl 2 rfl) ?_
  refine lw_arg (k := 1) hx hb hX hbl hbA hS hL (by omega) (by decide) hl e1281 e1282 e1283 e1284 e1285 ?_
  refine lw_call (d := 30) (mt := 136) (k := 0) (r := []) (a1 := [.inl (xs (i + 1))]) hx hb hml hown hts hSt hinj rfl rfl rfl rfl rfl (by decide) (Nat.le_of_ble_eq_true rfl) (ax_ok1 trivial (fun v hv => by cases hv)) (R_X10_ring (by decide) h1) (List.mem_of_getElem? (i := 934) (by decide +kernel)) ⟨Nat.le_of_ble_eq_true rfl, Nat.le_of_ble_eq_true rfl⟩ hP hS hl.1 rfl (Nat.le_of_ble_eq_true rfl) ⟨Nat.le_of_ble_eq_true rfl, Nat.le_of_ble_eq_true rfl⟩ e1286 (fun H locs hP hS => ?_)
  refine W.eq (g2 := F0 m 1289 ls [.int a]) rfl ?_
  refine lv_aload_n hx hb e1289 rfl (lv_at hl 1 rfl) ?_
  refine lw_arg (k := 1) hx hb hX hbl hbA hS hL (by omega) (by decide) hl e1290 e1291 e1292 e1293 e1294 ?_
  refine lw_call (d := 30) (mt := 233) (k := 22) (r := [.inl a]) (a1 := [.inl (xs (i + 1))]) hx hb hml hown hts hSt hinj rfl rfl rfl rfl rfl (by decide) (Nat.le_of_ble_eq_true rfl) (ax_ok1 trivial (fun v hv => by cases hv)) (R_X11_ring (by decide) h2) (List.mem_of_getElem? (i := 1487) (by decide +kernel)) ⟨Nat.le_of_ble_eq_true rfl, Nat.le_of_ble_eq_true rfl⟩ hP hS hl.1 rfl (Nat.le_of_ble_eq_true rfl) ⟨Nat.le_of_ble_eq_true rfl, Nat.le_of_ble_eq_true rfl⟩ e1295 (fun H locs hP hS => ?_)
  refine W.eq (g2 := F0 m 1298 ls [.int a, .int a]) rfl ?_
  refine lv_icmp_eq (tgt := 1715) hx hb e1298 (by decide) (fun _ => ?_) (fun h => absurd rfl h)
  exact lw_back hAs hS (fun hS => kk m2 _ ⟨hz2, hP, hS, hl⟩)
set_option maxRecDepth 100000 in
theorem dl_36 : decode code 1303 = .ok (.aload_n 1, 1) ∧ decode code 1304 = .ok (.aload_n 0, 1) ∧ decode code 1305 = .ok (.iload_n 3, 1) ∧ decode code 1306 = .ok (.iconst 1, 1) ∧ decode code 1307 = .ok (.iadd, 1) ∧ decode code 1308 = .ok (.iaload, 1) ∧ decode code 1309 = .ok (.aload_n 0, 1) ∧ decode code 1310 = .ok (.iload_n 3, 1) ∧ decode code 1311 = .ok (.iconst 2, 1) ∧ decode code 1312 = .ok (.iadd, 1) ∧ decode code 1313 = .ok (.iaload, 1) ∧ decode code 1314 = .ok (.aload_n 0, 1) ∧ decode code 1315 = .ok (.iload_n 3, 1) ∧ decode code 1316 = .ok (.iconst 3, 1) ∧ decode code 1317 = .ok (.iadd, 1) ∧ decode code 1318 = .ok (.iaload, 1) ∧ decode code 1319 = .ok (.invokevirtual 168, 3) ∧ decode code 1322 = .ok (.aload_n 2, 1) ∧ decode code 1323 = .ok (.aload_n 0, 1) ∧ decode code 1324 = .ok (.iload_n 3, 1) ∧ decode code 1325 = .ok (.iconst 1, 1) ∧ decode code 1326 = .ok (.iadd, 1) ∧ decode code 1327 = .ok (.iaload, 1) ∧ decode code 1328 = .ok (.aload_n 0, 1) ∧ decode code 1329 = .ok (.iload_n 3, 1) ∧ decode code 1330 = .ok (.iconst 2, 1) ∧ decode code 1331 = .ok (.iadd, 1) ∧ decode code 1332 = .ok (.iaload, 1) ∧ decode code 1333 = .ok (.aload_n 0, 1) ∧ decode code 1334 = .ok (.iload_n 3, 1) ∧ decode code 1335 = .ok (.iconst 3, 1) ∧ decode code 1336 = .ok (.iadd, 1) ∧ decode code 1337 = .ok (.iaload, 1) ∧ decode code 1338 = .ok (.invokevirtual 171, 3) ∧ decode code 1341 = .ok (.if_icmp .eq 374, 3) ∧ decode code 1344 = .ok (.iconst 0, 1) ∧ decode code 1345 = .ok (.ireturn, 1) := ⟨by decide +kernel, by decide +kernel, by decide +kernel, by decide +kernel, by decide +kernel, by decide +kernel, by decide +kernel, by decide +kernel, by decide +kernel, by decide +kernel, by decide +kernel, by decide +kernel, by decide +kernel, by decide +kernel, by decide +kernel, by decide +kernel, by decide +kernel, by decide +kernel, by decide +kernel, by decide +kernel, by decide +kernel, by decide +kernel, by decide +kernel, by decide +kernel, by decide +kernel, by decide +kernel, by decide +kernel, by decide +kernel, by decide +kernel, by decide +kernel, by decide +kernel, by decide +kernel, by decide +kernel, by decide +kernel, by decide +kernel, by decide +kernel, by decide +kernel⟩
set_option maxRecDepth 100000 in
theorem lc_36 {mm : ax_M} {i : Nat} {H : Heap} {ls : Array Slot} (C : lw_H p s m c b L xs D Ca ad adV) (hi : i + 6 ≤ L) (I : lw_I s b D Ca ad mm i H ls) (kk : ∀ (mm' : ax_M) (H' : Heap), lw_I s b D Ca ad mm' i H' ls → W p l e room_1 s m #[Value.ref b] below meth c H' [] 600000 7302250 Q (F0 m 1715 ls [])) : W p l e room_1 s m #[Value.ref b] below meth c H [] 600000 7302250 Q (F0 m 1303 ls []) := by
  obtain ⟨hx, hb, hml, hown, hts, hSt, hinj, hX, hbl, hAs, hL⟩ := C
  obtain ⟨hz, hP, hS, hl⟩ := I
  have hbA : ¬ ax_A ad b := fun h => Nat.not_le.mpr hbl (hAs b h)
  obtain ⟨e1303, e1304, e1305, e1306, e1307, e1308, e1309, e1310, e1311, e1312, e1313, e1314, e1315, e1316, e1317, e1318, e1319, e1322, e1323, e1324, e1325, e1326, e1327, e1328, e1329, e1330, e1331, e1332, e1333, e1334, e1335, e1336, e1337, e1338, e1341, e1344, e1345⟩ := dl_36
  obtain ⟨a, m1, m2, h1, h2, hz2⟩ := t_guess (xs (i + 1)) (xs (i + 2)) (xs (i + 3)) mm hz
  refine lv_aload_n hx hb e1303 rfl (lv_at hl 2 rfl) ?_
  refine lw_arg (k := 1) hx hb hX hbl hbA hS hL (by omega) (by decide) hl e1304 e1305 e1306 e1307 e1308 ?_
  refine lw_arg (k := 2) hx hb hX hbl hbA hS hL (by omega) (by decide) hl e1309 e1310 e1311 e1312 e1313 ?_
  refine lw_arg (k := 3) hx hb hX hbl hbA hS hL (by omega) (by decide) hl e1314 e1315 e1316 e1317 e1318 ?_
  refine lw_call (d := 30) (mt := 137) (k := 0) (r := []) (a1 := [.inl (xs (i + 1)), .inl (xs (i + 2)), .inl (xs (i + 3))]) hx hb hml hown hts hSt hinj rfl rfl rfl rfl rfl (by decide) (Nat.le_of_ble_eq_true rfl) (ax_ok1 trivial (ax_ok1 trivial (ax_ok1 trivial (fun v hv => by cases hv)))) (R_X10_guess (by decide) h1) (List.mem_of_getElem? (i := 946) (by decide +kernel)) ⟨Nat.le_of_ble_eq_true rfl, Nat.le_of_ble_eq_true rfl⟩ hP hS hl.1 rfl (Nat.le_of_ble_eq_true rfl) ⟨Nat.le_of_ble_eq_true rfl, Nat.le_of_ble_eq_true rfl⟩ e1319 (fun H locs hP hS => ?_)
  refine W.eq (g2 := F0 m 1322 ls [.int a]) rfl ?_
  refine lv_aload_n hx hb e1322 rfl (lv_at hl 1 rfl) ?_
  refine lw_arg (k := 1) hx hb hX hbl hbA hS hL (by omega) (by decide) hl e1323 e1324 e1325 e1326 e1327 ?_
  refine lw_arg (k := 2) hx hb hX hbl hbA hS hL (by omega) (by decide) hl e1328 e1329 e1330 e1331 e1332 ?_
  refine lw_arg (k := 3) hx hb hX hbl hbA hS hL (by omega) (by decide) hl e1333 e1334 e1335 e1336 e1337 ?_
  refine lw_call (d := 30) (mt := 234) (k := 22) (r := [.inl a]) (a1 := [.inl (xs (i + 1)), .inl (xs (i + 2)), .inl (xs (i + 3))]) hx hb hml hown hts hSt hinj rfl rfl rfl rfl rfl (by decide) (Nat.le_of_ble_eq_true rfl) (ax_ok1 trivial (ax_ok1 trivial (ax_ok1 trivial (fun v hv => by cases hv)))) (R_X11_guess (by decide) h2) (List.mem_of_getElem? (i := 1495) (by decide +kernel)) ⟨Nat.le_of_ble_eq_true rfl, Nat.le_of_ble_eq_true rfl⟩ hP hS hl.1 rfl (Nat.le_of_ble_eq_true rfl) ⟨Nat.le_of_ble_eq_true rfl, Nat.le_of_ble_eq_true rfl⟩ e1338 (fun H locs hP hS => ?_)
  refine W.eq (g2 := F0 m 1341 ls [.int a, .int a]) rfl ?_
  refine lv_icmp_eq (tgt := 1715) hx hb e1341 (by decide) (fun _ => ?_) (fun h => absurd rfl h)
  exact lw_back hAs hS (fun hS => kk m2 _ ⟨hz2, hP, hS, hl⟩)
set_option maxRecDepth 100000 in
theorem dl_37 : decode code 1346 = .ok (.aload_n 1, 1) ∧ decode code 1347 = .ok (.aload_n 0, 1) ∧ decode code 1348 = .ok (.iload_n 3, 1) ∧ decode code 1349 = .ok (.iconst 1, 1) ∧ decode code 1350 = .ok (.iadd, 1) ∧ decode code 1351 = .ok (.iaload, 1) ∧ decode code 1352 = .ok (.aload_n 0, 1) ∧ decode code 1353 = .ok (.iload_n 3, 1) ∧ decode code 1354 = .ok (.iconst 2, 1) ∧ decode code 1355 = .ok (.iadd, 1) ∧ decode code 1356 = .ok (.iaload, 1) ∧ decode code 1357 = .ok (.aload_n 0, 1) ∧ decode code 1358 = .ok (.iload_n 3, 1) ∧ decode code 1359 = .ok (.iconst 3, 1) ∧ decode code 1360 = .ok (.iadd, 1) ∧ decode code 1361 = .ok (.iaload, 1) ∧ decode code 1362 = .ok (.invokevirtual 172, 3) ∧ decode code 1365 = .ok (.aload_n 2, 1) ∧ decode code 1366 = .ok (.aload_n 0, 1) ∧ decode code 1367 = .ok (.iload_n 3, 1) ∧ decode code 1368 = .ok (.iconst 1, 1) ∧ decode code 1369 = .ok (.iadd, 1) ∧ decode code 1370 = .ok (.iaload, 1) ∧ decode code 1371 = .ok (.aload_n 0, 1) ∧ decode code 1372 = .ok (.iload_n 3, 1) ∧ decode code 1373 = .ok (.iconst 2, 1) ∧ decode code 1374 = .ok (.iadd, 1) ∧ decode code 1375 = .ok (.iaload, 1) ∧ decode code 1376 = .ok (.aload_n 0, 1) ∧ decode code 1377 = .ok (.iload_n 3, 1) ∧ decode code 1378 = .ok (.iconst 3, 1) ∧ decode code 1379 = .ok (.iadd, 1) ∧ decode code 1380 = .ok (.iaload, 1) ∧ decode code 1381 = .ok (.invokevirtual 175, 3) ∧ decode code 1384 = .ok (.if_icmp .eq 331, 3) ∧ decode code 1387 = .ok (.iconst 0, 1) ∧ decode code 1388 = .ok (.ireturn, 1) := ⟨by decide +kernel, by decide +kernel, by decide +kernel, by decide +kernel, by decide +kernel, by decide +kernel, by decide +kernel, by decide +kernel, by decide +kernel, by decide +kernel, by decide +kernel, by decide +kernel, by decide +kernel, by decide +kernel, by decide +kernel, by decide +kernel, by decide +kernel, by decide +kernel, by decide +kernel, by decide +kernel, by decide +kernel, by decide +kernel, by decide +kernel, by decide +kernel, by decide +kernel, by decide +kernel, by decide +kernel, by decide +kernel, by decide +kernel, by decide +kernel, by decide +kernel, by decide +kernel, by decide +kernel, by decide +kernel, by decide +kernel, by decide +kernel, by decide +kernel⟩
set_option maxRecDepth 100000 in
theorem lc_37 {mm : ax_M} {i : Nat} {H : Heap} {ls : Array Slot} (C : lw_H p s m c b L xs D Ca ad adV) (hi : i + 6 ≤ L) (I : lw_I s b D Ca ad mm i H ls) (kk : ∀ (mm' : ax_M) (H' : Heap), lw_I s b D Ca ad mm' i H' ls → W p l e room_1 s m #[Value.ref b] below meth c H' [] 600000 7302250 Q (F0 m 1715 ls [])) : W p l e room_1 s m #[Value.ref b] below meth c H [] 600000 7302250 Q (F0 m 1346 ls []) := by
  obtain ⟨hx, hb, hml, hown, hts, hSt, hinj, hX, hbl, hAs, hL⟩ := C
  obtain ⟨hz, hP, hS, hl⟩ := I
  have hbA : ¬ ax_A ad b := fun h => Nat.not_le.mpr hbl (hAs b h)
  obtain ⟨e1346, e1347, e1348, e1349, e1350, e1351, e1352, e1353, e1354, e1355, e1356, e1357, e1358, e1359, e1360, e1361, e1362, e1365, e1366, e1367, e1368, e1369, e1370, e1371, e1372, e1373, e1374, e1375, e1376, e1377, e1378, e1379, e1380, e1381, e1384, e1387, e1388⟩ := dl_37
  obtain ⟨a, m1, m2, h1, h2, hz2⟩ := t_tells (xs (i + 1)) (xs (i + 2)) (xs (i + 3)) mm hz
  refine lv_aload_n hx hb e1346 rfl (lv_at hl 2 rfl) ?_
  refine lw_arg (k := 1) hx hb hX hbl hbA hS hL (by omega) (by decide) hl e1347 e1348 e1349 e1350 e1351 ?_
  refine lw_arg (k := 2) hx hb hX hbl hbA hS hL (by omega) (by decide) hl e1352 e1353 e1354 e1355 e1356 ?_
  refine lw_arg (k := 3) hx hb hX hbl hbA hS hL (by omega) (by decide) hl e1357 e1358 e1359 e1360 e1361 ?_
  refine lw_call (d := 30) (mt := 139) (k := 0) (r := []) (a1 := [.inl (xs (i + 1)), .inl (xs (i + 2)), .inl (xs (i + 3))]) hx hb hml hown hts hSt hinj rfl rfl rfl rfl rfl (by decide) (Nat.le_of_ble_eq_true rfl) (ax_ok1 trivial (ax_ok1 trivial (ax_ok1 trivial (fun v hv => by cases hv)))) (R_X10_tells (by decide) h1) (List.mem_of_getElem? (i := 968) (by decide +kernel)) ⟨Nat.le_of_ble_eq_true rfl, Nat.le_of_ble_eq_true rfl⟩ hP hS hl.1 rfl (Nat.le_of_ble_eq_true rfl) ⟨Nat.le_of_ble_eq_true rfl, Nat.le_of_ble_eq_true rfl⟩ e1362 (fun H locs hP hS => ?_)
  refine W.eq (g2 := F0 m 1365 ls [.int a]) rfl ?_
  refine lv_aload_n hx hb e1365 rfl (lv_at hl 1 rfl) ?_
  refine lw_arg (k := 1) hx hb hX hbl hbA hS hL (by omega) (by decide) hl e1366 e1367 e1368 e1369 e1370 ?_
  refine lw_arg (k := 2) hx hb hX hbl hbA hS hL (by omega) (by decide) hl e1371 e1372 e1373 e1374 e1375 ?_
  refine lw_arg (k := 3) hx hb hX hbl hbA hS hL (by omega) (by decide) hl e1376 e1377 e1378 e1379 e1380 ?_
  refine lw_call (d := 30) (mt := 239) (k := 22) (r := [.inl a]) (a1 := [.inl (xs (i + 1)), .inl (xs (i + 2)), .inl (xs (i + 3))]) hx hb hml hown hts hSt hinj rfl rfl rfl rfl rfl (by decide) (Nat.le_of_ble_eq_true rfl) (ax_ok1 trivial (ax_ok1 trivial (ax_ok1 trivial (fun v hv => by cases hv)))) (R_X11_tells (by decide) h2) (List.mem_of_getElem? (i := 1499) (by decide +kernel)) ⟨Nat.le_of_ble_eq_true rfl, Nat.le_of_ble_eq_true rfl⟩ hP hS hl.1 rfl (Nat.le_of_ble_eq_true rfl) ⟨Nat.le_of_ble_eq_true rfl, Nat.le_of_ble_eq_true rfl⟩ e1381 (fun H locs hP hS => ?_)
  refine W.eq (g2 := F0 m 1384 ls [.int a, .int a]) rfl ?_
  refine lv_icmp_eq (tgt := 1715) hx hb e1384 (by decide) (fun _ => ?_) (fun h => absurd rfl h)
  exact lw_back hAs hS (fun hS => kk m2 _ ⟨hz2, hP, hS, hl⟩)
set_option maxRecDepth 100000 in
theorem dl_38 : decode code 1389 = .ok (.aload_n 1, 1) ∧ decode code 1390 = .ok (.aload_n 0, 1) ∧ decode code 1391 = .ok (.iload_n 3, 1) ∧ decode code 1392 = .ok (.iconst 1, 1) ∧ decode code 1393 = .ok (.iadd, 1) ∧ decode code 1394 = .ok (.iaload, 1) ∧ decode code 1395 = .ok (.aload_n 0, 1) ∧ decode code 1396 = .ok (.iload_n 3, 1) ∧ decode code 1397 = .ok (.iconst 2, 1) ∧ decode code 1398 = .ok (.iadd, 1) ∧ decode code 1399 = .ok (.iaload, 1) ∧ decode code 1400 = .ok (.aload_n 0, 1) ∧ decode code 1401 = .ok (.iload_n 3, 1) ∧ decode code 1402 = .ok (.iconst 3, 1) ∧ decode code 1403 = .ok (.iadd, 1) ∧ decode code 1404 = .ok (.iaload, 1) ∧ decode code 1405 = .ok (.invokevirtual 176, 3) ∧ decode code 1408 = .ok (.aload_n 2, 1) ∧ decode code 1409 = .ok (.aload_n 0, 1) ∧ decode code 1410 = .ok (.iload_n 3, 1) ∧ decode code 1411 = .ok (.iconst 1, 1) ∧ decode code 1412 = .ok (.iadd, 1) ∧ decode code 1413 = .ok (.iaload, 1) ∧ decode code 1414 = .ok (.aload_n 0, 1) ∧ decode code 1415 = .ok (.iload_n 3, 1) ∧ decode code 1416 = .ok (.iconst 2, 1) ∧ decode code 1417 = .ok (.iadd, 1) ∧ decode code 1418 = .ok (.iaload, 1) ∧ decode code 1419 = .ok (.aload_n 0, 1) ∧ decode code 1420 = .ok (.iload_n 3, 1) ∧ decode code 1421 = .ok (.iconst 3, 1) ∧ decode code 1422 = .ok (.iadd, 1) ∧ decode code 1423 = .ok (.iaload, 1) ∧ decode code 1424 = .ok (.invokevirtual 179, 3) ∧ decode code 1427 = .ok (.if_icmp .eq 288, 3) ∧ decode code 1430 = .ok (.iconst 0, 1) ∧ decode code 1431 = .ok (.ireturn, 1) := ⟨by decide +kernel, by decide +kernel, by decide +kernel, by decide +kernel, by decide +kernel, by decide +kernel, by decide +kernel, by decide +kernel, by decide +kernel, by decide +kernel, by decide +kernel, by decide +kernel, by decide +kernel, by decide +kernel, by decide +kernel, by decide +kernel, by decide +kernel, by decide +kernel, by decide +kernel, by decide +kernel, by decide +kernel, by decide +kernel, by decide +kernel, by decide +kernel, by decide +kernel, by decide +kernel, by decide +kernel, by decide +kernel, by decide +kernel, by decide +kernel, by decide +kernel, by decide +kernel, by decide +kernel, by decide +kernel, by decide +kernel, by decide +kernel, by decide +kernel⟩
set_option maxRecDepth 100000 in
theorem lc_38 {mm : ax_M} {i : Nat} {H : Heap} {ls : Array Slot} (C : lw_H p s m c b L xs D Ca ad adV) (hi : i + 6 ≤ L) (I : lw_I s b D Ca ad mm i H ls) (kk : ∀ (mm' : ax_M) (H' : Heap), lw_I s b D Ca ad mm' i H' ls → W p l e room_1 s m #[Value.ref b] below meth c H' [] 600000 7302250 Q (F0 m 1715 ls [])) : W p l e room_1 s m #[Value.ref b] below meth c H [] 600000 7302250 Q (F0 m 1389 ls []) := by
  obtain ⟨hx, hb, hml, hown, hts, hSt, hinj, hX, hbl, hAs, hL⟩ := C
  obtain ⟨hz, hP, hS, hl⟩ := I
  have hbA : ¬ ax_A ad b := fun h => Nat.not_le.mpr hbl (hAs b h)
  obtain ⟨e1389, e1390, e1391, e1392, e1393, e1394, e1395, e1396, e1397, e1398, e1399, e1400, e1401, e1402, e1403, e1404, e1405, e1408, e1409, e1410, e1411, e1412, e1413, e1414, e1415, e1416, e1417, e1418, e1419, e1420, e1421, e1422, e1423, e1424, e1427, e1430, e1431⟩ := dl_38
  obtain ⟨a, m1, m2, h1, h2, hz2⟩ := t_judge (xs (i + 1)) (xs (i + 2)) (xs (i + 3)) mm hz
  refine lv_aload_n hx hb e1389 rfl (lv_at hl 2 rfl) ?_
  refine lw_arg (k := 1) hx hb hX hbl hbA hS hL (by omega) (by decide) hl e1390 e1391 e1392 e1393 e1394 ?_
  refine lw_arg (k := 2) hx hb hX hbl hbA hS hL (by omega) (by decide) hl e1395 e1396 e1397 e1398 e1399 ?_
  refine lw_arg (k := 3) hx hb hX hbl hbA hS hL (by omega) (by decide) hl e1400 e1401 e1402 e1403 e1404 ?_
  refine lw_call (d := 30) (mt := 142) (k := 0) (r := []) (a1 := [.inl (xs (i + 1)), .inl (xs (i + 2)), .inl (xs (i + 3))]) hx hb hml hown hts hSt hinj rfl rfl rfl rfl rfl (by decide) (Nat.le_of_ble_eq_true rfl) (ax_ok1 trivial (ax_ok1 trivial (ax_ok1 trivial (fun v hv => by cases hv)))) (R_X10_judge (by decide) h1) (List.mem_of_getElem? (i := 1001) (by decide +kernel)) ⟨Nat.le_of_ble_eq_true rfl, Nat.le_of_ble_eq_true rfl⟩ hP hS hl.1 rfl (Nat.le_of_ble_eq_true rfl) ⟨Nat.le_of_ble_eq_true rfl, Nat.le_of_ble_eq_true rfl⟩ e1405 (fun H locs hP hS => ?_)
  refine W.eq (g2 := F0 m 1408 ls [.int a]) rfl ?_
  refine lv_aload_n hx hb e1408 rfl (lv_at hl 1 rfl) ?_
  refine lw_arg (k := 1) hx hb hX hbl hbA hS hL (by omega) (by decide) hl e1409 e1410 e1411 e1412 e1413 ?_
  refine lw_arg (k := 2) hx hb hX hbl hbA hS hL (by omega) (by decide) hl e1414 e1415 e1416 e1417 e1418 ?_
  refine lw_arg (k := 3) hx hb hX hbl hbA hS hL (by omega) (by decide) hl e1419 e1420 e1421 e1422 e1423 ?_
  refine lw_call (d := 30) (mt := 242) (k := 22) (r := [.inl a]) (a1 := [.inl (xs (i + 1)), .inl (xs (i + 2)), .inl (xs (i + 3))]) hx hb hml hown hts hSt hinj rfl rfl rfl rfl rfl (by decide) (Nat.le_of_ble_eq_true rfl) (ax_ok1 trivial (ax_ok1 trivial (ax_ok1 trivial (fun v hv => by cases hv)))) (R_X11_judge (by decide) h2) (List.mem_of_getElem? (i := 1519) (by decide +kernel)) ⟨Nat.le_of_ble_eq_true rfl, Nat.le_of_ble_eq_true rfl⟩ hP hS hl.1 rfl (Nat.le_of_ble_eq_true rfl) ⟨Nat.le_of_ble_eq_true rfl, Nat.le_of_ble_eq_true rfl⟩ e1424 (fun H locs hP hS => ?_)
  refine W.eq (g2 := F0 m 1427 ls [.int a, .int a]) rfl ?_
  refine lv_icmp_eq (tgt := 1715) hx hb e1427 (by decide) (fun _ => ?_) (fun h => absurd rfl h)
  exact lw_back hAs hS (fun hS => kk m2 _ ⟨hz2, hP, hS, hl⟩)
set_option maxRecDepth 100000 in
theorem dl_39 : decode code 1432 = .ok (.aload_n 1, 1) ∧ decode code 1433 = .ok (.aload_n 0, 1) ∧ decode code 1434 = .ok (.iload_n 3, 1) ∧ decode code 1435 = .ok (.iconst 1, 1) ∧ decode code 1436 = .ok (.iadd, 1) ∧ decode code 1437 = .ok (.iaload, 1) ∧ decode code 1438 = .ok (.aload_n 0, 1) ∧ decode code 1439 = .ok (.iload_n 3, 1) ∧ decode code 1440 = .ok (.iconst 2, 1) ∧ decode code 1441 = .ok (.iadd, 1) ∧ decode code 1442 = .ok (.iaload, 1) ∧ decode code 1443 = .ok (.aload_n 0, 1) ∧ decode code 1444 = .ok (.iload_n 3, 1) ∧ decode code 1445 = .ok (.iconst 3, 1) ∧ decode code 1446 = .ok (.iadd, 1) ∧ decode code 1447 = .ok (.iaload, 1) ∧ decode code 1448 = .ok (.invokevirtual 180, 3) ∧ decode code 1451 = .ok (.aload_n 2, 1) ∧ decode code 1452 = .ok (.aload_n 0, 1) ∧ decode code 1453 = .ok (.iload_n 3, 1) ∧ decode code 1454 = .ok (.iconst 1, 1) ∧ decode code 1455 = .ok (.iadd, 1) ∧ decode code 1456 = .ok (.iaload, 1) ∧ decode code 1457 = .ok (.aload_n 0, 1) ∧ decode code 1458 = .ok (.iload_n 3, 1) ∧ decode code 1459 = .ok (.iconst 2, 1) ∧ decode code 1460 = .ok (.iadd, 1) ∧ decode code 1461 = .ok (.iaload, 1) ∧ decode code 1462 = .ok (.aload_n 0, 1) ∧ decode code 1463 = .ok (.iload_n 3, 1) ∧ decode code 1464 = .ok (.iconst 3, 1) ∧ decode code 1465 = .ok (.iadd, 1) ∧ decode code 1466 = .ok (.iaload, 1) ∧ decode code 1467 = .ok (.invokevirtual 183, 3) ∧ decode code 1470 = .ok (.if_icmp .eq 245, 3) ∧ decode code 1473 = .ok (.iconst 0, 1) ∧ decode code 1474 = .ok (.ireturn, 1) := ⟨by decide +kernel, by decide +kernel, by decide +kernel, by decide +kernel, by decide +kernel, by decide +kernel, by decide +kernel, by decide +kernel, by decide +kernel, by decide +kernel, by decide +kernel, by decide +kernel, by decide +kernel, by decide +kernel, by decide +kernel, by decide +kernel, by decide +kernel, by decide +kernel, by decide +kernel, by decide +kernel, by decide +kernel, by decide +kernel, by decide +kernel, by decide +kernel, by decide +kernel, by decide +kernel, by decide +kernel, by decide +kernel, by decide +kernel, by decide +kernel, by decide +kernel, by decide +kernel, by decide +kernel, by decide +kernel, by decide +kernel, by decide +kernel, by decide +kernel⟩
set_option maxRecDepth 100000 in
theorem lc_39 {mm : ax_M} {i : Nat} {H : Heap} {ls : Array Slot} (C : lw_H p s m c b L xs D Ca ad adV) (hi : i + 6 ≤ L) (I : lw_I s b D Ca ad mm i H ls) (kk : ∀ (mm' : ax_M) (H' : Heap), lw_I s b D Ca ad mm' i H' ls → W p l e room_1 s m #[Value.ref b] below meth c H' [] 600000 7302250 Q (F0 m 1715 ls [])) : W p l e room_1 s m #[Value.ref b] below meth c H [] 600000 7302250 Q (F0 m 1432 ls []) := by
  obtain ⟨hx, hb, hml, hown, hts, hSt, hinj, hX, hbl, hAs, hL⟩ := C
  obtain ⟨hz, hP, hS, hl⟩ := I
  have hbA : ¬ ax_A ad b := fun h => Nat.not_le.mpr hbl (hAs b h)
  obtain ⟨e1432, e1433, e1434, e1435, e1436, e1437, e1438, e1439, e1440, e1441, e1442, e1443, e1444, e1445, e1446, e1447, e1448, e1451, e1452, e1453, e1454, e1455, e1456, e1457, e1458, e1459, e1460, e1461, e1462, e1463, e1464, e1465, e1466, e1467, e1470, e1473, e1474⟩ := dl_39
  obtain ⟨a, m1, m2, h1, h2, hz2⟩ := t_seen (xs (i + 1)) (xs (i + 2)) (xs (i + 3)) mm hz
  refine lv_aload_n hx hb e1432 rfl (lv_at hl 2 rfl) ?_
  refine lw_arg (k := 1) hx hb hX hbl hbA hS hL (by omega) (by decide) hl e1433 e1434 e1435 e1436 e1437 ?_
  refine lw_arg (k := 2) hx hb hX hbl hbA hS hL (by omega) (by decide) hl e1438 e1439 e1440 e1441 e1442 ?_
  refine lw_arg (k := 3) hx hb hX hbl hbA hS hL (by omega) (by decide) hl e1443 e1444 e1445 e1446 e1447 ?_
  refine lw_call (d := 30) (mt := 144) (k := 0) (r := []) (a1 := [.inl (xs (i + 1)), .inl (xs (i + 2)), .inl (xs (i + 3))]) hx hb hml hown hts hSt hinj rfl rfl rfl rfl rfl (by decide) (Nat.le_of_ble_eq_true rfl) (ax_ok1 trivial (ax_ok1 trivial (ax_ok1 trivial (fun v hv => by cases hv)))) (R_X10_seen (by decide) h1) (List.mem_of_getElem? (i := 1016) (by decide +kernel)) ⟨Nat.le_of_ble_eq_true rfl, Nat.le_of_ble_eq_true rfl⟩ hP hS hl.1 rfl (Nat.le_of_ble_eq_true rfl) ⟨Nat.le_of_ble_eq_true rfl, Nat.le_of_ble_eq_true rfl⟩ e1448 (fun H locs hP hS => ?_)
  refine W.eq (g2 := F0 m 1451 ls [.int a]) rfl ?_
  refine lv_aload_n hx hb e1451 rfl (lv_at hl 1 rfl) ?_
  refine lw_arg (k := 1) hx hb hX hbl hbA hS hL (by omega) (by decide) hl e1452 e1453 e1454 e1455 e1456 ?_
  refine lw_arg (k := 2) hx hb hX hbl hbA hS hL (by omega) (by decide) hl e1457 e1458 e1459 e1460 e1461 ?_
  refine lw_arg (k := 3) hx hb hX hbl hbA hS hL (by omega) (by decide) hl e1462 e1463 e1464 e1465 e1466 ?_
  refine lw_call (d := 30) (mt := 243) (k := 22) (r := [.inl a]) (a1 := [.inl (xs (i + 1)), .inl (xs (i + 2)), .inl (xs (i + 3))]) hx hb hml hown hts hSt hinj rfl rfl rfl rfl rfl (by decide) (Nat.le_of_ble_eq_true rfl) (ax_ok1 trivial (ax_ok1 trivial (ax_ok1 trivial (fun v hv => by cases hv)))) (R_X11_seen (by decide) h2) (List.mem_of_getElem? (i := 1531) (by decide +kernel)) ⟨Nat.le_of_ble_eq_true rfl, Nat.le_of_ble_eq_true rfl⟩ hP hS hl.1 rfl (Nat.le_of_ble_eq_true rfl) ⟨Nat.le_of_ble_eq_true rfl, Nat.le_of_ble_eq_true rfl⟩ e1467 (fun H locs hP hS => ?_)
  refine W.eq (g2 := F0 m 1470 ls [.int a, .int a]) rfl ?_
  refine lv_icmp_eq (tgt := 1715) hx hb e1470 (by decide) (fun _ => ?_) (fun h => absurd rfl h)
  exact lw_back hAs hS (fun hS => kk m2 _ ⟨hz2, hP, hS, hl⟩)
set_option maxRecDepth 100000 in
theorem dl_40 : decode code 1475 = .ok (.aload_n 1, 1) ∧ decode code 1476 = .ok (.aload_n 0, 1) ∧ decode code 1477 = .ok (.iload_n 3, 1) ∧ decode code 1478 = .ok (.iconst 1, 1) ∧ decode code 1479 = .ok (.iadd, 1) ∧ decode code 1480 = .ok (.iaload, 1) ∧ decode code 1481 = .ok (.aload_n 0, 1) ∧ decode code 1482 = .ok (.iload_n 3, 1) ∧ decode code 1483 = .ok (.iconst 2, 1) ∧ decode code 1484 = .ok (.iadd, 1) ∧ decode code 1485 = .ok (.iaload, 1) ∧ decode code 1486 = .ok (.aload_n 0, 1) ∧ decode code 1487 = .ok (.iload_n 3, 1) ∧ decode code 1488 = .ok (.iconst 3, 1) ∧ decode code 1489 = .ok (.iadd, 1) ∧ decode code 1490 = .ok (.iaload, 1) ∧ decode code 1491 = .ok (.invokevirtual 184, 3) ∧ decode code 1494 = .ok (.aload_n 2, 1) ∧ decode code 1495 = .ok (.aload_n 0, 1) ∧ decode code 1496 = .ok (.iload_n 3, 1) ∧ decode code 1497 = .ok (.iconst 1, 1) ∧ decode code 1498 = .ok (.iadd, 1) ∧ decode code 1499 = .ok (.iaload, 1) ∧ decode code 1500 = .ok (.aload_n 0, 1) ∧ decode code 1501 = .ok (.iload_n 3, 1) ∧ decode code 1502 = .ok (.iconst 2, 1) ∧ decode code 1503 = .ok (.iadd, 1) ∧ decode code 1504 = .ok (.iaload, 1) ∧ decode code 1505 = .ok (.aload_n 0, 1) ∧ decode code 1506 = .ok (.iload_n 3, 1) ∧ decode code 1507 = .ok (.iconst 3, 1) ∧ decode code 1508 = .ok (.iadd, 1) ∧ decode code 1509 = .ok (.iaload, 1) ∧ decode code 1510 = .ok (.invokevirtual 187, 3) ∧ decode code 1513 = .ok (.if_icmp .eq 202, 3) ∧ decode code 1516 = .ok (.iconst 0, 1) ∧ decode code 1517 = .ok (.ireturn, 1) := ⟨by decide +kernel, by decide +kernel, by decide +kernel, by decide +kernel, by decide +kernel, by decide +kernel, by decide +kernel, by decide +kernel, by decide +kernel, by decide +kernel, by decide +kernel, by decide +kernel, by decide +kernel, by decide +kernel, by decide +kernel, by decide +kernel, by decide +kernel, by decide +kernel, by decide +kernel, by decide +kernel, by decide +kernel, by decide +kernel, by decide +kernel, by decide +kernel, by decide +kernel, by decide +kernel, by decide +kernel, by decide +kernel, by decide +kernel, by decide +kernel, by decide +kernel, by decide +kernel, by decide +kernel, by decide +kernel, by decide +kernel, by decide +kernel, by decide +kernel⟩
set_option maxRecDepth 100000 in
theorem lc_40 {mm : ax_M} {i : Nat} {H : Heap} {ls : Array Slot} (C : lw_H p s m c b L xs D Ca ad adV) (hi : i + 6 ≤ L) (I : lw_I s b D Ca ad mm i H ls) (kk : ∀ (mm' : ax_M) (H' : Heap), lw_I s b D Ca ad mm' i H' ls → W p l e room_1 s m #[Value.ref b] below meth c H' [] 600000 7302250 Q (F0 m 1715 ls [])) : W p l e room_1 s m #[Value.ref b] below meth c H [] 600000 7302250 Q (F0 m 1475 ls []) := by
  obtain ⟨hx, hb, hml, hown, hts, hSt, hinj, hX, hbl, hAs, hL⟩ := C
  obtain ⟨hz, hP, hS, hl⟩ := I
  have hbA : ¬ ax_A ad b := fun h => Nat.not_le.mpr hbl (hAs b h)
  obtain ⟨e1475, e1476, e1477, e1478, e1479, e1480, e1481, e1482, e1483, e1484, e1485, e1486, e1487, e1488, e1489, e1490, e1491, e1494, e1495, e1496, e1497, e1498, e1499, e1500, e1501, e1502, e1503, e1504, e1505, e1506, e1507, e1508, e1509, e1510, e1513, e1516, e1517⟩ := dl_40
  obtain ⟨a, m1, m2, h1, h2, hz2⟩ := t_walk (xs (i + 1)) (xs (i + 2)) (xs (i + 3)) mm hz
  refine lv_aload_n hx hb e1475 rfl (lv_at hl 2 rfl) ?_
  refine lw_arg (k := 1) hx hb hX hbl hbA hS hL (by omega) (by decide) hl e1476 e1477 e1478 e1479 e1480 ?_
  refine lw_arg (k := 2) hx hb hX hbl hbA hS hL (by omega) (by decide) hl e1481 e1482 e1483 e1484 e1485 ?_
  refine lw_arg (k := 3) hx hb hX hbl hbA hS hL (by omega) (by decide) hl e1486 e1487 e1488 e1489 e1490 ?_
  refine lw_call (d := 30) (mt := 145) (k := 0) (r := []) (a1 := [.inl (xs (i + 1)), .inl (xs (i + 2)), .inl (xs (i + 3))]) hx hb hml hown hts hSt hinj rfl rfl rfl rfl rfl (by decide) (Nat.le_of_ble_eq_true rfl) (ax_ok1 trivial (ax_ok1 trivial (ax_ok1 trivial (fun v hv => by cases hv)))) (R_X10_walk (by decide) h1) (List.mem_of_getElem? (i := 1024) (by decide +kernel)) ⟨Nat.le_of_ble_eq_true rfl, Nat.le_of_ble_eq_true rfl⟩ hP hS hl.1 rfl (Nat.le_of_ble_eq_true rfl) ⟨Nat.le_of_ble_eq_true rfl, Nat.le_of_ble_eq_true rfl⟩ e1491 (fun H locs hP hS => ?_)
  refine W.eq (g2 := F0 m 1494 ls [.int a]) rfl ?_
  refine lv_aload_n hx hb e1494 rfl (lv_at hl 1 rfl) ?_
  refine lw_arg (k := 1) hx hb hX hbl hbA hS hL (by omega) (by decide) hl e1495 e1496 e1497 e1498 e1499 ?_
  refine lw_arg (k := 2) hx hb hX hbl hbA hS hL (by omega) (by decide) hl e1500 e1501 e1502 e1503 e1504 ?_
  refine lw_arg (k := 3) hx hb hX hbl hbA hS hL (by omega) (by decide) hl e1505 e1506 e1507 e1508 e1509 ?_
  refine lw_call (d := 30) (mt := 244) (k := 22) (r := [.inl a]) (a1 := [.inl (xs (i + 1)), .inl (xs (i + 2)), .inl (xs (i + 3))]) hx hb hml hown hts hSt hinj rfl rfl rfl rfl rfl (by decide) (Nat.le_of_ble_eq_true rfl) (ax_ok1 trivial (ax_ok1 trivial (ax_ok1 trivial (fun v hv => by cases hv)))) (R_X11_walk (by decide) h2) (List.mem_of_getElem? (i := 1535) (by decide +kernel)) ⟨Nat.le_of_ble_eq_true rfl, Nat.le_of_ble_eq_true rfl⟩ hP hS hl.1 rfl (Nat.le_of_ble_eq_true rfl) ⟨Nat.le_of_ble_eq_true rfl, Nat.le_of_ble_eq_true rfl⟩ e1510 (fun H locs hP hS => ?_)
  refine W.eq (g2 := F0 m 1513 ls [.int a, .int a]) rfl ?_
  refine lv_icmp_eq (tgt := 1715) hx hb e1513 (by decide) (fun _ => ?_) (fun h => absurd rfl h)
  exact lw_back hAs hS (fun hS => kk m2 _ ⟨hz2, hP, hS, hl⟩)
set_option maxRecDepth 100000 in
theorem dl_41 : decode code 1518 = .ok (.aload_n 1, 1) ∧ decode code 1519 = .ok (.aload_n 0, 1) ∧ decode code 1520 = .ok (.iload_n 3, 1) ∧ decode code 1521 = .ok (.iconst 1, 1) ∧ decode code 1522 = .ok (.iadd, 1) ∧ decode code 1523 = .ok (.iaload, 1) ∧ decode code 1524 = .ok (.aload_n 0, 1) ∧ decode code 1525 = .ok (.iload_n 3, 1) ∧ decode code 1526 = .ok (.iconst 2, 1) ∧ decode code 1527 = .ok (.iadd, 1) ∧ decode code 1528 = .ok (.iaload, 1) ∧ decode code 1529 = .ok (.invokevirtual 188, 3) ∧ decode code 1532 = .ok (.aload_n 2, 1) ∧ decode code 1533 = .ok (.aload_n 0, 1) ∧ decode code 1534 = .ok (.iload_n 3, 1) ∧ decode code 1535 = .ok (.iconst 1, 1) ∧ decode code 1536 = .ok (.iadd, 1) ∧ decode code 1537 = .ok (.iaload, 1) ∧ decode code 1538 = .ok (.aload_n 0, 1) ∧ decode code 1539 = .ok (.iload_n 3, 1) ∧ decode code 1540 = .ok (.iconst 2, 1) ∧ decode code 1541 = .ok (.iadd, 1) ∧ decode code 1542 = .ok (.iaload, 1) ∧ decode code 1543 = .ok (.invokevirtual 191, 3) ∧ decode code 1546 = .ok (.if_icmp .eq 169, 3) ∧ decode code 1549 = .ok (.iconst 0, 1) ∧ decode code 1550 = .ok (.ireturn, 1) := ⟨by decide +kernel, by decide +kernel, by decide +kernel, by decide +kernel, by decide +kernel, by decide +kernel, by decide +kernel, by decide +kernel, by decide +kernel, by decide +kernel, by decide +kernel, by decide +kernel, by decide +kernel, by decide +kernel, by decide +kernel, by decide +kernel, by decide +kernel, by decide +kernel, by decide +kernel, by decide +kernel, by decide +kernel, by decide +kernel, by decide +kernel, by decide +kernel, by decide +kernel, by decide +kernel, by decide +kernel⟩
set_option maxRecDepth 100000 in
theorem lc_41 {mm : ax_M} {i : Nat} {H : Heap} {ls : Array Slot} (C : lw_H p s m c b L xs D Ca ad adV) (hi : i + 6 ≤ L) (I : lw_I s b D Ca ad mm i H ls) (kk : ∀ (mm' : ax_M) (H' : Heap), lw_I s b D Ca ad mm' i H' ls → W p l e room_1 s m #[Value.ref b] below meth c H' [] 600000 7302250 Q (F0 m 1715 ls [])) : W p l e room_1 s m #[Value.ref b] below meth c H [] 600000 7302250 Q (F0 m 1518 ls []) := by
  obtain ⟨hx, hb, hml, hown, hts, hSt, hinj, hX, hbl, hAs, hL⟩ := C
  obtain ⟨hz, hP, hS, hl⟩ := I
  have hbA : ¬ ax_A ad b := fun h => Nat.not_le.mpr hbl (hAs b h)
  obtain ⟨e1518, e1519, e1520, e1521, e1522, e1523, e1524, e1525, e1526, e1527, e1528, e1529, e1532, e1533, e1534, e1535, e1536, e1537, e1538, e1539, e1540, e1541, e1542, e1543, e1546, e1549, e1550⟩ := dl_41
  obtain ⟨a, m1, m2, h1, h2, hz2⟩ := t_step (xs (i + 1)) (xs (i + 2)) mm hz
  refine lv_aload_n hx hb e1518 rfl (lv_at hl 2 rfl) ?_
  refine lw_arg (k := 1) hx hb hX hbl hbA hS hL (by omega) (by decide) hl e1519 e1520 e1521 e1522 e1523 ?_
  refine lw_arg (k := 2) hx hb hX hbl hbA hS hL (by omega) (by decide) hl e1524 e1525 e1526 e1527 e1528 ?_
  refine lw_call (d := 30) (mt := 146) (k := 0) (r := []) (a1 := [.inl (xs (i + 1)), .inl (xs (i + 2))]) hx hb hml hown hts hSt hinj rfl rfl rfl rfl rfl (by decide) (Nat.le_of_ble_eq_true rfl) (ax_ok1 trivial (ax_ok1 trivial (fun v hv => by cases hv))) (R_X10_step (by decide) h1) (List.mem_of_getElem? (i := 1028) (by decide +kernel)) ⟨Nat.le_of_ble_eq_true rfl, Nat.le_of_ble_eq_true rfl⟩ hP hS hl.1 rfl (Nat.le_of_ble_eq_true rfl) ⟨Nat.le_of_ble_eq_true rfl, Nat.le_of_ble_eq_true rfl⟩ e1529 (fun H locs hP hS => ?_)
  refine W.eq (g2 := F0 m 1532 ls [.int a]) rfl ?_
  refine lv_aload_n hx hb e1532 rfl (lv_at hl 1 rfl) ?_
  refine lw_arg (k := 1) hx hb hX hbl hbA hS hL (by omega) (by decide) hl e1533 e1534 e1535 e1536 e1537 ?_
  refine lw_arg (k := 2) hx hb hX hbl hbA hS hL (by omega) (by decide) hl e1538 e1539 e1540 e1541 e1542 ?_
  refine lw_call (d := 30) (mt := 246) (k := 22) (r := [.inl a]) (a1 := [.inl (xs (i + 1)), .inl (xs (i + 2))]) hx hb hml hown hts hSt hinj rfl rfl rfl rfl rfl (by decide) (Nat.le_of_ble_eq_true rfl) (ax_ok1 trivial (ax_ok1 trivial (fun v hv => by cases hv))) (R_X11_step (by decide) h2) (List.mem_of_getElem? (i := 1539) (by decide +kernel)) ⟨Nat.le_of_ble_eq_true rfl, Nat.le_of_ble_eq_true rfl⟩ hP hS hl.1 rfl (Nat.le_of_ble_eq_true rfl) ⟨Nat.le_of_ble_eq_true rfl, Nat.le_of_ble_eq_true rfl⟩ e1543 (fun H locs hP hS => ?_)
  refine W.eq (g2 := F0 m 1546 ls [.int a, .int a]) rfl ?_
  refine lv_icmp_eq (tgt := 1715) hx hb e1546 (by decide) (fun _ => ?_) (fun h => absurd rfl h)
  exact lw_back hAs hS (fun hS => kk m2 _ ⟨hz2, hP, hS, hl⟩)
set_option maxRecDepth 100000 in
theorem dl_42 : decode code 1551 = .ok (.aload_n 1, 1) ∧ decode code 1552 = .ok (.aload_n 0, 1) ∧ decode code 1553 = .ok (.iload_n 3, 1) ∧ decode code 1554 = .ok (.iconst 1, 1) ∧ decode code 1555 = .ok (.iadd, 1) ∧ decode code 1556 = .ok (.iaload, 1) ∧ decode code 1557 = .ok (.aload_n 0, 1) ∧ decode code 1558 = .ok (.iload_n 3, 1) ∧ decode code 1559 = .ok (.iconst 2, 1) ∧ decode code 1560 = .ok (.iadd, 1) ∧ decode code 1561 = .ok (.iaload, 1) ∧ decode code 1562 = .ok (.aload_n 0, 1) ∧ decode code 1563 = .ok (.iload_n 3, 1) ∧ decode code 1564 = .ok (.iconst 3, 1) ∧ decode code 1565 = .ok (.iadd, 1) ∧ decode code 1566 = .ok (.iaload, 1) ∧ decode code 1567 = .ok (.invokevirtual 192, 3) ∧ decode code 1570 = .ok (.aload_n 2, 1) ∧ decode code 1571 = .ok (.aload_n 0, 1) ∧ decode code 1572 = .ok (.iload_n 3, 1) ∧ decode code 1573 = .ok (.iconst 1, 1) ∧ decode code 1574 = .ok (.iadd, 1) ∧ decode code 1575 = .ok (.iaload, 1) ∧ decode code 1576 = .ok (.aload_n 0, 1) ∧ decode code 1577 = .ok (.iload_n 3, 1) ∧ decode code 1578 = .ok (.iconst 2, 1) ∧ decode code 1579 = .ok (.iadd, 1) ∧ decode code 1580 = .ok (.iaload, 1) ∧ decode code 1581 = .ok (.aload_n 0, 1) ∧ decode code 1582 = .ok (.iload_n 3, 1) ∧ decode code 1583 = .ok (.iconst 3, 1) ∧ decode code 1584 = .ok (.iadd, 1) ∧ decode code 1585 = .ok (.iaload, 1) ∧ decode code 1586 = .ok (.invokevirtual 195, 3) ∧ decode code 1589 = .ok (.if_icmp .eq 126, 3) ∧ decode code 1592 = .ok (.iconst 0, 1) ∧ decode code 1593 = .ok (.ireturn, 1) := ⟨by decide +kernel, by decide +kernel, by decide +kernel, by decide +kernel, by decide +kernel, by decide +kernel, by decide +kernel, by decide +kernel, by decide +kernel, by decide +kernel, by decide +kernel, by decide +kernel, by decide +kernel, by decide +kernel, by decide +kernel, by decide +kernel, by decide +kernel, by decide +kernel, by decide +kernel, by decide +kernel, by decide +kernel, by decide +kernel, by decide +kernel, by decide +kernel, by decide +kernel, by decide +kernel, by decide +kernel, by decide +kernel, by decide +kernel, by decide +kernel, by decide +kernel, by decide +kernel, by decide +kernel, by decide +kernel, by decide +kernel, by decide +kernel, by decide +kernel⟩
set_option maxRecDepth 100000 in
theorem lc_42 {mm : ax_M} {i : Nat} {H : Heap} {ls : Array Slot} (C : lw_H p s m c b L xs D Ca ad adV) (hi : i + 6 ≤ L) (I : lw_I s b D Ca ad mm i H ls) (kk : ∀ (mm' : ax_M) (H' : Heap), lw_I s b D Ca ad mm' i H' ls → W p l e room_1 s m #[Value.ref b] below meth c H' [] 600000 7302250 Q (F0 m 1715 ls [])) : W p l e room_1 s m #[Value.ref b] below meth c H [] 600000 7302250 Q (F0 m 1551 ls []) := by
  obtain ⟨hx, hb, hml, hown, hts, hSt, hinj, hX, hbl, hAs, hL⟩ := C
  obtain ⟨hz, hP, hS, hl⟩ := I
  have hbA : ¬ ax_A ad b := fun h => Nat.not_le.mpr hbl (hAs b h)
  obtain ⟨e1551, e1552, e1553, e1554, e1555, e1556, e1557, e1558, e1559, e1560, e1561, e1562, e1563, e1564, e1565, e1566, e1567, e1570, e1571, e1572, e1573, e1574, e1575, e1576, e1577, e1578, e1579, e1580, e1581, e1582, e1583, e1584, e1585, e1586, e1589, e1592, e1593⟩ := dl_42
  obtain ⟨a, m1, m2, h1, h2, hz2⟩ := t_pay (xs (i + 1)) (xs (i + 2)) (xs (i + 3)) mm hz
  refine lv_aload_n hx hb e1551 rfl (lv_at hl 2 rfl) ?_
  refine lw_arg (k := 1) hx hb hX hbl hbA hS hL (by omega) (by decide) hl e1552 e1553 e1554 e1555 e1556 ?_
  refine lw_arg (k := 2) hx hb hX hbl hbA hS hL (by omega) (by decide) hl e1557 e1558 e1559 e1560 e1561 ?_
  refine lw_arg (k := 3) hx hb hX hbl hbA hS hL (by omega) (by decide) hl e1562 e1563 e1564 e1565 e1566 ?_
  refine lw_call (d := 30) (mt := 147) (k := 0) (r := []) (a1 := [.inl (xs (i + 1)), .inl (xs (i + 2)), .inl (xs (i + 3))]) hx hb hml hown hts hSt hinj rfl rfl rfl rfl rfl (by decide) (Nat.le_of_ble_eq_true rfl) (ax_ok1 trivial (ax_ok1 trivial (ax_ok1 trivial (fun v hv => by cases hv)))) (R_X10_pay (by decide) h1) (List.mem_of_getElem? (i := 1041) (by decide +kernel)) ⟨Nat.le_of_ble_eq_true rfl, Nat.le_of_ble_eq_true rfl⟩ hP hS hl.1 rfl (Nat.le_of_ble_eq_true rfl) ⟨Nat.le_of_ble_eq_true rfl, Nat.le_of_ble_eq_true rfl⟩ e1567 (fun H locs hP hS => ?_)
  refine W.eq (g2 := F0 m 1570 ls [.int a]) rfl ?_
  refine lv_aload_n hx hb e1570 rfl (lv_at hl 1 rfl) ?_
  refine lw_arg (k := 1) hx hb hX hbl hbA hS hL (by omega) (by decide) hl e1571 e1572 e1573 e1574 e1575 ?_
  refine lw_arg (k := 2) hx hb hX hbl hbA hS hL (by omega) (by decide) hl e1576 e1577 e1578 e1579 e1580 ?_
  refine lw_arg (k := 3) hx hb hX hbl hbA hS hL (by omega) (by decide) hl e1581 e1582 e1583 e1584 e1585 ?_
  refine lw_call (d := 30) (mt := 247) (k := 22) (r := [.inl a]) (a1 := [.inl (xs (i + 1)), .inl (xs (i + 2)), .inl (xs (i + 3))]) hx hb hml hown hts hSt hinj rfl rfl rfl rfl rfl (by decide) (Nat.le_of_ble_eq_true rfl) (ax_ok1 trivial (ax_ok1 trivial (ax_ok1 trivial (fun v hv => by cases hv)))) (R_X11_pay (by decide) h2) (List.mem_of_getElem? (i := 1547) (by decide +kernel)) ⟨Nat.le_of_ble_eq_true rfl, Nat.le_of_ble_eq_true rfl⟩ hP hS hl.1 rfl (Nat.le_of_ble_eq_true rfl) ⟨Nat.le_of_ble_eq_true rfl, Nat.le_of_ble_eq_true rfl⟩ e1586 (fun H locs hP hS => ?_)
  refine W.eq (g2 := F0 m 1589 ls [.int a, .int a]) rfl ?_
  refine lv_icmp_eq (tgt := 1715) hx hb e1589 (by decide) (fun _ => ?_) (fun h => absurd rfl h)
  exact lw_back hAs hS (fun hS => kk m2 _ ⟨hz2, hP, hS, hl⟩)
set_option maxRecDepth 100000 in
theorem dl_43 : decode code 1594 = .ok (.aload_n 1, 1) ∧ decode code 1595 = .ok (.invokevirtual 196, 3) ∧ decode code 1598 = .ok (.aload_n 2, 1) ∧ decode code 1599 = .ok (.invokevirtual 199, 3) ∧ decode code 1602 = .ok (.if_icmp .eq 113, 3) ∧ decode code 1605 = .ok (.iconst 0, 1) ∧ decode code 1606 = .ok (.ireturn, 1) := ⟨by decide +kernel, by decide +kernel, by decide +kernel, by decide +kernel, by decide +kernel, by decide +kernel, by decide +kernel⟩
set_option maxRecDepth 100000 in
theorem lc_43 {mm : ax_M} {i : Nat} {H : Heap} {ls : Array Slot} (C : lw_H p s m c b L xs D Ca ad adV) (hi : i + 6 ≤ L) (I : lw_I s b D Ca ad mm i H ls) (kk : ∀ (mm' : ax_M) (H' : Heap), lw_I s b D Ca ad mm' i H' ls → W p l e room_1 s m #[Value.ref b] below meth c H' [] 600000 7302250 Q (F0 m 1715 ls [])) : W p l e room_1 s m #[Value.ref b] below meth c H [] 600000 7302250 Q (F0 m 1594 ls []) := by
  obtain ⟨hx, hb, hml, hown, hts, hSt, hinj, hX, hbl, hAs, hL⟩ := C
  obtain ⟨hz, hP, hS, hl⟩ := I
  have hbA : ¬ ax_A ad b := fun h => Nat.not_le.mpr hbl (hAs b h)
  obtain ⟨e1594, e1595, e1598, e1599, e1602, e1605, e1606⟩ := dl_43
  obtain ⟨a, m1, m2, h1, h2, hz2⟩ := t_strike  mm hz
  refine lv_aload_n hx hb e1594 rfl (lv_at hl 2 rfl) ?_
  refine lw_call (d := 30) (mt := 148) (k := 0) (r := []) (a1 := []) hx hb hml hown hts hSt hinj rfl rfl rfl rfl rfl (by decide) (Nat.le_of_ble_eq_true rfl) (fun v hv => by cases hv) (R_X10_strike (by decide) h1) (List.mem_of_getElem? (i := 1045) (by decide +kernel)) ⟨Nat.le_of_ble_eq_true rfl, Nat.le_of_ble_eq_true rfl⟩ hP hS hl.1 rfl (Nat.le_of_ble_eq_true rfl) ⟨Nat.le_of_ble_eq_true rfl, Nat.le_of_ble_eq_true rfl⟩ e1595 (fun H locs hP hS => ?_)
  refine W.eq (g2 := F0 m 1598 ls [.int a]) rfl ?_
  refine lv_aload_n hx hb e1598 rfl (lv_at hl 1 rfl) ?_
  refine lw_call (d := 30) (mt := 248) (k := 22) (r := [.inl a]) (a1 := []) hx hb hml hown hts hSt hinj rfl rfl rfl rfl rfl (by decide) (Nat.le_of_ble_eq_true rfl) (fun v hv => by cases hv) (R_X11_strike (by decide) h2) (List.mem_of_getElem? (i := 1551) (by decide +kernel)) ⟨Nat.le_of_ble_eq_true rfl, Nat.le_of_ble_eq_true rfl⟩ hP hS hl.1 rfl (Nat.le_of_ble_eq_true rfl) ⟨Nat.le_of_ble_eq_true rfl, Nat.le_of_ble_eq_true rfl⟩ e1599 (fun H locs hP hS => ?_)
  refine W.eq (g2 := F0 m 1602 ls [.int a, .int a]) rfl ?_
  refine lv_icmp_eq (tgt := 1715) hx hb e1602 (by decide) (fun _ => ?_) (fun h => absurd rfl h)
  exact lw_back hAs hS (fun hS => kk m2 _ ⟨hz2, hP, hS, hl⟩)
set_option maxRecDepth 100000 in
theorem dl_44 : decode code 1607 = .ok (.aload_n 1, 1) ∧ decode code 1608 = .ok (.aload_n 0, 1) ∧ decode code 1609 = .ok (.iload_n 3, 1) ∧ decode code 1610 = .ok (.iconst 1, 1) ∧ decode code 1611 = .ok (.iadd, 1) ∧ decode code 1612 = .ok (.iaload, 1) ∧ decode code 1613 = .ok (.invokevirtual 200, 3) ∧ decode code 1616 = .ok (.aload_n 2, 1) ∧ decode code 1617 = .ok (.aload_n 0, 1) ∧ decode code 1618 = .ok (.iload_n 3, 1) ∧ decode code 1619 = .ok (.iconst 1, 1) ∧ decode code 1620 = .ok (.iadd, 1) ∧ decode code 1621 = .ok (.iaload, 1) ∧ decode code 1622 = .ok (.invokevirtual 203, 3) ∧ decode code 1625 = .ok (.if_icmp .eq 90, 3) ∧ decode code 1628 = .ok (.iconst 0, 1) ∧ decode code 1629 = .ok (.ireturn, 1) := ⟨by decide +kernel, by decide +kernel, by decide +kernel, by decide +kernel, by decide +kernel, by decide +kernel, by decide +kernel, by decide +kernel, by decide +kernel, by decide +kernel, by decide +kernel, by decide +kernel, by decide +kernel, by decide +kernel, by decide +kernel, by decide +kernel, by decide +kernel⟩
set_option maxRecDepth 100000 in
theorem lc_44 {mm : ax_M} {i : Nat} {H : Heap} {ls : Array Slot} (C : lw_H p s m c b L xs D Ca ad adV) (hi : i + 6 ≤ L) (I : lw_I s b D Ca ad mm i H ls) (kk : ∀ (mm' : ax_M) (H' : Heap), lw_I s b D Ca ad mm' i H' ls → W p l e room_1 s m #[Value.ref b] below meth c H' [] 600000 7302250 Q (F0 m 1715 ls [])) : W p l e room_1 s m #[Value.ref b] below meth c H [] 600000 7302250 Q (F0 m 1607 ls []) := by
  obtain ⟨hx, hb, hml, hown, hts, hSt, hinj, hX, hbl, hAs, hL⟩ := C
  obtain ⟨hz, hP, hS, hl⟩ := I
  have hbA : ¬ ax_A ad b := fun h => Nat.not_le.mpr hbl (hAs b h)
  obtain ⟨e1607, e1608, e1609, e1610, e1611, e1612, e1613, e1616, e1617, e1618, e1619, e1620, e1621, e1622, e1625, e1628, e1629⟩ := dl_44
  obtain ⟨a, m1, m2, h1, h2, hz2⟩ := t_days (xs (i + 1)) mm hz
  refine lv_aload_n hx hb e1607 rfl (lv_at hl 2 rfl) ?_
  refine lw_arg (k := 1) hx hb hX hbl hbA hS hL (by omega) (by decide) hl e1608 e1609 e1610 e1611 e1612 ?_
  refine lw_call (d := 30) (mt := 150) (k := 0) (r := []) (a1 := [.inl (xs (i + 1))]) hx hb hml hown hts hSt hinj rfl rfl rfl rfl rfl (by decide) (Nat.le_of_ble_eq_true rfl) (ax_ok1 trivial (fun v hv => by cases hv)) (R_X10_days (by decide) h1) (List.mem_of_getElem? (i := 1054) (by decide +kernel)) ⟨Nat.le_of_ble_eq_true rfl, Nat.le_of_ble_eq_true rfl⟩ hP hS hl.1 rfl (Nat.le_of_ble_eq_true rfl) ⟨Nat.le_of_ble_eq_true rfl, Nat.le_of_ble_eq_true rfl⟩ e1613 (fun H locs hP hS => ?_)
  refine W.eq (g2 := F0 m 1616 ls [.int a]) rfl ?_
  refine lv_aload_n hx hb e1616 rfl (lv_at hl 1 rfl) ?_
  refine lw_arg (k := 1) hx hb hX hbl hbA hS hL (by omega) (by decide) hl e1617 e1618 e1619 e1620 e1621 ?_
  refine lw_call (d := 30) (mt := 250) (k := 22) (r := [.inl a]) (a1 := [.inl (xs (i + 1))]) hx hb hml hown hts hSt hinj rfl rfl rfl rfl rfl (by decide) (Nat.le_of_ble_eq_true rfl) (ax_ok1 trivial (fun v hv => by cases hv)) (R_X11_days (by decide) h2) (List.mem_of_getElem? (i := 1556) (by decide +kernel)) ⟨Nat.le_of_ble_eq_true rfl, Nat.le_of_ble_eq_true rfl⟩ hP hS hl.1 rfl (Nat.le_of_ble_eq_true rfl) ⟨Nat.le_of_ble_eq_true rfl, Nat.le_of_ble_eq_true rfl⟩ e1622 (fun H locs hP hS => ?_)
  refine W.eq (g2 := F0 m 1625 ls [.int a, .int a]) rfl ?_
  refine lv_icmp_eq (tgt := 1715) hx hb e1625 (by decide) (fun _ => ?_) (fun h => absurd rfl h)
  exact lw_back hAs hS (fun hS => kk m2 _ ⟨hz2, hP, hS, hl⟩)
set_option maxRecDepth 100000 in
theorem dl_45 : decode code 1630 = .ok (.aload_n 1, 1) ∧ decode code 1631 = .ok (.invokevirtual 204, 3) ∧ decode code 1634 = .ok (.aload_n 2, 1) ∧ decode code 1635 = .ok (.invokevirtual 207, 3) ∧ decode code 1638 = .ok (.if_icmp .eq 77, 3) ∧ decode code 1641 = .ok (.iconst 0, 1) ∧ decode code 1642 = .ok (.ireturn, 1) := ⟨by decide +kernel, by decide +kernel, by decide +kernel, by decide +kernel, by decide +kernel, by decide +kernel, by decide +kernel⟩
set_option maxRecDepth 100000 in
theorem lc_45 {mm : ax_M} {i : Nat} {H : Heap} {ls : Array Slot} (C : lw_H p s m c b L xs D Ca ad adV) (hi : i + 6 ≤ L) (I : lw_I s b D Ca ad mm i H ls) (kk : ∀ (mm' : ax_M) (H' : Heap), lw_I s b D Ca ad mm' i H' ls → W p l e room_1 s m #[Value.ref b] below meth c H' [] 600000 7302250 Q (F0 m 1715 ls [])) : W p l e room_1 s m #[Value.ref b] below meth c H [] 600000 7302250 Q (F0 m 1630 ls []) := by
  obtain ⟨hx, hb, hml, hown, hts, hSt, hinj, hX, hbl, hAs, hL⟩ := C
  obtain ⟨hz, hP, hS, hl⟩ := I
  have hbA : ¬ ax_A ad b := fun h => Nat.not_le.mpr hbl (hAs b h)
  obtain ⟨e1630, e1631, e1634, e1635, e1638, e1641, e1642⟩ := dl_45
  obtain ⟨a, m1, m2, h1, h2, hz2⟩ := t_weed  mm hz
  refine lv_aload_n hx hb e1630 rfl (lv_at hl 2 rfl) ?_
  refine lw_call (d := 30) (mt := 152) (k := 0) (r := []) (a1 := []) hx hb hml hown hts hSt hinj rfl rfl rfl rfl rfl (by decide) (Nat.le_of_ble_eq_true rfl) (fun v hv => by cases hv) (R_X10_weed (by decide) h1) (List.mem_of_getElem? (i := 1067) (by decide +kernel)) ⟨Nat.le_of_ble_eq_true rfl, Nat.le_of_ble_eq_true rfl⟩ hP hS hl.1 rfl (Nat.le_of_ble_eq_true rfl) ⟨Nat.le_of_ble_eq_true rfl, Nat.le_of_ble_eq_true rfl⟩ e1631 (fun H locs hP hS => ?_)
  refine W.eq (g2 := F0 m 1634 ls [.int a]) rfl ?_
  refine lv_aload_n hx hb e1634 rfl (lv_at hl 1 rfl) ?_
  refine lw_call (d := 30) (mt := 252) (k := 22) (r := [.inl a]) (a1 := []) hx hb hml hown hts hSt hinj rfl rfl rfl rfl rfl (by decide) (Nat.le_of_ble_eq_true rfl) (fun v hv => by cases hv) (R_X11_weed (by decide) h2) (List.mem_of_getElem? (i := 1565) (by decide +kernel)) ⟨Nat.le_of_ble_eq_true rfl, Nat.le_of_ble_eq_true rfl⟩ hP hS hl.1 rfl (Nat.le_of_ble_eq_true rfl) ⟨Nat.le_of_ble_eq_true rfl, Nat.le_of_ble_eq_true rfl⟩ e1635 (fun H locs hP hS => ?_)
  refine W.eq (g2 := F0 m 1638 ls [.int a, .int a]) rfl ?_
  refine lv_icmp_eq (tgt := 1715) hx hb e1638 (by decide) (fun _ => ?_) (fun h => absurd rfl h)
  exact lw_back hAs hS (fun hS => kk m2 _ ⟨hz2, hP, hS, hl⟩)
set_option maxRecDepth 100000 in
theorem dl_46 : decode code 1643 = .ok (.aload_n 1, 1) ∧ decode code 1644 = .ok (.aload_n 0, 1) ∧ decode code 1645 = .ok (.iload_n 3, 1) ∧ decode code 1646 = .ok (.iconst 1, 1) ∧ decode code 1647 = .ok (.iadd, 1) ∧ decode code 1648 = .ok (.iaload, 1) ∧ decode code 1649 = .ok (.invokevirtual 208, 3) ∧ decode code 1652 = .ok (.aload_n 2, 1) ∧ decode code 1653 = .ok (.aload_n 0, 1) ∧ decode code 1654 = .ok (.iload_n 3, 1) ∧ decode code 1655 = .ok (.iconst 1, 1) ∧ decode code 1656 = .ok (.iadd, 1) ∧ decode code 1657 = .ok (.iaload, 1) ∧ decode code 1658 = .ok (.invokevirtual 211, 3) ∧ decode code 1661 = .ok (.if_icmp .eq 54, 3) ∧ decode code 1664 = .ok (.iconst 0, 1) ∧ decode code 1665 = .ok (.ireturn, 1) := ⟨by decide +kernel, by decide +kernel, by decide +kernel, by decide +kernel, by decide +kernel, by decide +kernel, by decide +kernel, by decide +kernel, by decide +kernel, by decide +kernel, by decide +kernel, by decide +kernel, by decide +kernel, by decide +kernel, by decide +kernel, by decide +kernel, by decide +kernel⟩
set_option maxRecDepth 100000 in
theorem lc_46 {mm : ax_M} {i : Nat} {H : Heap} {ls : Array Slot} (C : lw_H p s m c b L xs D Ca ad adV) (hi : i + 6 ≤ L) (I : lw_I s b D Ca ad mm i H ls) (kk : ∀ (mm' : ax_M) (H' : Heap), lw_I s b D Ca ad mm' i H' ls → W p l e room_1 s m #[Value.ref b] below meth c H' [] 600000 7302250 Q (F0 m 1715 ls [])) : W p l e room_1 s m #[Value.ref b] below meth c H [] 600000 7302250 Q (F0 m 1643 ls []) := by
  obtain ⟨hx, hb, hml, hown, hts, hSt, hinj, hX, hbl, hAs, hL⟩ := C
  obtain ⟨hz, hP, hS, hl⟩ := I
  have hbA : ¬ ax_A ad b := fun h => Nat.not_le.mpr hbl (hAs b h)
  obtain ⟨e1643, e1644, e1645, e1646, e1647, e1648, e1649, e1652, e1653, e1654, e1655, e1656, e1657, e1658, e1661, e1664, e1665⟩ := dl_46
  obtain ⟨a, m1, m2, h1, h2, hz2⟩ := t_seed (xs (i + 1)) mm hz
  refine lv_aload_n hx hb e1643 rfl (lv_at hl 2 rfl) ?_
  refine lw_arg (k := 1) hx hb hX hbl hbA hS hL (by omega) (by decide) hl e1644 e1645 e1646 e1647 e1648 ?_
  refine lw_call (d := 30) (mt := 153) (k := 0) (r := []) (a1 := [.inl (xs (i + 1))]) hx hb hml hown hts hSt hinj rfl rfl rfl rfl rfl (by decide) (Nat.le_of_ble_eq_true rfl) (ax_ok1 trivial (fun v hv => by cases hv)) (R_X10_seed (by decide) h1) (List.mem_of_getElem? (i := 1075) (by decide +kernel)) ⟨Nat.le_of_ble_eq_true rfl, Nat.le_of_ble_eq_true rfl⟩ hP hS hl.1 rfl (Nat.le_of_ble_eq_true rfl) ⟨Nat.le_of_ble_eq_true rfl, Nat.le_of_ble_eq_true rfl⟩ e1649 (fun H locs hP hS => ?_)
  refine W.eq (g2 := F0 m 1652 ls [.int a]) rfl ?_
  refine lv_aload_n hx hb e1652 rfl (lv_at hl 1 rfl) ?_
  refine lw_arg (k := 1) hx hb hX hbl hbA hS hL (by omega) (by decide) hl e1653 e1654 e1655 e1656 e1657 ?_
  refine lw_call (d := 30) (mt := 253) (k := 22) (r := [.inl a]) (a1 := [.inl (xs (i + 1))]) hx hb hml hown hts hSt hinj rfl rfl rfl rfl rfl (by decide) (Nat.le_of_ble_eq_true rfl) (ax_ok1 trivial (fun v hv => by cases hv)) (R_X11_seed (by decide) h2) (List.mem_of_getElem? (i := 1573) (by decide +kernel)) ⟨Nat.le_of_ble_eq_true rfl, Nat.le_of_ble_eq_true rfl⟩ hP hS hl.1 rfl (Nat.le_of_ble_eq_true rfl) ⟨Nat.le_of_ble_eq_true rfl, Nat.le_of_ble_eq_true rfl⟩ e1658 (fun H locs hP hS => ?_)
  refine W.eq (g2 := F0 m 1661 ls [.int a, .int a]) rfl ?_
  refine lv_icmp_eq (tgt := 1715) hx hb e1661 (by decide) (fun _ => ?_) (fun h => absurd rfl h)
  exact lw_back hAs hS (fun hS => kk m2 _ ⟨hz2, hP, hS, hl⟩)
set_option maxRecDepth 100000 in
theorem dl_47 : decode code 1666 = .ok (.aload_n 1, 1) ∧ decode code 1667 = .ok (.invokevirtual 212, 3) ∧ decode code 1670 = .ok (.aload_n 2, 1) ∧ decode code 1671 = .ok (.invokevirtual 215, 3) ∧ decode code 1674 = .ok (.if_icmp .eq 41, 3) ∧ decode code 1677 = .ok (.iconst 0, 1) ∧ decode code 1678 = .ok (.ireturn, 1) := ⟨by decide +kernel, by decide +kernel, by decide +kernel, by decide +kernel, by decide +kernel, by decide +kernel, by decide +kernel⟩
set_option maxRecDepth 100000 in
theorem lc_47 {mm : ax_M} {i : Nat} {H : Heap} {ls : Array Slot} (C : lw_H p s m c b L xs D Ca ad adV) (hi : i + 6 ≤ L) (I : lw_I s b D Ca ad mm i H ls) (kk : ∀ (mm' : ax_M) (H' : Heap), lw_I s b D Ca ad mm' i H' ls → W p l e room_1 s m #[Value.ref b] below meth c H' [] 600000 7302250 Q (F0 m 1715 ls [])) : W p l e room_1 s m #[Value.ref b] below meth c H [] 600000 7302250 Q (F0 m 1666 ls []) := by
  obtain ⟨hx, hb, hml, hown, hts, hSt, hinj, hX, hbl, hAs, hL⟩ := C
  obtain ⟨hz, hP, hS, hl⟩ := I
  have hbA : ¬ ax_A ad b := fun h => Nat.not_le.mpr hbl (hAs b h)
  obtain ⟨e1666, e1667, e1670, e1671, e1674, e1677, e1678⟩ := dl_47
  obtain ⟨a, m1, m2, h1, h2, hz2⟩ := t_image  mm hz
  refine lv_aload_n hx hb e1666 rfl (lv_at hl 2 rfl) ?_
  refine lw_call (d := 30) (mt := 154) (k := 0) (r := []) (a1 := []) hx hb hml hown hts hSt hinj rfl rfl rfl rfl rfl (by decide) (Nat.le_of_ble_eq_true rfl) (fun v hv => by cases hv) (R_X10_image (by decide) h1) (List.mem_of_getElem? (i := 1079) (by decide +kernel)) ⟨Nat.le_of_ble_eq_true rfl, Nat.le_of_ble_eq_true rfl⟩ hP hS hl.1 rfl (Nat.le_of_ble_eq_true rfl) ⟨Nat.le_of_ble_eq_true rfl, Nat.le_of_ble_eq_true rfl⟩ e1667 (fun H locs hP hS => ?_)
  refine W.eq (g2 := F0 m 1670 ls [.int a]) rfl ?_
  refine lv_aload_n hx hb e1670 rfl (lv_at hl 1 rfl) ?_
  refine lw_call (d := 30) (mt := 254) (k := 22) (r := [.inl a]) (a1 := []) hx hb hml hown hts hSt hinj rfl rfl rfl rfl rfl (by decide) (Nat.le_of_ble_eq_true rfl) (fun v hv => by cases hv) (R_X11_image (by decide) h2) (List.mem_of_getElem? (i := 1577) (by decide +kernel)) ⟨Nat.le_of_ble_eq_true rfl, Nat.le_of_ble_eq_true rfl⟩ hP hS hl.1 rfl (Nat.le_of_ble_eq_true rfl) ⟨Nat.le_of_ble_eq_true rfl, Nat.le_of_ble_eq_true rfl⟩ e1671 (fun H locs hP hS => ?_)
  refine W.eq (g2 := F0 m 1674 ls [.int a, .int a]) rfl ?_
  refine lv_icmp_eq (tgt := 1715) hx hb e1674 (by decide) (fun _ => ?_) (fun h => absurd rfl h)
  exact lw_back hAs hS (fun hS => kk m2 _ ⟨hz2, hP, hS, hl⟩)
set_option maxRecDepth 100000 in
theorem dl_48 : decode code 1679 = .ok (.aload_n 1, 1) ∧ decode code 1680 = .ok (.invokevirtual 216, 3) ∧ decode code 1683 = .ok (.aload_n 2, 1) ∧ decode code 1684 = .ok (.invokevirtual 219, 3) ∧ decode code 1687 = .ok (.if_icmp .eq 28, 3) ∧ decode code 1690 = .ok (.iconst 0, 1) ∧ decode code 1691 = .ok (.ireturn, 1) := ⟨by decide +kernel, by decide +kernel, by decide +kernel, by decide +kernel, by decide +kernel, by decide +kernel, by decide +kernel⟩
set_option maxRecDepth 100000 in
theorem lc_48 {mm : ax_M} {i : Nat} {H : Heap} {ls : Array Slot} (C : lw_H p s m c b L xs D Ca ad adV) (hi : i + 6 ≤ L) (I : lw_I s b D Ca ad mm i H ls) (kk : ∀ (mm' : ax_M) (H' : Heap), lw_I s b D Ca ad mm' i H' ls → W p l e room_1 s m #[Value.ref b] below meth c H' [] 600000 7302250 Q (F0 m 1715 ls [])) : W p l e room_1 s m #[Value.ref b] below meth c H [] 600000 7302250 Q (F0 m 1679 ls []) := by
  obtain ⟨hx, hb, hml, hown, hts, hSt, hinj, hX, hbl, hAs, hL⟩ := C
  obtain ⟨hz, hP, hS, hl⟩ := I
  have hbA : ¬ ax_A ad b := fun h => Nat.not_le.mpr hbl (hAs b h)
  obtain ⟨e1679, e1680, e1683, e1684, e1687, e1690, e1691⟩ := dl_48
  obtain ⟨a, m1, m2, h1, h2, hz2⟩ := t_back  mm hz
  refine lv_aload_n hx hb e1679 rfl (lv_at hl 2 rfl) ?_
  refine lw_call (d := 30) (mt := 155) (k := 0) (r := []) (a1 := []) hx hb hml hown hts hSt hinj rfl rfl rfl rfl rfl (by decide) (Nat.le_of_ble_eq_true rfl) (fun v hv => by cases hv) (R_X10_back (by decide) h1) (List.mem_of_getElem? (i := 1083) (by decide +kernel)) ⟨Nat.le_of_ble_eq_true rfl, Nat.le_of_ble_eq_true rfl⟩ hP hS hl.1 rfl (Nat.le_of_ble_eq_true rfl) ⟨Nat.le_of_ble_eq_true rfl, Nat.le_of_ble_eq_true rfl⟩ e1680 (fun H locs hP hS => ?_)
  refine W.eq (g2 := F0 m 1683 ls [.int a]) rfl ?_
  refine lv_aload_n hx hb e1683 rfl (lv_at hl 1 rfl) ?_
  refine lw_call (d := 30) (mt := 255) (k := 22) (r := [.inl a]) (a1 := []) hx hb hml hown hts hSt hinj rfl rfl rfl rfl rfl (by decide) (Nat.le_of_ble_eq_true rfl) (fun v hv => by cases hv) (R_X11_back (by decide) h2) (List.mem_of_getElem? (i := 1581) (by decide +kernel)) ⟨Nat.le_of_ble_eq_true rfl, Nat.le_of_ble_eq_true rfl⟩ hP hS hl.1 rfl (Nat.le_of_ble_eq_true rfl) ⟨Nat.le_of_ble_eq_true rfl, Nat.le_of_ble_eq_true rfl⟩ e1684 (fun H locs hP hS => ?_)
  refine W.eq (g2 := F0 m 1687 ls [.int a, .int a]) rfl ?_
  refine lv_icmp_eq (tgt := 1715) hx hb e1687 (by decide) (fun _ => ?_) (fun h => absurd rfl h)
  exact lw_back hAs hS (fun hS => kk m2 _ ⟨hz2, hP, hS, hl⟩)
set_option maxRecDepth 100000 in
theorem dl_49 : decode code 1692 = .ok (.aload_n 1, 1) ∧ decode code 1693 = .ok (.aload_n 0, 1) ∧ decode code 1694 = .ok (.iload_n 3, 1) ∧ decode code 1695 = .ok (.iconst 1, 1) ∧ decode code 1696 = .ok (.iadd, 1) ∧ decode code 1697 = .ok (.iaload, 1) ∧ decode code 1698 = .ok (.invokevirtual 220, 3) ∧ decode code 1701 = .ok (.aload_n 2, 1) ∧ decode code 1702 = .ok (.aload_n 0, 1) ∧ decode code 1703 = .ok (.iload_n 3, 1) ∧ decode code 1704 = .ok (.iconst 1, 1) ∧ decode code 1705 = .ok (.iadd, 1) ∧ decode code 1706 = .ok (.iaload, 1) ∧ decode code 1707 = .ok (.invokevirtual 223, 3) ∧ decode code 1710 = .ok (.if_icmp .eq 5, 3) ∧ decode code 1713 = .ok (.iconst 0, 1) ∧ decode code 1714 = .ok (.ireturn, 1) := ⟨by decide +kernel, by decide +kernel, by decide +kernel, by decide +kernel, by decide +kernel, by decide +kernel, by decide +kernel, by decide +kernel, by decide +kernel, by decide +kernel, by decide +kernel, by decide +kernel, by decide +kernel, by decide +kernel, by decide +kernel, by decide +kernel, by decide +kernel⟩
set_option maxRecDepth 100000 in
theorem lc_49 {mm : ax_M} {i : Nat} {H : Heap} {ls : Array Slot} (C : lw_H p s m c b L xs D Ca ad adV) (hi : i + 6 ≤ L) (I : lw_I s b D Ca ad mm i H ls) (kk : ∀ (mm' : ax_M) (H' : Heap), lw_I s b D Ca ad mm' i H' ls → W p l e room_1 s m #[Value.ref b] below meth c H' [] 600000 7302250 Q (F0 m 1715 ls [])) : W p l e room_1 s m #[Value.ref b] below meth c H [] 600000 7302250 Q (F0 m 1692 ls []) := by
  obtain ⟨hx, hb, hml, hown, hts, hSt, hinj, hX, hbl, hAs, hL⟩ := C
  obtain ⟨hz, hP, hS, hl⟩ := I
  have hbA : ¬ ax_A ad b := fun h => Nat.not_le.mpr hbl (hAs b h)
  obtain ⟨e1692, e1693, e1694, e1695, e1696, e1697, e1698, e1701, e1702, e1703, e1704, e1705, e1706, e1707, e1710, e1713, e1714⟩ := dl_49
  obtain ⟨G, hG⟩ := id hz
  obtain ⟨a, h1, h2⟩ := t_status (xs (i + 1)) mm G hG
  have hz2 := hz
  refine lv_aload_n hx hb e1692 rfl (lv_at hl 2 rfl) ?_
  refine lw_arg (k := 1) hx hb hX hbl hbA hS hL (by omega) (by decide) hl e1693 e1694 e1695 e1696 e1697 ?_
  refine lw_call (d := 30) (mt := 157) (k := 0) (r := []) (a1 := [.inl (xs (i + 1))]) hx hb hml hown hts hSt hinj rfl rfl rfl rfl rfl (by decide) (Nat.le_of_ble_eq_true rfl) (ax_ok1 trivial (fun v hv => by cases hv)) (R_X10_status (by decide) h1) (List.mem_of_getElem? (i := 1087) (by decide +kernel)) ⟨Nat.le_of_ble_eq_true rfl, Nat.le_of_ble_eq_true rfl⟩ hP hS hl.1 rfl (Nat.le_of_ble_eq_true rfl) ⟨Nat.le_of_ble_eq_true rfl, Nat.le_of_ble_eq_true rfl⟩ e1698 (fun H locs hP hS => ?_)
  refine W.eq (g2 := F0 m 1701 ls [.int a]) rfl ?_
  refine lv_aload_n hx hb e1701 rfl (lv_at hl 1 rfl) ?_
  refine lw_arg (k := 1) hx hb hX hbl hbA hS hL (by omega) (by decide) hl e1702 e1703 e1704 e1705 e1706 ?_
  refine lw_call (d := 30) (mt := 256) (k := 22) (r := [.inl a]) (a1 := [.inl (xs (i + 1))]) hx hb hml hown hts hSt hinj rfl rfl rfl rfl rfl (by decide) (Nat.le_of_ble_eq_true rfl) (ax_ok1 trivial (fun v hv => by cases hv)) (R_X11_status (by decide) h2) (List.mem_of_getElem? (i := 1585) (by decide +kernel)) ⟨Nat.le_of_ble_eq_true rfl, Nat.le_of_ble_eq_true rfl⟩ hP hS hl.1 rfl (Nat.le_of_ble_eq_true rfl) ⟨Nat.le_of_ble_eq_true rfl, Nat.le_of_ble_eq_true rfl⟩ e1707 (fun H locs hP hS => ?_)
  refine W.eq (g2 := F0 m 1710 ls [.int a, .int a]) rfl ?_
  refine lv_icmp_eq (tgt := 1715) hx hb e1710 (by decide) (fun _ => ?_) (fun h => absurd rfl h)
  exact lw_back hAs hS (fun hS => kk mm _ ⟨hz2, hP, hS, hl⟩)
end LAWC
