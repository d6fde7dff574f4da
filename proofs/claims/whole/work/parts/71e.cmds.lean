set_option maxHeartbeats 4000000 in
set_option maxRecDepth 100000 in
theorem lk_setDropped {p : Program} {l : Launch} {e0 : Env} {s : State} {m : MethodId} {below : List Frame} {meth : Method} {c : Code} {b L : Nat} {xs : Nat → Int32} {G : Gx} (hlt : l.stackTraces = false) (hL : L ≤ 2048) (C0 : lw_At p s m meth c b L xs) (fx : Fx G s) (hG : gOk G) (hF : Full G) (hgb : gbs G = s.heap.size) {j : Nat} (hj : 4 * j + 4 ≤ L) {σ : St} (hI : Inv σ j) {H : Heap} {locs : List Loc} {cells slots : Nat} (hw : Wd G s σ H locs) (hcs : cells + 1 ≤ room_1.cells) (hss : slots + 6 ≤ room_1.slots) {ls : Array Slot} (hl : lv_has ls 7 [(0, .ref b), (1, .ref (gad G 0)), (2, .ref (gad G 31)), (3, .ref (gad G 46)), (4, .int (nI (4 * j)))]) (kk : ∀ (σ' : St) (H : Heap) (locs : List Loc) (ls : Array Slot), Inv σ' (j + 1) → Wd G s σ' H locs → lv_has ls 7 [(0, .ref b), (1, .ref (gad G 0)), (2, .ref (gad G 31)), (3, .ref (gad G 46)), (4, .int (nI (4 * j)))] → W p l e0 room_1 s m #[Value.ref b] below meth c H locs (cells + 1) (slots + 6) (lw_Z below #[Value.ref b] s) (F0 m 1656 ls [])) : W p l e0 room_1 s m #[Value.ref b] below meth c H locs cells slots (lw_Z below #[Value.ref b] s) (F0 m 1363 ls []) := by
  obtain ⟨hx, hb, hr, hml, hown, hts, hX, hbl, hlocks, hgv⟩ := C0
  have hts := fun w h => hts w (wsL_law_in w h)
  have hbA : ¬ gA G b := fun q => by have q2 : gbs G ≤ b := q; omega
  have hj512 : j < 512 := by omega
  obtain ⟨g, n, sd, e, z, t, bb, hC, hM, hR, ht, hz⟩ := hI
  obtain ⟨x1, ex1⟩ : ∃ v : Int32, v = xs (nI (4 * j + 1)).toNatClampNeg := ⟨_, rfl⟩
  obtain ⟨x2, ex2⟩ : ∃ v : Int32, v = xs (nI (4 * j + 2)).toNatClampNeg := ⟨_, rfl⟩
  obtain ⟨x3, ex3⟩ : ∃ v : Int32, v = xs (nI (4 * j + 3)).toNatClampNeg := ⟨_, rfl⟩
  refine lv_aload_n hx hb dL_law_1363 rfl (lv_at hl 1 rfl) ?_
  refine lv_aload_n hx hb dL_law_1364 rfl (lv_at hl 0 rfl) ?_
  refine lv_iload hx hb dL_law_1365 (lv_at hl 4 rfl) ?_
  refine lv_iconst (v := 1) hx hb dL_law_1367 (by decide) ?_
  refine lv_iadd hx hb dL_law_1368 ?_
  refine lv_rep0 (x := nI (4 * j) + 1) (y := nI (4 * j + 1)) (nI_add (4 * j) 1) ?_
  refine va_sld hx hb hX hbl hbA hw.2 (vp_in_nI (show 4 * j + 1 < L by omega) (by omega)) dL_law_1369 ?_
  refine lv_rep0 (x := xs (nI (4 * j + 1)).toNatClampNeg) (y := x1) ex1.symm ?_
  refine lv_aload_n hx hb dL_law_1370 rfl (lv_at hl 3 rfl) ?_
  refine rCallLS (As := [.ref (gad G 0), .int x1, .ref (gad G 46)]) (rest := []) ⟨hx, hb, hml, hown, hts⟩ fx hw (kL_setDropped l hlt G hG hF σ x1 g n e z bb hC) (vx_cwSW 3 hts gL_law_L_setDropped rfl rfl rfl (by decide +kernel) ⟨Nat.le_of_ble_eq_true rfl, Nat.le_of_ble_eq_true rfl⟩) rfl hl.1 rfl (Nat.le_of_ble_eq_true rfl) dL_law_1371 ⟨hcs, hss⟩ (fun r5 σ1 H locs hp5 hw => ?_)
  obtain ⟨hM1, hpu⟩ := pu_setDropped (t := t) x1 hC hM hR ht hz hj512 hp5
  refine lv_istore (lv' := [(5, .int r5), (0, .ref b), (1, .ref (gad G 0)), (2, .ref (gad G 31)), (3, .ref (gad G 46)), (4, .int (nI (4 * j)))]) hx hb dL_law_1374 hl (by decide) rfl (fun ls hl => ?_)
  refine lv_aload_n hx hb dL_law_1376 rfl (lv_at hl 3 rfl) ?_
  refine lv_aload_n hx hb dL_law_1377 rfl (lv_at hl 1 rfl) ?_
  refine lv_iload hx hb dL_law_1378 (lv_at hl 5 rfl) ?_
  refine lv_iconst (v := 1) hx hb dL_law_1380 (by decide) ?_
  refine lv_iadd hx hb dL_law_1381 ?_
  refine lv_rep0 (x := nI (4 * j) + 1) (y := nI (4 * j + 1)) (nI_add (4 * j) 1) ?_
  refine va_sld hx hb hX hbl hbA hw.2 (vp_in_nI (show 4 * j + 1 < L by omega) (by omega)) dL_law_1382 ?_
  refine lv_rep0 (x := xs (nI (4 * j + 1)).toNatClampNeg) (y := x1) ex1.symm ?_
  refine rCallI (C := RX6) (As := [.int x1]) (rest := []) ⟨hx, hb, hml, hown, hts⟩ fx hw (kX6_setDropped l G hG hF σ1 x1 g n sd e z bb hM1) (cwV 1 hts gL_law_X6_setDropped rfl rfl rfl (by decide +kernel) ⟨Nat.le_of_ble_eq_true rfl, Nat.le_of_ble_eq_true rfl⟩) (hF.1 31 (by decide)) rfl rfl rfl rfl hl.1 rfl (Nat.le_of_ble_eq_true rfl) dL_law_1383 ⟨hcs, hss⟩ (fun r6 σ2 H locs hp6 hw => ?_)
  have hag := hpu r6 σ2 hp6
  refine lv_istore (lv' := [(6, .int r6), (5, .int r5), (0, .ref b), (1, .ref (gad G 0)), (2, .ref (gad G 31)), (3, .ref (gad G 46)), (4, .int (nI (4 * j)))]) hx hb dL_law_1386 hl (by decide) rfl (fun ls hl => ?_)
  refine lv_aload_n hx hb dL_law_1388 rfl (lv_at hl 4 rfl) ?_
  refine rCallI (C := RX6) (As := []) (rest := []) ⟨hx, hb, hml, hown, hts⟩ fx hw (kX6_thrown l G hG hF σ2 ) (cwV 0 hts gL_law_X6_thrown rfl rfl rfl (by decide +kernel) ⟨Nat.le_of_ble_eq_true rfl, Nat.le_of_ble_eq_true rfl⟩) (hF.1 31 (by decide)) rfl rfl rfl rfl hl.1 rfl (Nat.le_of_ble_eq_true rfl) dL_law_1389 ⟨hcs, hss⟩ (fun r7 σ3 H locs hp7 hw => ?_)
  obtain ⟨e7, e8⟩ := hp7
  have e8 := e8.symm
  subst e8
  have e9q : r7 = r5 := e7.trans hag.1
  refine lv_iload hx hb dL_law_1392 (lv_at hl 1 rfl) ?_
  refine lv_icmp_eq (tgt := 1399) hx hb dL_law_1394 (by decide) (fun c_1 => ?_) (fun c_1 => ?_)
  · skip
    refine lv_iload hx hb dL_law_1399 (lv_at hl 1 rfl) ?_
    refine lv_if_ne (tgt := 1416) hx hb dL_law_1401 (by decide) (fun c_2 => ?_) (fun c_2 => ?_)
    · skip
      refine lv_goto (tgt := 1656) hx hb dL_law_1416 (by decide) ?_
      exact kk _ _ _ _ hag.2.2 hw (lv_sub hl [2, 3, 4, 5, 6] rfl)
    · skip
      refine lv_aload_n hx hb dL_law_1404 rfl (lv_at hl 5 rfl) ?_
      refine lv_iconst (v := 0) hx hb dL_law_1405 (by decide) ?_
      refine rLld hx hb fx hw (hF.1 46 (by decide)) hF.2.2.2.1 dL_law_1406 ?_
      refine lv_iload hx hb dL_law_1407 (lv_at hl 0 rfl) ?_
      refine lv_i2l hx hb dL_law_1409 rfl ?_
      refine W.lcmp hx hb dL_law_1410 ?_
      refine lv_rep0 (x := lg_cmp (σ2 46 0).toInt64 r6.toInt64) (y := 0) (by rw [hag.2.1 c_2]; exact lcmp_0 _) ?_
      refine lv_if_eq (tgt := 1416) hx hb dL_law_1411 (by decide) (fun c_3 => ?_) (fun c_3 => ?_)
      · skip
        refine lv_goto (tgt := 1656) hx hb dL_law_1416 (by decide) ?_
        exact kk _ _ _ _ hag.2.2 hw (lv_sub hl [2, 3, 4, 5, 6] rfl)
      · exact absurd rfl c_3
  · exact absurd e9q c_1

set_option maxHeartbeats 4000000 in
set_option maxRecDepth 100000 in
theorem lk_points {p : Program} {l : Launch} {e0 : Env} {s : State} {m : MethodId} {below : List Frame} {meth : Method} {c : Code} {b L : Nat} {xs : Nat → Int32} {G : Gx} (hlt : l.stackTraces = false) (hL : L ≤ 2048) (C0 : lw_At p s m meth c b L xs) (fx : Fx G s) (hG : gOk G) (hF : Full G) (hgb : gbs G = s.heap.size) {j : Nat} (hj : 4 * j + 4 ≤ L) {σ : St} (hI : Inv σ j) {H : Heap} {locs : List Loc} {cells slots : Nat} (hw : Wd G s σ H locs) (hcs : cells + 1 ≤ room_1.cells) (hss : slots + 6 ≤ room_1.slots) {ls : Array Slot} (hl : lv_has ls 7 [(0, .ref b), (1, .ref (gad G 0)), (2, .ref (gad G 31)), (3, .ref (gad G 46)), (4, .int (nI (4 * j)))]) (kk : ∀ (σ' : St) (H : Heap) (locs : List Loc) (ls : Array Slot), Inv σ' (j + 1) → Wd G s σ' H locs → lv_has ls 7 [(0, .ref b), (1, .ref (gad G 0)), (2, .ref (gad G 31)), (3, .ref (gad G 46)), (4, .int (nI (4 * j)))] → W p l e0 room_1 s m #[Value.ref b] below meth c H locs (cells + 1) (slots + 6) (lw_Z below #[Value.ref b] s) (F0 m 1656 ls [])) : W p l e0 room_1 s m #[Value.ref b] below meth c H locs cells slots (lw_Z below #[Value.ref b] s) (F0 m 1419 ls []) := by
  obtain ⟨hx, hb, hr, hml, hown, hts, hX, hbl, hlocks, hgv⟩ := C0
  have hts := fun w h => hts w (wsL_law_in w h)
  have hbA : ¬ gA G b := fun q => by have q2 : gbs G ≤ b := q; omega
  have hj512 : j < 512 := by omega
  obtain ⟨g, n, sd, e, z, t, bb, hC, hM, hR, ht, hz⟩ := hI
  obtain ⟨x1, ex1⟩ : ∃ v : Int32, v = xs (nI (4 * j + 1)).toNatClampNeg := ⟨_, rfl⟩
  obtain ⟨x2, ex2⟩ : ∃ v : Int32, v = xs (nI (4 * j + 2)).toNatClampNeg := ⟨_, rfl⟩
  obtain ⟨x3, ex3⟩ : ∃ v : Int32, v = xs (nI (4 * j + 3)).toNatClampNeg := ⟨_, rfl⟩
  refine lv_aload_n hx hb dL_law_1419 rfl (lv_at hl 1 rfl) ?_
  refine lv_aload_n hx hb dL_law_1420 rfl (lv_at hl 0 rfl) ?_
  refine lv_iload hx hb dL_law_1421 (lv_at hl 4 rfl) ?_
  refine lv_iconst (v := 1) hx hb dL_law_1423 (by decide) ?_
  refine lv_iadd hx hb dL_law_1424 ?_
  refine lv_rep0 (x := nI (4 * j) + 1) (y := nI (4 * j + 1)) (nI_add (4 * j) 1) ?_
  refine va_sld hx hb hX hbl hbA hw.2 (vp_in_nI (show 4 * j + 1 < L by omega) (by omega)) dL_law_1425 ?_
  refine lv_rep0 (x := xs (nI (4 * j + 1)).toNatClampNeg) (y := x1) ex1.symm ?_
  refine lv_aload_n hx hb dL_law_1426 rfl (lv_at hl 3 rfl) ?_
  refine rCallLS (As := [.ref (gad G 0), .int x1, .ref (gad G 46)]) (rest := []) ⟨hx, hb, hml, hown, hts⟩ fx hw (kL_points l hlt G hG hF σ x1 g n e z bb hC) (vx_cwSW 3 hts gL_law_L_points rfl rfl rfl (by decide +kernel) ⟨Nat.le_of_ble_eq_true rfl, Nat.le_of_ble_eq_true rfl⟩) rfl hl.1 rfl (Nat.le_of_ble_eq_true rfl) dL_law_1427 ⟨hcs, hss⟩ (fun r5 σ1 H locs hp5 hw => ?_)
  obtain ⟨hM1, hpu⟩ := pu_points (t := t) x1 hC hM hR ht hz hj512 hp5
  refine lv_istore (lv' := [(5, .int r5), (0, .ref b), (1, .ref (gad G 0)), (2, .ref (gad G 31)), (3, .ref (gad G 46)), (4, .int (nI (4 * j)))]) hx hb dL_law_1430 hl (by decide) rfl (fun ls hl => ?_)
  refine lv_aload_n hx hb dL_law_1432 rfl (lv_at hl 3 rfl) ?_
  refine lv_aload_n hx hb dL_law_1433 rfl (lv_at hl 1 rfl) ?_
  refine lv_iload hx hb dL_law_1434 (lv_at hl 5 rfl) ?_
  refine lv_iconst (v := 1) hx hb dL_law_1436 (by decide) ?_
  refine lv_iadd hx hb dL_law_1437 ?_
  refine lv_rep0 (x := nI (4 * j) + 1) (y := nI (4 * j + 1)) (nI_add (4 * j) 1) ?_
  refine va_sld hx hb hX hbl hbA hw.2 (vp_in_nI (show 4 * j + 1 < L by omega) (by omega)) dL_law_1438 ?_
  refine lv_rep0 (x := xs (nI (4 * j + 1)).toNatClampNeg) (y := x1) ex1.symm ?_
  refine rCallI (C := RX6) (As := [.int x1]) (rest := []) ⟨hx, hb, hml, hown, hts⟩ fx hw (kX6_points l G hG hF σ1 x1 g n sd e z bb hM1) (cwV 1 hts gL_law_X6_points rfl rfl rfl (by decide +kernel) ⟨Nat.le_of_ble_eq_true rfl, Nat.le_of_ble_eq_true rfl⟩) (hF.1 31 (by decide)) rfl rfl rfl rfl hl.1 rfl (Nat.le_of_ble_eq_true rfl) dL_law_1439 ⟨hcs, hss⟩ (fun r6 σ2 H locs hp6 hw => ?_)
  have hag := hpu r6 σ2 hp6
  refine lv_istore (lv' := [(6, .int r6), (5, .int r5), (0, .ref b), (1, .ref (gad G 0)), (2, .ref (gad G 31)), (3, .ref (gad G 46)), (4, .int (nI (4 * j)))]) hx hb dL_law_1442 hl (by decide) rfl (fun ls hl => ?_)
  refine lv_aload_n hx hb dL_law_1444 rfl (lv_at hl 4 rfl) ?_
  refine rCallI (C := RX6) (As := []) (rest := []) ⟨hx, hb, hml, hown, hts⟩ fx hw (kX6_thrown l G hG hF σ2 ) (cwV 0 hts gL_law_X6_thrown rfl rfl rfl (by decide +kernel) ⟨Nat.le_of_ble_eq_true rfl, Nat.le_of_ble_eq_true rfl⟩) (hF.1 31 (by decide)) rfl rfl rfl rfl hl.1 rfl (Nat.le_of_ble_eq_true rfl) dL_law_1445 ⟨hcs, hss⟩ (fun r7 σ3 H locs hp7 hw => ?_)
  obtain ⟨e7, e8⟩ := hp7
  have e8 := e8.symm
  subst e8
  have e9q : r7 = r5 := e7.trans hag.1
  refine lv_iload hx hb dL_law_1448 (lv_at hl 1 rfl) ?_
  refine lv_icmp_eq (tgt := 1455) hx hb dL_law_1450 (by decide) (fun c_1 => ?_) (fun c_1 => ?_)
  · skip
    refine lv_iload hx hb dL_law_1455 (lv_at hl 1 rfl) ?_
    refine lv_if_ne (tgt := 1472) hx hb dL_law_1457 (by decide) (fun c_2 => ?_) (fun c_2 => ?_)
    · skip
      refine lv_goto (tgt := 1656) hx hb dL_law_1472 (by decide) ?_
      exact kk _ _ _ _ hag.2.2 hw (lv_sub hl [2, 3, 4, 5, 6] rfl)
    · skip
      refine lv_aload_n hx hb dL_law_1460 rfl (lv_at hl 5 rfl) ?_
      refine lv_iconst (v := 0) hx hb dL_law_1461 (by decide) ?_
      refine rLld hx hb fx hw (hF.1 46 (by decide)) hF.2.2.2.1 dL_law_1462 ?_
      refine lv_iload hx hb dL_law_1463 (lv_at hl 0 rfl) ?_
      refine lv_i2l hx hb dL_law_1465 rfl ?_
      refine W.lcmp hx hb dL_law_1466 ?_
      refine lv_rep0 (x := lg_cmp (σ2 46 0).toInt64 r6.toInt64) (y := 0) (by rw [hag.2.1 c_2]; exact lcmp_0 _) ?_
      refine lv_if_eq (tgt := 1472) hx hb dL_law_1467 (by decide) (fun c_3 => ?_) (fun c_3 => ?_)
      · skip
        refine lv_goto (tgt := 1656) hx hb dL_law_1472 (by decide) ?_
        exact kk _ _ _ _ hag.2.2 hw (lv_sub hl [2, 3, 4, 5, 6] rfl)
      · exact absurd rfl c_3
  · exact absurd e9q c_1

set_option maxHeartbeats 4000000 in
set_option maxRecDepth 100000 in
theorem lk_teamPoints {p : Program} {l : Launch} {e0 : Env} {s : State} {m : MethodId} {below : List Frame} {meth : Method} {c : Code} {b L : Nat} {xs : Nat → Int32} {G : Gx} (hlt : l.stackTraces = false) (hL : L ≤ 2048) (C0 : lw_At p s m meth c b L xs) (fx : Fx G s) (hG : gOk G) (hF : Full G) (hgb : gbs G = s.heap.size) {j : Nat} (hj : 4 * j + 4 ≤ L) {σ : St} (hI : Inv σ j) {H : Heap} {locs : List Loc} {cells slots : Nat} (hw : Wd G s σ H locs) (hcs : cells + 1 ≤ room_1.cells) (hss : slots + 6 ≤ room_1.slots) {ls : Array Slot} (hl : lv_has ls 7 [(0, .ref b), (1, .ref (gad G 0)), (2, .ref (gad G 31)), (3, .ref (gad G 46)), (4, .int (nI (4 * j)))]) (kk : ∀ (σ' : St) (H : Heap) (locs : List Loc) (ls : Array Slot), Inv σ' (j + 1) → Wd G s σ' H locs → lv_has ls 7 [(0, .ref b), (1, .ref (gad G 0)), (2, .ref (gad G 31)), (3, .ref (gad G 46)), (4, .int (nI (4 * j)))] → W p l e0 room_1 s m #[Value.ref b] below meth c H locs (cells + 1) (slots + 6) (lw_Z below #[Value.ref b] s) (F0 m 1656 ls [])) : W p l e0 room_1 s m #[Value.ref b] below meth c H locs cells slots (lw_Z below #[Value.ref b] s) (F0 m 1475 ls []) := by
  obtain ⟨hx, hb, hr, hml, hown, hts, hX, hbl, hlocks, hgv⟩ := C0
  have hts := fun w h => hts w (wsL_law_in w h)
  have hbA : ¬ gA G b := fun q => by have q2 : gbs G ≤ b := q; omega
  have hj512 : j < 512 := by omega
  obtain ⟨g, n, sd, e, z, t, bb, hC, hM, hR, ht, hz⟩ := hI
  obtain ⟨x1, ex1⟩ : ∃ v : Int32, v = xs (nI (4 * j + 1)).toNatClampNeg := ⟨_, rfl⟩
  obtain ⟨x2, ex2⟩ : ∃ v : Int32, v = xs (nI (4 * j + 2)).toNatClampNeg := ⟨_, rfl⟩
  obtain ⟨x3, ex3⟩ : ∃ v : Int32, v = xs (nI (4 * j + 3)).toNatClampNeg := ⟨_, rfl⟩
  refine lv_aload_n hx hb dL_law_1475 rfl (lv_at hl 1 rfl) ?_
  refine lv_aload_n hx hb dL_law_1476 rfl (lv_at hl 0 rfl) ?_
  refine lv_iload hx hb dL_law_1477 (lv_at hl 4 rfl) ?_
  refine lv_iconst (v := 1) hx hb dL_law_1479 (by decide) ?_
  refine lv_iadd hx hb dL_law_1480 ?_
  refine lv_rep0 (x := nI (4 * j) + 1) (y := nI (4 * j + 1)) (nI_add (4 * j) 1) ?_
  refine va_sld hx hb hX hbl hbA hw.2 (vp_in_nI (show 4 * j + 1 < L by omega) (by omega)) dL_law_1481 ?_
  refine lv_rep0 (x := xs (nI (4 * j + 1)).toNatClampNeg) (y := x1) ex1.symm ?_
  refine lv_aload_n hx hb dL_law_1482 rfl (lv_at hl 3 rfl) ?_
  refine rCallLS (As := [.ref (gad G 0), .int x1, .ref (gad G 46)]) (rest := []) ⟨hx, hb, hml, hown, hts⟩ fx hw (kL_teamPoints l hlt G hG hF σ x1 g n e z bb hC) (vx_cwSW 3 hts gL_law_L_teamPoints rfl rfl rfl (by decide +kernel) ⟨Nat.le_of_ble_eq_true rfl, Nat.le_of_ble_eq_true rfl⟩) rfl hl.1 rfl (Nat.le_of_ble_eq_true rfl) dL_law_1483 ⟨hcs, hss⟩ (fun r5 σ1 H locs hp5 hw => ?_)
  obtain ⟨hM1, hpu⟩ := pu_teamPoints (t := t) x1 hC hM hR ht hz hj512 hp5
  refine lv_istore (lv' := [(5, .int r5), (0, .ref b), (1, .ref (gad G 0)), (2, .ref (gad G 31)), (3, .ref (gad G 46)), (4, .int (nI (4 * j)))]) hx hb dL_law_1486 hl (by decide) rfl (fun ls hl => ?_)
  refine lv_aload_n hx hb dL_law_1488 rfl (lv_at hl 3 rfl) ?_
  refine lv_aload_n hx hb dL_law_1489 rfl (lv_at hl 1 rfl) ?_
  refine lv_iload hx hb dL_law_1490 (lv_at hl 5 rfl) ?_
  refine lv_iconst (v := 1) hx hb dL_law_1492 (by decide) ?_
  refine lv_iadd hx hb dL_law_1493 ?_
  refine lv_rep0 (x := nI (4 * j) + 1) (y := nI (4 * j + 1)) (nI_add (4 * j) 1) ?_
  refine va_sld hx hb hX hbl hbA hw.2 (vp_in_nI (show 4 * j + 1 < L by omega) (by omega)) dL_law_1494 ?_
  refine lv_rep0 (x := xs (nI (4 * j + 1)).toNatClampNeg) (y := x1) ex1.symm ?_
  refine rCallI (C := RX6) (As := [.int x1]) (rest := []) ⟨hx, hb, hml, hown, hts⟩ fx hw (kX6_teamPoints l G hG hF σ1 x1 g n sd e z bb hM1) (cwV 1 hts gL_law_X6_teamPoints rfl rfl rfl (by decide +kernel) ⟨Nat.le_of_ble_eq_true rfl, Nat.le_of_ble_eq_true rfl⟩) (hF.1 31 (by decide)) rfl rfl rfl rfl hl.1 rfl (Nat.le_of_ble_eq_true rfl) dL_law_1495 ⟨hcs, hss⟩ (fun r6 σ2 H locs hp6 hw => ?_)
  have hag := hpu r6 σ2 hp6
  refine lv_istore (lv' := [(6, .int r6), (5, .int r5), (0, .ref b), (1, .ref (gad G 0)), (2, .ref (gad G 31)), (3, .ref (gad G 46)), (4, .int (nI (4 * j)))]) hx hb dL_law_1498 hl (by decide) rfl (fun ls hl => ?_)
  refine lv_aload_n hx hb dL_law_1500 rfl (lv_at hl 4 rfl) ?_
  refine rCallI (C := RX6) (As := []) (rest := []) ⟨hx, hb, hml, hown, hts⟩ fx hw (kX6_thrown l G hG hF σ2 ) (cwV 0 hts gL_law_X6_thrown rfl rfl rfl (by decide +kernel) ⟨Nat.le_of_ble_eq_true rfl, Nat.le_of_ble_eq_true rfl⟩) (hF.1 31 (by decide)) rfl rfl rfl rfl hl.1 rfl (Nat.le_of_ble_eq_true rfl) dL_law_1501 ⟨hcs, hss⟩ (fun r7 σ3 H locs hp7 hw => ?_)
  obtain ⟨e7, e8⟩ := hp7
  have e8 := e8.symm
  subst e8
  have e9q : r7 = r5 := e7.trans hag.1
  refine lv_iload hx hb dL_law_1504 (lv_at hl 1 rfl) ?_
  refine lv_icmp_eq (tgt := 1511) hx hb dL_law_1506 (by decide) (fun c_1 => ?_) (fun c_1 => ?_)
  · skip
    refine lv_iload hx hb dL_law_1511 (lv_at hl 1 rfl) ?_
    refine lv_if_ne (tgt := 1528) hx hb dL_law_1513 (by decide) (fun c_2 => ?_) (fun c_2 => ?_)
    · skip
      refine lv_goto (tgt := 1656) hx hb dL_law_1528 (by decide) ?_
      exact kk _ _ _ _ hag.2.2 hw (lv_sub hl [2, 3, 4, 5, 6] rfl)
    · skip
      refine lv_aload_n hx hb dL_law_1516 rfl (lv_at hl 5 rfl) ?_
      refine lv_iconst (v := 0) hx hb dL_law_1517 (by decide) ?_
      refine rLld hx hb fx hw (hF.1 46 (by decide)) hF.2.2.2.1 dL_law_1518 ?_
      refine lv_iload hx hb dL_law_1519 (lv_at hl 0 rfl) ?_
      refine lv_i2l hx hb dL_law_1521 rfl ?_
      refine W.lcmp hx hb dL_law_1522 ?_
      refine lv_rep0 (x := lg_cmp (σ2 46 0).toInt64 r6.toInt64) (y := 0) (by rw [hag.2.1 c_2]; exact lcmp_0 _) ?_
      refine lv_if_eq (tgt := 1528) hx hb dL_law_1523 (by decide) (fun c_3 => ?_) (fun c_3 => ?_)
      · skip
        refine lv_goto (tgt := 1656) hx hb dL_law_1528 (by decide) ?_
        exact kk _ _ _ _ hag.2.2 hw (lv_sub hl [2, 3, 4, 5, 6] rfl)
      · exact absurd rfl c_3
  · exact absurd e9q c_1

set_option maxHeartbeats 4000000 in
set_option maxRecDepth 100000 in
theorem lk_standing {p : Program} {l : Launch} {e0 : Env} {s : State} {m : MethodId} {below : List Frame} {meth : Method} {c : Code} {b L : Nat} {xs : Nat → Int32} {G : Gx} (hlt : l.stackTraces = false) (hL : L ≤ 2048) (C0 : lw_At p s m meth c b L xs) (fx : Fx G s) (hG : gOk G) (hF : Full G) (hgb : gbs G = s.heap.size) {j : Nat} (hj : 4 * j + 4 ≤ L) {σ : St} (hI : Inv σ j) {H : Heap} {locs : List Loc} {cells slots : Nat} (hw : Wd G s σ H locs) (hcs : cells + 1 ≤ room_1.cells) (hss : slots + 6 ≤ room_1.slots) {ls : Array Slot} (hl : lv_has ls 7 [(0, .ref b), (1, .ref (gad G 0)), (2, .ref (gad G 31)), (3, .ref (gad G 46)), (4, .int (nI (4 * j)))]) (kk : ∀ (σ' : St) (H : Heap) (locs : List Loc) (ls : Array Slot), Inv σ' (j + 1) → Wd G s σ' H locs → lv_has ls 7 [(0, .ref b), (1, .ref (gad G 0)), (2, .ref (gad G 31)), (3, .ref (gad G 46)), (4, .int (nI (4 * j)))] → W p l e0 room_1 s m #[Value.ref b] below meth c H locs (cells + 1) (slots + 6) (lw_Z below #[Value.ref b] s) (F0 m 1656 ls [])) : W p l e0 room_1 s m #[Value.ref b] below meth c H locs cells slots (lw_Z below #[Value.ref b] s) (F0 m 1531 ls []) := by
  obtain ⟨hx, hb, hr, hml, hown, hts, hX, hbl, hlocks, hgv⟩ := C0
  have hts := fun w h => hts w (wsL_law_in w h)
  have hbA : ¬ gA G b := fun q => by have q2 : gbs G ≤ b := q; omega
  have hj512 : j < 512 := by omega
  obtain ⟨g, n, sd, e, z, t, bb, hC, hM, hR, ht, hz⟩ := hI
  obtain ⟨x1, ex1⟩ : ∃ v : Int32, v = xs (nI (4 * j + 1)).toNatClampNeg := ⟨_, rfl⟩
  obtain ⟨x2, ex2⟩ : ∃ v : Int32, v = xs (nI (4 * j + 2)).toNatClampNeg := ⟨_, rfl⟩
  obtain ⟨x3, ex3⟩ : ∃ v : Int32, v = xs (nI (4 * j + 3)).toNatClampNeg := ⟨_, rfl⟩
  refine lv_aload_n hx hb dL_law_1531 rfl (lv_at hl 1 rfl) ?_
  refine lv_aload_n hx hb dL_law_1532 rfl (lv_at hl 0 rfl) ?_
  refine lv_iload hx hb dL_law_1533 (lv_at hl 4 rfl) ?_
  refine lv_iconst (v := 1) hx hb dL_law_1535 (by decide) ?_
  refine lv_iadd hx hb dL_law_1536 ?_
  refine lv_rep0 (x := nI (4 * j) + 1) (y := nI (4 * j + 1)) (nI_add (4 * j) 1) ?_
  refine va_sld hx hb hX hbl hbA hw.2 (vp_in_nI (show 4 * j + 1 < L by omega) (by omega)) dL_law_1537 ?_
  refine lv_rep0 (x := xs (nI (4 * j + 1)).toNatClampNeg) (y := x1) ex1.symm ?_
  refine lv_aload_n hx hb dL_law_1538 rfl (lv_at hl 3 rfl) ?_
  refine rCallLS (As := [.ref (gad G 0), .int x1, .ref (gad G 46)]) (rest := []) ⟨hx, hb, hml, hown, hts⟩ fx hw (kL_standing l hlt G hG hF σ x1 g n e z bb hC) (vx_cwSW 3 hts gL_law_L_standing rfl rfl rfl (by decide +kernel) ⟨Nat.le_of_ble_eq_true rfl, Nat.le_of_ble_eq_true rfl⟩) rfl hl.1 rfl (Nat.le_of_ble_eq_true rfl) dL_law_1539 ⟨hcs, hss⟩ (fun r5 σ1 H locs hp5 hw => ?_)
  obtain ⟨hM1, hpu⟩ := pu_standing (t := t) x1 hC hM hR ht hz hj512 hp5
  refine lv_istore (lv' := [(5, .int r5), (0, .ref b), (1, .ref (gad G 0)), (2, .ref (gad G 31)), (3, .ref (gad G 46)), (4, .int (nI (4 * j)))]) hx hb dL_law_1542 hl (by decide) rfl (fun ls hl => ?_)
  refine lv_aload_n hx hb dL_law_1544 rfl (lv_at hl 3 rfl) ?_
  refine lv_aload_n hx hb dL_law_1545 rfl (lv_at hl 1 rfl) ?_
  refine lv_iload hx hb dL_law_1546 (lv_at hl 5 rfl) ?_
  refine lv_iconst (v := 1) hx hb dL_law_1548 (by decide) ?_
  refine lv_iadd hx hb dL_law_1549 ?_
  refine lv_rep0 (x := nI (4 * j) + 1) (y := nI (4 * j + 1)) (nI_add (4 * j) 1) ?_
  refine va_sld hx hb hX hbl hbA hw.2 (vp_in_nI (show 4 * j + 1 < L by omega) (by omega)) dL_law_1550 ?_
  refine lv_rep0 (x := xs (nI (4 * j + 1)).toNatClampNeg) (y := x1) ex1.symm ?_
  refine rCallI (C := RX6) (As := [.int x1]) (rest := []) ⟨hx, hb, hml, hown, hts⟩ fx hw (kX6_standing l G hG hF σ1 x1 g n sd e z bb hM1) (cwV 1 hts gL_law_X6_standing rfl rfl rfl (by decide +kernel) ⟨Nat.le_of_ble_eq_true rfl, Nat.le_of_ble_eq_true rfl⟩) (hF.1 31 (by decide)) rfl rfl rfl rfl hl.1 rfl (Nat.le_of_ble_eq_true rfl) dL_law_1551 ⟨hcs, hss⟩ (fun r6 σ2 H locs hp6 hw => ?_)
  have hag := hpu r6 σ2 hp6
  refine lv_istore (lv' := [(6, .int r6), (5, .int r5), (0, .ref b), (1, .ref (gad G 0)), (2, .ref (gad G 31)), (3, .ref (gad G 46)), (4, .int (nI (4 * j)))]) hx hb dL_law_1554 hl (by decide) rfl (fun ls hl => ?_)
  refine lv_aload_n hx hb dL_law_1556 rfl (lv_at hl 4 rfl) ?_
  refine rCallI (C := RX6) (As := []) (rest := []) ⟨hx, hb, hml, hown, hts⟩ fx hw (kX6_thrown l G hG hF σ2 ) (cwV 0 hts gL_law_X6_thrown rfl rfl rfl (by decide +kernel) ⟨Nat.le_of_ble_eq_true rfl, Nat.le_of_ble_eq_true rfl⟩) (hF.1 31 (by decide)) rfl rfl rfl rfl hl.1 rfl (Nat.le_of_ble_eq_true rfl) dL_law_1557 ⟨hcs, hss⟩ (fun r7 σ3 H locs hp7 hw => ?_)
  obtain ⟨e7, e8⟩ := hp7
  have e8 := e8.symm
  subst e8
  have e9q : r7 = r5 := e7.trans hag.1
  refine lv_iload hx hb dL_law_1560 (lv_at hl 1 rfl) ?_
  refine lv_icmp_eq (tgt := 1567) hx hb dL_law_1562 (by decide) (fun c_1 => ?_) (fun c_1 => ?_)
  · skip
    refine lv_iload hx hb dL_law_1567 (lv_at hl 1 rfl) ?_
    refine lv_if_ne (tgt := 1584) hx hb dL_law_1569 (by decide) (fun c_2 => ?_) (fun c_2 => ?_)
    · skip
      refine lv_goto (tgt := 1656) hx hb dL_law_1584 (by decide) ?_
      exact kk _ _ _ _ hag.2.2 hw (lv_sub hl [2, 3, 4, 5, 6] rfl)
    · skip
      refine lv_aload_n hx hb dL_law_1572 rfl (lv_at hl 5 rfl) ?_
      refine lv_iconst (v := 0) hx hb dL_law_1573 (by decide) ?_
      refine rLld hx hb fx hw (hF.1 46 (by decide)) hF.2.2.2.1 dL_law_1574 ?_
      refine lv_iload hx hb dL_law_1575 (lv_at hl 0 rfl) ?_
      refine lv_i2l hx hb dL_law_1577 rfl ?_
      refine W.lcmp hx hb dL_law_1578 ?_
      refine lv_rep0 (x := lg_cmp (σ2 46 0).toInt64 r6.toInt64) (y := 0) (by rw [hag.2.1 c_2]; exact lcmp_0 _) ?_
      refine lv_if_eq (tgt := 1584) hx hb dL_law_1579 (by decide) (fun c_3 => ?_) (fun c_3 => ?_)
      · skip
        refine lv_goto (tgt := 1656) hx hb dL_law_1584 (by decide) ?_
        exact kk _ _ _ _ hag.2.2 hw (lv_sub hl [2, 3, 4, 5, 6] rfl)
      · exact absurd rfl c_3
  · exact absurd e9q c_1

set_option maxHeartbeats 4000000 in
set_option maxRecDepth 100000 in
theorem lk_textLength {p : Program} {l : Launch} {e0 : Env} {s : State} {m : MethodId} {below : List Frame} {meth : Method} {c : Code} {b L : Nat} {xs : Nat → Int32} {G : Gx} (hlt : l.stackTraces = false) (hL : L ≤ 2048) (C0 : lw_At p s m meth c b L xs) (fx : Fx G s) (hG : gOk G) (hF : Full G) (hgb : gbs G = s.heap.size) {j : Nat} (hj : 4 * j + 4 ≤ L) {σ : St} (hI : Inv σ j) {H : Heap} {locs : List Loc} {cells slots : Nat} (hw : Wd G s σ H locs) (hcs : cells + 1 ≤ room_1.cells) (hss : slots + 6 ≤ room_1.slots) {ls : Array Slot} (hl : lv_has ls 7 [(0, .ref b), (1, .ref (gad G 0)), (2, .ref (gad G 31)), (3, .ref (gad G 46)), (4, .int (nI (4 * j)))]) (kk : ∀ (σ' : St) (H : Heap) (locs : List Loc) (ls : Array Slot), Inv σ' (j + 1) → Wd G s σ' H locs → lv_has ls 7 [(0, .ref b), (1, .ref (gad G 0)), (2, .ref (gad G 31)), (3, .ref (gad G 46)), (4, .int (nI (4 * j)))] → W p l e0 room_1 s m #[Value.ref b] below meth c H locs (cells + 1) (slots + 6) (lw_Z below #[Value.ref b] s) (F0 m 1656 ls [])) : W p l e0 room_1 s m #[Value.ref b] below meth c H locs cells slots (lw_Z below #[Value.ref b] s) (F0 m 1587 ls []) := by
  obtain ⟨hx, hb, hr, hml, hown, hts, hX, hbl, hlocks, hgv⟩ := C0
  have hts := fun w h => hts w (wsL_law_in w h)
  have hbA : ¬ gA G b := fun q => by have q2 : gbs G ≤ b := q; omega
  have hj512 : j < 512 := by omega
  obtain ⟨g, n, sd, e, z, t, bb, hC, hM, hR, ht, hz⟩ := hI
  obtain ⟨x1, ex1⟩ : ∃ v : Int32, v = xs (nI (4 * j + 1)).toNatClampNeg := ⟨_, rfl⟩
  obtain ⟨x2, ex2⟩ : ∃ v : Int32, v = xs (nI (4 * j + 2)).toNatClampNeg := ⟨_, rfl⟩
  obtain ⟨x3, ex3⟩ : ∃ v : Int32, v = xs (nI (4 * j + 3)).toNatClampNeg := ⟨_, rfl⟩
  refine lv_aload_n hx hb dL_law_1587 rfl (lv_at hl 1 rfl) ?_
  refine rCallI (C := RX5) (As := []) (rest := []) ⟨hx, hb, hml, hown, hts⟩ fx hw (kX5_textLength l G hG hF σ g n e z bb hC) (cwV 0 hts gL_law_X5_textLength rfl rfl rfl (by decide +kernel) ⟨Nat.le_of_ble_eq_true rfl, Nat.le_of_ble_eq_true rfl⟩) (hF.1 0 (by decide)) rfl rfl rfl rfl hl.1 rfl (Nat.le_of_ble_eq_true rfl) dL_law_1588 ⟨Nat.le_of_succ_le hcs, Nat.le_trans (Nat.le_add_right _ _) hss⟩ (fun r5 σ1 H locs hp5 hw => ?_)
  obtain ⟨hM1, hpu⟩ := pu_textLength (t := t) hC hM hR ht hz hj512 hp5
  refine lv_aload_n hx hb dL_law_1591 rfl (lv_at hl 2 rfl) ?_
  refine rCallI (C := RX6) (As := []) (rest := [.int r5]) ⟨hx, hb, hml, hown, hts⟩ fx hw (kX6_textLength l G hG hF σ1 g n sd e z bb hM1) (cwV 0 hts gL_law_X6_textLength rfl rfl rfl (by decide +kernel) ⟨Nat.le_of_ble_eq_true rfl, Nat.le_of_ble_eq_true rfl⟩) (hF.1 31 (by decide)) rfl rfl rfl rfl hl.1 rfl (Nat.le_of_ble_eq_true rfl) dL_law_1592 ⟨Nat.le_of_succ_le hcs, Nat.le_trans (Nat.le_add_right _ _) hss⟩ (fun r6 σ2 H locs hp6 hw => ?_)
  have hag := hpu r6 σ2 hp6
  refine lv_icmp_eq (tgt := 1656) hx hb dL_law_1595 (by decide) (fun c_1 => ?_) (fun c_1 => ?_)
  · skip
    refine W.widen (k := cells + 1) (n := slots + 6) (Nat.le_succ _) (Nat.le_add_right _ _) ?_
    exact kk _ _ _ _ hag.2.2 hw (lv_sub hl [0, 1, 2, 3, 4] rfl)
  · exact absurd hag.1 c_1

set_option maxHeartbeats 4000000 in
set_option maxRecDepth 100000 in
theorem lk_textAt {p : Program} {l : Launch} {e0 : Env} {s : State} {m : MethodId} {below : List Frame} {meth : Method} {c : Code} {b L : Nat} {xs : Nat → Int32} {G : Gx} (hlt : l.stackTraces = false) (hL : L ≤ 2048) (C0 : lw_At p s m meth c b L xs) (fx : Fx G s) (hG : gOk G) (hF : Full G) (hgb : gbs G = s.heap.size) {j : Nat} (hj : 4 * j + 4 ≤ L) {σ : St} (hI : Inv σ j) {H : Heap} {locs : List Loc} {cells slots : Nat} (hw : Wd G s σ H locs) (hcs : cells + 1 ≤ room_1.cells) (hss : slots + 6 ≤ room_1.slots) {ls : Array Slot} (hl : lv_has ls 7 [(0, .ref b), (1, .ref (gad G 0)), (2, .ref (gad G 31)), (3, .ref (gad G 46)), (4, .int (nI (4 * j)))]) (kk : ∀ (σ' : St) (H : Heap) (locs : List Loc) (ls : Array Slot), Inv σ' (j + 1) → Wd G s σ' H locs → lv_has ls 7 [(0, .ref b), (1, .ref (gad G 0)), (2, .ref (gad G 31)), (3, .ref (gad G 46)), (4, .int (nI (4 * j)))] → W p l e0 room_1 s m #[Value.ref b] below meth c H locs (cells + 1) (slots + 6) (lw_Z below #[Value.ref b] s) (F0 m 1656 ls [])) : W p l e0 room_1 s m #[Value.ref b] below meth c H locs cells slots (lw_Z below #[Value.ref b] s) (F0 m 1600 ls []) := by
  obtain ⟨hx, hb, hr, hml, hown, hts, hX, hbl, hlocks, hgv⟩ := C0
  have hts := fun w h => hts w (wsL_law_in w h)
  have hbA : ¬ gA G b := fun q => by have q2 : gbs G ≤ b := q; omega
  have hj512 : j < 512 := by omega
  obtain ⟨g, n, sd, e, z, t, bb, hC, hM, hR, ht, hz⟩ := hI
  obtain ⟨x1, ex1⟩ : ∃ v : Int32, v = xs (nI (4 * j + 1)).toNatClampNeg := ⟨_, rfl⟩
  obtain ⟨x2, ex2⟩ : ∃ v : Int32, v = xs (nI (4 * j + 2)).toNatClampNeg := ⟨_, rfl⟩
  obtain ⟨x3, ex3⟩ : ∃ v : Int32, v = xs (nI (4 * j + 3)).toNatClampNeg := ⟨_, rfl⟩
  refine lv_aload_n hx hb dL_law_1600 rfl (lv_at hl 1 rfl) ?_
  refine lv_aload_n hx hb dL_law_1601 rfl (lv_at hl 0 rfl) ?_
  refine lv_iload hx hb dL_law_1602 (lv_at hl 4 rfl) ?_
  refine lv_iconst (v := 1) hx hb dL_law_1604 (by decide) ?_
  refine lv_iadd hx hb dL_law_1605 ?_
  refine lv_rep0 (x := nI (4 * j) + 1) (y := nI (4 * j + 1)) (nI_add (4 * j) 1) ?_
  refine va_sld hx hb hX hbl hbA hw.2 (vp_in_nI (show 4 * j + 1 < L by omega) (by omega)) dL_law_1606 ?_
  refine lv_rep0 (x := xs (nI (4 * j + 1)).toNatClampNeg) (y := x1) ex1.symm ?_
  refine lv_aload_n hx hb dL_law_1607 rfl (lv_at hl 3 rfl) ?_
  refine rCallLS (As := [.ref (gad G 0), .int x1, .ref (gad G 46)]) (rest := []) ⟨hx, hb, hml, hown, hts⟩ fx hw (kL_textAt l hlt G hG hF σ x1 g n e z bb hC) (vx_cwSW 3 hts gL_law_L_textAt rfl rfl rfl (by decide +kernel) ⟨Nat.le_of_ble_eq_true rfl, Nat.le_of_ble_eq_true rfl⟩) rfl hl.1 rfl (Nat.le_of_ble_eq_true rfl) dL_law_1608 ⟨hcs, hss⟩ (fun r5 σ1 H locs hp5 hw => ?_)
  obtain ⟨hM1, hpu⟩ := pu_textAt (t := t) x1 hC hM hR ht hz hj512 hp5
  refine lv_istore (lv' := [(5, .int r5), (0, .ref b), (1, .ref (gad G 0)), (2, .ref (gad G 31)), (3, .ref (gad G 46)), (4, .int (nI (4 * j)))]) hx hb dL_law_1611 hl (by decide) rfl (fun ls hl => ?_)
  refine lv_aload_n hx hb dL_law_1613 rfl (lv_at hl 3 rfl) ?_
  refine lv_aload_n hx hb dL_law_1614 rfl (lv_at hl 1 rfl) ?_
  refine lv_iload hx hb dL_law_1615 (lv_at hl 5 rfl) ?_
  refine lv_iconst (v := 1) hx hb dL_law_1617 (by decide) ?_
  refine lv_iadd hx hb dL_law_1618 ?_
  refine lv_rep0 (x := nI (4 * j) + 1) (y := nI (4 * j + 1)) (nI_add (4 * j) 1) ?_
  refine va_sld hx hb hX hbl hbA hw.2 (vp_in_nI (show 4 * j + 1 < L by omega) (by omega)) dL_law_1619 ?_
  refine lv_rep0 (x := xs (nI (4 * j + 1)).toNatClampNeg) (y := x1) ex1.symm ?_
  refine rCallI (C := RX6) (As := [.int x1]) (rest := []) ⟨hx, hb, hml, hown, hts⟩ fx hw (kX6_textAt l G hG hF σ1 x1 g n sd e z bb hM1) (cwV 1 hts gL_law_X6_textAt rfl rfl rfl (by decide +kernel) ⟨Nat.le_of_ble_eq_true rfl, Nat.le_of_ble_eq_true rfl⟩) (hF.1 31 (by decide)) rfl rfl rfl rfl hl.1 rfl (Nat.le_of_ble_eq_true rfl) dL_law_1620 ⟨hcs, hss⟩ (fun r6 σ2 H locs hp6 hw => ?_)
  have hag := hpu r6 σ2 hp6
  refine lv_istore (lv' := [(6, .int r6), (5, .int r5), (0, .ref b), (1, .ref (gad G 0)), (2, .ref (gad G 31)), (3, .ref (gad G 46)), (4, .int (nI (4 * j)))]) hx hb dL_law_1623 hl (by decide) rfl (fun ls hl => ?_)
  refine lv_aload_n hx hb dL_law_1625 rfl (lv_at hl 4 rfl) ?_
  refine rCallI (C := RX6) (As := []) (rest := []) ⟨hx, hb, hml, hown, hts⟩ fx hw (kX6_thrown l G hG hF σ2 ) (cwV 0 hts gL_law_X6_thrown rfl rfl rfl (by decide +kernel) ⟨Nat.le_of_ble_eq_true rfl, Nat.le_of_ble_eq_true rfl⟩) (hF.1 31 (by decide)) rfl rfl rfl rfl hl.1 rfl (Nat.le_of_ble_eq_true rfl) dL_law_1626 ⟨hcs, hss⟩ (fun r7 σ3 H locs hp7 hw => ?_)
  obtain ⟨e7, e8⟩ := hp7
  have e8 := e8.symm
  subst e8
  have e9q : r7 = r5 := e7.trans hag.1
  refine lv_iload hx hb dL_law_1629 (lv_at hl 1 rfl) ?_
  refine lv_icmp_eq (tgt := 1636) hx hb dL_law_1631 (by decide) (fun c_1 => ?_) (fun c_1 => ?_)
  · skip
    refine lv_iload hx hb dL_law_1636 (lv_at hl 1 rfl) ?_
    refine lv_if_ne (tgt := 1653) hx hb dL_law_1638 (by decide) (fun c_2 => ?_) (fun c_2 => ?_)
    · skip
      refine lv_goto (tgt := 1656) hx hb dL_law_1653 (by decide) ?_
      exact kk _ _ _ _ hag.2.2 hw (lv_sub hl [2, 3, 4, 5, 6] rfl)
    · skip
      refine lv_aload_n hx hb dL_law_1641 rfl (lv_at hl 5 rfl) ?_
      refine lv_iconst (v := 0) hx hb dL_law_1642 (by decide) ?_
      refine rLld hx hb fx hw (hF.1 46 (by decide)) hF.2.2.2.1 dL_law_1643 ?_
      refine lv_iload hx hb dL_law_1644 (lv_at hl 0 rfl) ?_
      refine lv_i2l hx hb dL_law_1646 rfl ?_
      refine W.lcmp hx hb dL_law_1647 ?_
      refine lv_rep0 (x := lg_cmp (σ2 46 0).toInt64 r6.toInt64) (y := 0) (by rw [hag.2.1 c_2]; exact lcmp_0 _) ?_
      refine lv_if_eq (tgt := 1653) hx hb dL_law_1648 (by decide) (fun c_3 => ?_) (fun c_3 => ?_)
      · skip
        refine lv_goto (tgt := 1656) hx hb dL_law_1653 (by decide) ?_
        exact kk _ _ _ _ hag.2.2 hw (lv_sub hl [2, 3, 4, 5, 6] rfl)
      · exact absurd rfl c_3
  · exact absurd e9q c_1
