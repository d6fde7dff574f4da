set_option maxHeartbeats 4000000 in
set_option maxRecDepth 100000 in
theorem lk_start {p : Program} {l : Launch} {e0 : Env} {s : State} {m : MethodId} {below : List Frame} {meth : Method} {c : Code} {b L : Nat} {xs : Nat → Int32} {G : Gx} (hlt : l.stackTraces = false) (hL : L ≤ 2048) (C0 : lw_At p s m meth c b L xs) (fx : Fx G s) (hG : gOk G) (hF : Full G) (hgb : gbs G = s.heap.size) {j : Nat} (hj : 4 * j + 4 ≤ L) {σ : St} (hI : Inv σ j) {H : Heap} {locs : List Loc} {cells slots : Nat} (hw : Wd G s σ H locs) (hcs : cells + 1 ≤ room_1.cells) (hss : slots + 6 ≤ room_1.slots) {ls : Array Slot} (hl : lv_has ls 7 [(0, .ref b), (1, .ref (gad G 0)), (2, .ref (gad G 31)), (3, .ref (gad G 46)), (4, .int (nI (4 * j)))]) (kk : ∀ (σ' : St) (H : Heap) (locs : List Loc) (ls : Array Slot), Inv σ' (j + 1) → Wd G s σ' H locs → lv_has ls 7 [(0, .ref b), (1, .ref (gad G 0)), (2, .ref (gad G 31)), (3, .ref (gad G 46)), (4, .int (nI (4 * j)))] → W p l e0 room_1 s m #[Value.ref b] below meth c H locs (cells + 1) (slots + 6) (lw_Z below #[Value.ref b] s) (F0 m 1656 ls [])) : W p l e0 room_1 s m #[Value.ref b] below meth c H locs cells slots (lw_Z below #[Value.ref b] s) (F0 m 462 ls []) := by
  obtain ⟨hx, hb, hr, hml, hown, hts, hX, hbl, hlocks, hgv⟩ := C0
  have hts := fun w h => hts w (wsL_law_in w h)
  have hbA : ¬ gA G b := fun q => by have q2 : gbs G ≤ b := q; omega
  have hj512 : j < 512 := by omega
  obtain ⟨g, n, sd, e, z, t, bb, hC, hM, hR, ht, hz⟩ := hI
  obtain ⟨x1, ex1⟩ : ∃ v : Int32, v = xs (nI (4 * j + 1)).toNatClampNeg := ⟨_, rfl⟩
  obtain ⟨x2, ex2⟩ : ∃ v : Int32, v = xs (nI (4 * j + 2)).toNatClampNeg := ⟨_, rfl⟩
  obtain ⟨x3, ex3⟩ : ∃ v : Int32, v = xs (nI (4 * j + 3)).toNatClampNeg := ⟨_, rfl⟩
  refine lv_aload_n hx hb dL_law_462 rfl (lv_at hl 1 rfl) ?_
  refine lv_aload_n hx hb dL_law_463 rfl (lv_at hl 0 rfl) ?_
  refine lv_iload hx hb dL_law_464 (lv_at hl 4 rfl) ?_
  refine lv_iconst (v := 1) hx hb dL_law_466 (by decide) ?_
  refine lv_iadd hx hb dL_law_467 ?_
  refine lv_rep0 (x := nI (4 * j) + 1) (y := nI (4 * j + 1)) (nI_add (4 * j) 1) ?_
  refine va_sld hx hb hX hbl hbA hw.2 (vp_in_nI (show 4 * j + 1 < L by omega) (by omega)) dL_law_468 ?_
  refine lv_rep0 (x := xs (nI (4 * j + 1)).toNatClampNeg) (y := x1) ex1.symm ?_
  refine lv_aload_n hx hb dL_law_469 rfl (lv_at hl 3 rfl) ?_
  refine rCallLS (As := [.ref (gad G 0), .int x1, .ref (gad G 46)]) (rest := []) ⟨hx, hb, hml, hown, hts⟩ fx hw (kL_start l hlt G hG hF σ x1 g n e z bb hC) (vx_cwSW 3 hts gL_law_L_start rfl rfl rfl (by decide +kernel) ⟨Nat.le_of_ble_eq_true rfl, Nat.le_of_ble_eq_true rfl⟩) rfl hl.1 rfl (Nat.le_of_ble_eq_true rfl) dL_law_470 ⟨hcs, hss⟩ (fun r5 σ1 H locs hp5 hw => ?_)
  obtain ⟨hM1, hpu⟩ := pu_start (t := t) x1 hC hM hR ht hz hj512 hp5
  refine lv_istore (lv' := [(5, .int r5), (0, .ref b), (1, .ref (gad G 0)), (2, .ref (gad G 31)), (3, .ref (gad G 46)), (4, .int (nI (4 * j)))]) hx hb dL_law_473 hl (by decide) rfl (fun ls hl => ?_)
  refine lv_aload_n hx hb dL_law_475 rfl (lv_at hl 3 rfl) ?_
  refine lv_aload_n hx hb dL_law_476 rfl (lv_at hl 1 rfl) ?_
  refine lv_iload hx hb dL_law_477 (lv_at hl 5 rfl) ?_
  refine lv_iconst (v := 1) hx hb dL_law_479 (by decide) ?_
  refine lv_iadd hx hb dL_law_480 ?_
  refine lv_rep0 (x := nI (4 * j) + 1) (y := nI (4 * j + 1)) (nI_add (4 * j) 1) ?_
  refine va_sld hx hb hX hbl hbA hw.2 (vp_in_nI (show 4 * j + 1 < L by omega) (by omega)) dL_law_481 ?_
  refine lv_rep0 (x := xs (nI (4 * j + 1)).toNatClampNeg) (y := x1) ex1.symm ?_
  refine rCallI (C := RX6) (As := [.int x1]) (rest := []) ⟨hx, hb, hml, hown, hts⟩ fx hw (kX6_start l G hG hF σ1 x1 g n sd e z bb hM1) (cwV 1 hts gL_law_X6_start rfl rfl rfl (by decide +kernel) ⟨Nat.le_of_ble_eq_true rfl, Nat.le_of_ble_eq_true rfl⟩) (hF.1 31 (by decide)) rfl rfl rfl rfl hl.1 rfl (Nat.le_of_ble_eq_true rfl) dL_law_482 ⟨hcs, hss⟩ (fun r6 σ2 H locs hp6 hw => ?_)
  have hag := hpu r6 σ2 hp6
  refine lv_istore (lv' := [(6, .int r6), (5, .int r5), (0, .ref b), (1, .ref (gad G 0)), (2, .ref (gad G 31)), (3, .ref (gad G 46)), (4, .int (nI (4 * j)))]) hx hb dL_law_485 hl (by decide) rfl (fun ls hl => ?_)
  refine lv_aload_n hx hb dL_law_487 rfl (lv_at hl 4 rfl) ?_
  refine rCallI (C := RX6) (As := []) (rest := []) ⟨hx, hb, hml, hown, hts⟩ fx hw (kX6_thrown l G hG hF σ2 ) (cwV 0 hts gL_law_X6_thrown rfl rfl rfl (by decide +kernel) ⟨Nat.le_of_ble_eq_true rfl, Nat.le_of_ble_eq_true rfl⟩) (hF.1 31 (by decide)) rfl rfl rfl rfl hl.1 rfl (Nat.le_of_ble_eq_true rfl) dL_law_488 ⟨hcs, hss⟩ (fun r7 σ3 H locs hp7 hw => ?_)
  obtain ⟨e7, e8⟩ := hp7
  have e8 := e8.symm
  subst e8
  have e9q : r7 = r5 := e7.trans hag.1
  refine lv_iload hx hb dL_law_491 (lv_at hl 1 rfl) ?_
  refine lv_icmp_eq (tgt := 498) hx hb dL_law_493 (by decide) (fun c_1 => ?_) (fun c_1 => ?_)
  · skip
    refine lv_iload hx hb dL_law_498 (lv_at hl 1 rfl) ?_
    refine lv_if_ne (tgt := 515) hx hb dL_law_500 (by decide) (fun c_2 => ?_) (fun c_2 => ?_)
    · skip
      refine lv_goto (tgt := 1656) hx hb dL_law_515 (by decide) ?_
      exact kk _ _ _ _ hag.2.2 hw (lv_sub hl [2, 3, 4, 5, 6] rfl)
    · skip
      refine lv_aload_n hx hb dL_law_503 rfl (lv_at hl 5 rfl) ?_
      refine lv_iconst (v := 0) hx hb dL_law_504 (by decide) ?_
      refine rLld hx hb fx hw (hF.1 46 (by decide)) hF.2.2.2.1 dL_law_505 ?_
      refine lv_iload hx hb dL_law_506 (lv_at hl 0 rfl) ?_
      refine lv_i2l hx hb dL_law_508 rfl ?_
      refine W.lcmp hx hb dL_law_509 ?_
      refine lv_rep0 (x := lg_cmp (σ2 46 0).toInt64 r6.toInt64) (y := 0) (by rw [hag.2.1 c_2]; exact lcmp_0 _) ?_
      refine lv_if_eq (tgt := 515) hx hb dL_law_510 (by decide) (fun c_3 => ?_) (fun c_3 => ?_)
      · skip
        refine lv_goto (tgt := 1656) hx hb dL_law_515 (by decide) ?_
        exact kk _ _ _ _ hag.2.2 hw (lv_sub hl [2, 3, 4, 5, 6] rfl)
      · exact absurd rfl c_3
  · exact absurd e9q c_1

set_option maxHeartbeats 4000000 in
set_option maxRecDepth 100000 in
theorem lk_isOn {p : Program} {l : Launch} {e0 : Env} {s : State} {m : MethodId} {below : List Frame} {meth : Method} {c : Code} {b L : Nat} {xs : Nat → Int32} {G : Gx} (hlt : l.stackTraces = false) (hL : L ≤ 2048) (C0 : lw_At p s m meth c b L xs) (fx : Fx G s) (hG : gOk G) (hF : Full G) (hgb : gbs G = s.heap.size) {j : Nat} (hj : 4 * j + 4 ≤ L) {σ : St} (hI : Inv σ j) {H : Heap} {locs : List Loc} {cells slots : Nat} (hw : Wd G s σ H locs) (hcs : cells + 1 ≤ room_1.cells) (hss : slots + 6 ≤ room_1.slots) {ls : Array Slot} (hl : lv_has ls 7 [(0, .ref b), (1, .ref (gad G 0)), (2, .ref (gad G 31)), (3, .ref (gad G 46)), (4, .int (nI (4 * j)))]) (kk : ∀ (σ' : St) (H : Heap) (locs : List Loc) (ls : Array Slot), Inv σ' (j + 1) → Wd G s σ' H locs → lv_has ls 7 [(0, .ref b), (1, .ref (gad G 0)), (2, .ref (gad G 31)), (3, .ref (gad G 46)), (4, .int (nI (4 * j)))] → W p l e0 room_1 s m #[Value.ref b] below meth c H locs (cells + 1) (slots + 6) (lw_Z below #[Value.ref b] s) (F0 m 1656 ls [])) : W p l e0 room_1 s m #[Value.ref b] below meth c H locs cells slots (lw_Z below #[Value.ref b] s) (F0 m 518 ls []) := by
  obtain ⟨hx, hb, hr, hml, hown, hts, hX, hbl, hlocks, hgv⟩ := C0
  have hts := fun w h => hts w (wsL_law_in w h)
  have hbA : ¬ gA G b := fun q => by have q2 : gbs G ≤ b := q; omega
  have hj512 : j < 512 := by omega
  obtain ⟨g, n, sd, e, z, t, bb, hC, hM, hR, ht, hz⟩ := hI
  obtain ⟨x1, ex1⟩ : ∃ v : Int32, v = xs (nI (4 * j + 1)).toNatClampNeg := ⟨_, rfl⟩
  obtain ⟨x2, ex2⟩ : ∃ v : Int32, v = xs (nI (4 * j + 2)).toNatClampNeg := ⟨_, rfl⟩
  obtain ⟨x3, ex3⟩ : ∃ v : Int32, v = xs (nI (4 * j + 3)).toNatClampNeg := ⟨_, rfl⟩
  refine lv_aload_n hx hb dL_law_518 rfl (lv_at hl 1 rfl) ?_
  refine rCallI (C := RX5) (As := []) (rest := []) ⟨hx, hb, hml, hown, hts⟩ fx hw (kX5_isOn l G hG hF σ g n e z bb hC) (cwV 0 hts gL_law_X5_isOn rfl rfl rfl (by decide +kernel) ⟨Nat.le_of_ble_eq_true rfl, Nat.le_of_ble_eq_true rfl⟩) (hF.1 0 (by decide)) rfl rfl rfl rfl hl.1 rfl (Nat.le_of_ble_eq_true rfl) dL_law_519 ⟨Nat.le_of_succ_le hcs, Nat.le_trans (Nat.le_add_right _ _) hss⟩ (fun r5 σ1 H locs hp5 hw => ?_)
  obtain ⟨hM1, hpu⟩ := pu_isOn (t := t) hC hM hR ht hz hj512 hp5
  refine lv_aload_n hx hb dL_law_522 rfl (lv_at hl 2 rfl) ?_
  refine rCallI (C := RX6) (As := []) (rest := [.int r5]) ⟨hx, hb, hml, hown, hts⟩ fx hw (kX6_isOn l G hG hF σ1 g n sd e z bb hM1) (cwV 0 hts gL_law_X6_isOn rfl rfl rfl (by decide +kernel) ⟨Nat.le_of_ble_eq_true rfl, Nat.le_of_ble_eq_true rfl⟩) (hF.1 31 (by decide)) rfl rfl rfl rfl hl.1 rfl (Nat.le_of_ble_eq_true rfl) dL_law_523 ⟨Nat.le_of_succ_le hcs, Nat.le_trans (Nat.le_add_right _ _) hss⟩ (fun r6 σ2 H locs hp6 hw => ?_)
  have hag := hpu r6 σ2 hp6
  refine lv_icmp_eq (tgt := 1656) hx hb dL_law_526 (by decide) (fun c_1 => ?_) (fun c_1 => ?_)
  · skip
    refine W.widen (k := cells + 1) (n := slots + 6) (Nat.le_succ _) (Nat.le_add_right _ _) ?_
    exact kk _ _ _ _ hag.2.2 hw (lv_sub hl [0, 1, 2, 3, 4] rfl)
  · exact absurd hag.1 c_1

set_option maxHeartbeats 4000000 in
set_option maxRecDepth 100000 in
theorem lk_pass {p : Program} {l : Launch} {e0 : Env} {s : State} {m : MethodId} {below : List Frame} {meth : Method} {c : Code} {b L : Nat} {xs : Nat → Int32} {G : Gx} (hlt : l.stackTraces = false) (hL : L ≤ 2048) (C0 : lw_At p s m meth c b L xs) (fx : Fx G s) (hG : gOk G) (hF : Full G) (hgb : gbs G = s.heap.size) {j : Nat} (hj : 4 * j + 4 ≤ L) {σ : St} (hI : Inv σ j) {H : Heap} {locs : List Loc} {cells slots : Nat} (hw : Wd G s σ H locs) (hcs : cells + 1 ≤ room_1.cells) (hss : slots + 6 ≤ room_1.slots) {ls : Array Slot} (hl : lv_has ls 7 [(0, .ref b), (1, .ref (gad G 0)), (2, .ref (gad G 31)), (3, .ref (gad G 46)), (4, .int (nI (4 * j)))]) (kk : ∀ (σ' : St) (H : Heap) (locs : List Loc) (ls : Array Slot), Inv σ' (j + 1) → Wd G s σ' H locs → lv_has ls 7 [(0, .ref b), (1, .ref (gad G 0)), (2, .ref (gad G 31)), (3, .ref (gad G 46)), (4, .int (nI (4 * j)))] → W p l e0 room_1 s m #[Value.ref b] below meth c H locs (cells + 1) (slots + 6) (lw_Z below #[Value.ref b] s) (F0 m 1656 ls [])) : W p l e0 room_1 s m #[Value.ref b] below meth c H locs cells slots (lw_Z below #[Value.ref b] s) (F0 m 531 ls []) := by
  obtain ⟨hx, hb, hr, hml, hown, hts, hX, hbl, hlocks, hgv⟩ := C0
  have hts := fun w h => hts w (wsL_law_in w h)
  have hbA : ¬ gA G b := fun q => by have q2 : gbs G ≤ b := q; omega
  have hj512 : j < 512 := by omega
  obtain ⟨g, n, sd, e, z, t, bb, hC, hM, hR, ht, hz⟩ := hI
  obtain ⟨x1, ex1⟩ : ∃ v : Int32, v = xs (nI (4 * j + 1)).toNatClampNeg := ⟨_, rfl⟩
  obtain ⟨x2, ex2⟩ : ∃ v : Int32, v = xs (nI (4 * j + 2)).toNatClampNeg := ⟨_, rfl⟩
  obtain ⟨x3, ex3⟩ : ∃ v : Int32, v = xs (nI (4 * j + 3)).toNatClampNeg := ⟨_, rfl⟩
  refine lv_aload_n hx hb dL_law_531 rfl (lv_at hl 1 rfl) ?_
  refine lv_aload_n hx hb dL_law_532 rfl (lv_at hl 0 rfl) ?_
  refine lv_iload hx hb dL_law_533 (lv_at hl 4 rfl) ?_
  refine lv_iconst (v := 1) hx hb dL_law_535 (by decide) ?_
  refine lv_iadd hx hb dL_law_536 ?_
  refine lv_rep0 (x := nI (4 * j) + 1) (y := nI (4 * j + 1)) (nI_add (4 * j) 1) ?_
  refine va_sld hx hb hX hbl hbA hw.2 (vp_in_nI (show 4 * j + 1 < L by omega) (by omega)) dL_law_537 ?_
  refine lv_rep0 (x := xs (nI (4 * j + 1)).toNatClampNeg) (y := x1) ex1.symm ?_
  refine lv_aload_n hx hb dL_law_538 rfl (lv_at hl 0 rfl) ?_
  refine lv_iload hx hb dL_law_539 (lv_at hl 4 rfl) ?_
  refine lv_iconst (v := 2) hx hb dL_law_541 (by decide) ?_
  refine lv_iadd hx hb dL_law_542 ?_
  refine lv_rep0 (x := nI (4 * j) + 2) (y := nI (4 * j + 2)) (nI_add (4 * j) 2) ?_
  refine va_sld hx hb hX hbl hbA hw.2 (vp_in_nI (show 4 * j + 2 < L by omega) (by omega)) dL_law_543 ?_
  refine lv_rep0 (x := xs (nI (4 * j + 2)).toNatClampNeg) (y := x2) ex2.symm ?_
  refine lv_aload_n hx hb dL_law_544 rfl (lv_at hl 3 rfl) ?_
  refine rCallLS (As := [.ref (gad G 0), .int x1, .int x2, .ref (gad G 46)]) (rest := []) ⟨hx, hb, hml, hown, hts⟩ fx hw (kL_pass l hlt G hG hF σ x1 x2 g n e z bb hC) (vx_cwSW 4 hts gL_law_L_pass rfl rfl rfl (by decide +kernel) ⟨Nat.le_of_ble_eq_true rfl, Nat.le_of_ble_eq_true rfl⟩) rfl hl.1 rfl (Nat.le_of_ble_eq_true rfl) dL_law_545 ⟨hcs, hss⟩ (fun r5 σ1 H locs hp5 hw => ?_)
  obtain ⟨hM1, hpu⟩ := pu_pass (t := t) x1 x2 hC hM hR ht hz hj512 hp5
  refine lv_istore (lv' := [(5, .int r5), (0, .ref b), (1, .ref (gad G 0)), (2, .ref (gad G 31)), (3, .ref (gad G 46)), (4, .int (nI (4 * j)))]) hx hb dL_law_548 hl (by decide) rfl (fun ls hl => ?_)
  refine lv_aload_n hx hb dL_law_550 rfl (lv_at hl 3 rfl) ?_
  refine lv_aload_n hx hb dL_law_551 rfl (lv_at hl 1 rfl) ?_
  refine lv_iload hx hb dL_law_552 (lv_at hl 5 rfl) ?_
  refine lv_iconst (v := 1) hx hb dL_law_554 (by decide) ?_
  refine lv_iadd hx hb dL_law_555 ?_
  refine lv_rep0 (x := nI (4 * j) + 1) (y := nI (4 * j + 1)) (nI_add (4 * j) 1) ?_
  refine va_sld hx hb hX hbl hbA hw.2 (vp_in_nI (show 4 * j + 1 < L by omega) (by omega)) dL_law_556 ?_
  refine lv_rep0 (x := xs (nI (4 * j + 1)).toNatClampNeg) (y := x1) ex1.symm ?_
  refine lv_aload_n hx hb dL_law_557 rfl (lv_at hl 1 rfl) ?_
  refine lv_iload hx hb dL_law_558 (lv_at hl 5 rfl) ?_
  refine lv_iconst (v := 2) hx hb dL_law_560 (by decide) ?_
  refine lv_iadd hx hb dL_law_561 ?_
  refine lv_rep0 (x := nI (4 * j) + 2) (y := nI (4 * j + 2)) (nI_add (4 * j) 2) ?_
  refine va_sld hx hb hX hbl hbA hw.2 (vp_in_nI (show 4 * j + 2 < L by omega) (by omega)) dL_law_562 ?_
  refine lv_rep0 (x := xs (nI (4 * j + 2)).toNatClampNeg) (y := x2) ex2.symm ?_
  refine rCallI (C := RX6) (As := [.int x1, .int x2]) (rest := []) ⟨hx, hb, hml, hown, hts⟩ fx hw (kX6_pass l G hG hF σ1 x1 x2 g n sd e z bb hM1) (cwV 2 hts gL_law_X6_pass rfl rfl rfl (by decide +kernel) ⟨Nat.le_of_ble_eq_true rfl, Nat.le_of_ble_eq_true rfl⟩) (hF.1 31 (by decide)) rfl rfl rfl rfl hl.1 rfl (Nat.le_of_ble_eq_true rfl) dL_law_563 ⟨hcs, hss⟩ (fun r6 σ2 H locs hp6 hw => ?_)
  have hag := hpu r6 σ2 hp6
  refine lv_istore (lv' := [(6, .int r6), (5, .int r5), (0, .ref b), (1, .ref (gad G 0)), (2, .ref (gad G 31)), (3, .ref (gad G 46)), (4, .int (nI (4 * j)))]) hx hb dL_law_566 hl (by decide) rfl (fun ls hl => ?_)
  refine lv_aload_n hx hb dL_law_568 rfl (lv_at hl 4 rfl) ?_
  refine rCallI (C := RX6) (As := []) (rest := []) ⟨hx, hb, hml, hown, hts⟩ fx hw (kX6_thrown l G hG hF σ2 ) (cwV 0 hts gL_law_X6_thrown rfl rfl rfl (by decide +kernel) ⟨Nat.le_of_ble_eq_true rfl, Nat.le_of_ble_eq_true rfl⟩) (hF.1 31 (by decide)) rfl rfl rfl rfl hl.1 rfl (Nat.le_of_ble_eq_true rfl) dL_law_569 ⟨hcs, hss⟩ (fun r7 σ3 H locs hp7 hw => ?_)
  obtain ⟨e7, e8⟩ := hp7
  have e8 := e8.symm
  subst e8
  have e9q : r7 = r5 := e7.trans hag.1
  refine lv_iload hx hb dL_law_572 (lv_at hl 1 rfl) ?_
  refine lv_icmp_eq (tgt := 579) hx hb dL_law_574 (by decide) (fun c_1 => ?_) (fun c_1 => ?_)
  · skip
    refine lv_iload hx hb dL_law_579 (lv_at hl 1 rfl) ?_
    refine lv_if_ne (tgt := 596) hx hb dL_law_581 (by decide) (fun c_2 => ?_) (fun c_2 => ?_)
    · skip
      refine lv_goto (tgt := 1656) hx hb dL_law_596 (by decide) ?_
      exact kk _ _ _ _ hag.2.2 hw (lv_sub hl [2, 3, 4, 5, 6] rfl)
    · skip
      refine lv_aload_n hx hb dL_law_584 rfl (lv_at hl 5 rfl) ?_
      refine lv_iconst (v := 0) hx hb dL_law_585 (by decide) ?_
      refine rLld hx hb fx hw (hF.1 46 (by decide)) hF.2.2.2.1 dL_law_586 ?_
      refine lv_iload hx hb dL_law_587 (lv_at hl 0 rfl) ?_
      refine lv_i2l hx hb dL_law_589 rfl ?_
      refine W.lcmp hx hb dL_law_590 ?_
      refine lv_rep0 (x := lg_cmp (σ2 46 0).toInt64 r6.toInt64) (y := 0) (by rw [hag.2.1 c_2]; exact lcmp_0 _) ?_
      refine lv_if_eq (tgt := 596) hx hb dL_law_591 (by decide) (fun c_3 => ?_) (fun c_3 => ?_)
      · skip
        refine lv_goto (tgt := 1656) hx hb dL_law_596 (by decide) ?_
        exact kk _ _ _ _ hag.2.2 hw (lv_sub hl [2, 3, 4, 5, 6] rfl)
      · exact absurd rfl c_3
  · exact absurd e9q c_1

set_option maxHeartbeats 4000000 in
set_option maxRecDepth 100000 in
theorem lk_idle {p : Program} {l : Launch} {e0 : Env} {s : State} {m : MethodId} {below : List Frame} {meth : Method} {c : Code} {b L : Nat} {xs : Nat → Int32} {G : Gx} (hlt : l.stackTraces = false) (hL : L ≤ 2048) (C0 : lw_At p s m meth c b L xs) (fx : Fx G s) (hG : gOk G) (hF : Full G) (hgb : gbs G = s.heap.size) {j : Nat} (hj : 4 * j + 4 ≤ L) {σ : St} (hI : Inv σ j) {H : Heap} {locs : List Loc} {cells slots : Nat} (hw : Wd G s σ H locs) (hcs : cells + 1 ≤ room_1.cells) (hss : slots + 6 ≤ room_1.slots) {ls : Array Slot} (hl : lv_has ls 7 [(0, .ref b), (1, .ref (gad G 0)), (2, .ref (gad G 31)), (3, .ref (gad G 46)), (4, .int (nI (4 * j)))]) (kk : ∀ (σ' : St) (H : Heap) (locs : List Loc) (ls : Array Slot), Inv σ' (j + 1) → Wd G s σ' H locs → lv_has ls 7 [(0, .ref b), (1, .ref (gad G 0)), (2, .ref (gad G 31)), (3, .ref (gad G 46)), (4, .int (nI (4 * j)))] → W p l e0 room_1 s m #[Value.ref b] below meth c H locs (cells + 1) (slots + 6) (lw_Z below #[Value.ref b] s) (F0 m 1656 ls [])) : W p l e0 room_1 s m #[Value.ref b] below meth c H locs cells slots (lw_Z below #[Value.ref b] s) (F0 m 599 ls []) := by
  obtain ⟨hx, hb, hr, hml, hown, hts, hX, hbl, hlocks, hgv⟩ := C0
  have hts := fun w h => hts w (wsL_law_in w h)
  have hbA : ¬ gA G b := fun q => by have q2 : gbs G ≤ b := q; omega
  have hj512 : j < 512 := by omega
  obtain ⟨g, n, sd, e, z, t, bb, hC, hM, hR, ht, hz⟩ := hI
  obtain ⟨x1, ex1⟩ : ∃ v : Int32, v = xs (nI (4 * j + 1)).toNatClampNeg := ⟨_, rfl⟩
  obtain ⟨x2, ex2⟩ : ∃ v : Int32, v = xs (nI (4 * j + 2)).toNatClampNeg := ⟨_, rfl⟩
  obtain ⟨x3, ex3⟩ : ∃ v : Int32, v = xs (nI (4 * j + 3)).toNatClampNeg := ⟨_, rfl⟩
  refine lv_aload_n hx hb dL_law_599 rfl (lv_at hl 1 rfl) ?_
  refine lv_aload_n hx hb dL_law_600 rfl (lv_at hl 0 rfl) ?_
  refine lv_iload hx hb dL_law_601 (lv_at hl 4 rfl) ?_
  refine lv_iconst (v := 1) hx hb dL_law_603 (by decide) ?_
  refine lv_iadd hx hb dL_law_604 ?_
  refine lv_rep0 (x := nI (4 * j) + 1) (y := nI (4 * j + 1)) (nI_add (4 * j) 1) ?_
  refine va_sld hx hb hX hbl hbA hw.2 (vp_in_nI (show 4 * j + 1 < L by omega) (by omega)) dL_law_605 ?_
  refine lv_rep0 (x := xs (nI (4 * j + 1)).toNatClampNeg) (y := x1) ex1.symm ?_
  refine lv_aload_n hx hb dL_law_606 rfl (lv_at hl 3 rfl) ?_
  refine rCallLS (As := [.ref (gad G 0), .int x1, .ref (gad G 46)]) (rest := []) ⟨hx, hb, hml, hown, hts⟩ fx hw (kL_idle l hlt G hG hF σ x1 g n e z bb hC) (vx_cwSW 3 hts gL_law_L_idle rfl rfl rfl (by decide +kernel) ⟨Nat.le_of_ble_eq_true rfl, Nat.le_of_ble_eq_true rfl⟩) rfl hl.1 rfl (Nat.le_of_ble_eq_true rfl) dL_law_607 ⟨hcs, hss⟩ (fun r5 σ1 H locs hp5 hw => ?_)
  obtain ⟨hM1, hpu⟩ := pu_idle (t := t) x1 hC hM hR ht hz hj512 hp5
  refine lv_istore (lv' := [(5, .int r5), (0, .ref b), (1, .ref (gad G 0)), (2, .ref (gad G 31)), (3, .ref (gad G 46)), (4, .int (nI (4 * j)))]) hx hb dL_law_610 hl (by decide) rfl (fun ls hl => ?_)
  refine lv_aload_n hx hb dL_law_612 rfl (lv_at hl 3 rfl) ?_
  refine lv_aload_n hx hb dL_law_613 rfl (lv_at hl 1 rfl) ?_
  refine lv_iload hx hb dL_law_614 (lv_at hl 5 rfl) ?_
  refine lv_iconst (v := 1) hx hb dL_law_616 (by decide) ?_
  refine lv_iadd hx hb dL_law_617 ?_
  refine lv_rep0 (x := nI (4 * j) + 1) (y := nI (4 * j + 1)) (nI_add (4 * j) 1) ?_
  refine va_sld hx hb hX hbl hbA hw.2 (vp_in_nI (show 4 * j + 1 < L by omega) (by omega)) dL_law_618 ?_
  refine lv_rep0 (x := xs (nI (4 * j + 1)).toNatClampNeg) (y := x1) ex1.symm ?_
  refine rCallI (C := RX6) (As := [.int x1]) (rest := []) ⟨hx, hb, hml, hown, hts⟩ fx hw (kX6_idle l G hG hF σ1 x1 g n sd e z bb hM1) (cwV 1 hts gL_law_X6_idle rfl rfl rfl (by decide +kernel) ⟨Nat.le_of_ble_eq_true rfl, Nat.le_of_ble_eq_true rfl⟩) (hF.1 31 (by decide)) rfl rfl rfl rfl hl.1 rfl (Nat.le_of_ble_eq_true rfl) dL_law_619 ⟨hcs, hss⟩ (fun r6 σ2 H locs hp6 hw => ?_)
  have hag := hpu r6 σ2 hp6
  refine lv_istore (lv' := [(6, .int r6), (5, .int r5), (0, .ref b), (1, .ref (gad G 0)), (2, .ref (gad G 31)), (3, .ref (gad G 46)), (4, .int (nI (4 * j)))]) hx hb dL_law_622 hl (by decide) rfl (fun ls hl => ?_)
  refine lv_aload_n hx hb dL_law_624 rfl (lv_at hl 4 rfl) ?_
  refine rCallI (C := RX6) (As := []) (rest := []) ⟨hx, hb, hml, hown, hts⟩ fx hw (kX6_thrown l G hG hF σ2 ) (cwV 0 hts gL_law_X6_thrown rfl rfl rfl (by decide +kernel) ⟨Nat.le_of_ble_eq_true rfl, Nat.le_of_ble_eq_true rfl⟩) (hF.1 31 (by decide)) rfl rfl rfl rfl hl.1 rfl (Nat.le_of_ble_eq_true rfl) dL_law_625 ⟨hcs, hss⟩ (fun r7 σ3 H locs hp7 hw => ?_)
  obtain ⟨e7, e8⟩ := hp7
  have e8 := e8.symm
  subst e8
  have e9q : r7 = r5 := e7.trans hag.1
  refine lv_iload hx hb dL_law_628 (lv_at hl 1 rfl) ?_
  refine lv_icmp_eq (tgt := 635) hx hb dL_law_630 (by decide) (fun c_1 => ?_) (fun c_1 => ?_)
  · skip
    refine lv_iload hx hb dL_law_635 (lv_at hl 1 rfl) ?_
    refine lv_if_ne (tgt := 652) hx hb dL_law_637 (by decide) (fun c_2 => ?_) (fun c_2 => ?_)
    · skip
      refine lv_goto (tgt := 1656) hx hb dL_law_652 (by decide) ?_
      exact kk _ _ _ _ hag.2.2 hw (lv_sub hl [2, 3, 4, 5, 6] rfl)
    · skip
      refine lv_aload_n hx hb dL_law_640 rfl (lv_at hl 5 rfl) ?_
      refine lv_iconst (v := 0) hx hb dL_law_641 (by decide) ?_
      refine rLld hx hb fx hw (hF.1 46 (by decide)) hF.2.2.2.1 dL_law_642 ?_
      refine lv_iload hx hb dL_law_643 (lv_at hl 0 rfl) ?_
      refine lv_i2l hx hb dL_law_645 rfl ?_
      refine W.lcmp hx hb dL_law_646 ?_
      refine lv_rep0 (x := lg_cmp (σ2 46 0).toInt64 r6.toInt64) (y := 0) (by rw [hag.2.1 c_2]; exact lcmp_0 _) ?_
      refine lv_if_eq (tgt := 652) hx hb dL_law_647 (by decide) (fun c_3 => ?_) (fun c_3 => ?_)
      · skip
        refine lv_goto (tgt := 1656) hx hb dL_law_652 (by decide) ?_
        exact kk _ _ _ _ hag.2.2 hw (lv_sub hl [2, 3, 4, 5, 6] rfl)
      · exact absurd rfl c_3
  · exact absurd e9q c_1

set_option maxHeartbeats 4000000 in
set_option maxRecDepth 100000 in
theorem lk_gateOf {p : Program} {l : Launch} {e0 : Env} {s : State} {m : MethodId} {below : List Frame} {meth : Method} {c : Code} {b L : Nat} {xs : Nat → Int32} {G : Gx} (hlt : l.stackTraces = false) (hL : L ≤ 2048) (C0 : lw_At p s m meth c b L xs) (fx : Fx G s) (hG : gOk G) (hF : Full G) (hgb : gbs G = s.heap.size) {j : Nat} (hj : 4 * j + 4 ≤ L) {σ : St} (hI : Inv σ j) {H : Heap} {locs : List Loc} {cells slots : Nat} (hw : Wd G s σ H locs) (hcs : cells + 1 ≤ room_1.cells) (hss : slots + 6 ≤ room_1.slots) {ls : Array Slot} (hl : lv_has ls 7 [(0, .ref b), (1, .ref (gad G 0)), (2, .ref (gad G 31)), (3, .ref (gad G 46)), (4, .int (nI (4 * j)))]) (kk : ∀ (σ' : St) (H : Heap) (locs : List Loc) (ls : Array Slot), Inv σ' (j + 1) → Wd G s σ' H locs → lv_has ls 7 [(0, .ref b), (1, .ref (gad G 0)), (2, .ref (gad G 31)), (3, .ref (gad G 46)), (4, .int (nI (4 * j)))] → W p l e0 room_1 s m #[Value.ref b] below meth c H locs (cells + 1) (slots + 6) (lw_Z below #[Value.ref b] s) (F0 m 1656 ls [])) : W p l e0 room_1 s m #[Value.ref b] below meth c H locs cells slots (lw_Z below #[Value.ref b] s) (F0 m 655 ls []) := by
  obtain ⟨hx, hb, hr, hml, hown, hts, hX, hbl, hlocks, hgv⟩ := C0
  have hts := fun w h => hts w (wsL_law_in w h)
  have hbA : ¬ gA G b := fun q => by have q2 : gbs G ≤ b := q; omega
  have hj512 : j < 512 := by omega
  obtain ⟨g, n, sd, e, z, t, bb, hC, hM, hR, ht, hz⟩ := hI
  obtain ⟨x1, ex1⟩ : ∃ v : Int32, v = xs (nI (4 * j + 1)).toNatClampNeg := ⟨_, rfl⟩
  obtain ⟨x2, ex2⟩ : ∃ v : Int32, v = xs (nI (4 * j + 2)).toNatClampNeg := ⟨_, rfl⟩
  obtain ⟨x3, ex3⟩ : ∃ v : Int32, v = xs (nI (4 * j + 3)).toNatClampNeg := ⟨_, rfl⟩
  refine lv_aload_n hx hb dL_law_655 rfl (lv_at hl 1 rfl) ?_
  refine lv_aload_n hx hb dL_law_656 rfl (lv_at hl 0 rfl) ?_
  refine lv_iload hx hb dL_law_657 (lv_at hl 4 rfl) ?_
  refine lv_iconst (v := 1) hx hb dL_law_659 (by decide) ?_
  refine lv_iadd hx hb dL_law_660 ?_
  refine lv_rep0 (x := nI (4 * j) + 1) (y := nI (4 * j + 1)) (nI_add (4 * j) 1) ?_
  refine va_sld hx hb hX hbl hbA hw.2 (vp_in_nI (show 4 * j + 1 < L by omega) (by omega)) dL_law_661 ?_
  refine lv_rep0 (x := xs (nI (4 * j + 1)).toNatClampNeg) (y := x1) ex1.symm ?_
  refine lv_aload_n hx hb dL_law_662 rfl (lv_at hl 3 rfl) ?_
  refine rCallLS (As := [.ref (gad G 0), .int x1, .ref (gad G 46)]) (rest := []) ⟨hx, hb, hml, hown, hts⟩ fx hw (kL_gateOf l hlt G hG hF σ x1 g n e z bb hC) (vx_cwSW 3 hts gL_law_L_gateOf rfl rfl rfl (by decide +kernel) ⟨Nat.le_of_ble_eq_true rfl, Nat.le_of_ble_eq_true rfl⟩) rfl hl.1 rfl (Nat.le_of_ble_eq_true rfl) dL_law_663 ⟨hcs, hss⟩ (fun r5 σ1 H locs hp5 hw => ?_)
  obtain ⟨hM1, hpu⟩ := pu_gateOf (t := t) x1 hC hM hR ht hz hj512 hp5
  refine lv_istore (lv' := [(5, .int r5), (0, .ref b), (1, .ref (gad G 0)), (2, .ref (gad G 31)), (3, .ref (gad G 46)), (4, .int (nI (4 * j)))]) hx hb dL_law_666 hl (by decide) rfl (fun ls hl => ?_)
  refine lv_aload_n hx hb dL_law_668 rfl (lv_at hl 3 rfl) ?_
  refine lv_aload_n hx hb dL_law_669 rfl (lv_at hl 1 rfl) ?_
  refine lv_iload hx hb dL_law_670 (lv_at hl 5 rfl) ?_
  refine lv_iconst (v := 1) hx hb dL_law_672 (by decide) ?_
  refine lv_iadd hx hb dL_law_673 ?_
  refine lv_rep0 (x := nI (4 * j) + 1) (y := nI (4 * j + 1)) (nI_add (4 * j) 1) ?_
  refine va_sld hx hb hX hbl hbA hw.2 (vp_in_nI (show 4 * j + 1 < L by omega) (by omega)) dL_law_674 ?_
  refine lv_rep0 (x := xs (nI (4 * j + 1)).toNatClampNeg) (y := x1) ex1.symm ?_
  refine rCallI (C := RX6) (As := [.int x1]) (rest := []) ⟨hx, hb, hml, hown, hts⟩ fx hw (kX6_gateOf l G hG hF σ1 x1 g n sd e z bb hM1) (cwV 1 hts gL_law_X6_gateOf rfl rfl rfl (by decide +kernel) ⟨Nat.le_of_ble_eq_true rfl, Nat.le_of_ble_eq_true rfl⟩) (hF.1 31 (by decide)) rfl rfl rfl rfl hl.1 rfl (Nat.le_of_ble_eq_true rfl) dL_law_675 ⟨hcs, hss⟩ (fun r6 σ2 H locs hp6 hw => ?_)
  have hag := hpu r6 σ2 hp6
  refine lv_istore (lv' := [(6, .int r6), (5, .int r5), (0, .ref b), (1, .ref (gad G 0)), (2, .ref (gad G 31)), (3, .ref (gad G 46)), (4, .int (nI (4 * j)))]) hx hb dL_law_678 hl (by decide) rfl (fun ls hl => ?_)
  refine lv_aload_n hx hb dL_law_680 rfl (lv_at hl 4 rfl) ?_
  refine rCallI (C := RX6) (As := []) (rest := []) ⟨hx, hb, hml, hown, hts⟩ fx hw (kX6_thrown l G hG hF σ2 ) (cwV 0 hts gL_law_X6_thrown rfl rfl rfl (by decide +kernel) ⟨Nat.le_of_ble_eq_true rfl, Nat.le_of_ble_eq_true rfl⟩) (hF.1 31 (by decide)) rfl rfl rfl rfl hl.1 rfl (Nat.le_of_ble_eq_true rfl) dL_law_681 ⟨hcs, hss⟩ (fun r7 σ3 H locs hp7 hw => ?_)
  obtain ⟨e7, e8⟩ := hp7
  have e8 := e8.symm
  subst e8
  have e9q : r7 = r5 := e7.trans hag.1
  refine lv_iload hx hb dL_law_684 (lv_at hl 1 rfl) ?_
  refine lv_icmp_eq (tgt := 691) hx hb dL_law_686 (by decide) (fun c_1 => ?_) (fun c_1 => ?_)
  · skip
    refine lv_iload hx hb dL_law_691 (lv_at hl 1 rfl) ?_
    refine lv_if_ne (tgt := 708) hx hb dL_law_693 (by decide) (fun c_2 => ?_) (fun c_2 => ?_)
    · skip
      refine lv_goto (tgt := 1656) hx hb dL_law_708 (by decide) ?_
      exact kk _ _ _ _ hag.2.2 hw (lv_sub hl [2, 3, 4, 5, 6] rfl)
    · skip
      refine lv_aload_n hx hb dL_law_696 rfl (lv_at hl 5 rfl) ?_
      refine lv_iconst (v := 0) hx hb dL_law_697 (by decide) ?_
      refine rLld hx hb fx hw (hF.1 46 (by decide)) hF.2.2.2.1 dL_law_698 ?_
      refine lv_iload hx hb dL_law_699 (lv_at hl 0 rfl) ?_
      refine lv_i2l hx hb dL_law_701 rfl ?_
      refine W.lcmp hx hb dL_law_702 ?_
      refine lv_rep0 (x := lg_cmp (σ2 46 0).toInt64 r6.toInt64) (y := 0) (by rw [hag.2.1 c_2]; exact lcmp_0 _) ?_
      refine lv_if_eq (tgt := 708) hx hb dL_law_703 (by decide) (fun c_3 => ?_) (fun c_3 => ?_)
      · skip
        refine lv_goto (tgt := 1656) hx hb dL_law_708 (by decide) ?_
        exact kk _ _ _ _ hag.2.2 hw (lv_sub hl [2, 3, 4, 5, 6] rfl)
      · exact absurd rfl c_3
  · exact absurd e9q c_1

set_option maxHeartbeats 4000000 in
set_option maxRecDepth 100000 in
theorem lk_lapsOf {p : Program} {l : Launch} {e0 : Env} {s : State} {m : MethodId} {below : List Frame} {meth : Method} {c : Code} {b L : Nat} {xs : Nat → Int32} {G : Gx} (hlt : l.stackTraces = false) (hL : L ≤ 2048) (C0 : lw_At p s m meth c b L xs) (fx : Fx G s) (hG : gOk G) (hF : Full G) (hgb : gbs G = s.heap.size) {j : Nat} (hj : 4 * j + 4 ≤ L) {σ : St} (hI : Inv σ j) {H : Heap} {locs : List Loc} {cells slots : Nat} (hw : Wd G s σ H locs) (hcs : cells + 1 ≤ room_1.cells) (hss : slots + 6 ≤ room_1.slots) {ls : Array Slot} (hl : lv_has ls 7 [(0, .ref b), (1, .ref (gad G 0)), (2, .ref (gad G 31)), (3, .ref (gad G 46)), (4, .int (nI (4 * j)))]) (kk : ∀ (σ' : St) (H : Heap) (locs : List Loc) (ls : Array Slot), Inv σ' (j + 1) → Wd G s σ' H locs → lv_has ls 7 [(0, .ref b), (1, .ref (gad G 0)), (2, .ref (gad G 31)), (3, .ref (gad G 46)), (4, .int (nI (4 * j)))] → W p l e0 room_1 s m #[Value.ref b] below meth c H locs (cells + 1) (slots + 6) (lw_Z below #[Value.ref b] s) (F0 m 1656 ls [])) : W p l e0 room_1 s m #[Value.ref b] below meth c H locs cells slots (lw_Z below #[Value.ref b] s) (F0 m 711 ls []) := by
  obtain ⟨hx, hb, hr, hml, hown, hts, hX, hbl, hlocks, hgv⟩ := C0
  have hts := fun w h => hts w (wsL_law_in w h)
  have hbA : ¬ gA G b := fun q => by have q2 : gbs G ≤ b := q; omega
  have hj512 : j < 512 := by omega
  obtain ⟨g, n, sd, e, z, t, bb, hC, hM, hR, ht, hz⟩ := hI
  obtain ⟨x1, ex1⟩ : ∃ v : Int32, v = xs (nI (4 * j + 1)).toNatClampNeg := ⟨_, rfl⟩
  obtain ⟨x2, ex2⟩ : ∃ v : Int32, v = xs (nI (4 * j + 2)).toNatClampNeg := ⟨_, rfl⟩
  obtain ⟨x3, ex3⟩ : ∃ v : Int32, v = xs (nI (4 * j + 3)).toNatClampNeg := ⟨_, rfl⟩
  refine lv_aload_n hx hb dL_law_711 rfl (lv_at hl 1 rfl) ?_
  refine lv_aload_n hx hb dL_law_712 rfl (lv_at hl 0 rfl) ?_
  refine lv_iload hx hb dL_law_713 (lv_at hl 4 rfl) ?_
  refine lv_iconst (v := 1) hx hb dL_law_715 (by decide) ?_
  refine lv_iadd hx hb dL_law_716 ?_
  refine lv_rep0 (x := nI (4 * j) + 1) (y := nI (4 * j + 1)) (nI_add (4 * j) 1) ?_
  refine va_sld hx hb hX hbl hbA hw.2 (vp_in_nI (show 4 * j + 1 < L by omega) (by omega)) dL_law_717 ?_
  refine lv_rep0 (x := xs (nI (4 * j + 1)).toNatClampNeg) (y := x1) ex1.symm ?_
  refine lv_aload_n hx hb dL_law_718 rfl (lv_at hl 3 rfl) ?_
  refine rCallLS (As := [.ref (gad G 0), .int x1, .ref (gad G 46)]) (rest := []) ⟨hx, hb, hml, hown, hts⟩ fx hw (kL_lapsOf l hlt G hG hF σ x1 g n e z bb hC) (vx_cwSW 3 hts gL_law_L_lapsOf rfl rfl rfl (by decide +kernel) ⟨Nat.le_of_ble_eq_true rfl, Nat.le_of_ble_eq_true rfl⟩) rfl hl.1 rfl (Nat.le_of_ble_eq_true rfl) dL_law_719 ⟨hcs, hss⟩ (fun r5 σ1 H locs hp5 hw => ?_)
  obtain ⟨hM1, hpu⟩ := pu_lapsOf (t := t) x1 hC hM hR ht hz hj512 hp5
  refine lv_istore (lv' := [(5, .int r5), (0, .ref b), (1, .ref (gad G 0)), (2, .ref (gad G 31)), (3, .ref (gad G 46)), (4, .int (nI (4 * j)))]) hx hb dL_law_722 hl (by decide) rfl (fun ls hl => ?_)
  refine lv_aload_n hx hb dL_law_724 rfl (lv_at hl 3 rfl) ?_
  refine lv_aload_n hx hb dL_law_725 rfl (lv_at hl 1 rfl) ?_
  refine lv_iload hx hb dL_law_726 (lv_at hl 5 rfl) ?_
  refine lv_iconst (v := 1) hx hb dL_law_728 (by decide) ?_
  refine lv_iadd hx hb dL_law_729 ?_
  refine lv_rep0 (x := nI (4 * j) + 1) (y := nI (4 * j + 1)) (nI_add (4 * j) 1) ?_
  refine va_sld hx hb hX hbl hbA hw.2 (vp_in_nI (show 4 * j + 1 < L by omega) (by omega)) dL_law_730 ?_
  refine lv_rep0 (x := xs (nI (4 * j + 1)).toNatClampNeg) (y := x1) ex1.symm ?_
  refine rCallI (C := RX6) (As := [.int x1]) (rest := []) ⟨hx, hb, hml, hown, hts⟩ fx hw (kX6_lapsOf l G hG hF σ1 x1 g n sd e z bb hM1) (cwV 1 hts gL_law_X6_lapsOf rfl rfl rfl (by decide +kernel) ⟨Nat.le_of_ble_eq_true rfl, Nat.le_of_ble_eq_true rfl⟩) (hF.1 31 (by decide)) rfl rfl rfl rfl hl.1 rfl (Nat.le_of_ble_eq_true rfl) dL_law_731 ⟨hcs, hss⟩ (fun r6 σ2 H locs hp6 hw => ?_)
  have hag := hpu r6 σ2 hp6
  refine lv_istore (lv' := [(6, .int r6), (5, .int r5), (0, .ref b), (1, .ref (gad G 0)), (2, .ref (gad G 31)), (3, .ref (gad G 46)), (4, .int (nI (4 * j)))]) hx hb dL_law_734 hl (by decide) rfl (fun ls hl => ?_)
  refine lv_aload_n hx hb dL_law_736 rfl (lv_at hl 4 rfl) ?_
  refine rCallI (C := RX6) (As := []) (rest := []) ⟨hx, hb, hml, hown, hts⟩ fx hw (kX6_thrown l G hG hF σ2 ) (cwV 0 hts gL_law_X6_thrown rfl rfl rfl (by decide +kernel) ⟨Nat.le_of_ble_eq_true rfl, Nat.le_of_ble_eq_true rfl⟩) (hF.1 31 (by decide)) rfl rfl rfl rfl hl.1 rfl (Nat.le_of_ble_eq_true rfl) dL_law_737 ⟨hcs, hss⟩ (fun r7 σ3 H locs hp7 hw => ?_)
  obtain ⟨e7, e8⟩ := hp7
  have e8 := e8.symm
  subst e8
  have e9q : r7 = r5 := e7.trans hag.1
  refine lv_iload hx hb dL_law_740 (lv_at hl 1 rfl) ?_
  refine lv_icmp_eq (tgt := 747) hx hb dL_law_742 (by decide) (fun c_1 => ?_) (fun c_1 => ?_)
  · skip
    refine lv_iload hx hb dL_law_747 (lv_at hl 1 rfl) ?_
    refine lv_if_ne (tgt := 764) hx hb dL_law_749 (by decide) (fun c_2 => ?_) (fun c_2 => ?_)
    · skip
      refine lv_goto (tgt := 1656) hx hb dL_law_764 (by decide) ?_
      exact kk _ _ _ _ hag.2.2 hw (lv_sub hl [2, 3, 4, 5, 6] rfl)
    · skip
      refine lv_aload_n hx hb dL_law_752 rfl (lv_at hl 5 rfl) ?_
      refine lv_iconst (v := 0) hx hb dL_law_753 (by decide) ?_
      refine rLld hx hb fx hw (hF.1 46 (by decide)) hF.2.2.2.1 dL_law_754 ?_
      refine lv_iload hx hb dL_law_755 (lv_at hl 0 rfl) ?_
      refine lv_i2l hx hb dL_law_757 rfl ?_
      refine W.lcmp hx hb dL_law_758 ?_
      refine lv_rep0 (x := lg_cmp (σ2 46 0).toInt64 r6.toInt64) (y := 0) (by rw [hag.2.1 c_2]; exact lcmp_0 _) ?_
      refine lv_if_eq (tgt := 764) hx hb dL_law_759 (by decide) (fun c_3 => ?_) (fun c_3 => ?_)
      · skip
        refine lv_goto (tgt := 1656) hx hb dL_law_764 (by decide) ?_
        exact kk _ _ _ _ hag.2.2 hw (lv_sub hl [2, 3, 4, 5, 6] rfl)
      · exact absurd rfl c_3
  · exact absurd e9q c_1
