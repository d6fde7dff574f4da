set_option maxHeartbeats 4000000 in
set_option maxRecDepth 100000 in
theorem lk_use {p : Program} {l : Launch} {e0 : Env} {s : State} {m : MethodId} {below : List Frame} {meth : Method} {c : Code} {b L : Nat} {xs : Nat → Int32} {G : Gx} (hlt : l.stackTraces = false) (hL : L ≤ 2048) (C0 : lw_At p s m meth c b L xs) (fx : Fx G s) (hG : gOk G) (hF : Full G) (hgb : gbs G = s.heap.size) {j : Nat} (hj : 4 * j + 4 ≤ L) {σ : St} (hI : Inv σ j) {H : Heap} {locs : List Loc} {cells slots : Nat} (hw : Wd G s σ H locs) (hcs : cells + 1 ≤ room_1.cells) (hss : slots + 6 ≤ room_1.slots) {ls : Array Slot} (hl : lv_has ls 7 [(0, .ref b), (1, .ref (gad G 0)), (2, .ref (gad G 31)), (3, .ref (gad G 46)), (4, .int (nI (4 * j)))]) (kk : ∀ (σ' : St) (H : Heap) (locs : List Loc) (ls : Array Slot), Inv σ' (j + 1) → Wd G s σ' H locs → lv_has ls 7 [(0, .ref b), (1, .ref (gad G 0)), (2, .ref (gad G 31)), (3, .ref (gad G 46)), (4, .int (nI (4 * j)))] → W p l e0 room_1 s m #[Value.ref b] below meth c H locs (cells + 1) (slots + 6) (lw_Z below #[Value.ref b] s) (F0 m 1656 ls [])) : W p l e0 room_1 s m #[Value.ref b] below meth c H locs cells slots (lw_Z below #[Value.ref b] s) (F0 m 1070 ls []) := by
  obtain ⟨hx, hb, hr, hml, hown, hts, hX, hbl, hlocks, hgv⟩ := C0
  have hts := fun w h => hts w (wsL_law_in w h)
  have hbA : ¬ gA G b := fun q => by have q2 : gbs G ≤ b := q; omega
  have hj512 : j < 512 := by omega
  obtain ⟨g, n, sd, e, z, t, bb, hC, hM, hR, ht, hz⟩ := hI
  obtain ⟨x1, ex1⟩ : ∃ v : Int32, v = xs (nI (4 * j + 1)).toNatClampNeg := ⟨_, rfl⟩
  obtain ⟨x2, ex2⟩ : ∃ v : Int32, v = xs (nI (4 * j + 2)).toNatClampNeg := ⟨_, rfl⟩
  obtain ⟨x3, ex3⟩ : ∃ v : Int32, v = xs (nI (4 * j + 3)).toNatClampNeg := ⟨_, rfl⟩
  refine lv_aload_n hx hb dL_law_1070 rfl (lv_at hl 1 rfl) ?_
  refine lv_aload_n hx hb dL_law_1071 rfl (lv_at hl 0 rfl) ?_
  refine lv_iload hx hb dL_law_1072 (lv_at hl 4 rfl) ?_
  refine lv_iconst (v := 1) hx hb dL_law_1074 (by decide) ?_
  refine lv_iadd hx hb dL_law_1075 ?_
  refine lv_rep0 (x := nI (4 * j) + 1) (y := nI (4 * j + 1)) (nI_add (4 * j) 1) ?_
  refine va_sld hx hb hX hbl hbA hw.2 (vp_in_nI (show 4 * j + 1 < L by omega) (by omega)) dL_law_1076 ?_
  refine lv_rep0 (x := xs (nI (4 * j + 1)).toNatClampNeg) (y := x1) ex1.symm ?_
  refine lv_aload_n hx hb dL_law_1077 rfl (lv_at hl 3 rfl) ?_
  refine rCallLS (As := [.ref (gad G 0), .int x1, .ref (gad G 46)]) (rest := []) ⟨hx, hb, hml, hown, hts⟩ fx hw (kL_use l hlt G hG hF σ x1 g n e z bb hC) (vx_cwSW 3 hts gL_law_L_use rfl rfl rfl (by decide +kernel) ⟨Nat.le_of_ble_eq_true rfl, Nat.le_of_ble_eq_true rfl⟩) rfl hl.1 rfl (Nat.le_of_ble_eq_true rfl) dL_law_1078 ⟨hcs, hss⟩ (fun r5 σ1 H locs hp5 hw => ?_)
  obtain ⟨hM1, hpu⟩ := pu_use (t := t) x1 hC hM hR ht hz hj512 hp5
  refine lv_istore (lv' := [(5, .int r5), (0, .ref b), (1, .ref (gad G 0)), (2, .ref (gad G 31)), (3, .ref (gad G 46)), (4, .int (nI (4 * j)))]) hx hb dL_law_1081 hl (by decide) rfl (fun ls hl => ?_)
  refine lv_aload_n hx hb dL_law_1083 rfl (lv_at hl 3 rfl) ?_
  refine lv_aload_n hx hb dL_law_1084 rfl (lv_at hl 1 rfl) ?_
  refine lv_iload hx hb dL_law_1085 (lv_at hl 5 rfl) ?_
  refine lv_iconst (v := 1) hx hb dL_law_1087 (by decide) ?_
  refine lv_iadd hx hb dL_law_1088 ?_
  refine lv_rep0 (x := nI (4 * j) + 1) (y := nI (4 * j + 1)) (nI_add (4 * j) 1) ?_
  refine va_sld hx hb hX hbl hbA hw.2 (vp_in_nI (show 4 * j + 1 < L by omega) (by omega)) dL_law_1089 ?_
  refine lv_rep0 (x := xs (nI (4 * j + 1)).toNatClampNeg) (y := x1) ex1.symm ?_
  refine rCallI (C := RX6) (As := [.int x1]) (rest := []) ⟨hx, hb, hml, hown, hts⟩ fx hw (kX6_use l G hG hF σ1 x1 g n sd e z bb hM1) (cwV 1 hts gL_law_X6_use rfl rfl rfl (by decide +kernel) ⟨Nat.le_of_ble_eq_true rfl, Nat.le_of_ble_eq_true rfl⟩) (hF.1 31 (by decide)) rfl rfl rfl rfl hl.1 rfl (Nat.le_of_ble_eq_true rfl) dL_law_1090 ⟨hcs, hss⟩ (fun r6 σ2 H locs hp6 hw => ?_)
  have hag := hpu r6 σ2 hp6
  refine lv_istore (lv' := [(6, .int r6), (5, .int r5), (0, .ref b), (1, .ref (gad G 0)), (2, .ref (gad G 31)), (3, .ref (gad G 46)), (4, .int (nI (4 * j)))]) hx hb dL_law_1093 hl (by decide) rfl (fun ls hl => ?_)
  refine lv_aload_n hx hb dL_law_1095 rfl (lv_at hl 4 rfl) ?_
  refine rCallI (C := RX6) (As := []) (rest := []) ⟨hx, hb, hml, hown, hts⟩ fx hw (kX6_thrown l G hG hF σ2 ) (cwV 0 hts gL_law_X6_thrown rfl rfl rfl (by decide +kernel) ⟨Nat.le_of_ble_eq_true rfl, Nat.le_of_ble_eq_true rfl⟩) (hF.1 31 (by decide)) rfl rfl rfl rfl hl.1 rfl (Nat.le_of_ble_eq_true rfl) dL_law_1096 ⟨hcs, hss⟩ (fun r7 σ3 H locs hp7 hw => ?_)
  obtain ⟨e7, e8⟩ := hp7
  have e8 := e8.symm
  subst e8
  have e9q : r7 = r5 := e7.trans hag.1
  refine lv_iload hx hb dL_law_1099 (lv_at hl 1 rfl) ?_
  refine lv_icmp_eq (tgt := 1106) hx hb dL_law_1101 (by decide) (fun c_1 => ?_) (fun c_1 => ?_)
  · skip
    refine lv_iload hx hb dL_law_1106 (lv_at hl 1 rfl) ?_
    refine lv_if_ne (tgt := 1123) hx hb dL_law_1108 (by decide) (fun c_2 => ?_) (fun c_2 => ?_)
    · skip
      refine lv_goto (tgt := 1656) hx hb dL_law_1123 (by decide) ?_
      exact kk _ _ _ _ hag.2.2 hw (lv_sub hl [2, 3, 4, 5, 6] rfl)
    · skip
      refine lv_aload_n hx hb dL_law_1111 rfl (lv_at hl 5 rfl) ?_
      refine lv_iconst (v := 0) hx hb dL_law_1112 (by decide) ?_
      refine rLld hx hb fx hw (hF.1 46 (by decide)) hF.2.2.2.1 dL_law_1113 ?_
      refine lv_iload hx hb dL_law_1114 (lv_at hl 0 rfl) ?_
      refine lv_i2l hx hb dL_law_1116 rfl ?_
      refine W.lcmp hx hb dL_law_1117 ?_
      refine lv_rep0 (x := lg_cmp (σ2 46 0).toInt64 r6.toInt64) (y := 0) (by rw [hag.2.1 c_2]; exact lcmp_0 _) ?_
      refine lv_if_eq (tgt := 1123) hx hb dL_law_1118 (by decide) (fun c_3 => ?_) (fun c_3 => ?_)
      · skip
        refine lv_goto (tgt := 1656) hx hb dL_law_1123 (by decide) ?_
        exact kk _ _ _ _ hag.2.2 hw (lv_sub hl [2, 3, 4, 5, 6] rfl)
      · exact absurd rfl c_3
  · exact absurd e9q c_1

set_option maxHeartbeats 4000000 in
set_option maxRecDepth 100000 in
theorem lk_itemOf {p : Program} {l : Launch} {e0 : Env} {s : State} {m : MethodId} {below : List Frame} {meth : Method} {c : Code} {b L : Nat} {xs : Nat → Int32} {G : Gx} (hlt : l.stackTraces = false) (hL : L ≤ 2048) (C0 : lw_At p s m meth c b L xs) (fx : Fx G s) (hG : gOk G) (hF : Full G) (hgb : gbs G = s.heap.size) {j : Nat} (hj : 4 * j + 4 ≤ L) {σ : St} (hI : Inv σ j) {H : Heap} {locs : List Loc} {cells slots : Nat} (hw : Wd G s σ H locs) (hcs : cells + 1 ≤ room_1.cells) (hss : slots + 6 ≤ room_1.slots) {ls : Array Slot} (hl : lv_has ls 7 [(0, .ref b), (1, .ref (gad G 0)), (2, .ref (gad G 31)), (3, .ref (gad G 46)), (4, .int (nI (4 * j)))]) (kk : ∀ (σ' : St) (H : Heap) (locs : List Loc) (ls : Array Slot), Inv σ' (j + 1) → Wd G s σ' H locs → lv_has ls 7 [(0, .ref b), (1, .ref (gad G 0)), (2, .ref (gad G 31)), (3, .ref (gad G 46)), (4, .int (nI (4 * j)))] → W p l e0 room_1 s m #[Value.ref b] below meth c H locs (cells + 1) (slots + 6) (lw_Z below #[Value.ref b] s) (F0 m 1656 ls [])) : W p l e0 room_1 s m #[Value.ref b] below meth c H locs cells slots (lw_Z below #[Value.ref b] s) (F0 m 1126 ls []) := by
  obtain ⟨hx, hb, hr, hml, hown, hts, hX, hbl, hlocks, hgv⟩ := C0
  have hts := fun w h => hts w (wsL_law_in w h)
  have hbA : ¬ gA G b := fun q => by have q2 : gbs G ≤ b := q; omega
  have hj512 : j < 512 := by omega
  obtain ⟨g, n, sd, e, z, t, bb, hC, hM, hR, ht, hz⟩ := hI
  obtain ⟨x1, ex1⟩ : ∃ v : Int32, v = xs (nI (4 * j + 1)).toNatClampNeg := ⟨_, rfl⟩
  obtain ⟨x2, ex2⟩ : ∃ v : Int32, v = xs (nI (4 * j + 2)).toNatClampNeg := ⟨_, rfl⟩
  obtain ⟨x3, ex3⟩ : ∃ v : Int32, v = xs (nI (4 * j + 3)).toNatClampNeg := ⟨_, rfl⟩
  refine lv_aload_n hx hb dL_law_1126 rfl (lv_at hl 1 rfl) ?_
  refine lv_aload_n hx hb dL_law_1127 rfl (lv_at hl 0 rfl) ?_
  refine lv_iload hx hb dL_law_1128 (lv_at hl 4 rfl) ?_
  refine lv_iconst (v := 1) hx hb dL_law_1130 (by decide) ?_
  refine lv_iadd hx hb dL_law_1131 ?_
  refine lv_rep0 (x := nI (4 * j) + 1) (y := nI (4 * j + 1)) (nI_add (4 * j) 1) ?_
  refine va_sld hx hb hX hbl hbA hw.2 (vp_in_nI (show 4 * j + 1 < L by omega) (by omega)) dL_law_1132 ?_
  refine lv_rep0 (x := xs (nI (4 * j + 1)).toNatClampNeg) (y := x1) ex1.symm ?_
  refine lv_aload_n hx hb dL_law_1133 rfl (lv_at hl 3 rfl) ?_
  refine rCallLS (As := [.ref (gad G 0), .int x1, .ref (gad G 46)]) (rest := []) ⟨hx, hb, hml, hown, hts⟩ fx hw (kL_itemOf l hlt G hG hF σ x1 g n e z bb hC) (vx_cwSW 3 hts gL_law_L_itemOf rfl rfl rfl (by decide +kernel) ⟨Nat.le_of_ble_eq_true rfl, Nat.le_of_ble_eq_true rfl⟩) rfl hl.1 rfl (Nat.le_of_ble_eq_true rfl) dL_law_1134 ⟨hcs, hss⟩ (fun r5 σ1 H locs hp5 hw => ?_)
  obtain ⟨hM1, hpu⟩ := pu_itemOf (t := t) x1 hC hM hR ht hz hj512 hp5
  refine lv_istore (lv' := [(5, .int r5), (0, .ref b), (1, .ref (gad G 0)), (2, .ref (gad G 31)), (3, .ref (gad G 46)), (4, .int (nI (4 * j)))]) hx hb dL_law_1137 hl (by decide) rfl (fun ls hl => ?_)
  refine lv_aload_n hx hb dL_law_1139 rfl (lv_at hl 3 rfl) ?_
  refine lv_aload_n hx hb dL_law_1140 rfl (lv_at hl 1 rfl) ?_
  refine lv_iload hx hb dL_law_1141 (lv_at hl 5 rfl) ?_
  refine lv_iconst (v := 1) hx hb dL_law_1143 (by decide) ?_
  refine lv_iadd hx hb dL_law_1144 ?_
  refine lv_rep0 (x := nI (4 * j) + 1) (y := nI (4 * j + 1)) (nI_add (4 * j) 1) ?_
  refine va_sld hx hb hX hbl hbA hw.2 (vp_in_nI (show 4 * j + 1 < L by omega) (by omega)) dL_law_1145 ?_
  refine lv_rep0 (x := xs (nI (4 * j + 1)).toNatClampNeg) (y := x1) ex1.symm ?_
  refine rCallI (C := RX6) (As := [.int x1]) (rest := []) ⟨hx, hb, hml, hown, hts⟩ fx hw (kX6_itemOf l G hG hF σ1 x1 g n sd e z bb hM1) (cwV 1 hts gL_law_X6_itemOf rfl rfl rfl (by decide +kernel) ⟨Nat.le_of_ble_eq_true rfl, Nat.le_of_ble_eq_true rfl⟩) (hF.1 31 (by decide)) rfl rfl rfl rfl hl.1 rfl (Nat.le_of_ble_eq_true rfl) dL_law_1146 ⟨hcs, hss⟩ (fun r6 σ2 H locs hp6 hw => ?_)
  have hag := hpu r6 σ2 hp6
  refine lv_istore (lv' := [(6, .int r6), (5, .int r5), (0, .ref b), (1, .ref (gad G 0)), (2, .ref (gad G 31)), (3, .ref (gad G 46)), (4, .int (nI (4 * j)))]) hx hb dL_law_1149 hl (by decide) rfl (fun ls hl => ?_)
  refine lv_aload_n hx hb dL_law_1151 rfl (lv_at hl 4 rfl) ?_
  refine rCallI (C := RX6) (As := []) (rest := []) ⟨hx, hb, hml, hown, hts⟩ fx hw (kX6_thrown l G hG hF σ2 ) (cwV 0 hts gL_law_X6_thrown rfl rfl rfl (by decide +kernel) ⟨Nat.le_of_ble_eq_true rfl, Nat.le_of_ble_eq_true rfl⟩) (hF.1 31 (by decide)) rfl rfl rfl rfl hl.1 rfl (Nat.le_of_ble_eq_true rfl) dL_law_1152 ⟨hcs, hss⟩ (fun r7 σ3 H locs hp7 hw => ?_)
  obtain ⟨e7, e8⟩ := hp7
  have e8 := e8.symm
  subst e8
  have e9q : r7 = r5 := e7.trans hag.1
  refine lv_iload hx hb dL_law_1155 (lv_at hl 1 rfl) ?_
  refine lv_icmp_eq (tgt := 1162) hx hb dL_law_1157 (by decide) (fun c_1 => ?_) (fun c_1 => ?_)
  · skip
    refine lv_iload hx hb dL_law_1162 (lv_at hl 1 rfl) ?_
    refine lv_if_ne (tgt := 1179) hx hb dL_law_1164 (by decide) (fun c_2 => ?_) (fun c_2 => ?_)
    · skip
      refine lv_goto (tgt := 1656) hx hb dL_law_1179 (by decide) ?_
      exact kk _ _ _ _ hag.2.2 hw (lv_sub hl [2, 3, 4, 5, 6] rfl)
    · skip
      refine lv_aload_n hx hb dL_law_1167 rfl (lv_at hl 5 rfl) ?_
      refine lv_iconst (v := 0) hx hb dL_law_1168 (by decide) ?_
      refine rLld hx hb fx hw (hF.1 46 (by decide)) hF.2.2.2.1 dL_law_1169 ?_
      refine lv_iload hx hb dL_law_1170 (lv_at hl 0 rfl) ?_
      refine lv_i2l hx hb dL_law_1172 rfl ?_
      refine W.lcmp hx hb dL_law_1173 ?_
      refine lv_rep0 (x := lg_cmp (σ2 46 0).toInt64 r6.toInt64) (y := 0) (by rw [hag.2.1 c_2]; exact lcmp_0 _) ?_
      refine lv_if_eq (tgt := 1179) hx hb dL_law_1174 (by decide) (fun c_3 => ?_) (fun c_3 => ?_)
      · skip
        refine lv_goto (tgt := 1656) hx hb dL_law_1179 (by decide) ?_
        exact kk _ _ _ _ hag.2.2 hw (lv_sub hl [2, 3, 4, 5, 6] rfl)
      · exact absurd rfl c_3
  · exact absurd e9q c_1

set_option maxHeartbeats 4000000 in
set_option maxRecDepth 100000 in
theorem lk_stunned {p : Program} {l : Launch} {e0 : Env} {s : State} {m : MethodId} {below : List Frame} {meth : Method} {c : Code} {b L : Nat} {xs : Nat → Int32} {G : Gx} (hlt : l.stackTraces = false) (hL : L ≤ 2048) (C0 : lw_At p s m meth c b L xs) (fx : Fx G s) (hG : gOk G) (hF : Full G) (hgb : gbs G = s.heap.size) {j : Nat} (hj : 4 * j + 4 ≤ L) {σ : St} (hI : Inv σ j) {H : Heap} {locs : List Loc} {cells slots : Nat} (hw : Wd G s σ H locs) (hcs : cells + 1 ≤ room_1.cells) (hss : slots + 6 ≤ room_1.slots) {ls : Array Slot} (hl : lv_has ls 7 [(0, .ref b), (1, .ref (gad G 0)), (2, .ref (gad G 31)), (3, .ref (gad G 46)), (4, .int (nI (4 * j)))]) (kk : ∀ (σ' : St) (H : Heap) (locs : List Loc) (ls : Array Slot), Inv σ' (j + 1) → Wd G s σ' H locs → lv_has ls 7 [(0, .ref b), (1, .ref (gad G 0)), (2, .ref (gad G 31)), (3, .ref (gad G 46)), (4, .int (nI (4 * j)))] → W p l e0 room_1 s m #[Value.ref b] below meth c H locs (cells + 1) (slots + 6) (lw_Z below #[Value.ref b] s) (F0 m 1656 ls [])) : W p l e0 room_1 s m #[Value.ref b] below meth c H locs cells slots (lw_Z below #[Value.ref b] s) (F0 m 1182 ls []) := by
  obtain ⟨hx, hb, hr, hml, hown, hts, hX, hbl, hlocks, hgv⟩ := C0
  have hts := fun w h => hts w (wsL_law_in w h)
  have hbA : ¬ gA G b := fun q => by have q2 : gbs G ≤ b := q; omega
  have hj512 : j < 512 := by omega
  obtain ⟨g, n, sd, e, z, t, bb, hC, hM, hR, ht, hz⟩ := hI
  obtain ⟨x1, ex1⟩ : ∃ v : Int32, v = xs (nI (4 * j + 1)).toNatClampNeg := ⟨_, rfl⟩
  obtain ⟨x2, ex2⟩ : ∃ v : Int32, v = xs (nI (4 * j + 2)).toNatClampNeg := ⟨_, rfl⟩
  obtain ⟨x3, ex3⟩ : ∃ v : Int32, v = xs (nI (4 * j + 3)).toNatClampNeg := ⟨_, rfl⟩
  refine lv_aload_n hx hb dL_law_1182 rfl (lv_at hl 1 rfl) ?_
  refine lv_aload_n hx hb dL_law_1183 rfl (lv_at hl 0 rfl) ?_
  refine lv_iload hx hb dL_law_1184 (lv_at hl 4 rfl) ?_
  refine lv_iconst (v := 1) hx hb dL_law_1186 (by decide) ?_
  refine lv_iadd hx hb dL_law_1187 ?_
  refine lv_rep0 (x := nI (4 * j) + 1) (y := nI (4 * j + 1)) (nI_add (4 * j) 1) ?_
  refine va_sld hx hb hX hbl hbA hw.2 (vp_in_nI (show 4 * j + 1 < L by omega) (by omega)) dL_law_1188 ?_
  refine lv_rep0 (x := xs (nI (4 * j + 1)).toNatClampNeg) (y := x1) ex1.symm ?_
  refine lv_aload_n hx hb dL_law_1189 rfl (lv_at hl 3 rfl) ?_
  refine rCallLS (As := [.ref (gad G 0), .int x1, .ref (gad G 46)]) (rest := []) ⟨hx, hb, hml, hown, hts⟩ fx hw (kL_stunned l hlt G hG hF σ x1 g n e z bb hC) (vx_cwSW 3 hts gL_law_L_stunned rfl rfl rfl (by decide +kernel) ⟨Nat.le_of_ble_eq_true rfl, Nat.le_of_ble_eq_true rfl⟩) rfl hl.1 rfl (Nat.le_of_ble_eq_true rfl) dL_law_1190 ⟨hcs, hss⟩ (fun r5 σ1 H locs hp5 hw => ?_)
  obtain ⟨hM1, hpu⟩ := pu_stunned (t := t) x1 hC hM hR ht hz hj512 hp5
  refine lv_istore (lv' := [(5, .int r5), (0, .ref b), (1, .ref (gad G 0)), (2, .ref (gad G 31)), (3, .ref (gad G 46)), (4, .int (nI (4 * j)))]) hx hb dL_law_1193 hl (by decide) rfl (fun ls hl => ?_)
  refine lv_aload_n hx hb dL_law_1195 rfl (lv_at hl 3 rfl) ?_
  refine lv_aload_n hx hb dL_law_1196 rfl (lv_at hl 1 rfl) ?_
  refine lv_iload hx hb dL_law_1197 (lv_at hl 5 rfl) ?_
  refine lv_iconst (v := 1) hx hb dL_law_1199 (by decide) ?_
  refine lv_iadd hx hb dL_law_1200 ?_
  refine lv_rep0 (x := nI (4 * j) + 1) (y := nI (4 * j + 1)) (nI_add (4 * j) 1) ?_
  refine va_sld hx hb hX hbl hbA hw.2 (vp_in_nI (show 4 * j + 1 < L by omega) (by omega)) dL_law_1201 ?_
  refine lv_rep0 (x := xs (nI (4 * j + 1)).toNatClampNeg) (y := x1) ex1.symm ?_
  refine rCallI (C := RX6) (As := [.int x1]) (rest := []) ⟨hx, hb, hml, hown, hts⟩ fx hw (kX6_stunned l G hG hF σ1 x1 g n sd e z bb hM1) (cwV 1 hts gL_law_X6_stunned rfl rfl rfl (by decide +kernel) ⟨Nat.le_of_ble_eq_true rfl, Nat.le_of_ble_eq_true rfl⟩) (hF.1 31 (by decide)) rfl rfl rfl rfl hl.1 rfl (Nat.le_of_ble_eq_true rfl) dL_law_1202 ⟨hcs, hss⟩ (fun r6 σ2 H locs hp6 hw => ?_)
  have hag := hpu r6 σ2 hp6
  refine lv_istore (lv' := [(6, .int r6), (5, .int r5), (0, .ref b), (1, .ref (gad G 0)), (2, .ref (gad G 31)), (3, .ref (gad G 46)), (4, .int (nI (4 * j)))]) hx hb dL_law_1205 hl (by decide) rfl (fun ls hl => ?_)
  refine lv_aload_n hx hb dL_law_1207 rfl (lv_at hl 4 rfl) ?_
  refine rCallI (C := RX6) (As := []) (rest := []) ⟨hx, hb, hml, hown, hts⟩ fx hw (kX6_thrown l G hG hF σ2 ) (cwV 0 hts gL_law_X6_thrown rfl rfl rfl (by decide +kernel) ⟨Nat.le_of_ble_eq_true rfl, Nat.le_of_ble_eq_true rfl⟩) (hF.1 31 (by decide)) rfl rfl rfl rfl hl.1 rfl (Nat.le_of_ble_eq_true rfl) dL_law_1208 ⟨hcs, hss⟩ (fun r7 σ3 H locs hp7 hw => ?_)
  obtain ⟨e7, e8⟩ := hp7
  have e8 := e8.symm
  subst e8
  have e9q : r7 = r5 := e7.trans hag.1
  refine lv_iload hx hb dL_law_1211 (lv_at hl 1 rfl) ?_
  refine lv_icmp_eq (tgt := 1218) hx hb dL_law_1213 (by decide) (fun c_1 => ?_) (fun c_1 => ?_)
  · skip
    refine lv_iload hx hb dL_law_1218 (lv_at hl 1 rfl) ?_
    refine lv_if_ne (tgt := 1235) hx hb dL_law_1220 (by decide) (fun c_2 => ?_) (fun c_2 => ?_)
    · skip
      refine lv_goto (tgt := 1656) hx hb dL_law_1235 (by decide) ?_
      exact kk _ _ _ _ hag.2.2 hw (lv_sub hl [2, 3, 4, 5, 6] rfl)
    · skip
      refine lv_aload_n hx hb dL_law_1223 rfl (lv_at hl 5 rfl) ?_
      refine lv_iconst (v := 0) hx hb dL_law_1224 (by decide) ?_
      refine rLld hx hb fx hw (hF.1 46 (by decide)) hF.2.2.2.1 dL_law_1225 ?_
      refine lv_iload hx hb dL_law_1226 (lv_at hl 0 rfl) ?_
      refine lv_i2l hx hb dL_law_1228 rfl ?_
      refine W.lcmp hx hb dL_law_1229 ?_
      refine lv_rep0 (x := lg_cmp (σ2 46 0).toInt64 r6.toInt64) (y := 0) (by rw [hag.2.1 c_2]; exact lcmp_0 _) ?_
      refine lv_if_eq (tgt := 1235) hx hb dL_law_1230 (by decide) (fun c_3 => ?_) (fun c_3 => ?_)
      · skip
        refine lv_goto (tgt := 1656) hx hb dL_law_1235 (by decide) ?_
        exact kk _ _ _ _ hag.2.2 hw (lv_sub hl [2, 3, 4, 5, 6] rfl)
      · exact absurd rfl c_3
  · exact absurd e9q c_1

set_option maxHeartbeats 4000000 in
set_option maxRecDepth 100000 in
theorem lk_end {p : Program} {l : Launch} {e0 : Env} {s : State} {m : MethodId} {below : List Frame} {meth : Method} {c : Code} {b L : Nat} {xs : Nat → Int32} {G : Gx} (hlt : l.stackTraces = false) (hL : L ≤ 2048) (C0 : lw_At p s m meth c b L xs) (fx : Fx G s) (hG : gOk G) (hF : Full G) (hgb : gbs G = s.heap.size) {j : Nat} (hj : 4 * j + 4 ≤ L) {σ : St} (hI : Inv σ j) {H : Heap} {locs : List Loc} {cells slots : Nat} (hw : Wd G s σ H locs) (hcs : cells + 1 ≤ room_1.cells) (hss : slots + 6 ≤ room_1.slots) {ls : Array Slot} (hl : lv_has ls 7 [(0, .ref b), (1, .ref (gad G 0)), (2, .ref (gad G 31)), (3, .ref (gad G 46)), (4, .int (nI (4 * j)))]) (kk : ∀ (σ' : St) (H : Heap) (locs : List Loc) (ls : Array Slot), Inv σ' (j + 1) → Wd G s σ' H locs → lv_has ls 7 [(0, .ref b), (1, .ref (gad G 0)), (2, .ref (gad G 31)), (3, .ref (gad G 46)), (4, .int (nI (4 * j)))] → W p l e0 room_1 s m #[Value.ref b] below meth c H locs (cells + 1) (slots + 6) (lw_Z below #[Value.ref b] s) (F0 m 1656 ls [])) : W p l e0 room_1 s m #[Value.ref b] below meth c H locs cells slots (lw_Z below #[Value.ref b] s) (F0 m 1238 ls []) := by
  obtain ⟨hx, hb, hr, hml, hown, hts, hX, hbl, hlocks, hgv⟩ := C0
  have hts := fun w h => hts w (wsL_law_in w h)
  have hbA : ¬ gA G b := fun q => by have q2 : gbs G ≤ b := q; omega
  have hj512 : j < 512 := by omega
  obtain ⟨g, n, sd, e, z, t, bb, hC, hM, hR, ht, hz⟩ := hI
  obtain ⟨x1, ex1⟩ : ∃ v : Int32, v = xs (nI (4 * j + 1)).toNatClampNeg := ⟨_, rfl⟩
  obtain ⟨x2, ex2⟩ : ∃ v : Int32, v = xs (nI (4 * j + 2)).toNatClampNeg := ⟨_, rfl⟩
  obtain ⟨x3, ex3⟩ : ∃ v : Int32, v = xs (nI (4 * j + 3)).toNatClampNeg := ⟨_, rfl⟩
  have hn0 : bb = true → 0 < n := n_pos hC hR.2.2.2.2
  refine lv_aload_n hx hb dL_law_1238 rfl (lv_at hl 1 rfl) ?_
  refine lv_aload_n hx hb dL_law_1239 rfl (lv_at hl 3 rfl) ?_
  refine rCallLS (As := [.ref (gad G 0), .ref (gad G 46)]) (rest := []) ⟨hx, hb, hml, hown, hts⟩ fx hw (kL_end l hlt G hG hF σ g n e z bb hC hn0) (vx_cwSW 2 hts gL_law_L_end rfl rfl rfl (by decide +kernel) ⟨Nat.le_of_ble_eq_true rfl, Nat.le_of_ble_eq_true rfl⟩) rfl hl.1 rfl (Nat.le_of_ble_eq_true rfl) dL_law_1240 ⟨hcs, hss⟩ (fun r5 σ1 H locs hp5 hw => ?_)
  obtain ⟨hM1, hpu⟩ := pu_end (t := t) hC hM hR ht hz hj512 hn0 hp5
  refine lv_istore (lv' := [(5, .int r5), (0, .ref b), (1, .ref (gad G 0)), (2, .ref (gad G 31)), (3, .ref (gad G 46)), (4, .int (nI (4 * j)))]) hx hb dL_law_1243 hl (by decide) rfl (fun ls hl => ?_)
  refine lv_aload_n hx hb dL_law_1245 rfl (lv_at hl 3 rfl) ?_
  refine rCallI (C := RX6) (As := []) (rest := []) ⟨hx, hb, hml, hown, hts⟩ fx hw (kX6_end l G hG hF σ1 g n sd e z bb hM1) (cwV 0 hts gL_law_X6_end rfl rfl rfl (by decide +kernel) ⟨Nat.le_of_ble_eq_true rfl, Nat.le_of_ble_eq_true rfl⟩) (hF.1 31 (by decide)) rfl rfl rfl rfl hl.1 rfl (Nat.le_of_ble_eq_true rfl) dL_law_1246 ⟨hcs, hss⟩ (fun r6 σ2 H locs hp6 hw => ?_)
  have hag := hpu r6 σ2 hp6
  refine lv_istore (lv' := [(6, .int r6), (5, .int r5), (0, .ref b), (1, .ref (gad G 0)), (2, .ref (gad G 31)), (3, .ref (gad G 46)), (4, .int (nI (4 * j)))]) hx hb dL_law_1249 hl (by decide) rfl (fun ls hl => ?_)
  refine lv_aload_n hx hb dL_law_1251 rfl (lv_at hl 4 rfl) ?_
  refine rCallI (C := RX6) (As := []) (rest := []) ⟨hx, hb, hml, hown, hts⟩ fx hw (kX6_thrown l G hG hF σ2 ) (cwV 0 hts gL_law_X6_thrown rfl rfl rfl (by decide +kernel) ⟨Nat.le_of_ble_eq_true rfl, Nat.le_of_ble_eq_true rfl⟩) (hF.1 31 (by decide)) rfl rfl rfl rfl hl.1 rfl (Nat.le_of_ble_eq_true rfl) dL_law_1252 ⟨hcs, hss⟩ (fun r7 σ3 H locs hp7 hw => ?_)
  obtain ⟨e7, e8⟩ := hp7
  have e8 := e8.symm
  subst e8
  have e9q : r7 = r5 := e7.trans hag.1
  refine lv_iload hx hb dL_law_1255 (lv_at hl 1 rfl) ?_
  refine lv_icmp_eq (tgt := 1262) hx hb dL_law_1257 (by decide) (fun c_1 => ?_) (fun c_1 => ?_)
  · skip
    refine lv_iload hx hb dL_law_1262 (lv_at hl 1 rfl) ?_
    refine lv_if_ne (tgt := 1279) hx hb dL_law_1264 (by decide) (fun c_2 => ?_) (fun c_2 => ?_)
    · skip
      refine lv_goto (tgt := 1656) hx hb dL_law_1279 (by decide) ?_
      exact kk _ _ _ _ hag.2.2 hw (lv_sub hl [2, 3, 4, 5, 6] rfl)
    · skip
      refine lv_aload_n hx hb dL_law_1267 rfl (lv_at hl 5 rfl) ?_
      refine lv_iconst (v := 0) hx hb dL_law_1268 (by decide) ?_
      refine rLld hx hb fx hw (hF.1 46 (by decide)) hF.2.2.2.1 dL_law_1269 ?_
      refine lv_iload hx hb dL_law_1270 (lv_at hl 0 rfl) ?_
      refine lv_i2l hx hb dL_law_1272 rfl ?_
      refine W.lcmp hx hb dL_law_1273 ?_
      refine lv_rep0 (x := lg_cmp (σ2 46 0).toInt64 r6.toInt64) (y := 0) (by rw [hag.2.1 c_2]; exact lcmp_0 _) ?_
      refine lv_if_eq (tgt := 1279) hx hb dL_law_1274 (by decide) (fun c_3 => ?_) (fun c_3 => ?_)
      · skip
        refine lv_goto (tgt := 1656) hx hb dL_law_1279 (by decide) ?_
        exact kk _ _ _ _ hag.2.2 hw (lv_sub hl [2, 3, 4, 5, 6] rfl)
      · exact absurd rfl c_3
  · exact absurd e9q c_1

set_option maxHeartbeats 4000000 in
set_option maxRecDepth 100000 in
theorem lk_races {p : Program} {l : Launch} {e0 : Env} {s : State} {m : MethodId} {below : List Frame} {meth : Method} {c : Code} {b L : Nat} {xs : Nat → Int32} {G : Gx} (hlt : l.stackTraces = false) (hL : L ≤ 2048) (C0 : lw_At p s m meth c b L xs) (fx : Fx G s) (hG : gOk G) (hF : Full G) (hgb : gbs G = s.heap.size) {j : Nat} (hj : 4 * j + 4 ≤ L) {σ : St} (hI : Inv σ j) {H : Heap} {locs : List Loc} {cells slots : Nat} (hw : Wd G s σ H locs) (hcs : cells + 1 ≤ room_1.cells) (hss : slots + 6 ≤ room_1.slots) {ls : Array Slot} (hl : lv_has ls 7 [(0, .ref b), (1, .ref (gad G 0)), (2, .ref (gad G 31)), (3, .ref (gad G 46)), (4, .int (nI (4 * j)))]) (kk : ∀ (σ' : St) (H : Heap) (locs : List Loc) (ls : Array Slot), Inv σ' (j + 1) → Wd G s σ' H locs → lv_has ls 7 [(0, .ref b), (1, .ref (gad G 0)), (2, .ref (gad G 31)), (3, .ref (gad G 46)), (4, .int (nI (4 * j)))] → W p l e0 room_1 s m #[Value.ref b] below meth c H locs (cells + 1) (slots + 6) (lw_Z below #[Value.ref b] s) (F0 m 1656 ls [])) : W p l e0 room_1 s m #[Value.ref b] below meth c H locs cells slots (lw_Z below #[Value.ref b] s) (F0 m 1282 ls []) := by
  obtain ⟨hx, hb, hr, hml, hown, hts, hX, hbl, hlocks, hgv⟩ := C0
  have hts := fun w h => hts w (wsL_law_in w h)
  have hbA : ¬ gA G b := fun q => by have q2 : gbs G ≤ b := q; omega
  have hj512 : j < 512 := by omega
  obtain ⟨g, n, sd, e, z, t, bb, hC, hM, hR, ht, hz⟩ := hI
  obtain ⟨x1, ex1⟩ : ∃ v : Int32, v = xs (nI (4 * j + 1)).toNatClampNeg := ⟨_, rfl⟩
  obtain ⟨x2, ex2⟩ : ∃ v : Int32, v = xs (nI (4 * j + 2)).toNatClampNeg := ⟨_, rfl⟩
  obtain ⟨x3, ex3⟩ : ∃ v : Int32, v = xs (nI (4 * j + 3)).toNatClampNeg := ⟨_, rfl⟩
  refine lv_aload_n hx hb dL_law_1282 rfl (lv_at hl 1 rfl) ?_
  refine rCallI (C := RX5) (As := []) (rest := []) ⟨hx, hb, hml, hown, hts⟩ fx hw (kX5_races l G hG hF σ g n e z bb hC) (cwV 0 hts gL_law_X5_races rfl rfl rfl (by decide +kernel) ⟨Nat.le_of_ble_eq_true rfl, Nat.le_of_ble_eq_true rfl⟩) (hF.1 0 (by decide)) rfl rfl rfl rfl hl.1 rfl (Nat.le_of_ble_eq_true rfl) dL_law_1283 ⟨Nat.le_of_succ_le hcs, Nat.le_trans (Nat.le_add_right _ _) hss⟩ (fun r5 σ1 H locs hp5 hw => ?_)
  obtain ⟨hM1, hpu⟩ := pu_races (t := t) hC hM hR ht hz hj512 hp5
  refine lv_aload_n hx hb dL_law_1286 rfl (lv_at hl 2 rfl) ?_
  refine rCallI (C := RX6) (As := []) (rest := [.int r5]) ⟨hx, hb, hml, hown, hts⟩ fx hw (kX6_races l G hG hF σ1 g n sd e z bb hM1) (cwV 0 hts gL_law_X6_races rfl rfl rfl (by decide +kernel) ⟨Nat.le_of_ble_eq_true rfl, Nat.le_of_ble_eq_true rfl⟩) (hF.1 31 (by decide)) rfl rfl rfl rfl hl.1 rfl (Nat.le_of_ble_eq_true rfl) dL_law_1287 ⟨Nat.le_of_succ_le hcs, Nat.le_trans (Nat.le_add_right _ _) hss⟩ (fun r6 σ2 H locs hp6 hw => ?_)
  have hag := hpu r6 σ2 hp6
  refine lv_icmp_eq (tgt := 1656) hx hb dL_law_1290 (by decide) (fun c_1 => ?_) (fun c_1 => ?_)
  · skip
    refine W.widen (k := cells + 1) (n := slots + 6) (Nat.le_succ _) (Nat.le_add_right _ _) ?_
    exact kk _ _ _ _ hag.2.2 hw (lv_sub hl [0, 1, 2, 3, 4] rfl)
  · exact absurd hag.1 c_1

set_option maxHeartbeats 4000000 in
set_option maxRecDepth 100000 in
theorem lk_place {p : Program} {l : Launch} {e0 : Env} {s : State} {m : MethodId} {below : List Frame} {meth : Method} {c : Code} {b L : Nat} {xs : Nat → Int32} {G : Gx} (hlt : l.stackTraces = false) (hL : L ≤ 2048) (C0 : lw_At p s m meth c b L xs) (fx : Fx G s) (hG : gOk G) (hF : Full G) (hgb : gbs G = s.heap.size) {j : Nat} (hj : 4 * j + 4 ≤ L) {σ : St} (hI : Inv σ j) {H : Heap} {locs : List Loc} {cells slots : Nat} (hw : Wd G s σ H locs) (hcs : cells + 1 ≤ room_1.cells) (hss : slots + 6 ≤ room_1.slots) {ls : Array Slot} (hl : lv_has ls 7 [(0, .ref b), (1, .ref (gad G 0)), (2, .ref (gad G 31)), (3, .ref (gad G 46)), (4, .int (nI (4 * j)))]) (kk : ∀ (σ' : St) (H : Heap) (locs : List Loc) (ls : Array Slot), Inv σ' (j + 1) → Wd G s σ' H locs → lv_has ls 7 [(0, .ref b), (1, .ref (gad G 0)), (2, .ref (gad G 31)), (3, .ref (gad G 46)), (4, .int (nI (4 * j)))] → W p l e0 room_1 s m #[Value.ref b] below meth c H locs (cells + 1) (slots + 6) (lw_Z below #[Value.ref b] s) (F0 m 1656 ls [])) : W p l e0 room_1 s m #[Value.ref b] below meth c H locs cells slots (lw_Z below #[Value.ref b] s) (F0 m 1295 ls []) := by
  obtain ⟨hx, hb, hr, hml, hown, hts, hX, hbl, hlocks, hgv⟩ := C0
  have hts := fun w h => hts w (wsL_law_in w h)
  have hbA : ¬ gA G b := fun q => by have q2 : gbs G ≤ b := q; omega
  have hj512 : j < 512 := by omega
  obtain ⟨g, n, sd, e, z, t, bb, hC, hM, hR, ht, hz⟩ := hI
  obtain ⟨x1, ex1⟩ : ∃ v : Int32, v = xs (nI (4 * j + 1)).toNatClampNeg := ⟨_, rfl⟩
  obtain ⟨x2, ex2⟩ : ∃ v : Int32, v = xs (nI (4 * j + 2)).toNatClampNeg := ⟨_, rfl⟩
  obtain ⟨x3, ex3⟩ : ∃ v : Int32, v = xs (nI (4 * j + 3)).toNatClampNeg := ⟨_, rfl⟩
  refine lv_aload_n hx hb dL_law_1295 rfl (lv_at hl 1 rfl) ?_
  refine lv_aload_n hx hb dL_law_1296 rfl (lv_at hl 0 rfl) ?_
  refine lv_iload hx hb dL_law_1297 (lv_at hl 4 rfl) ?_
  refine lv_iconst (v := 1) hx hb dL_law_1299 (by decide) ?_
  refine lv_iadd hx hb dL_law_1300 ?_
  refine lv_rep0 (x := nI (4 * j) + 1) (y := nI (4 * j + 1)) (nI_add (4 * j) 1) ?_
  refine va_sld hx hb hX hbl hbA hw.2 (vp_in_nI (show 4 * j + 1 < L by omega) (by omega)) dL_law_1301 ?_
  refine lv_rep0 (x := xs (nI (4 * j + 1)).toNatClampNeg) (y := x1) ex1.symm ?_
  refine lv_aload_n hx hb dL_law_1302 rfl (lv_at hl 0 rfl) ?_
  refine lv_iload hx hb dL_law_1303 (lv_at hl 4 rfl) ?_
  refine lv_iconst (v := 2) hx hb dL_law_1305 (by decide) ?_
  refine lv_iadd hx hb dL_law_1306 ?_
  refine lv_rep0 (x := nI (4 * j) + 2) (y := nI (4 * j + 2)) (nI_add (4 * j) 2) ?_
  refine va_sld hx hb hX hbl hbA hw.2 (vp_in_nI (show 4 * j + 2 < L by omega) (by omega)) dL_law_1307 ?_
  refine lv_rep0 (x := xs (nI (4 * j + 2)).toNatClampNeg) (y := x2) ex2.symm ?_
  refine lv_aload_n hx hb dL_law_1308 rfl (lv_at hl 3 rfl) ?_
  refine rCallLS (As := [.ref (gad G 0), .int x1, .int x2, .ref (gad G 46)]) (rest := []) ⟨hx, hb, hml, hown, hts⟩ fx hw (kL_place l hlt G hG hF σ x1 x2 g n e z bb hC) (vx_cwSW 4 hts gL_law_L_place rfl rfl rfl (by decide +kernel) ⟨Nat.le_of_ble_eq_true rfl, Nat.le_of_ble_eq_true rfl⟩) rfl hl.1 rfl (Nat.le_of_ble_eq_true rfl) dL_law_1309 ⟨hcs, hss⟩ (fun r5 σ1 H locs hp5 hw => ?_)
  obtain ⟨hM1, hpu⟩ := pu_place (t := t) x1 x2 hC hM hR ht hz hj512 hp5
  refine lv_istore (lv' := [(5, .int r5), (0, .ref b), (1, .ref (gad G 0)), (2, .ref (gad G 31)), (3, .ref (gad G 46)), (4, .int (nI (4 * j)))]) hx hb dL_law_1312 hl (by decide) rfl (fun ls hl => ?_)
  refine lv_aload_n hx hb dL_law_1314 rfl (lv_at hl 3 rfl) ?_
  refine lv_aload_n hx hb dL_law_1315 rfl (lv_at hl 1 rfl) ?_
  refine lv_iload hx hb dL_law_1316 (lv_at hl 5 rfl) ?_
  refine lv_iconst (v := 1) hx hb dL_law_1318 (by decide) ?_
  refine lv_iadd hx hb dL_law_1319 ?_
  refine lv_rep0 (x := nI (4 * j) + 1) (y := nI (4 * j + 1)) (nI_add (4 * j) 1) ?_
  refine va_sld hx hb hX hbl hbA hw.2 (vp_in_nI (show 4 * j + 1 < L by omega) (by omega)) dL_law_1320 ?_
  refine lv_rep0 (x := xs (nI (4 * j + 1)).toNatClampNeg) (y := x1) ex1.symm ?_
  refine lv_aload_n hx hb dL_law_1321 rfl (lv_at hl 1 rfl) ?_
  refine lv_iload hx hb dL_law_1322 (lv_at hl 5 rfl) ?_
  refine lv_iconst (v := 2) hx hb dL_law_1324 (by decide) ?_
  refine lv_iadd hx hb dL_law_1325 ?_
  refine lv_rep0 (x := nI (4 * j) + 2) (y := nI (4 * j + 2)) (nI_add (4 * j) 2) ?_
  refine va_sld hx hb hX hbl hbA hw.2 (vp_in_nI (show 4 * j + 2 < L by omega) (by omega)) dL_law_1326 ?_
  refine lv_rep0 (x := xs (nI (4 * j + 2)).toNatClampNeg) (y := x2) ex2.symm ?_
  refine rCallI (C := RX6) (As := [.int x1, .int x2]) (rest := []) ⟨hx, hb, hml, hown, hts⟩ fx hw (kX6_place l G hG hF σ1 x1 x2 g n sd e z bb hM1) (cwV 2 hts gL_law_X6_place rfl rfl rfl (by decide +kernel) ⟨Nat.le_of_ble_eq_true rfl, Nat.le_of_ble_eq_true rfl⟩) (hF.1 31 (by decide)) rfl rfl rfl rfl hl.1 rfl (Nat.le_of_ble_eq_true rfl) dL_law_1327 ⟨hcs, hss⟩ (fun r6 σ2 H locs hp6 hw => ?_)
  have hag := hpu r6 σ2 hp6
  refine lv_istore (lv' := [(6, .int r6), (5, .int r5), (0, .ref b), (1, .ref (gad G 0)), (2, .ref (gad G 31)), (3, .ref (gad G 46)), (4, .int (nI (4 * j)))]) hx hb dL_law_1330 hl (by decide) rfl (fun ls hl => ?_)
  refine lv_aload_n hx hb dL_law_1332 rfl (lv_at hl 4 rfl) ?_
  refine rCallI (C := RX6) (As := []) (rest := []) ⟨hx, hb, hml, hown, hts⟩ fx hw (kX6_thrown l G hG hF σ2 ) (cwV 0 hts gL_law_X6_thrown rfl rfl rfl (by decide +kernel) ⟨Nat.le_of_ble_eq_true rfl, Nat.le_of_ble_eq_true rfl⟩) (hF.1 31 (by decide)) rfl rfl rfl rfl hl.1 rfl (Nat.le_of_ble_eq_true rfl) dL_law_1333 ⟨hcs, hss⟩ (fun r7 σ3 H locs hp7 hw => ?_)
  obtain ⟨e7, e8⟩ := hp7
  have e8 := e8.symm
  subst e8
  have e9q : r7 = r5 := e7.trans hag.1
  refine lv_iload hx hb dL_law_1336 (lv_at hl 1 rfl) ?_
  refine lv_icmp_eq (tgt := 1343) hx hb dL_law_1338 (by decide) (fun c_1 => ?_) (fun c_1 => ?_)
  · skip
    refine lv_iload hx hb dL_law_1343 (lv_at hl 1 rfl) ?_
    refine lv_if_ne (tgt := 1360) hx hb dL_law_1345 (by decide) (fun c_2 => ?_) (fun c_2 => ?_)
    · skip
      refine lv_goto (tgt := 1656) hx hb dL_law_1360 (by decide) ?_
      exact kk _ _ _ _ hag.2.2 hw (lv_sub hl [2, 3, 4, 5, 6] rfl)
    · skip
      refine lv_aload_n hx hb dL_law_1348 rfl (lv_at hl 5 rfl) ?_
      refine lv_iconst (v := 0) hx hb dL_law_1349 (by decide) ?_
      refine rLld hx hb fx hw (hF.1 46 (by decide)) hF.2.2.2.1 dL_law_1350 ?_
      refine lv_iload hx hb dL_law_1351 (lv_at hl 0 rfl) ?_
      refine lv_i2l hx hb dL_law_1353 rfl ?_
      refine W.lcmp hx hb dL_law_1354 ?_
      refine lv_rep0 (x := lg_cmp (σ2 46 0).toInt64 r6.toInt64) (y := 0) (by rw [hag.2.1 c_2]; exact lcmp_0 _) ?_
      refine lv_if_eq (tgt := 1360) hx hb dL_law_1355 (by decide) (fun c_3 => ?_) (fun c_3 => ?_)
      · skip
        refine lv_goto (tgt := 1656) hx hb dL_law_1360 (by decide) ?_
        exact kk _ _ _ _ hag.2.2 hw (lv_sub hl [2, 3, 4, 5, 6] rfl)
      · exact absurd rfl c_3
  · exact absurd e9q c_1
