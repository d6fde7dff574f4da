set_option maxHeartbeats 4000000 in
set_option maxRecDepth 100000 in
theorem lk_addGate {p : Program} {l : Launch} {e0 : Env} {s : State} {m : MethodId} {below : List Frame} {meth : Method} {c : Code} {b L : Nat} {xs : Nat → Int32} {G : Gx} (hlt : l.stackTraces = false) (hL : L ≤ 2048) (C0 : lw_At p s m meth c b L xs) (fx : Fx G s) (hG : gOk G) (hF : Full G) (hgb : gbs G = s.heap.size) {j : Nat} (hj : 4 * j + 4 ≤ L) {σ : St} (hI : Inv σ j) {H : Heap} {locs : List Loc} {cells slots : Nat} (hw : Wd G s σ H locs) (hcs : cells + 1 ≤ room_1.cells) (hss : slots + 6 ≤ room_1.slots) {ls : Array Slot} (hl : lv_has ls 7 [(0, .ref b), (1, .ref (gad G 0)), (2, .ref (gad G 31)), (3, .ref (gad G 46)), (4, .int (nI (4 * j)))]) (kk : ∀ (σ' : St) (H : Heap) (locs : List Loc) (ls : Array Slot), Inv σ' (j + 1) → Wd G s σ' H locs → lv_has ls 7 [(0, .ref b), (1, .ref (gad G 0)), (2, .ref (gad G 31)), (3, .ref (gad G 46)), (4, .int (nI (4 * j)))] → W p l e0 room_1 s m #[Value.ref b] below meth c H locs (cells + 1) (slots + 6) (lw_Z below #[Value.ref b] s) (F0 m 1656 ls [])) : W p l e0 room_1 s m #[Value.ref b] below meth c H locs cells slots (lw_Z below #[Value.ref b] s) (F0 m 172 ls []) := by
  obtain ⟨hx, hb, hr, hml, hown, hts, hX, hbl, hlocks, hgv⟩ := C0
  have hts := fun w h => hts w (wsL_law_in w h)
  have hbA : ¬ gA G b := fun q => by have q2 : gbs G ≤ b := q; omega
  have hj512 : j < 512 := by omega
  obtain ⟨g, n, sd, e, z, t, bb, hC, hM, hR, ht, hz⟩ := hI
  obtain ⟨x1, ex1⟩ : ∃ v : Int32, v = xs (nI (4 * j + 1)).toNatClampNeg := ⟨_, rfl⟩
  obtain ⟨x2, ex2⟩ : ∃ v : Int32, v = xs (nI (4 * j + 2)).toNatClampNeg := ⟨_, rfl⟩
  obtain ⟨x3, ex3⟩ : ∃ v : Int32, v = xs (nI (4 * j + 3)).toNatClampNeg := ⟨_, rfl⟩
  by_cases hz9 : x1 = 0
  · skip
    refine lv_aload_n hx hb dL_law_172 rfl (lv_at hl 1 rfl) ?_
    refine lv_aload_n hx hb dL_law_173 rfl (lv_at hl 0 rfl) ?_
    refine lv_iload hx hb dL_law_174 (lv_at hl 4 rfl) ?_
    refine lv_iconst (v := 1) hx hb dL_law_176 (by decide) ?_
    refine lv_iadd hx hb dL_law_177 ?_
    refine lv_rep0 (x := nI (4 * j) + 1) (y := nI (4 * j + 1)) (nI_add (4 * j) 1) ?_
    refine va_sld hx hb hX hbl hbA hw.2 (vp_in_nI (show 4 * j + 1 < L by omega) (by omega)) dL_law_178 ?_
    refine lv_rep0 (x := xs (nI (4 * j + 1)).toNatClampNeg) (y := x1) ex1.symm ?_
    refine lv_if_eq (tgt := 186) hx hb dL_law_179 (by decide) (fun c_1 => ?_) (fun c_1 => ?_)
    · skip
      refine lv_iconst (v := 0) hx hb dL_law_186 (by decide) ?_
      refine lv_aload_n hx hb dL_law_187 rfl (lv_at hl 3 rfl) ?_
      refine rCallLS (As := [.ref (gad G 0), .int 0, .ref (gad G 46)]) (rest := []) ⟨hx, hb, hml, hown, hts⟩ fx hw (kL_addGate l hlt G hG hF σ false g n e z bb hC) (vx_cwSW 3 hts gL_law_L_addGate rfl rfl rfl (by decide +kernel) ⟨Nat.le_of_ble_eq_true rfl, Nat.le_of_ble_eq_true rfl⟩) rfl hl.1 rfl (Nat.le_of_ble_eq_true rfl) dL_law_188 ⟨hcs, hss⟩ (fun r5 σ1 H locs hp5 hw => ?_)
      obtain ⟨hM1, hpu⟩ := pu_addGate (t := t) false hC hM hR ht hz hj512 hp5
      refine lv_istore (lv' := [(5, .int r5), (0, .ref b), (1, .ref (gad G 0)), (2, .ref (gad G 31)), (3, .ref (gad G 46)), (4, .int (nI (4 * j)))]) hx hb dL_law_191 hl (by decide) rfl (fun ls hl => ?_)
      refine lv_aload_n hx hb dL_law_193 rfl (lv_at hl 3 rfl) ?_
      refine lv_aload_n hx hb dL_law_194 rfl (lv_at hl 1 rfl) ?_
      refine lv_iload hx hb dL_law_195 (lv_at hl 5 rfl) ?_
      refine lv_iconst (v := 1) hx hb dL_law_197 (by decide) ?_
      refine lv_iadd hx hb dL_law_198 ?_
      refine lv_rep0 (x := nI (4 * j) + 1) (y := nI (4 * j + 1)) (nI_add (4 * j) 1) ?_
      refine va_sld hx hb hX hbl hbA hw.2 (vp_in_nI (show 4 * j + 1 < L by omega) (by omega)) dL_law_199 ?_
      refine lv_rep0 (x := xs (nI (4 * j + 1)).toNatClampNeg) (y := x1) ex1.symm ?_
      refine lv_if_eq (tgt := 207) hx hb dL_law_200 (by decide) (fun c_2 => ?_) (fun c_2 => ?_)
      · skip
        refine lv_iconst (v := 0) hx hb dL_law_207 (by decide) ?_
        refine rCallI (C := RX6) (As := [.int 0]) (rest := []) ⟨hx, hb, hml, hown, hts⟩ fx hw (kX6_addGate l G hG hF σ1 false g n sd e z bb hM1) (cwV 1 hts gL_law_X6_addGate rfl rfl rfl (by decide +kernel) ⟨Nat.le_of_ble_eq_true rfl, Nat.le_of_ble_eq_true rfl⟩) (hF.1 31 (by decide)) rfl rfl rfl rfl hl.1 rfl (Nat.le_of_ble_eq_true rfl) dL_law_208 ⟨hcs, hss⟩ (fun r6 σ2 H locs hp6 hw => ?_)
        have hag := hpu r6 σ2 hp6
        refine lv_istore (lv' := [(6, .int r6), (5, .int r5), (0, .ref b), (1, .ref (gad G 0)), (2, .ref (gad G 31)), (3, .ref (gad G 46)), (4, .int (nI (4 * j)))]) hx hb dL_law_211 hl (by decide) rfl (fun ls hl => ?_)
        refine lv_aload_n hx hb dL_law_213 rfl (lv_at hl 4 rfl) ?_
        refine rCallI (C := RX6) (As := []) (rest := []) ⟨hx, hb, hml, hown, hts⟩ fx hw (kX6_thrown l G hG hF σ2 ) (cwV 0 hts gL_law_X6_thrown rfl rfl rfl (by decide +kernel) ⟨Nat.le_of_ble_eq_true rfl, Nat.le_of_ble_eq_true rfl⟩) (hF.1 31 (by decide)) rfl rfl rfl rfl hl.1 rfl (Nat.le_of_ble_eq_true rfl) dL_law_214 ⟨hcs, hss⟩ (fun r7 σ3 H locs hp7 hw => ?_)
        obtain ⟨e7, e8⟩ := hp7
        have e8 := e8.symm
        subst e8
        have e9q : r7 = r5 := e7.trans hag.1
        refine lv_iload hx hb dL_law_217 (lv_at hl 1 rfl) ?_
        refine lv_icmp_eq (tgt := 224) hx hb dL_law_219 (by decide) (fun c_3 => ?_) (fun c_3 => ?_)
        · skip
          refine lv_iload hx hb dL_law_224 (lv_at hl 1 rfl) ?_
          refine lv_if_ne (tgt := 241) hx hb dL_law_226 (by decide) (fun c_4 => ?_) (fun c_4 => ?_)
          · skip
            refine lv_goto (tgt := 1656) hx hb dL_law_241 (by decide) ?_
            exact kk _ _ _ _ hag.2.2 hw (lv_sub hl [2, 3, 4, 5, 6] rfl)
          · skip
            refine lv_aload_n hx hb dL_law_229 rfl (lv_at hl 5 rfl) ?_
            refine lv_iconst (v := 0) hx hb dL_law_230 (by decide) ?_
            refine rLld hx hb fx hw (hF.1 46 (by decide)) hF.2.2.2.1 dL_law_231 ?_
            refine lv_iload hx hb dL_law_232 (lv_at hl 0 rfl) ?_
            refine lv_i2l hx hb dL_law_234 rfl ?_
            refine W.lcmp hx hb dL_law_235 ?_
            refine lv_rep0 (x := lg_cmp (σ2 46 0).toInt64 r6.toInt64) (y := 0) (by rw [hag.2.1 c_4]; exact lcmp_0 _) ?_
            refine lv_if_eq (tgt := 241) hx hb dL_law_236 (by decide) (fun c_5 => ?_) (fun c_5 => ?_)
            · skip
              refine lv_goto (tgt := 1656) hx hb dL_law_241 (by decide) ?_
              exact kk _ _ _ _ hag.2.2 hw (lv_sub hl [2, 3, 4, 5, 6] rfl)
            · exact absurd rfl c_5
        · exact absurd e9q c_3
      · exact absurd hz9 c_2
    · exact absurd hz9 c_1
  · skip
    refine lv_aload_n hx hb dL_law_172 rfl (lv_at hl 1 rfl) ?_
    refine lv_aload_n hx hb dL_law_173 rfl (lv_at hl 0 rfl) ?_
    refine lv_iload hx hb dL_law_174 (lv_at hl 4 rfl) ?_
    refine lv_iconst (v := 1) hx hb dL_law_176 (by decide) ?_
    refine lv_iadd hx hb dL_law_177 ?_
    refine lv_rep0 (x := nI (4 * j) + 1) (y := nI (4 * j + 1)) (nI_add (4 * j) 1) ?_
    refine va_sld hx hb hX hbl hbA hw.2 (vp_in_nI (show 4 * j + 1 < L by omega) (by omega)) dL_law_178 ?_
    refine lv_rep0 (x := xs (nI (4 * j + 1)).toNatClampNeg) (y := x1) ex1.symm ?_
    refine lv_if_eq (tgt := 186) hx hb dL_law_179 (by decide) (fun c_6 => ?_) (fun c_6 => ?_)
    · exact absurd c_6 hz9
    · skip
      refine lv_iconst (v := 1) hx hb dL_law_182 (by decide) ?_
      refine lv_goto (tgt := 187) hx hb dL_law_183 (by decide) ?_
      refine lv_aload_n hx hb dL_law_187 rfl (lv_at hl 3 rfl) ?_
      refine rCallLS (As := [.ref (gad G 0), .int 1, .ref (gad G 46)]) (rest := []) ⟨hx, hb, hml, hown, hts⟩ fx hw (kL_addGate l hlt G hG hF σ true g n e z bb hC) (vx_cwSW 3 hts gL_law_L_addGate rfl rfl rfl (by decide +kernel) ⟨Nat.le_of_ble_eq_true rfl, Nat.le_of_ble_eq_true rfl⟩) rfl hl.1 rfl (Nat.le_of_ble_eq_true rfl) dL_law_188 ⟨hcs, hss⟩ (fun r5 σ1 H locs hp5 hw => ?_)
      obtain ⟨hM1, hpu⟩ := pu_addGate (t := t) true hC hM hR ht hz hj512 hp5
      refine lv_istore (lv' := [(5, .int r5), (0, .ref b), (1, .ref (gad G 0)), (2, .ref (gad G 31)), (3, .ref (gad G 46)), (4, .int (nI (4 * j)))]) hx hb dL_law_191 hl (by decide) rfl (fun ls hl => ?_)
      refine lv_aload_n hx hb dL_law_193 rfl (lv_at hl 3 rfl) ?_
      refine lv_aload_n hx hb dL_law_194 rfl (lv_at hl 1 rfl) ?_
      refine lv_iload hx hb dL_law_195 (lv_at hl 5 rfl) ?_
      refine lv_iconst (v := 1) hx hb dL_law_197 (by decide) ?_
      refine lv_iadd hx hb dL_law_198 ?_
      refine lv_rep0 (x := nI (4 * j) + 1) (y := nI (4 * j + 1)) (nI_add (4 * j) 1) ?_
      refine va_sld hx hb hX hbl hbA hw.2 (vp_in_nI (show 4 * j + 1 < L by omega) (by omega)) dL_law_199 ?_
      refine lv_rep0 (x := xs (nI (4 * j + 1)).toNatClampNeg) (y := x1) ex1.symm ?_
      refine lv_if_eq (tgt := 207) hx hb dL_law_200 (by decide) (fun c_7 => ?_) (fun c_7 => ?_)
      · exact absurd c_7 hz9
      · skip
        refine lv_iconst (v := 1) hx hb dL_law_203 (by decide) ?_
        refine lv_goto (tgt := 208) hx hb dL_law_204 (by decide) ?_
        refine rCallI (C := RX6) (As := [.int 1]) (rest := []) ⟨hx, hb, hml, hown, hts⟩ fx hw (kX6_addGate l G hG hF σ1 true g n sd e z bb hM1) (cwV 1 hts gL_law_X6_addGate rfl rfl rfl (by decide +kernel) ⟨Nat.le_of_ble_eq_true rfl, Nat.le_of_ble_eq_true rfl⟩) (hF.1 31 (by decide)) rfl rfl rfl rfl hl.1 rfl (Nat.le_of_ble_eq_true rfl) dL_law_208 ⟨hcs, hss⟩ (fun r6 σ2 H locs hp6 hw => ?_)
        have hag := hpu r6 σ2 hp6
        refine lv_istore (lv' := [(6, .int r6), (5, .int r5), (0, .ref b), (1, .ref (gad G 0)), (2, .ref (gad G 31)), (3, .ref (gad G 46)), (4, .int (nI (4 * j)))]) hx hb dL_law_211 hl (by decide) rfl (fun ls hl => ?_)
        refine lv_aload_n hx hb dL_law_213 rfl (lv_at hl 4 rfl) ?_
        refine rCallI (C := RX6) (As := []) (rest := []) ⟨hx, hb, hml, hown, hts⟩ fx hw (kX6_thrown l G hG hF σ2 ) (cwV 0 hts gL_law_X6_thrown rfl rfl rfl (by decide +kernel) ⟨Nat.le_of_ble_eq_true rfl, Nat.le_of_ble_eq_true rfl⟩) (hF.1 31 (by decide)) rfl rfl rfl rfl hl.1 rfl (Nat.le_of_ble_eq_true rfl) dL_law_214 ⟨hcs, hss⟩ (fun r7 σ3 H locs hp7 hw => ?_)
        obtain ⟨e7, e8⟩ := hp7
        have e8 := e8.symm
        subst e8
        have e9q : r7 = r5 := e7.trans hag.1
        refine lv_iload hx hb dL_law_217 (lv_at hl 1 rfl) ?_
        refine lv_icmp_eq (tgt := 224) hx hb dL_law_219 (by decide) (fun c_8 => ?_) (fun c_8 => ?_)
        · skip
          refine lv_iload hx hb dL_law_224 (lv_at hl 1 rfl) ?_
          refine lv_if_ne (tgt := 241) hx hb dL_law_226 (by decide) (fun c_9 => ?_) (fun c_9 => ?_)
          · skip
            refine lv_goto (tgt := 1656) hx hb dL_law_241 (by decide) ?_
            exact kk _ _ _ _ hag.2.2 hw (lv_sub hl [2, 3, 4, 5, 6] rfl)
          · skip
            refine lv_aload_n hx hb dL_law_229 rfl (lv_at hl 5 rfl) ?_
            refine lv_iconst (v := 0) hx hb dL_law_230 (by decide) ?_
            refine rLld hx hb fx hw (hF.1 46 (by decide)) hF.2.2.2.1 dL_law_231 ?_
            refine lv_iload hx hb dL_law_232 (lv_at hl 0 rfl) ?_
            refine lv_i2l hx hb dL_law_234 rfl ?_
            refine W.lcmp hx hb dL_law_235 ?_
            refine lv_rep0 (x := lg_cmp (σ2 46 0).toInt64 r6.toInt64) (y := 0) (by rw [hag.2.1 c_9]; exact lcmp_0 _) ?_
            refine lv_if_eq (tgt := 241) hx hb dL_law_236 (by decide) (fun c_10 => ?_) (fun c_10 => ?_)
            · skip
              refine lv_goto (tgt := 1656) hx hb dL_law_241 (by decide) ?_
              exact kk _ _ _ _ hag.2.2 hw (lv_sub hl [2, 3, 4, 5, 6] rfl)
            · exact absurd rfl c_10
        · exact absurd e9q c_8

set_option maxHeartbeats 4000000 in
set_option maxRecDepth 100000 in
theorem lk_addWay {p : Program} {l : Launch} {e0 : Env} {s : State} {m : MethodId} {below : List Frame} {meth : Method} {c : Code} {b L : Nat} {xs : Nat → Int32} {G : Gx} (hlt : l.stackTraces = false) (hL : L ≤ 2048) (C0 : lw_At p s m meth c b L xs) (fx : Fx G s) (hG : gOk G) (hF : Full G) (hgb : gbs G = s.heap.size) {j : Nat} (hj : 4 * j + 4 ≤ L) {σ : St} (hI : Inv σ j) {H : Heap} {locs : List Loc} {cells slots : Nat} (hw : Wd G s σ H locs) (hcs : cells + 1 ≤ room_1.cells) (hss : slots + 6 ≤ room_1.slots) {ls : Array Slot} (hl : lv_has ls 7 [(0, .ref b), (1, .ref (gad G 0)), (2, .ref (gad G 31)), (3, .ref (gad G 46)), (4, .int (nI (4 * j)))]) (kk : ∀ (σ' : St) (H : Heap) (locs : List Loc) (ls : Array Slot), Inv σ' (j + 1) → Wd G s σ' H locs → lv_has ls 7 [(0, .ref b), (1, .ref (gad G 0)), (2, .ref (gad G 31)), (3, .ref (gad G 46)), (4, .int (nI (4 * j)))] → W p l e0 room_1 s m #[Value.ref b] below meth c H locs (cells + 1) (slots + 6) (lw_Z below #[Value.ref b] s) (F0 m 1656 ls [])) : W p l e0 room_1 s m #[Value.ref b] below meth c H locs cells slots (lw_Z below #[Value.ref b] s) (F0 m 244 ls []) := by
  obtain ⟨hx, hb, hr, hml, hown, hts, hX, hbl, hlocks, hgv⟩ := C0
  have hts := fun w h => hts w (wsL_law_in w h)
  have hbA : ¬ gA G b := fun q => by have q2 : gbs G ≤ b := q; omega
  have hj512 : j < 512 := by omega
  obtain ⟨g, n, sd, e, z, t, bb, hC, hM, hR, ht, hz⟩ := hI
  obtain ⟨x1, ex1⟩ : ∃ v : Int32, v = xs (nI (4 * j + 1)).toNatClampNeg := ⟨_, rfl⟩
  obtain ⟨x2, ex2⟩ : ∃ v : Int32, v = xs (nI (4 * j + 2)).toNatClampNeg := ⟨_, rfl⟩
  obtain ⟨x3, ex3⟩ : ∃ v : Int32, v = xs (nI (4 * j + 3)).toNatClampNeg := ⟨_, rfl⟩
  refine lv_aload_n hx hb dL_law_244 rfl (lv_at hl 1 rfl) ?_
  refine lv_aload_n hx hb dL_law_245 rfl (lv_at hl 0 rfl) ?_
  refine lv_iload hx hb dL_law_246 (lv_at hl 4 rfl) ?_
  refine lv_iconst (v := 1) hx hb dL_law_248 (by decide) ?_
  refine lv_iadd hx hb dL_law_249 ?_
  refine lv_rep0 (x := nI (4 * j) + 1) (y := nI (4 * j + 1)) (nI_add (4 * j) 1) ?_
  refine va_sld hx hb hX hbl hbA hw.2 (vp_in_nI (show 4 * j + 1 < L by omega) (by omega)) dL_law_250 ?_
  refine lv_rep0 (x := xs (nI (4 * j + 1)).toNatClampNeg) (y := x1) ex1.symm ?_
  refine lv_aload_n hx hb dL_law_251 rfl (lv_at hl 0 rfl) ?_
  refine lv_iload hx hb dL_law_252 (lv_at hl 4 rfl) ?_
  refine lv_iconst (v := 2) hx hb dL_law_254 (by decide) ?_
  refine lv_iadd hx hb dL_law_255 ?_
  refine lv_rep0 (x := nI (4 * j) + 2) (y := nI (4 * j + 2)) (nI_add (4 * j) 2) ?_
  refine va_sld hx hb hX hbl hbA hw.2 (vp_in_nI (show 4 * j + 2 < L by omega) (by omega)) dL_law_256 ?_
  refine lv_rep0 (x := xs (nI (4 * j + 2)).toNatClampNeg) (y := x2) ex2.symm ?_
  refine lv_aload_n hx hb dL_law_257 rfl (lv_at hl 0 rfl) ?_
  refine lv_iload hx hb dL_law_258 (lv_at hl 4 rfl) ?_
  refine lv_iconst (v := 3) hx hb dL_law_260 (by decide) ?_
  refine lv_iadd hx hb dL_law_261 ?_
  refine lv_rep0 (x := nI (4 * j) + 3) (y := nI (4 * j + 3)) (nI_add (4 * j) 3) ?_
  refine va_sld hx hb hX hbl hbA hw.2 (vp_in_nI (show 4 * j + 3 < L by omega) (by omega)) dL_law_262 ?_
  refine lv_rep0 (x := xs (nI (4 * j + 3)).toNatClampNeg) (y := x3) ex3.symm ?_
  refine lv_aload_n hx hb dL_law_263 rfl (lv_at hl 3 rfl) ?_
  refine rCallLS (As := [.ref (gad G 0), .int x1, .int x2, .int x3, .ref (gad G 46)]) (rest := []) ⟨hx, hb, hml, hown, hts⟩ fx hw (kL_addWay l hlt G hG hF σ x1 x2 x3 g n e z bb hC) (vx_cwSW 5 hts gL_law_L_addWay rfl rfl rfl (by decide +kernel) ⟨Nat.le_of_ble_eq_true rfl, Nat.le_of_ble_eq_true rfl⟩) rfl hl.1 rfl (Nat.le_of_ble_eq_true rfl) dL_law_264 ⟨hcs, hss⟩ (fun r5 σ1 H locs hp5 hw => ?_)
  obtain ⟨hM1, hpu⟩ := pu_addWay (t := t) x1 x2 x3 hC hM hR ht hz hj512 hp5
  refine lv_istore (lv' := [(5, .int r5), (0, .ref b), (1, .ref (gad G 0)), (2, .ref (gad G 31)), (3, .ref (gad G 46)), (4, .int (nI (4 * j)))]) hx hb dL_law_267 hl (by decide) rfl (fun ls hl => ?_)
  refine lv_aload_n hx hb dL_law_269 rfl (lv_at hl 3 rfl) ?_
  refine lv_aload_n hx hb dL_law_270 rfl (lv_at hl 1 rfl) ?_
  refine lv_iload hx hb dL_law_271 (lv_at hl 5 rfl) ?_
  refine lv_iconst (v := 1) hx hb dL_law_273 (by decide) ?_
  refine lv_iadd hx hb dL_law_274 ?_
  refine lv_rep0 (x := nI (4 * j) + 1) (y := nI (4 * j + 1)) (nI_add (4 * j) 1) ?_
  refine va_sld hx hb hX hbl hbA hw.2 (vp_in_nI (show 4 * j + 1 < L by omega) (by omega)) dL_law_275 ?_
  refine lv_rep0 (x := xs (nI (4 * j + 1)).toNatClampNeg) (y := x1) ex1.symm ?_
  refine lv_aload_n hx hb dL_law_276 rfl (lv_at hl 1 rfl) ?_
  refine lv_iload hx hb dL_law_277 (lv_at hl 5 rfl) ?_
  refine lv_iconst (v := 2) hx hb dL_law_279 (by decide) ?_
  refine lv_iadd hx hb dL_law_280 ?_
  refine lv_rep0 (x := nI (4 * j) + 2) (y := nI (4 * j + 2)) (nI_add (4 * j) 2) ?_
  refine va_sld hx hb hX hbl hbA hw.2 (vp_in_nI (show 4 * j + 2 < L by omega) (by omega)) dL_law_281 ?_
  refine lv_rep0 (x := xs (nI (4 * j + 2)).toNatClampNeg) (y := x2) ex2.symm ?_
  refine lv_aload_n hx hb dL_law_282 rfl (lv_at hl 1 rfl) ?_
  refine lv_iload hx hb dL_law_283 (lv_at hl 5 rfl) ?_
  refine lv_iconst (v := 3) hx hb dL_law_285 (by decide) ?_
  refine lv_iadd hx hb dL_law_286 ?_
  refine lv_rep0 (x := nI (4 * j) + 3) (y := nI (4 * j + 3)) (nI_add (4 * j) 3) ?_
  refine va_sld hx hb hX hbl hbA hw.2 (vp_in_nI (show 4 * j + 3 < L by omega) (by omega)) dL_law_287 ?_
  refine lv_rep0 (x := xs (nI (4 * j + 3)).toNatClampNeg) (y := x3) ex3.symm ?_
  refine rCallI (C := RX6) (As := [.int x1, .int x2, .int x3]) (rest := []) ⟨hx, hb, hml, hown, hts⟩ fx hw (kX6_addWay l G hG hF σ1 x1 x2 x3 g n sd e z bb hM1) (cwV 3 hts gL_law_X6_addWay rfl rfl rfl (by decide +kernel) ⟨Nat.le_of_ble_eq_true rfl, Nat.le_of_ble_eq_true rfl⟩) (hF.1 31 (by decide)) rfl rfl rfl rfl hl.1 rfl (Nat.le_of_ble_eq_true rfl) dL_law_288 ⟨hcs, hss⟩ (fun r6 σ2 H locs hp6 hw => ?_)
  have hag := hpu r6 σ2 hp6
  refine lv_istore (lv' := [(6, .int r6), (5, .int r5), (0, .ref b), (1, .ref (gad G 0)), (2, .ref (gad G 31)), (3, .ref (gad G 46)), (4, .int (nI (4 * j)))]) hx hb dL_law_291 hl (by decide) rfl (fun ls hl => ?_)
  refine lv_aload_n hx hb dL_law_293 rfl (lv_at hl 4 rfl) ?_
  refine rCallI (C := RX6) (As := []) (rest := []) ⟨hx, hb, hml, hown, hts⟩ fx hw (kX6_thrown l G hG hF σ2 ) (cwV 0 hts gL_law_X6_thrown rfl rfl rfl (by decide +kernel) ⟨Nat.le_of_ble_eq_true rfl, Nat.le_of_ble_eq_true rfl⟩) (hF.1 31 (by decide)) rfl rfl rfl rfl hl.1 rfl (Nat.le_of_ble_eq_true rfl) dL_law_294 ⟨hcs, hss⟩ (fun r7 σ3 H locs hp7 hw => ?_)
  obtain ⟨e7, e8⟩ := hp7
  have e8 := e8.symm
  subst e8
  have e9q : r7 = r5 := e7.trans hag.1
  refine lv_iload hx hb dL_law_297 (lv_at hl 1 rfl) ?_
  refine lv_icmp_eq (tgt := 304) hx hb dL_law_299 (by decide) (fun c_1 => ?_) (fun c_1 => ?_)
  · skip
    refine lv_iload hx hb dL_law_304 (lv_at hl 1 rfl) ?_
    refine lv_if_ne (tgt := 321) hx hb dL_law_306 (by decide) (fun c_2 => ?_) (fun c_2 => ?_)
    · skip
      refine lv_goto (tgt := 1656) hx hb dL_law_321 (by decide) ?_
      exact kk _ _ _ _ hag.2.2 hw (lv_sub hl [2, 3, 4, 5, 6] rfl)
    · skip
      refine lv_aload_n hx hb dL_law_309 rfl (lv_at hl 5 rfl) ?_
      refine lv_iconst (v := 0) hx hb dL_law_310 (by decide) ?_
      refine rLld hx hb fx hw (hF.1 46 (by decide)) hF.2.2.2.1 dL_law_311 ?_
      refine lv_iload hx hb dL_law_312 (lv_at hl 0 rfl) ?_
      refine lv_i2l hx hb dL_law_314 rfl ?_
      refine W.lcmp hx hb dL_law_315 ?_
      refine lv_rep0 (x := lg_cmp (σ2 46 0).toInt64 r6.toInt64) (y := 0) (by rw [hag.2.1 c_2]; exact lcmp_0 _) ?_
      refine lv_if_eq (tgt := 321) hx hb dL_law_316 (by decide) (fun c_3 => ?_) (fun c_3 => ?_)
      · skip
        refine lv_goto (tgt := 1656) hx hb dL_law_321 (by decide) ?_
        exact kk _ _ _ _ hag.2.2 hw (lv_sub hl [2, 3, 4, 5, 6] rfl)
      · exact absurd rfl c_3
  · exact absurd e9q c_1

set_option maxHeartbeats 4000000 in
set_option maxRecDepth 100000 in
theorem lk_addKart {p : Program} {l : Launch} {e0 : Env} {s : State} {m : MethodId} {below : List Frame} {meth : Method} {c : Code} {b L : Nat} {xs : Nat → Int32} {G : Gx} (hlt : l.stackTraces = false) (hL : L ≤ 2048) (C0 : lw_At p s m meth c b L xs) (fx : Fx G s) (hG : gOk G) (hF : Full G) (hgb : gbs G = s.heap.size) {j : Nat} (hj : 4 * j + 4 ≤ L) {σ : St} (hI : Inv σ j) {H : Heap} {locs : List Loc} {cells slots : Nat} (hw : Wd G s σ H locs) (hcs : cells + 1 ≤ room_1.cells) (hss : slots + 6 ≤ room_1.slots) {ls : Array Slot} (hl : lv_has ls 7 [(0, .ref b), (1, .ref (gad G 0)), (2, .ref (gad G 31)), (3, .ref (gad G 46)), (4, .int (nI (4 * j)))]) (kk : ∀ (σ' : St) (H : Heap) (locs : List Loc) (ls : Array Slot), Inv σ' (j + 1) → Wd G s σ' H locs → lv_has ls 7 [(0, .ref b), (1, .ref (gad G 0)), (2, .ref (gad G 31)), (3, .ref (gad G 46)), (4, .int (nI (4 * j)))] → W p l e0 room_1 s m #[Value.ref b] below meth c H locs (cells + 1) (slots + 6) (lw_Z below #[Value.ref b] s) (F0 m 1656 ls [])) : W p l e0 room_1 s m #[Value.ref b] below meth c H locs cells slots (lw_Z below #[Value.ref b] s) (F0 m 324 ls []) := by
  obtain ⟨hx, hb, hr, hml, hown, hts, hX, hbl, hlocks, hgv⟩ := C0
  have hts := fun w h => hts w (wsL_law_in w h)
  have hbA : ¬ gA G b := fun q => by have q2 : gbs G ≤ b := q; omega
  have hj512 : j < 512 := by omega
  obtain ⟨g, n, sd, e, z, t, bb, hC, hM, hR, ht, hz⟩ := hI
  obtain ⟨x1, ex1⟩ : ∃ v : Int32, v = xs (nI (4 * j + 1)).toNatClampNeg := ⟨_, rfl⟩
  obtain ⟨x2, ex2⟩ : ∃ v : Int32, v = xs (nI (4 * j + 2)).toNatClampNeg := ⟨_, rfl⟩
  obtain ⟨x3, ex3⟩ : ∃ v : Int32, v = xs (nI (4 * j + 3)).toNatClampNeg := ⟨_, rfl⟩
  refine lv_aload_n hx hb dL_law_324 rfl (lv_at hl 1 rfl) ?_
  refine lv_aload_n hx hb dL_law_325 rfl (lv_at hl 0 rfl) ?_
  refine lv_iload hx hb dL_law_326 (lv_at hl 4 rfl) ?_
  refine lv_iconst (v := 1) hx hb dL_law_328 (by decide) ?_
  refine lv_iadd hx hb dL_law_329 ?_
  refine lv_rep0 (x := nI (4 * j) + 1) (y := nI (4 * j + 1)) (nI_add (4 * j) 1) ?_
  refine va_sld hx hb hX hbl hbA hw.2 (vp_in_nI (show 4 * j + 1 < L by omega) (by omega)) dL_law_330 ?_
  refine lv_rep0 (x := xs (nI (4 * j + 1)).toNatClampNeg) (y := x1) ex1.symm ?_
  refine lv_aload_n hx hb dL_law_331 rfl (lv_at hl 3 rfl) ?_
  refine rCallLS (As := [.ref (gad G 0), .int x1, .ref (gad G 46)]) (rest := []) ⟨hx, hb, hml, hown, hts⟩ fx hw (kL_addKart l hlt G hG hF σ x1 g n e z bb hC) (vx_cwSW 3 hts gL_law_L_addKart rfl rfl rfl (by decide +kernel) ⟨Nat.le_of_ble_eq_true rfl, Nat.le_of_ble_eq_true rfl⟩) rfl hl.1 rfl (Nat.le_of_ble_eq_true rfl) dL_law_332 ⟨hcs, hss⟩ (fun r5 σ1 H locs hp5 hw => ?_)
  obtain ⟨hM1, hpu⟩ := pu_addKart (t := t) x1 hC hM hR ht hz hj512 hp5
  refine lv_istore (lv' := [(5, .int r5), (0, .ref b), (1, .ref (gad G 0)), (2, .ref (gad G 31)), (3, .ref (gad G 46)), (4, .int (nI (4 * j)))]) hx hb dL_law_335 hl (by decide) rfl (fun ls hl => ?_)
  refine lv_aload_n hx hb dL_law_337 rfl (lv_at hl 3 rfl) ?_
  refine lv_aload_n hx hb dL_law_338 rfl (lv_at hl 1 rfl) ?_
  refine lv_iload hx hb dL_law_339 (lv_at hl 5 rfl) ?_
  refine lv_iconst (v := 1) hx hb dL_law_341 (by decide) ?_
  refine lv_iadd hx hb dL_law_342 ?_
  refine lv_rep0 (x := nI (4 * j) + 1) (y := nI (4 * j + 1)) (nI_add (4 * j) 1) ?_
  refine va_sld hx hb hX hbl hbA hw.2 (vp_in_nI (show 4 * j + 1 < L by omega) (by omega)) dL_law_343 ?_
  refine lv_rep0 (x := xs (nI (4 * j + 1)).toNatClampNeg) (y := x1) ex1.symm ?_
  refine rCallI (C := RX6) (As := [.int x1]) (rest := []) ⟨hx, hb, hml, hown, hts⟩ fx hw (kX6_addKart l G hG hF σ1 x1 g n sd e z bb hM1) (cwV 1 hts gL_law_X6_addKart rfl rfl rfl (by decide +kernel) ⟨Nat.le_of_ble_eq_true rfl, Nat.le_of_ble_eq_true rfl⟩) (hF.1 31 (by decide)) rfl rfl rfl rfl hl.1 rfl (Nat.le_of_ble_eq_true rfl) dL_law_344 ⟨hcs, hss⟩ (fun r6 σ2 H locs hp6 hw => ?_)
  have hag := hpu r6 σ2 hp6
  refine lv_istore (lv' := [(6, .int r6), (5, .int r5), (0, .ref b), (1, .ref (gad G 0)), (2, .ref (gad G 31)), (3, .ref (gad G 46)), (4, .int (nI (4 * j)))]) hx hb dL_law_347 hl (by decide) rfl (fun ls hl => ?_)
  refine lv_aload_n hx hb dL_law_349 rfl (lv_at hl 4 rfl) ?_
  refine rCallI (C := RX6) (As := []) (rest := []) ⟨hx, hb, hml, hown, hts⟩ fx hw (kX6_thrown l G hG hF σ2 ) (cwV 0 hts gL_law_X6_thrown rfl rfl rfl (by decide +kernel) ⟨Nat.le_of_ble_eq_true rfl, Nat.le_of_ble_eq_true rfl⟩) (hF.1 31 (by decide)) rfl rfl rfl rfl hl.1 rfl (Nat.le_of_ble_eq_true rfl) dL_law_350 ⟨hcs, hss⟩ (fun r7 σ3 H locs hp7 hw => ?_)
  obtain ⟨e7, e8⟩ := hp7
  have e8 := e8.symm
  subst e8
  have e9q : r7 = r5 := e7.trans hag.1
  refine lv_iload hx hb dL_law_353 (lv_at hl 1 rfl) ?_
  refine lv_icmp_eq (tgt := 360) hx hb dL_law_355 (by decide) (fun c_1 => ?_) (fun c_1 => ?_)
  · skip
    refine lv_iload hx hb dL_law_360 (lv_at hl 1 rfl) ?_
    refine lv_if_ne (tgt := 377) hx hb dL_law_362 (by decide) (fun c_2 => ?_) (fun c_2 => ?_)
    · skip
      refine lv_goto (tgt := 1656) hx hb dL_law_377 (by decide) ?_
      exact kk _ _ _ _ hag.2.2 hw (lv_sub hl [2, 3, 4, 5, 6] rfl)
    · skip
      refine lv_aload_n hx hb dL_law_365 rfl (lv_at hl 5 rfl) ?_
      refine lv_iconst (v := 0) hx hb dL_law_366 (by decide) ?_
      refine rLld hx hb fx hw (hF.1 46 (by decide)) hF.2.2.2.1 dL_law_367 ?_
      refine lv_iload hx hb dL_law_368 (lv_at hl 0 rfl) ?_
      refine lv_i2l hx hb dL_law_370 rfl ?_
      refine W.lcmp hx hb dL_law_371 ?_
      refine lv_rep0 (x := lg_cmp (σ2 46 0).toInt64 r6.toInt64) (y := 0) (by rw [hag.2.1 c_2]; exact lcmp_0 _) ?_
      refine lv_if_eq (tgt := 377) hx hb dL_law_372 (by decide) (fun c_3 => ?_) (fun c_3 => ?_)
      · skip
        refine lv_goto (tgt := 1656) hx hb dL_law_377 (by decide) ?_
        exact kk _ _ _ _ hag.2.2 hw (lv_sub hl [2, 3, 4, 5, 6] rfl)
      · exact absurd rfl c_3
  · exact absurd e9q c_1

set_option maxHeartbeats 4000000 in
set_option maxRecDepth 100000 in
theorem lk_gates {p : Program} {l : Launch} {e0 : Env} {s : State} {m : MethodId} {below : List Frame} {meth : Method} {c : Code} {b L : Nat} {xs : Nat → Int32} {G : Gx} (hlt : l.stackTraces = false) (hL : L ≤ 2048) (C0 : lw_At p s m meth c b L xs) (fx : Fx G s) (hG : gOk G) (hF : Full G) (hgb : gbs G = s.heap.size) {j : Nat} (hj : 4 * j + 4 ≤ L) {σ : St} (hI : Inv σ j) {H : Heap} {locs : List Loc} {cells slots : Nat} (hw : Wd G s σ H locs) (hcs : cells + 1 ≤ room_1.cells) (hss : slots + 6 ≤ room_1.slots) {ls : Array Slot} (hl : lv_has ls 7 [(0, .ref b), (1, .ref (gad G 0)), (2, .ref (gad G 31)), (3, .ref (gad G 46)), (4, .int (nI (4 * j)))]) (kk : ∀ (σ' : St) (H : Heap) (locs : List Loc) (ls : Array Slot), Inv σ' (j + 1) → Wd G s σ' H locs → lv_has ls 7 [(0, .ref b), (1, .ref (gad G 0)), (2, .ref (gad G 31)), (3, .ref (gad G 46)), (4, .int (nI (4 * j)))] → W p l e0 room_1 s m #[Value.ref b] below meth c H locs (cells + 1) (slots + 6) (lw_Z below #[Value.ref b] s) (F0 m 1656 ls [])) : W p l e0 room_1 s m #[Value.ref b] below meth c H locs cells slots (lw_Z below #[Value.ref b] s) (F0 m 380 ls []) := by
  obtain ⟨hx, hb, hr, hml, hown, hts, hX, hbl, hlocks, hgv⟩ := C0
  have hts := fun w h => hts w (wsL_law_in w h)
  have hbA : ¬ gA G b := fun q => by have q2 : gbs G ≤ b := q; omega
  have hj512 : j < 512 := by omega
  obtain ⟨g, n, sd, e, z, t, bb, hC, hM, hR, ht, hz⟩ := hI
  obtain ⟨x1, ex1⟩ : ∃ v : Int32, v = xs (nI (4 * j + 1)).toNatClampNeg := ⟨_, rfl⟩
  obtain ⟨x2, ex2⟩ : ∃ v : Int32, v = xs (nI (4 * j + 2)).toNatClampNeg := ⟨_, rfl⟩
  obtain ⟨x3, ex3⟩ : ∃ v : Int32, v = xs (nI (4 * j + 3)).toNatClampNeg := ⟨_, rfl⟩
  refine lv_aload_n hx hb dL_law_380 rfl (lv_at hl 1 rfl) ?_
  refine rCallI (C := RX5) (As := []) (rest := []) ⟨hx, hb, hml, hown, hts⟩ fx hw (kX5_gates l G hG hF σ g n e z bb hC) (cwV 0 hts gL_law_X5_gates rfl rfl rfl (by decide +kernel) ⟨Nat.le_of_ble_eq_true rfl, Nat.le_of_ble_eq_true rfl⟩) (hF.1 0 (by decide)) rfl rfl rfl rfl hl.1 rfl (Nat.le_of_ble_eq_true rfl) dL_law_381 ⟨Nat.le_of_succ_le hcs, Nat.le_trans (Nat.le_add_right _ _) hss⟩ (fun r5 σ1 H locs hp5 hw => ?_)
  obtain ⟨hM1, hpu⟩ := pu_gates (t := t) hC hM hR ht hz hj512 hp5
  refine lv_aload_n hx hb dL_law_384 rfl (lv_at hl 2 rfl) ?_
  refine rCallI (C := RX6) (As := []) (rest := [.int r5]) ⟨hx, hb, hml, hown, hts⟩ fx hw (kX6_gates l G hG hF σ1 g n sd e z bb hM1) (cwV 0 hts gL_law_X6_gates rfl rfl rfl (by decide +kernel) ⟨Nat.le_of_ble_eq_true rfl, Nat.le_of_ble_eq_true rfl⟩) (hF.1 31 (by decide)) rfl rfl rfl rfl hl.1 rfl (Nat.le_of_ble_eq_true rfl) dL_law_385 ⟨Nat.le_of_succ_le hcs, Nat.le_trans (Nat.le_add_right _ _) hss⟩ (fun r6 σ2 H locs hp6 hw => ?_)
  have hag := hpu r6 σ2 hp6
  refine lv_icmp_eq (tgt := 1656) hx hb dL_law_388 (by decide) (fun c_1 => ?_) (fun c_1 => ?_)
  · skip
    refine W.widen (k := cells + 1) (n := slots + 6) (Nat.le_succ _) (Nat.le_add_right _ _) ?_
    exact kk _ _ _ _ hag.2.2 hw (lv_sub hl [0, 1, 2, 3, 4] rfl)
  · exact absurd hag.1 c_1

set_option maxHeartbeats 4000000 in
set_option maxRecDepth 100000 in
theorem lk_karts {p : Program} {l : Launch} {e0 : Env} {s : State} {m : MethodId} {below : List Frame} {meth : Method} {c : Code} {b L : Nat} {xs : Nat → Int32} {G : Gx} (hlt : l.stackTraces = false) (hL : L ≤ 2048) (C0 : lw_At p s m meth c b L xs) (fx : Fx G s) (hG : gOk G) (hF : Full G) (hgb : gbs G = s.heap.size) {j : Nat} (hj : 4 * j + 4 ≤ L) {σ : St} (hI : Inv σ j) {H : Heap} {locs : List Loc} {cells slots : Nat} (hw : Wd G s σ H locs) (hcs : cells + 1 ≤ room_1.cells) (hss : slots + 6 ≤ room_1.slots) {ls : Array Slot} (hl : lv_has ls 7 [(0, .ref b), (1, .ref (gad G 0)), (2, .ref (gad G 31)), (3, .ref (gad G 46)), (4, .int (nI (4 * j)))]) (kk : ∀ (σ' : St) (H : Heap) (locs : List Loc) (ls : Array Slot), Inv σ' (j + 1) → Wd G s σ' H locs → lv_has ls 7 [(0, .ref b), (1, .ref (gad G 0)), (2, .ref (gad G 31)), (3, .ref (gad G 46)), (4, .int (nI (4 * j)))] → W p l e0 room_1 s m #[Value.ref b] below meth c H locs (cells + 1) (slots + 6) (lw_Z below #[Value.ref b] s) (F0 m 1656 ls [])) : W p l e0 room_1 s m #[Value.ref b] below meth c H locs cells slots (lw_Z below #[Value.ref b] s) (F0 m 393 ls []) := by
  obtain ⟨hx, hb, hr, hml, hown, hts, hX, hbl, hlocks, hgv⟩ := C0
  have hts := fun w h => hts w (wsL_law_in w h)
  have hbA : ¬ gA G b := fun q => by have q2 : gbs G ≤ b := q; omega
  have hj512 : j < 512 := by omega
  obtain ⟨g, n, sd, e, z, t, bb, hC, hM, hR, ht, hz⟩ := hI
  obtain ⟨x1, ex1⟩ : ∃ v : Int32, v = xs (nI (4 * j + 1)).toNatClampNeg := ⟨_, rfl⟩
  obtain ⟨x2, ex2⟩ : ∃ v : Int32, v = xs (nI (4 * j + 2)).toNatClampNeg := ⟨_, rfl⟩
  obtain ⟨x3, ex3⟩ : ∃ v : Int32, v = xs (nI (4 * j + 3)).toNatClampNeg := ⟨_, rfl⟩
  refine lv_aload_n hx hb dL_law_393 rfl (lv_at hl 1 rfl) ?_
  refine rCallI (C := RX5) (As := []) (rest := []) ⟨hx, hb, hml, hown, hts⟩ fx hw (kX5_karts l G hG hF σ g n e z bb hC) (cwV 0 hts gL_law_X5_karts rfl rfl rfl (by decide +kernel) ⟨Nat.le_of_ble_eq_true rfl, Nat.le_of_ble_eq_true rfl⟩) (hF.1 0 (by decide)) rfl rfl rfl rfl hl.1 rfl (Nat.le_of_ble_eq_true rfl) dL_law_394 ⟨Nat.le_of_succ_le hcs, Nat.le_trans (Nat.le_add_right _ _) hss⟩ (fun r5 σ1 H locs hp5 hw => ?_)
  obtain ⟨hM1, hpu⟩ := pu_karts (t := t) hC hM hR ht hz hj512 hp5
  refine lv_aload_n hx hb dL_law_397 rfl (lv_at hl 2 rfl) ?_
  refine rCallI (C := RX6) (As := []) (rest := [.int r5]) ⟨hx, hb, hml, hown, hts⟩ fx hw (kX6_karts l G hG hF σ1 g n sd e z bb hM1) (cwV 0 hts gL_law_X6_karts rfl rfl rfl (by decide +kernel) ⟨Nat.le_of_ble_eq_true rfl, Nat.le_of_ble_eq_true rfl⟩) (hF.1 31 (by decide)) rfl rfl rfl rfl hl.1 rfl (Nat.le_of_ble_eq_true rfl) dL_law_398 ⟨Nat.le_of_succ_le hcs, Nat.le_trans (Nat.le_add_right _ _) hss⟩ (fun r6 σ2 H locs hp6 hw => ?_)
  have hag := hpu r6 σ2 hp6
  refine lv_icmp_eq (tgt := 1656) hx hb dL_law_401 (by decide) (fun c_1 => ?_) (fun c_1 => ?_)
  · skip
    refine W.widen (k := cells + 1) (n := slots + 6) (Nat.le_succ _) (Nat.le_add_right _ _) ?_
    exact kk _ _ _ _ hag.2.2 hw (lv_sub hl [0, 1, 2, 3, 4] rfl)
  · exact absurd hag.1 c_1

set_option maxHeartbeats 4000000 in
set_option maxRecDepth 100000 in
theorem lk_rest {p : Program} {l : Launch} {e0 : Env} {s : State} {m : MethodId} {below : List Frame} {meth : Method} {c : Code} {b L : Nat} {xs : Nat → Int32} {G : Gx} (hlt : l.stackTraces = false) (hL : L ≤ 2048) (C0 : lw_At p s m meth c b L xs) (fx : Fx G s) (hG : gOk G) (hF : Full G) (hgb : gbs G = s.heap.size) {j : Nat} (hj : 4 * j + 4 ≤ L) {σ : St} (hI : Inv σ j) {H : Heap} {locs : List Loc} {cells slots : Nat} (hw : Wd G s σ H locs) (hcs : cells + 1 ≤ room_1.cells) (hss : slots + 6 ≤ room_1.slots) {ls : Array Slot} (hl : lv_has ls 7 [(0, .ref b), (1, .ref (gad G 0)), (2, .ref (gad G 31)), (3, .ref (gad G 46)), (4, .int (nI (4 * j)))]) (kk : ∀ (σ' : St) (H : Heap) (locs : List Loc) (ls : Array Slot), Inv σ' (j + 1) → Wd G s σ' H locs → lv_has ls 7 [(0, .ref b), (1, .ref (gad G 0)), (2, .ref (gad G 31)), (3, .ref (gad G 46)), (4, .int (nI (4 * j)))] → W p l e0 room_1 s m #[Value.ref b] below meth c H locs (cells + 1) (slots + 6) (lw_Z below #[Value.ref b] s) (F0 m 1656 ls [])) : W p l e0 room_1 s m #[Value.ref b] below meth c H locs cells slots (lw_Z below #[Value.ref b] s) (F0 m 406 ls []) := by
  obtain ⟨hx, hb, hr, hml, hown, hts, hX, hbl, hlocks, hgv⟩ := C0
  have hts := fun w h => hts w (wsL_law_in w h)
  have hbA : ¬ gA G b := fun q => by have q2 : gbs G ≤ b := q; omega
  have hj512 : j < 512 := by omega
  obtain ⟨g, n, sd, e, z, t, bb, hC, hM, hR, ht, hz⟩ := hI
  obtain ⟨x1, ex1⟩ : ∃ v : Int32, v = xs (nI (4 * j + 1)).toNatClampNeg := ⟨_, rfl⟩
  obtain ⟨x2, ex2⟩ : ∃ v : Int32, v = xs (nI (4 * j + 2)).toNatClampNeg := ⟨_, rfl⟩
  obtain ⟨x3, ex3⟩ : ∃ v : Int32, v = xs (nI (4 * j + 3)).toNatClampNeg := ⟨_, rfl⟩
  refine lv_aload_n hx hb dL_law_406 rfl (lv_at hl 1 rfl) ?_
  refine lv_aload_n hx hb dL_law_407 rfl (lv_at hl 0 rfl) ?_
  refine lv_iload hx hb dL_law_408 (lv_at hl 4 rfl) ?_
  refine lv_iconst (v := 1) hx hb dL_law_410 (by decide) ?_
  refine lv_iadd hx hb dL_law_411 ?_
  refine lv_rep0 (x := nI (4 * j) + 1) (y := nI (4 * j + 1)) (nI_add (4 * j) 1) ?_
  refine va_sld hx hb hX hbl hbA hw.2 (vp_in_nI (show 4 * j + 1 < L by omega) (by omega)) dL_law_412 ?_
  refine lv_rep0 (x := xs (nI (4 * j + 1)).toNatClampNeg) (y := x1) ex1.symm ?_
  refine lv_aload_n hx hb dL_law_413 rfl (lv_at hl 3 rfl) ?_
  refine rCallLS (As := [.ref (gad G 0), .int x1, .ref (gad G 46)]) (rest := []) ⟨hx, hb, hml, hown, hts⟩ fx hw (kL_rest l hlt G hG hF σ x1 g n e z bb hC) (vx_cwSW 3 hts gL_law_L_rest rfl rfl rfl (by decide +kernel) ⟨Nat.le_of_ble_eq_true rfl, Nat.le_of_ble_eq_true rfl⟩) rfl hl.1 rfl (Nat.le_of_ble_eq_true rfl) dL_law_414 ⟨hcs, hss⟩ (fun r5 σ1 H locs hp5 hw => ?_)
  obtain ⟨hM1, hpu⟩ := pu_rest (t := t) x1 hC hM hR ht hz hj512 hp5
  refine lv_istore (lv' := [(5, .int r5), (0, .ref b), (1, .ref (gad G 0)), (2, .ref (gad G 31)), (3, .ref (gad G 46)), (4, .int (nI (4 * j)))]) hx hb dL_law_417 hl (by decide) rfl (fun ls hl => ?_)
  refine lv_aload_n hx hb dL_law_419 rfl (lv_at hl 3 rfl) ?_
  refine lv_aload_n hx hb dL_law_420 rfl (lv_at hl 1 rfl) ?_
  refine lv_iload hx hb dL_law_421 (lv_at hl 5 rfl) ?_
  refine lv_iconst (v := 1) hx hb dL_law_423 (by decide) ?_
  refine lv_iadd hx hb dL_law_424 ?_
  refine lv_rep0 (x := nI (4 * j) + 1) (y := nI (4 * j + 1)) (nI_add (4 * j) 1) ?_
  refine va_sld hx hb hX hbl hbA hw.2 (vp_in_nI (show 4 * j + 1 < L by omega) (by omega)) dL_law_425 ?_
  refine lv_rep0 (x := xs (nI (4 * j + 1)).toNatClampNeg) (y := x1) ex1.symm ?_
  refine rCallI (C := RX6) (As := [.int x1]) (rest := []) ⟨hx, hb, hml, hown, hts⟩ fx hw (kX6_rest l G hG hF σ1 x1 g n sd e z bb hM1) (cwV 1 hts gL_law_X6_rest rfl rfl rfl (by decide +kernel) ⟨Nat.le_of_ble_eq_true rfl, Nat.le_of_ble_eq_true rfl⟩) (hF.1 31 (by decide)) rfl rfl rfl rfl hl.1 rfl (Nat.le_of_ble_eq_true rfl) dL_law_426 ⟨hcs, hss⟩ (fun r6 σ2 H locs hp6 hw => ?_)
  have hag := hpu r6 σ2 hp6
  refine lv_istore (lv' := [(6, .int r6), (5, .int r5), (0, .ref b), (1, .ref (gad G 0)), (2, .ref (gad G 31)), (3, .ref (gad G 46)), (4, .int (nI (4 * j)))]) hx hb dL_law_429 hl (by decide) rfl (fun ls hl => ?_)
  refine lv_aload_n hx hb dL_law_431 rfl (lv_at hl 4 rfl) ?_
  refine rCallI (C := RX6) (As := []) (rest := []) ⟨hx, hb, hml, hown, hts⟩ fx hw (kX6_thrown l G hG hF σ2 ) (cwV 0 hts gL_law_X6_thrown rfl rfl rfl (by decide +kernel) ⟨Nat.le_of_ble_eq_true rfl, Nat.le_of_ble_eq_true rfl⟩) (hF.1 31 (by decide)) rfl rfl rfl rfl hl.1 rfl (Nat.le_of_ble_eq_true rfl) dL_law_432 ⟨hcs, hss⟩ (fun r7 σ3 H locs hp7 hw => ?_)
  obtain ⟨e7, e8⟩ := hp7
  have e8 := e8.symm
  subst e8
  have e9q : r7 = r5 := e7.trans hag.1
  refine lv_iload hx hb dL_law_435 (lv_at hl 1 rfl) ?_
  refine lv_icmp_eq (tgt := 442) hx hb dL_law_437 (by decide) (fun c_1 => ?_) (fun c_1 => ?_)
  · skip
    refine lv_iload hx hb dL_law_442 (lv_at hl 1 rfl) ?_
    refine lv_if_ne (tgt := 459) hx hb dL_law_444 (by decide) (fun c_2 => ?_) (fun c_2 => ?_)
    · skip
      refine lv_goto (tgt := 1656) hx hb dL_law_459 (by decide) ?_
      exact kk _ _ _ _ hag.2.2 hw (lv_sub hl [2, 3, 4, 5, 6] rfl)
    · skip
      refine lv_aload_n hx hb dL_law_447 rfl (lv_at hl 5 rfl) ?_
      refine lv_iconst (v := 0) hx hb dL_law_448 (by decide) ?_
      refine rLld hx hb fx hw (hF.1 46 (by decide)) hF.2.2.2.1 dL_law_449 ?_
      refine lv_iload hx hb dL_law_450 (lv_at hl 0 rfl) ?_
      refine lv_i2l hx hb dL_law_452 rfl ?_
      refine W.lcmp hx hb dL_law_453 ?_
      refine lv_rep0 (x := lg_cmp (σ2 46 0).toInt64 r6.toInt64) (y := 0) (by rw [hag.2.1 c_2]; exact lcmp_0 _) ?_
      refine lv_if_eq (tgt := 459) hx hb dL_law_454 (by decide) (fun c_3 => ?_) (fun c_3 => ?_)
      · skip
        refine lv_goto (tgt := 1656) hx hb dL_law_459 (by decide) ?_
        exact kk _ _ _ _ hag.2.2 hw (lv_sub hl [2, 3, 4, 5, 6] rfl)
      · exact absurd rfl c_3
  · exact absurd e9q c_1
