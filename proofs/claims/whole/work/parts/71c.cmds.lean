set_option maxHeartbeats 4000000 in
set_option maxRecDepth 100000 in
theorem lk_missing {p : Program} {l : Launch} {e0 : Env} {s : State} {m : MethodId} {below : List Frame} {meth : Method} {c : Code} {b L : Nat} {xs : Nat → Int32} {G : Gx} (hlt : l.stackTraces = false) (hL : L ≤ 2048) (C0 : lw_At p s m meth c b L xs) (fx : Fx G s) (hG : gOk G) (hF : Full G) (hgb : gbs G = s.heap.size) {j : Nat} (hj : 4 * j + 4 ≤ L) {σ : St} (hI : Inv σ j) {H : Heap} {locs : List Loc} {cells slots : Nat} (hw : Wd G s σ H locs) (hcs : cells + 1 ≤ room_1.cells) (hss : slots + 6 ≤ room_1.slots) {ls : Array Slot} (hl : lv_has ls 7 [(0, .ref b), (1, .ref (gad G 0)), (2, .ref (gad G 31)), (3, .ref (gad G 46)), (4, .int (nI (4 * j)))]) (kk : ∀ (σ' : St) (H : Heap) (locs : List Loc) (ls : Array Slot), Inv σ' (j + 1) → Wd G s σ' H locs → lv_has ls 7 [(0, .ref b), (1, .ref (gad G 0)), (2, .ref (gad G 31)), (3, .ref (gad G 46)), (4, .int (nI (4 * j)))] → W p l e0 room_1 s m #[Value.ref b] below meth c H locs (cells + 1) (slots + 6) (lw_Z below #[Value.ref b] s) (F0 m 1656 ls [])) : W p l e0 room_1 s m #[Value.ref b] below meth c H locs cells slots (lw_Z below #[Value.ref b] s) (F0 m 767 ls []) := by
  obtain ⟨hx, hb, hr, hml, hown, hts, hX, hbl, hlocks, hgv⟩ := C0
  have hts := fun w h => hts w (wsL_law_in w h)
  have hbA : ¬ gA G b := fun q => by have q2 : gbs G ≤ b := q; omega
  have hj512 : j < 512 := by omega
  obtain ⟨g, n, sd, e, z, t, bb, hC, hM, hR, ht, hz⟩ := hI
  obtain ⟨x1, ex1⟩ : ∃ v : Int32, v = xs (nI (4 * j + 1)).toNatClampNeg := ⟨_, rfl⟩
  obtain ⟨x2, ex2⟩ : ∃ v : Int32, v = xs (nI (4 * j + 2)).toNatClampNeg := ⟨_, rfl⟩
  obtain ⟨x3, ex3⟩ : ∃ v : Int32, v = xs (nI (4 * j + 3)).toNatClampNeg := ⟨_, rfl⟩
  refine lv_aload_n hx hb dL_law_767 rfl (lv_at hl 1 rfl) ?_
  refine lv_aload_n hx hb dL_law_768 rfl (lv_at hl 0 rfl) ?_
  refine lv_iload hx hb dL_law_769 (lv_at hl 4 rfl) ?_
  refine lv_iconst (v := 1) hx hb dL_law_771 (by decide) ?_
  refine lv_iadd hx hb dL_law_772 ?_
  refine lv_rep0 (x := nI (4 * j) + 1) (y := nI (4 * j + 1)) (nI_add (4 * j) 1) ?_
  refine va_sld hx hb hX hbl hbA hw.2 (vp_in_nI (show 4 * j + 1 < L by omega) (by omega)) dL_law_773 ?_
  refine lv_rep0 (x := xs (nI (4 * j + 1)).toNatClampNeg) (y := x1) ex1.symm ?_
  refine lv_aload_n hx hb dL_law_774 rfl (lv_at hl 3 rfl) ?_
  refine rCallLS (As := [.ref (gad G 0), .int x1, .ref (gad G 46)]) (rest := []) ⟨hx, hb, hml, hown, hts⟩ fx hw (kL_missing l hlt G hG hF σ x1 g n e z bb hC) (vx_cwSW 3 hts gL_law_L_missing rfl rfl rfl (by decide +kernel) ⟨Nat.le_of_ble_eq_true rfl, Nat.le_of_ble_eq_true rfl⟩) rfl hl.1 rfl (Nat.le_of_ble_eq_true rfl) dL_law_775 ⟨hcs, hss⟩ (fun r5 σ1 H locs hp5 hw => ?_)
  obtain ⟨hM1, hpu⟩ := pu_missing (t := t) x1 hC hM hR ht hz hj512 hp5
  refine lv_istore (lv' := [(5, .int r5), (0, .ref b), (1, .ref (gad G 0)), (2, .ref (gad G 31)), (3, .ref (gad G 46)), (4, .int (nI (4 * j)))]) hx hb dL_law_778 hl (by decide) rfl (fun ls hl => ?_)
  refine lv_aload_n hx hb dL_law_780 rfl (lv_at hl 3 rfl) ?_
  refine lv_aload_n hx hb dL_law_781 rfl (lv_at hl 1 rfl) ?_
  refine lv_iload hx hb dL_law_782 (lv_at hl 5 rfl) ?_
  refine lv_iconst (v := 1) hx hb dL_law_784 (by decide) ?_
  refine lv_iadd hx hb dL_law_785 ?_
  refine lv_rep0 (x := nI (4 * j) + 1) (y := nI (4 * j + 1)) (nI_add (4 * j) 1) ?_
  refine va_sld hx hb hX hbl hbA hw.2 (vp_in_nI (show 4 * j + 1 < L by omega) (by omega)) dL_law_786 ?_
  refine lv_rep0 (x := xs (nI (4 * j + 1)).toNatClampNeg) (y := x1) ex1.symm ?_
  refine rCallI (C := RX6) (As := [.int x1]) (rest := []) ⟨hx, hb, hml, hown, hts⟩ fx hw (kX6_missing l G hG hF σ1 x1 g n sd e z bb hM1) (cwV 1 hts gL_law_X6_missing rfl rfl rfl (by decide +kernel) ⟨Nat.le_of_ble_eq_true rfl, Nat.le_of_ble_eq_true rfl⟩) (hF.1 31 (by decide)) rfl rfl rfl rfl hl.1 rfl (Nat.le_of_ble_eq_true rfl) dL_law_787 ⟨hcs, hss⟩ (fun r6 σ2 H locs hp6 hw => ?_)
  have hag := hpu r6 σ2 hp6
  refine lv_istore (lv' := [(6, .int r6), (5, .int r5), (0, .ref b), (1, .ref (gad G 0)), (2, .ref (gad G 31)), (3, .ref (gad G 46)), (4, .int (nI (4 * j)))]) hx hb dL_law_790 hl (by decide) rfl (fun ls hl => ?_)
  refine lv_aload_n hx hb dL_law_792 rfl (lv_at hl 4 rfl) ?_
  refine rCallI (C := RX6) (As := []) (rest := []) ⟨hx, hb, hml, hown, hts⟩ fx hw (kX6_thrown l G hG hF σ2 ) (cwV 0 hts gL_law_X6_thrown rfl rfl rfl (by decide +kernel) ⟨Nat.le_of_ble_eq_true rfl, Nat.le_of_ble_eq_true rfl⟩) (hF.1 31 (by decide)) rfl rfl rfl rfl hl.1 rfl (Nat.le_of_ble_eq_true rfl) dL_law_793 ⟨hcs, hss⟩ (fun r7 σ3 H locs hp7 hw => ?_)
  obtain ⟨e7, e8⟩ := hp7
  have e8 := e8.symm
  subst e8
  have e9q : r7 = r5 := e7.trans hag.1
  refine lv_iload hx hb dL_law_796 (lv_at hl 1 rfl) ?_
  refine lv_icmp_eq (tgt := 803) hx hb dL_law_798 (by decide) (fun c_1 => ?_) (fun c_1 => ?_)
  · skip
    refine lv_iload hx hb dL_law_803 (lv_at hl 1 rfl) ?_
    refine lv_if_ne (tgt := 820) hx hb dL_law_805 (by decide) (fun c_2 => ?_) (fun c_2 => ?_)
    · skip
      refine lv_goto (tgt := 1656) hx hb dL_law_820 (by decide) ?_
      exact kk _ _ _ _ hag.2.2 hw (lv_sub hl [2, 3, 4, 5, 6] rfl)
    · skip
      refine lv_aload_n hx hb dL_law_808 rfl (lv_at hl 5 rfl) ?_
      refine lv_iconst (v := 0) hx hb dL_law_809 (by decide) ?_
      refine rLld hx hb fx hw (hF.1 46 (by decide)) hF.2.2.2.1 dL_law_810 ?_
      refine lv_iload hx hb dL_law_811 (lv_at hl 0 rfl) ?_
      refine lv_i2l hx hb dL_law_813 rfl ?_
      refine W.lcmp hx hb dL_law_814 ?_
      refine lv_rep0 (x := lg_cmp (σ2 46 0).toInt64 r6.toInt64) (y := 0) (by rw [hag.2.1 c_2]; exact lcmp_0 _) ?_
      refine lv_if_eq (tgt := 820) hx hb dL_law_815 (by decide) (fun c_3 => ?_) (fun c_3 => ?_)
      · skip
        refine lv_goto (tgt := 1656) hx hb dL_law_820 (by decide) ?_
        exact kk _ _ _ _ hag.2.2 hw (lv_sub hl [2, 3, 4, 5, 6] rfl)
      · exact absurd rfl c_3
  · exact absurd e9q c_1

set_option maxHeartbeats 4000000 in
set_option maxRecDepth 100000 in
theorem lk_rank {p : Program} {l : Launch} {e0 : Env} {s : State} {m : MethodId} {below : List Frame} {meth : Method} {c : Code} {b L : Nat} {xs : Nat → Int32} {G : Gx} (hlt : l.stackTraces = false) (hL : L ≤ 2048) (C0 : lw_At p s m meth c b L xs) (fx : Fx G s) (hG : gOk G) (hF : Full G) (hgb : gbs G = s.heap.size) {j : Nat} (hj : 4 * j + 4 ≤ L) {σ : St} (hI : Inv σ j) {H : Heap} {locs : List Loc} {cells slots : Nat} (hw : Wd G s σ H locs) (hcs : cells + 1 ≤ room_1.cells) (hss : slots + 6 ≤ room_1.slots) {ls : Array Slot} (hl : lv_has ls 7 [(0, .ref b), (1, .ref (gad G 0)), (2, .ref (gad G 31)), (3, .ref (gad G 46)), (4, .int (nI (4 * j)))]) (kk : ∀ (σ' : St) (H : Heap) (locs : List Loc) (ls : Array Slot), Inv σ' (j + 1) → Wd G s σ' H locs → lv_has ls 7 [(0, .ref b), (1, .ref (gad G 0)), (2, .ref (gad G 31)), (3, .ref (gad G 46)), (4, .int (nI (4 * j)))] → W p l e0 room_1 s m #[Value.ref b] below meth c H locs (cells + 1) (slots + 6) (lw_Z below #[Value.ref b] s) (F0 m 1656 ls [])) : W p l e0 room_1 s m #[Value.ref b] below meth c H locs cells slots (lw_Z below #[Value.ref b] s) (F0 m 823 ls []) := by
  obtain ⟨hx, hb, hr, hml, hown, hts, hX, hbl, hlocks, hgv⟩ := C0
  have hts := fun w h => hts w (wsL_law_in w h)
  have hbA : ¬ gA G b := fun q => by have q2 : gbs G ≤ b := q; omega
  have hj512 : j < 512 := by omega
  obtain ⟨g, n, sd, e, z, t, bb, hC, hM, hR, ht, hz⟩ := hI
  obtain ⟨x1, ex1⟩ : ∃ v : Int32, v = xs (nI (4 * j + 1)).toNatClampNeg := ⟨_, rfl⟩
  obtain ⟨x2, ex2⟩ : ∃ v : Int32, v = xs (nI (4 * j + 2)).toNatClampNeg := ⟨_, rfl⟩
  obtain ⟨x3, ex3⟩ : ∃ v : Int32, v = xs (nI (4 * j + 3)).toNatClampNeg := ⟨_, rfl⟩
  refine lv_aload_n hx hb dL_law_823 rfl (lv_at hl 1 rfl) ?_
  refine lv_aload_n hx hb dL_law_824 rfl (lv_at hl 0 rfl) ?_
  refine lv_iload hx hb dL_law_825 (lv_at hl 4 rfl) ?_
  refine lv_iconst (v := 1) hx hb dL_law_827 (by decide) ?_
  refine lv_iadd hx hb dL_law_828 ?_
  refine lv_rep0 (x := nI (4 * j) + 1) (y := nI (4 * j + 1)) (nI_add (4 * j) 1) ?_
  refine va_sld hx hb hX hbl hbA hw.2 (vp_in_nI (show 4 * j + 1 < L by omega) (by omega)) dL_law_829 ?_
  refine lv_rep0 (x := xs (nI (4 * j + 1)).toNatClampNeg) (y := x1) ex1.symm ?_
  refine lv_aload_n hx hb dL_law_830 rfl (lv_at hl 3 rfl) ?_
  refine rCallLS (As := [.ref (gad G 0), .int x1, .ref (gad G 46)]) (rest := []) ⟨hx, hb, hml, hown, hts⟩ fx hw (kL_rank l hlt G hG hF σ x1 g n e z bb hC) (vx_cwSW 3 hts gL_law_L_rank rfl rfl rfl (by decide +kernel) ⟨Nat.le_of_ble_eq_true rfl, Nat.le_of_ble_eq_true rfl⟩) rfl hl.1 rfl (Nat.le_of_ble_eq_true rfl) dL_law_831 ⟨hcs, hss⟩ (fun r5 σ1 H locs hp5 hw => ?_)
  obtain ⟨hM1, hpu⟩ := pu_rank (t := t) x1 hC hM hR ht hz hj512 hp5
  refine lv_istore (lv' := [(5, .int r5), (0, .ref b), (1, .ref (gad G 0)), (2, .ref (gad G 31)), (3, .ref (gad G 46)), (4, .int (nI (4 * j)))]) hx hb dL_law_834 hl (by decide) rfl (fun ls hl => ?_)
  refine lv_aload_n hx hb dL_law_836 rfl (lv_at hl 3 rfl) ?_
  refine lv_aload_n hx hb dL_law_837 rfl (lv_at hl 1 rfl) ?_
  refine lv_iload hx hb dL_law_838 (lv_at hl 5 rfl) ?_
  refine lv_iconst (v := 1) hx hb dL_law_840 (by decide) ?_
  refine lv_iadd hx hb dL_law_841 ?_
  refine lv_rep0 (x := nI (4 * j) + 1) (y := nI (4 * j + 1)) (nI_add (4 * j) 1) ?_
  refine va_sld hx hb hX hbl hbA hw.2 (vp_in_nI (show 4 * j + 1 < L by omega) (by omega)) dL_law_842 ?_
  refine lv_rep0 (x := xs (nI (4 * j + 1)).toNatClampNeg) (y := x1) ex1.symm ?_
  refine rCallI (C := RX6) (As := [.int x1]) (rest := []) ⟨hx, hb, hml, hown, hts⟩ fx hw (kX6_rank l G hG hF σ1 x1 g n sd e z bb hM1) (cwV 1 hts gL_law_X6_rank rfl rfl rfl (by decide +kernel) ⟨Nat.le_of_ble_eq_true rfl, Nat.le_of_ble_eq_true rfl⟩) (hF.1 31 (by decide)) rfl rfl rfl rfl hl.1 rfl (Nat.le_of_ble_eq_true rfl) dL_law_843 ⟨hcs, hss⟩ (fun r6 σ2 H locs hp6 hw => ?_)
  have hag := hpu r6 σ2 hp6
  refine lv_istore (lv' := [(6, .int r6), (5, .int r5), (0, .ref b), (1, .ref (gad G 0)), (2, .ref (gad G 31)), (3, .ref (gad G 46)), (4, .int (nI (4 * j)))]) hx hb dL_law_846 hl (by decide) rfl (fun ls hl => ?_)
  refine lv_aload_n hx hb dL_law_848 rfl (lv_at hl 4 rfl) ?_
  refine rCallI (C := RX6) (As := []) (rest := []) ⟨hx, hb, hml, hown, hts⟩ fx hw (kX6_thrown l G hG hF σ2 ) (cwV 0 hts gL_law_X6_thrown rfl rfl rfl (by decide +kernel) ⟨Nat.le_of_ble_eq_true rfl, Nat.le_of_ble_eq_true rfl⟩) (hF.1 31 (by decide)) rfl rfl rfl rfl hl.1 rfl (Nat.le_of_ble_eq_true rfl) dL_law_849 ⟨hcs, hss⟩ (fun r7 σ3 H locs hp7 hw => ?_)
  obtain ⟨e7, e8⟩ := hp7
  have e8 := e8.symm
  subst e8
  have e9q : r7 = r5 := e7.trans hag.1
  refine lv_iload hx hb dL_law_852 (lv_at hl 1 rfl) ?_
  refine lv_icmp_eq (tgt := 859) hx hb dL_law_854 (by decide) (fun c_1 => ?_) (fun c_1 => ?_)
  · skip
    refine lv_iload hx hb dL_law_859 (lv_at hl 1 rfl) ?_
    refine lv_if_ne (tgt := 876) hx hb dL_law_861 (by decide) (fun c_2 => ?_) (fun c_2 => ?_)
    · skip
      refine lv_goto (tgt := 1656) hx hb dL_law_876 (by decide) ?_
      exact kk _ _ _ _ hag.2.2 hw (lv_sub hl [2, 3, 4, 5, 6] rfl)
    · skip
      refine lv_aload_n hx hb dL_law_864 rfl (lv_at hl 5 rfl) ?_
      refine lv_iconst (v := 0) hx hb dL_law_865 (by decide) ?_
      refine rLld hx hb fx hw (hF.1 46 (by decide)) hF.2.2.2.1 dL_law_866 ?_
      refine lv_iload hx hb dL_law_867 (lv_at hl 0 rfl) ?_
      refine lv_i2l hx hb dL_law_869 rfl ?_
      refine W.lcmp hx hb dL_law_870 ?_
      refine lv_rep0 (x := lg_cmp (σ2 46 0).toInt64 r6.toInt64) (y := 0) (by rw [hag.2.1 c_2]; exact lcmp_0 _) ?_
      refine lv_if_eq (tgt := 876) hx hb dL_law_871 (by decide) (fun c_3 => ?_) (fun c_3 => ?_)
      · skip
        refine lv_goto (tgt := 1656) hx hb dL_law_876 (by decide) ?_
        exact kk _ _ _ _ hag.2.2 hw (lv_sub hl [2, 3, 4, 5, 6] rfl)
      · exact absurd rfl c_3
  · exact absurd e9q c_1

set_option maxHeartbeats 4000000 in
set_option maxRecDepth 100000 in
theorem lk_rankByRecord {p : Program} {l : Launch} {e0 : Env} {s : State} {m : MethodId} {below : List Frame} {meth : Method} {c : Code} {b L : Nat} {xs : Nat → Int32} {G : Gx} (hlt : l.stackTraces = false) (hL : L ≤ 2048) (C0 : lw_At p s m meth c b L xs) (fx : Fx G s) (hG : gOk G) (hF : Full G) (hgb : gbs G = s.heap.size) {j : Nat} (hj : 4 * j + 4 ≤ L) {σ : St} (hI : Inv σ j) {H : Heap} {locs : List Loc} {cells slots : Nat} (hw : Wd G s σ H locs) (hcs : cells + 1 ≤ room_1.cells) (hss : slots + 6 ≤ room_1.slots) {ls : Array Slot} (hl : lv_has ls 7 [(0, .ref b), (1, .ref (gad G 0)), (2, .ref (gad G 31)), (3, .ref (gad G 46)), (4, .int (nI (4 * j)))]) (kk : ∀ (σ' : St) (H : Heap) (locs : List Loc) (ls : Array Slot), Inv σ' (j + 1) → Wd G s σ' H locs → lv_has ls 7 [(0, .ref b), (1, .ref (gad G 0)), (2, .ref (gad G 31)), (3, .ref (gad G 46)), (4, .int (nI (4 * j)))] → W p l e0 room_1 s m #[Value.ref b] below meth c H locs (cells + 1) (slots + 6) (lw_Z below #[Value.ref b] s) (F0 m 1656 ls [])) : W p l e0 room_1 s m #[Value.ref b] below meth c H locs cells slots (lw_Z below #[Value.ref b] s) (F0 m 879 ls []) := by
  obtain ⟨hx, hb, hr, hml, hown, hts, hX, hbl, hlocks, hgv⟩ := C0
  have hts := fun w h => hts w (wsL_law_in w h)
  have hbA : ¬ gA G b := fun q => by have q2 : gbs G ≤ b := q; omega
  have hj512 : j < 512 := by omega
  obtain ⟨g, n, sd, e, z, t, bb, hC, hM, hR, ht, hz⟩ := hI
  obtain ⟨x1, ex1⟩ : ∃ v : Int32, v = xs (nI (4 * j + 1)).toNatClampNeg := ⟨_, rfl⟩
  obtain ⟨x2, ex2⟩ : ∃ v : Int32, v = xs (nI (4 * j + 2)).toNatClampNeg := ⟨_, rfl⟩
  obtain ⟨x3, ex3⟩ : ∃ v : Int32, v = xs (nI (4 * j + 3)).toNatClampNeg := ⟨_, rfl⟩
  refine lv_aload_n hx hb dL_law_879 rfl (lv_at hl 1 rfl) ?_
  refine lv_aload_n hx hb dL_law_880 rfl (lv_at hl 0 rfl) ?_
  refine lv_iload hx hb dL_law_881 (lv_at hl 4 rfl) ?_
  refine lv_iconst (v := 1) hx hb dL_law_883 (by decide) ?_
  refine lv_iadd hx hb dL_law_884 ?_
  refine lv_rep0 (x := nI (4 * j) + 1) (y := nI (4 * j + 1)) (nI_add (4 * j) 1) ?_
  refine va_sld hx hb hX hbl hbA hw.2 (vp_in_nI (show 4 * j + 1 < L by omega) (by omega)) dL_law_885 ?_
  refine lv_rep0 (x := xs (nI (4 * j + 1)).toNatClampNeg) (y := x1) ex1.symm ?_
  refine lv_aload_n hx hb dL_law_886 rfl (lv_at hl 3 rfl) ?_
  refine rCallLS (As := [.ref (gad G 0), .int x1, .ref (gad G 46)]) (rest := []) ⟨hx, hb, hml, hown, hts⟩ fx hw (kL_rankByRecord l hlt G hG hF σ x1 g n e z bb hC) (vx_cwSW 3 hts gL_law_L_rankByRecord rfl rfl rfl (by decide +kernel) ⟨Nat.le_of_ble_eq_true rfl, Nat.le_of_ble_eq_true rfl⟩) rfl hl.1 rfl (Nat.le_of_ble_eq_true rfl) dL_law_887 ⟨hcs, hss⟩ (fun r5 σ1 H locs hp5 hw => ?_)
  obtain ⟨hM1, hpu⟩ := pu_rankByRecord (t := t) x1 hC hM hR ht hz hj512 hp5
  refine lv_istore (lv' := [(5, .int r5), (0, .ref b), (1, .ref (gad G 0)), (2, .ref (gad G 31)), (3, .ref (gad G 46)), (4, .int (nI (4 * j)))]) hx hb dL_law_890 hl (by decide) rfl (fun ls hl => ?_)
  refine lv_aload_n hx hb dL_law_892 rfl (lv_at hl 3 rfl) ?_
  refine lv_aload_n hx hb dL_law_893 rfl (lv_at hl 1 rfl) ?_
  refine lv_iload hx hb dL_law_894 (lv_at hl 5 rfl) ?_
  refine lv_iconst (v := 1) hx hb dL_law_896 (by decide) ?_
  refine lv_iadd hx hb dL_law_897 ?_
  refine lv_rep0 (x := nI (4 * j) + 1) (y := nI (4 * j + 1)) (nI_add (4 * j) 1) ?_
  refine va_sld hx hb hX hbl hbA hw.2 (vp_in_nI (show 4 * j + 1 < L by omega) (by omega)) dL_law_898 ?_
  refine lv_rep0 (x := xs (nI (4 * j + 1)).toNatClampNeg) (y := x1) ex1.symm ?_
  refine rCallI (C := RX6) (As := [.int x1]) (rest := []) ⟨hx, hb, hml, hown, hts⟩ fx hw (kX6_rankByRecord l G hG hF σ1 x1 g n sd e z bb hM1) (cwV 1 hts gL_law_X6_rankByRecord rfl rfl rfl (by decide +kernel) ⟨Nat.le_of_ble_eq_true rfl, Nat.le_of_ble_eq_true rfl⟩) (hF.1 31 (by decide)) rfl rfl rfl rfl hl.1 rfl (Nat.le_of_ble_eq_true rfl) dL_law_899 ⟨hcs, hss⟩ (fun r6 σ2 H locs hp6 hw => ?_)
  have hag := hpu r6 σ2 hp6
  refine lv_istore (lv' := [(6, .int r6), (5, .int r5), (0, .ref b), (1, .ref (gad G 0)), (2, .ref (gad G 31)), (3, .ref (gad G 46)), (4, .int (nI (4 * j)))]) hx hb dL_law_902 hl (by decide) rfl (fun ls hl => ?_)
  refine lv_aload_n hx hb dL_law_904 rfl (lv_at hl 4 rfl) ?_
  refine rCallI (C := RX6) (As := []) (rest := []) ⟨hx, hb, hml, hown, hts⟩ fx hw (kX6_thrown l G hG hF σ2 ) (cwV 0 hts gL_law_X6_thrown rfl rfl rfl (by decide +kernel) ⟨Nat.le_of_ble_eq_true rfl, Nat.le_of_ble_eq_true rfl⟩) (hF.1 31 (by decide)) rfl rfl rfl rfl hl.1 rfl (Nat.le_of_ble_eq_true rfl) dL_law_905 ⟨hcs, hss⟩ (fun r7 σ3 H locs hp7 hw => ?_)
  obtain ⟨e7, e8⟩ := hp7
  have e8 := e8.symm
  subst e8
  have e9q : r7 = r5 := e7.trans hag.1
  refine lv_iload hx hb dL_law_908 (lv_at hl 1 rfl) ?_
  refine lv_icmp_eq (tgt := 915) hx hb dL_law_910 (by decide) (fun c_1 => ?_) (fun c_1 => ?_)
  · skip
    refine lv_iload hx hb dL_law_915 (lv_at hl 1 rfl) ?_
    refine lv_if_ne (tgt := 932) hx hb dL_law_917 (by decide) (fun c_2 => ?_) (fun c_2 => ?_)
    · skip
      refine lv_goto (tgt := 1656) hx hb dL_law_932 (by decide) ?_
      exact kk _ _ _ _ hag.2.2 hw (lv_sub hl [2, 3, 4, 5, 6] rfl)
    · skip
      refine lv_aload_n hx hb dL_law_920 rfl (lv_at hl 5 rfl) ?_
      refine lv_iconst (v := 0) hx hb dL_law_921 (by decide) ?_
      refine rLld hx hb fx hw (hF.1 46 (by decide)) hF.2.2.2.1 dL_law_922 ?_
      refine lv_iload hx hb dL_law_923 (lv_at hl 0 rfl) ?_
      refine lv_i2l hx hb dL_law_925 rfl ?_
      refine W.lcmp hx hb dL_law_926 ?_
      refine lv_rep0 (x := lg_cmp (σ2 46 0).toInt64 r6.toInt64) (y := 0) (by rw [hag.2.1 c_2]; exact lcmp_0 _) ?_
      refine lv_if_eq (tgt := 932) hx hb dL_law_927 (by decide) (fun c_3 => ?_) (fun c_3 => ?_)
      · skip
        refine lv_goto (tgt := 1656) hx hb dL_law_932 (by decide) ?_
        exact kk _ _ _ _ hag.2.2 hw (lv_sub hl [2, 3, 4, 5, 6] rfl)
      · exact absurd rfl c_3
  · exact absurd e9q c_1

set_option maxHeartbeats 4000000 in
set_option maxRecDepth 100000 in
theorem lk_catchUp {p : Program} {l : Launch} {e0 : Env} {s : State} {m : MethodId} {below : List Frame} {meth : Method} {c : Code} {b L : Nat} {xs : Nat → Int32} {G : Gx} (hlt : l.stackTraces = false) (hL : L ≤ 2048) (C0 : lw_At p s m meth c b L xs) (fx : Fx G s) (hG : gOk G) (hF : Full G) (hgb : gbs G = s.heap.size) {j : Nat} (hj : 4 * j + 4 ≤ L) {σ : St} (hI : Inv σ j) {H : Heap} {locs : List Loc} {cells slots : Nat} (hw : Wd G s σ H locs) (hcs : cells + 1 ≤ room_1.cells) (hss : slots + 6 ≤ room_1.slots) {ls : Array Slot} (hl : lv_has ls 7 [(0, .ref b), (1, .ref (gad G 0)), (2, .ref (gad G 31)), (3, .ref (gad G 46)), (4, .int (nI (4 * j)))]) (kk : ∀ (σ' : St) (H : Heap) (locs : List Loc) (ls : Array Slot), Inv σ' (j + 1) → Wd G s σ' H locs → lv_has ls 7 [(0, .ref b), (1, .ref (gad G 0)), (2, .ref (gad G 31)), (3, .ref (gad G 46)), (4, .int (nI (4 * j)))] → W p l e0 room_1 s m #[Value.ref b] below meth c H locs (cells + 1) (slots + 6) (lw_Z below #[Value.ref b] s) (F0 m 1656 ls [])) : W p l e0 room_1 s m #[Value.ref b] below meth c H locs cells slots (lw_Z below #[Value.ref b] s) (F0 m 935 ls []) := by
  obtain ⟨hx, hb, hr, hml, hown, hts, hX, hbl, hlocks, hgv⟩ := C0
  have hts := fun w h => hts w (wsL_law_in w h)
  have hbA : ¬ gA G b := fun q => by have q2 : gbs G ≤ b := q; omega
  have hj512 : j < 512 := by omega
  obtain ⟨g, n, sd, e, z, t, bb, hC, hM, hR, ht, hz⟩ := hI
  obtain ⟨x1, ex1⟩ : ∃ v : Int32, v = xs (nI (4 * j + 1)).toNatClampNeg := ⟨_, rfl⟩
  obtain ⟨x2, ex2⟩ : ∃ v : Int32, v = xs (nI (4 * j + 2)).toNatClampNeg := ⟨_, rfl⟩
  obtain ⟨x3, ex3⟩ : ∃ v : Int32, v = xs (nI (4 * j + 3)).toNatClampNeg := ⟨_, rfl⟩
  obtain ⟨w, hmw0⟩ : ∃ w : Nat, bb = true → w < n ∧ mkA σ n 0 n = nI w ∧ ∀ k, ldrA σ 4 n k n = wayA σ 4 w - wayA σ 4 k := by
    cases hbb : bb
    · exact ⟨0, fun q => absurd q (by decide)⟩
    · obtain ⟨w, q1, q2, q3, q4⟩ := lead (hR.2.2.2.2 hbb) hC.1.2.2 hC.2.2.2.2.1.2 hC.2.1.2 (n_pos hC hR.2.2.2.2 hbb)
      exact ⟨w, fun _ => ⟨q1, q2, q4⟩⟩
  have hn6 : n ≤ 6 := hC.2.1.2
  have hmw : bb = true → mdA σ w = wayA σ 4 w ∧ ∀ k, ldrA σ 4 n k n = wayA σ 4 w - wayA σ 4 k := fun q => ⟨md_eq (hR.2.2.2.2 q) hC.1.2.2 hC.1.2.1 (by have := (hmw0 q).1; omega), (hmw0 q).2.2⟩
  refine lv_aload_n hx hb dL_law_935 rfl (lv_at hl 1 rfl) ?_
  refine lv_aload_n hx hb dL_law_936 rfl (lv_at hl 0 rfl) ?_
  refine lv_iload hx hb dL_law_937 (lv_at hl 4 rfl) ?_
  refine lv_iconst (v := 1) hx hb dL_law_939 (by decide) ?_
  refine lv_iadd hx hb dL_law_940 ?_
  refine lv_rep0 (x := nI (4 * j) + 1) (y := nI (4 * j + 1)) (nI_add (4 * j) 1) ?_
  refine va_sld hx hb hX hbl hbA hw.2 (vp_in_nI (show 4 * j + 1 < L by omega) (by omega)) dL_law_941 ?_
  refine lv_rep0 (x := xs (nI (4 * j + 1)).toNatClampNeg) (y := x1) ex1.symm ?_
  refine lv_aload_n hx hb dL_law_942 rfl (lv_at hl 3 rfl) ?_
  refine rCallLS (As := [.ref (gad G 0), .int x1, .ref (gad G 46)]) (rest := []) ⟨hx, hb, hml, hown, hts⟩ fx hw (kL_catchUp l hlt G hG hF σ x1 g n e z bb hC) (vx_cwSW 3 hts gL_law_L_catchUp rfl rfl rfl (by decide +kernel) ⟨Nat.le_of_ble_eq_true rfl, Nat.le_of_ble_eq_true rfl⟩) rfl hl.1 rfl (Nat.le_of_ble_eq_true rfl) dL_law_943 ⟨hcs, hss⟩ (fun r5 σ1 H locs hp5 hw => ?_)
  obtain ⟨hM1, hpu⟩ := pu_catchUp (t := t) x1 hC hM hR ht hz hj512 w hmw hp5
  have hmk1 : bb = true → mkA σ1 n 0 n = nI w ∧ w < 6 := by
    intro q
    have h9 : mkA σ1 n 0 n = nI w := by
      rcases hp5 with ⟨v9, τ9, ⟨f1, f2, f3⟩, f4, f5⟩ | ⟨E9, f1, f2, f3⟩
      · rw [f5, mk_46, f2]; exact (hmw0 q).2.1
      · rw [f3]; exact (hmw0 q).2.1
    exact ⟨h9, by have := (hmw0 q).1; omega⟩
  refine lv_istore (lv' := [(5, .int r5), (0, .ref b), (1, .ref (gad G 0)), (2, .ref (gad G 31)), (3, .ref (gad G 46)), (4, .int (nI (4 * j)))]) hx hb dL_law_946 hl (by decide) rfl (fun ls hl => ?_)
  refine lv_aload_n hx hb dL_law_948 rfl (lv_at hl 3 rfl) ?_
  refine lv_aload_n hx hb dL_law_949 rfl (lv_at hl 1 rfl) ?_
  refine lv_iload hx hb dL_law_950 (lv_at hl 5 rfl) ?_
  refine lv_iconst (v := 1) hx hb dL_law_952 (by decide) ?_
  refine lv_iadd hx hb dL_law_953 ?_
  refine lv_rep0 (x := nI (4 * j) + 1) (y := nI (4 * j + 1)) (nI_add (4 * j) 1) ?_
  refine va_sld hx hb hX hbl hbA hw.2 (vp_in_nI (show 4 * j + 1 < L by omega) (by omega)) dL_law_954 ?_
  refine lv_rep0 (x := xs (nI (4 * j + 1)).toNatClampNeg) (y := x1) ex1.symm ?_
  refine rCallI (C := RX6) (As := [.int x1]) (rest := []) ⟨hx, hb, hml, hown, hts⟩ fx hw (kX6_catchUp l G hG hF σ1 x1 w g n sd e z bb hM1 hmk1) (cwV 1 hts gL_law_X6_catchUp rfl rfl rfl (by decide +kernel) ⟨Nat.le_of_ble_eq_true rfl, Nat.le_of_ble_eq_true rfl⟩) (hF.1 31 (by decide)) rfl rfl rfl rfl hl.1 rfl (Nat.le_of_ble_eq_true rfl) dL_law_955 ⟨hcs, hss⟩ (fun r6 σ2 H locs hp6 hw => ?_)
  have hag := hpu r6 σ2 hp6
  refine lv_istore (lv' := [(6, .int r6), (5, .int r5), (0, .ref b), (1, .ref (gad G 0)), (2, .ref (gad G 31)), (3, .ref (gad G 46)), (4, .int (nI (4 * j)))]) hx hb dL_law_958 hl (by decide) rfl (fun ls hl => ?_)
  refine lv_aload_n hx hb dL_law_960 rfl (lv_at hl 4 rfl) ?_
  refine rCallI (C := RX6) (As := []) (rest := []) ⟨hx, hb, hml, hown, hts⟩ fx hw (kX6_thrown l G hG hF σ2 ) (cwV 0 hts gL_law_X6_thrown rfl rfl rfl (by decide +kernel) ⟨Nat.le_of_ble_eq_true rfl, Nat.le_of_ble_eq_true rfl⟩) (hF.1 31 (by decide)) rfl rfl rfl rfl hl.1 rfl (Nat.le_of_ble_eq_true rfl) dL_law_961 ⟨hcs, hss⟩ (fun r7 σ3 H locs hp7 hw => ?_)
  obtain ⟨e7, e8⟩ := hp7
  have e8 := e8.symm
  subst e8
  have e9q : r7 = r5 := e7.trans hag.1
  refine lv_iload hx hb dL_law_964 (lv_at hl 1 rfl) ?_
  refine lv_icmp_eq (tgt := 971) hx hb dL_law_966 (by decide) (fun c_1 => ?_) (fun c_1 => ?_)
  · skip
    refine lv_iload hx hb dL_law_971 (lv_at hl 1 rfl) ?_
    refine lv_if_ne (tgt := 988) hx hb dL_law_973 (by decide) (fun c_2 => ?_) (fun c_2 => ?_)
    · skip
      refine lv_goto (tgt := 1656) hx hb dL_law_988 (by decide) ?_
      exact kk _ _ _ _ hag.2.2 hw (lv_sub hl [2, 3, 4, 5, 6] rfl)
    · skip
      refine lv_aload_n hx hb dL_law_976 rfl (lv_at hl 5 rfl) ?_
      refine lv_iconst (v := 0) hx hb dL_law_977 (by decide) ?_
      refine rLld hx hb fx hw (hF.1 46 (by decide)) hF.2.2.2.1 dL_law_978 ?_
      refine lv_iload hx hb dL_law_979 (lv_at hl 0 rfl) ?_
      refine lv_i2l hx hb dL_law_981 rfl ?_
      refine W.lcmp hx hb dL_law_982 ?_
      refine lv_rep0 (x := lg_cmp (σ2 46 0).toInt64 r6.toInt64) (y := 0) (by rw [hag.2.1 c_2]; exact lcmp_0 _) ?_
      refine lv_if_eq (tgt := 988) hx hb dL_law_983 (by decide) (fun c_3 => ?_) (fun c_3 => ?_)
      · skip
        refine lv_goto (tgt := 1656) hx hb dL_law_988 (by decide) ?_
        exact kk _ _ _ _ hag.2.2 hw (lv_sub hl [2, 3, 4, 5, 6] rfl)
      · exact absurd rfl c_3
  · exact absurd e9q c_1

set_option maxHeartbeats 4000000 in
set_option maxRecDepth 100000 in
theorem lk_setDraw {p : Program} {l : Launch} {e0 : Env} {s : State} {m : MethodId} {below : List Frame} {meth : Method} {c : Code} {b L : Nat} {xs : Nat → Int32} {G : Gx} (hlt : l.stackTraces = false) (hL : L ≤ 2048) (C0 : lw_At p s m meth c b L xs) (fx : Fx G s) (hG : gOk G) (hF : Full G) (hgb : gbs G = s.heap.size) {j : Nat} (hj : 4 * j + 4 ≤ L) {σ : St} (hI : Inv σ j) {H : Heap} {locs : List Loc} {cells slots : Nat} (hw : Wd G s σ H locs) (hcs : cells + 1 ≤ room_1.cells) (hss : slots + 6 ≤ room_1.slots) {ls : Array Slot} (hl : lv_has ls 7 [(0, .ref b), (1, .ref (gad G 0)), (2, .ref (gad G 31)), (3, .ref (gad G 46)), (4, .int (nI (4 * j)))]) (kk : ∀ (σ' : St) (H : Heap) (locs : List Loc) (ls : Array Slot), Inv σ' (j + 1) → Wd G s σ' H locs → lv_has ls 7 [(0, .ref b), (1, .ref (gad G 0)), (2, .ref (gad G 31)), (3, .ref (gad G 46)), (4, .int (nI (4 * j)))] → W p l e0 room_1 s m #[Value.ref b] below meth c H locs (cells + 1) (slots + 6) (lw_Z below #[Value.ref b] s) (F0 m 1656 ls [])) : W p l e0 room_1 s m #[Value.ref b] below meth c H locs cells slots (lw_Z below #[Value.ref b] s) (F0 m 991 ls []) := by
  obtain ⟨hx, hb, hr, hml, hown, hts, hX, hbl, hlocks, hgv⟩ := C0
  have hts := fun w h => hts w (wsL_law_in w h)
  have hbA : ¬ gA G b := fun q => by have q2 : gbs G ≤ b := q; omega
  have hj512 : j < 512 := by omega
  obtain ⟨g, n, sd, e, z, t, bb, hC, hM, hR, ht, hz⟩ := hI
  obtain ⟨x1, ex1⟩ : ∃ v : Int32, v = xs (nI (4 * j + 1)).toNatClampNeg := ⟨_, rfl⟩
  obtain ⟨x2, ex2⟩ : ∃ v : Int32, v = xs (nI (4 * j + 2)).toNatClampNeg := ⟨_, rfl⟩
  obtain ⟨x3, ex3⟩ : ∃ v : Int32, v = xs (nI (4 * j + 3)).toNatClampNeg := ⟨_, rfl⟩
  refine lv_aload_n hx hb dL_law_991 rfl (lv_at hl 1 rfl) ?_
  refine lv_aload_n hx hb dL_law_992 rfl (lv_at hl 0 rfl) ?_
  refine lv_iload hx hb dL_law_993 (lv_at hl 4 rfl) ?_
  refine lv_iconst (v := 1) hx hb dL_law_995 (by decide) ?_
  refine lv_iadd hx hb dL_law_996 ?_
  refine lv_rep0 (x := nI (4 * j) + 1) (y := nI (4 * j + 1)) (nI_add (4 * j) 1) ?_
  refine va_sld hx hb hX hbl hbA hw.2 (vp_in_nI (show 4 * j + 1 < L by omega) (by omega)) dL_law_997 ?_
  refine lv_rep0 (x := xs (nI (4 * j + 1)).toNatClampNeg) (y := x1) ex1.symm ?_
  refine rCallV (C := RX5) (As := [.int x1]) (rest := []) ⟨hx, hb, hml, hown, hts⟩ fx hw (kX5_setDraw l G hG hF σ x1 g n e z bb hC) (cwV 1 hts gL_law_X5_setDraw rfl rfl rfl (by decide +kernel) ⟨Nat.le_of_ble_eq_true rfl, Nat.le_of_ble_eq_true rfl⟩) (hF.1 0 (by decide)) rfl rfl rfl rfl hl.1 rfl (Nat.le_of_ble_eq_true rfl) dL_law_998 ⟨Nat.le_of_succ_le hcs, Nat.le_trans (Nat.le_add_right _ _) hss⟩ (fun σ1 H locs hp5 hw => ?_)
  obtain ⟨hM1, hpu⟩ := pu_setDraw (t := t) x1 hC hM hR ht hz hj512 hp5
  refine lv_aload_n hx hb dL_law_1001 rfl (lv_at hl 2 rfl) ?_
  refine lv_aload_n hx hb dL_law_1002 rfl (lv_at hl 0 rfl) ?_
  refine lv_iload hx hb dL_law_1003 (lv_at hl 4 rfl) ?_
  refine lv_iconst (v := 1) hx hb dL_law_1005 (by decide) ?_
  refine lv_iadd hx hb dL_law_1006 ?_
  refine lv_rep0 (x := nI (4 * j) + 1) (y := nI (4 * j + 1)) (nI_add (4 * j) 1) ?_
  refine va_sld hx hb hX hbl hbA hw.2 (vp_in_nI (show 4 * j + 1 < L by omega) (by omega)) dL_law_1007 ?_
  refine lv_rep0 (x := xs (nI (4 * j + 1)).toNatClampNeg) (y := x1) ex1.symm ?_
  refine rCallV (C := RX6) (As := [.int x1]) (rest := []) ⟨hx, hb, hml, hown, hts⟩ fx hw (kX6_setDraw l G hG hF σ1 x1 g n sd e z bb hM1) (cwV 1 hts gL_law_X6_setDraw rfl rfl rfl (by decide +kernel) ⟨Nat.le_of_ble_eq_true rfl, Nat.le_of_ble_eq_true rfl⟩) (hF.1 31 (by decide)) rfl rfl rfl rfl hl.1 rfl (Nat.le_of_ble_eq_true rfl) dL_law_1008 ⟨Nat.le_of_succ_le hcs, Nat.le_trans (Nat.le_add_right _ _) hss⟩ (fun σ2 H locs hp6 hw => ?_)
  have hag := hpu σ2 hp6
  refine lv_goto (tgt := 1656) hx hb dL_law_1011 (by decide) ?_
  refine W.widen (k := cells + 1) (n := slots + 6) (Nat.le_succ _) (Nat.le_add_right _ _) ?_
  exact kk _ _ _ _ hag.2 hw (lv_sub hl [0, 1, 2, 3, 4] rfl)

set_option maxHeartbeats 4000000 in
set_option maxRecDepth 100000 in
theorem lk_draw {p : Program} {l : Launch} {e0 : Env} {s : State} {m : MethodId} {below : List Frame} {meth : Method} {c : Code} {b L : Nat} {xs : Nat → Int32} {G : Gx} (hlt : l.stackTraces = false) (hL : L ≤ 2048) (C0 : lw_At p s m meth c b L xs) (fx : Fx G s) (hG : gOk G) (hF : Full G) (hgb : gbs G = s.heap.size) {j : Nat} (hj : 4 * j + 4 ≤ L) {σ : St} (hI : Inv σ j) {H : Heap} {locs : List Loc} {cells slots : Nat} (hw : Wd G s σ H locs) (hcs : cells + 1 ≤ room_1.cells) (hss : slots + 6 ≤ room_1.slots) {ls : Array Slot} (hl : lv_has ls 7 [(0, .ref b), (1, .ref (gad G 0)), (2, .ref (gad G 31)), (3, .ref (gad G 46)), (4, .int (nI (4 * j)))]) (kk : ∀ (σ' : St) (H : Heap) (locs : List Loc) (ls : Array Slot), Inv σ' (j + 1) → Wd G s σ' H locs → lv_has ls 7 [(0, .ref b), (1, .ref (gad G 0)), (2, .ref (gad G 31)), (3, .ref (gad G 46)), (4, .int (nI (4 * j)))] → W p l e0 room_1 s m #[Value.ref b] below meth c H locs (cells + 1) (slots + 6) (lw_Z below #[Value.ref b] s) (F0 m 1656 ls [])) : W p l e0 room_1 s m #[Value.ref b] below meth c H locs cells slots (lw_Z below #[Value.ref b] s) (F0 m 1014 ls []) := by
  obtain ⟨hx, hb, hr, hml, hown, hts, hX, hbl, hlocks, hgv⟩ := C0
  have hts := fun w h => hts w (wsL_law_in w h)
  have hbA : ¬ gA G b := fun q => by have q2 : gbs G ≤ b := q; omega
  have hj512 : j < 512 := by omega
  obtain ⟨g, n, sd, e, z, t, bb, hC, hM, hR, ht, hz⟩ := hI
  obtain ⟨x1, ex1⟩ : ∃ v : Int32, v = xs (nI (4 * j + 1)).toNatClampNeg := ⟨_, rfl⟩
  obtain ⟨x2, ex2⟩ : ∃ v : Int32, v = xs (nI (4 * j + 2)).toNatClampNeg := ⟨_, rfl⟩
  obtain ⟨x3, ex3⟩ : ∃ v : Int32, v = xs (nI (4 * j + 3)).toNatClampNeg := ⟨_, rfl⟩
  refine lv_aload_n hx hb dL_law_1014 rfl (lv_at hl 1 rfl) ?_
  refine lv_aload_n hx hb dL_law_1015 rfl (lv_at hl 0 rfl) ?_
  refine lv_iload hx hb dL_law_1016 (lv_at hl 4 rfl) ?_
  refine lv_iconst (v := 1) hx hb dL_law_1018 (by decide) ?_
  refine lv_iadd hx hb dL_law_1019 ?_
  refine lv_rep0 (x := nI (4 * j) + 1) (y := nI (4 * j + 1)) (nI_add (4 * j) 1) ?_
  refine va_sld hx hb hX hbl hbA hw.2 (vp_in_nI (show 4 * j + 1 < L by omega) (by omega)) dL_law_1020 ?_
  refine lv_rep0 (x := xs (nI (4 * j + 1)).toNatClampNeg) (y := x1) ex1.symm ?_
  refine lv_aload_n hx hb dL_law_1021 rfl (lv_at hl 3 rfl) ?_
  refine rCallLS (As := [.ref (gad G 0), .int x1, .ref (gad G 46)]) (rest := []) ⟨hx, hb, hml, hown, hts⟩ fx hw (kL_draw l hlt G hG hF σ x1 g n e z bb hC) (vx_cwSW 3 hts gL_law_L_draw rfl rfl rfl (by decide +kernel) ⟨Nat.le_of_ble_eq_true rfl, Nat.le_of_ble_eq_true rfl⟩) rfl hl.1 rfl (Nat.le_of_ble_eq_true rfl) dL_law_1022 ⟨hcs, hss⟩ (fun r5 σ1 H locs hp5 hw => ?_)
  obtain ⟨hM1, hpu⟩ := pu_draw (t := t) x1 hC hM hR ht hz hj512 hp5
  refine lv_istore (lv' := [(5, .int r5), (0, .ref b), (1, .ref (gad G 0)), (2, .ref (gad G 31)), (3, .ref (gad G 46)), (4, .int (nI (4 * j)))]) hx hb dL_law_1025 hl (by decide) rfl (fun ls hl => ?_)
  refine lv_aload_n hx hb dL_law_1027 rfl (lv_at hl 3 rfl) ?_
  refine lv_aload_n hx hb dL_law_1028 rfl (lv_at hl 1 rfl) ?_
  refine lv_iload hx hb dL_law_1029 (lv_at hl 5 rfl) ?_
  refine lv_iconst (v := 1) hx hb dL_law_1031 (by decide) ?_
  refine lv_iadd hx hb dL_law_1032 ?_
  refine lv_rep0 (x := nI (4 * j) + 1) (y := nI (4 * j + 1)) (nI_add (4 * j) 1) ?_
  refine va_sld hx hb hX hbl hbA hw.2 (vp_in_nI (show 4 * j + 1 < L by omega) (by omega)) dL_law_1033 ?_
  refine lv_rep0 (x := xs (nI (4 * j + 1)).toNatClampNeg) (y := x1) ex1.symm ?_
  refine rCallI (C := RX6) (As := [.int x1]) (rest := []) ⟨hx, hb, hml, hown, hts⟩ fx hw (kX6_draw l G hG hF σ1 x1 g n sd e z bb hM1) (cwV 1 hts gL_law_X6_draw rfl rfl rfl (by decide +kernel) ⟨Nat.le_of_ble_eq_true rfl, Nat.le_of_ble_eq_true rfl⟩) (hF.1 31 (by decide)) rfl rfl rfl rfl hl.1 rfl (Nat.le_of_ble_eq_true rfl) dL_law_1034 ⟨hcs, hss⟩ (fun r6 σ2 H locs hp6 hw => ?_)
  have hag := hpu r6 σ2 hp6
  refine lv_istore (lv' := [(6, .int r6), (5, .int r5), (0, .ref b), (1, .ref (gad G 0)), (2, .ref (gad G 31)), (3, .ref (gad G 46)), (4, .int (nI (4 * j)))]) hx hb dL_law_1037 hl (by decide) rfl (fun ls hl => ?_)
  refine lv_aload_n hx hb dL_law_1039 rfl (lv_at hl 4 rfl) ?_
  refine rCallI (C := RX6) (As := []) (rest := []) ⟨hx, hb, hml, hown, hts⟩ fx hw (kX6_thrown l G hG hF σ2 ) (cwV 0 hts gL_law_X6_thrown rfl rfl rfl (by decide +kernel) ⟨Nat.le_of_ble_eq_true rfl, Nat.le_of_ble_eq_true rfl⟩) (hF.1 31 (by decide)) rfl rfl rfl rfl hl.1 rfl (Nat.le_of_ble_eq_true rfl) dL_law_1040 ⟨hcs, hss⟩ (fun r7 σ3 H locs hp7 hw => ?_)
  obtain ⟨e7, e8⟩ := hp7
  have e8 := e8.symm
  subst e8
  have e9q : r7 = r5 := e7.trans hag.1
  refine lv_iload hx hb dL_law_1043 (lv_at hl 1 rfl) ?_
  refine lv_icmp_eq (tgt := 1050) hx hb dL_law_1045 (by decide) (fun c_1 => ?_) (fun c_1 => ?_)
  · skip
    refine lv_iload hx hb dL_law_1050 (lv_at hl 1 rfl) ?_
    refine lv_if_ne (tgt := 1067) hx hb dL_law_1052 (by decide) (fun c_2 => ?_) (fun c_2 => ?_)
    · skip
      refine lv_goto (tgt := 1656) hx hb dL_law_1067 (by decide) ?_
      exact kk _ _ _ _ hag.2.2 hw (lv_sub hl [2, 3, 4, 5, 6] rfl)
    · skip
      refine lv_aload_n hx hb dL_law_1055 rfl (lv_at hl 5 rfl) ?_
      refine lv_iconst (v := 0) hx hb dL_law_1056 (by decide) ?_
      refine rLld hx hb fx hw (hF.1 46 (by decide)) hF.2.2.2.1 dL_law_1057 ?_
      refine lv_iload hx hb dL_law_1058 (lv_at hl 0 rfl) ?_
      refine lv_i2l hx hb dL_law_1060 rfl ?_
      refine W.lcmp hx hb dL_law_1061 ?_
      refine lv_rep0 (x := lg_cmp (σ2 46 0).toInt64 r6.toInt64) (y := 0) (by rw [hag.2.1 c_2]; exact lcmp_0 _) ?_
      refine lv_if_eq (tgt := 1067) hx hb dL_law_1062 (by decide) (fun c_3 => ?_) (fun c_3 => ?_)
      · skip
        refine lv_goto (tgt := 1656) hx hb dL_law_1067 (by decide) ?_
        exact kk _ _ _ _ hag.2.2 hw (lv_sub hl [2, 3, 4, 5, 6] rfl)
      · exact absurd rfl c_3
  · exact absurd e9q c_1
