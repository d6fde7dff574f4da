theorem lw_more {j L : Nat} (hj : 4 * j ≤ L) (hL : L ≤ 2048) : nI (4 * j) ≤ Int32.ofNat L - 4 ↔ 4 * j + 4 ≤ L := by
  have h1 : (Int32.ofNat L - 4).toInt = (L : Int) - 4 := pk_sub_toInt (a := L) (b := 4) (by omega) (by decide)
  rw [Int32.le_iff_toInt_le, h1, nI_toInt (by omega)]
  omega
set_option maxHeartbeats 4000000 in
set_option maxRecDepth 100000 in
theorem law_loop {p : Program} {l : Launch} {e0 : Env} {s : State} {m : MethodId} {below : List Frame} {meth : Method} {c : Code} {b L : Nat} {xs : Nat → Int32} {G : Gx} (hlt : l.stackTraces = false) (hL : L ≤ 2048) (C0 : lw_At p s m meth c b L xs) (fx : Fx G s) (hG : gOk G) (hF : Full G) (hgb : gbs G = s.heap.size) : ∀ (n j : Nat), L ≤ 4 * j + 4 * n + 3 → 4 * j ≤ L → ∀ (σ : St), Inv σ j → ∀ (H : Heap) (locs : List Loc), Wd G s σ H locs → ∀ (ls : Array Slot), lv_has ls 7 [(0, .ref b), (1, .ref (gad G 0)), (2, .ref (gad G 31)), (3, .ref (gad G 46)), (4, .int (nI (4 * j)))] → W p l e0 room_1 s m #[Value.ref b] below meth c H locs (100 + j) (2000 + 6 * j) (lw_Z below #[Value.ref b] s) (F0 m 23 ls []) := by
  have C1 := C0
  obtain ⟨hx, hb, hr, hml, hown, hts, hX, hbl, hlocks, hgv⟩ := C0
  have hbA : ¬ gA G b := fun q => by have q2 : gbs G ≤ b := q; omega
  intro n
  induction n with
  | zero =>
    intro j h1 h2 σ hI H locs hw ls hl
    refine lv_iload hx hb dL_law_23 (lv_at hl 4 rfl) ?_
    refine lv_aload_n hx hb dL_law_25 rfl (lv_at hl 0 rfl) ?_
    refine va_slen hx hb hX hbl hbA hw.2 dL_law_26 ?_
    refine lv_iconst (v := 4) hx hb dL_law_27 (by decide) ?_
    refine lv_isub hx hb dL_law_28 ?_
    refine lv_icmp_gt (tgt := 1662) hx hb dL_law_29 (by decide) (fun c_1 => ?_) (fun c_1 => ?_)
    · refine lv_iconst (v := 1) hx hb dL_law_1662 (by decide) ?_
      refine va_forget (fun q hq => by have q2 : gbs G ≤ q.base := hw.2.2.2 q hq; omega) ?_
      refine W.widen (k := 1096) (n := 10112) (by omega) (by omega) ?_
      exact lw_ret hx hb hr hlocks dL_law_1663
    · have hj : 4 * j + 4 ≤ L := (lw_more (by omega) (by omega)).mp (Int32.not_lt.mp c_1)
      exact absurd hj (by omega)
  | succ n ih =>
    intro j h1 h2 σ hI H locs hw ls hl
    refine lv_iload hx hb dL_law_23 (lv_at hl 4 rfl) ?_
    refine lv_aload_n hx hb dL_law_25 rfl (lv_at hl 0 rfl) ?_
    refine va_slen hx hb hX hbl hbA hw.2 dL_law_26 ?_
    refine lv_iconst (v := 4) hx hb dL_law_27 (by decide) ?_
    refine lv_isub hx hb dL_law_28 ?_
    refine lv_icmp_gt (tgt := 1662) hx hb dL_law_29 (by decide) (fun c_1 => ?_) (fun c_1 => ?_)
    · refine lv_iconst (v := 1) hx hb dL_law_1662 (by decide) ?_
      refine va_forget (fun q hq => by have q2 : gbs G ≤ q.base := hw.2.2.2 q hq; omega) ?_
      refine W.widen (k := 1096) (n := 10112) (by omega) (by omega) ?_
      exact lw_ret hx hb hr hlocks dL_law_1663
    · have c_1 := c_1
      have hj : 4 * j + 4 ≤ L := (lw_more (by omega) (by omega)).mp (Int32.not_lt.mp c_1)
      have kk : ∀ (σ' : St) (H : Heap) (locs : List Loc) (ls : Array Slot), Inv σ' (j + 1) → Wd G s σ' H locs → lv_has ls 7 [(0, .ref b), (1, .ref (gad G 0)), (2, .ref (gad G 31)), (3, .ref (gad G 46)), (4, .int (nI (4 * j)))] → W p l e0 room_1 s m #[Value.ref b] below meth c H locs (100 + j + 1) (2000 + 6 * j + 6) (lw_Z below #[Value.ref b] s) (F0 m 1656 ls []) := by
        intro σ' H locs ls hI hw hl
        refine lv_iinc (v := nI (4 * (j + 1))) (lv' := [(4, .int (nI (4 * (j + 1)))), (0, .ref b), (1, .ref (gad G 0)), (2, .ref (gad G 31)), (3, .ref (gad G 46))]) hx hb dL_law_1656 hl (k := 4) rfl (nI_add (4 * j) 4) (by decide) rfl (fun ls hl => ?_)
        refine lv_goto (tgt := 23) hx hb dL_law_1659 (by decide) ?_
        exact W.widen (by omega) (by omega) (ih (j + 1) (by omega) (by omega) σ' hI H locs hw ls (lv_sub hl [1, 2, 3, 4, 0] rfl))
      have hcs : 100 + j + 1 ≤ room_1.cells := Nat.le_trans (show 100 + j + 1 ≤ 1096 by omega) (Nat.le_of_ble_eq_true rfl)
      have hss : 2000 + 6 * j + 6 ≤ room_1.slots := Nat.le_trans (show 2000 + 6 * j + 6 ≤ 10112 by omega) (Nat.le_of_ble_eq_true rfl)
      refine lv_aload_n hx hb dL_law_32 rfl (lv_at hl 0 rfl) ?_
      refine lv_iload hx hb dL_law_33 (lv_at hl 4 rfl) ?_
      refine va_sld hx hb hX hbl hbA hw.2 (vp_in_nI (show 4 * j < L by omega) (by omega)) dL_law_35 ?_
      refine lv_bipush (v := 31) hx hb dL_law_36 (by decide) ?_
      refine lv_iand hx hb dL_law_38 ?_
      obtain ⟨k, hk, ek⟩ := pk_andE (xs (nI (4 * j)).toNatClampNeg) (m := 31) 5 (by decide)
      refine lv_rep0 (x := xs (nI (4 * j)).toNatClampNeg &&& 31) (y := nI k) ek ?_
      have hk2 : k = 0 ∨ k = 1 ∨ k = 2 ∨ k = 3 ∨ k = 4 ∨ k = 5 ∨ k = 6 ∨ k = 7 ∨ k = 8 ∨ k = 9 ∨ k = 10 ∨ k = 11 ∨ k = 12 ∨ k = 13 ∨ k = 14 ∨ k = 15 ∨ k = 16 ∨ k = 17 ∨ k = 18 ∨ k = 19 ∨ k = 20 ∨ k = 21 ∨ k = 22 ∨ k = 23 ∨ k = 24 ∨ k = 25 ∨ k = 26 ∨ k = 27 ∨ k = 28 ∨ k = 29 ∨ k = 30 ∨ k = 31 := by omega
      rcases hk2 with rfl | rfl | rfl | rfl | rfl | rfl | rfl | rfl | rfl | rfl | rfl | rfl | rfl | rfl | rfl | rfl | rfl | rfl | rfl | rfl | rfl | rfl | rfl | rfl | rfl | rfl | rfl | rfl | rfl | rfl | rfl | rfl
      · refine lv_tableIn (tgt := 172) (off := 133) hx hb dL_law_39 (by decide) (by decide) (by decide) (by decide) ?_
        exact lk_addGate hlt hL C1 fx hG hF hgb hj hI hw hcs hss hl kk
      · refine lv_tableIn (tgt := 244) (off := 205) hx hb dL_law_39 (by decide) (by decide) (by decide) (by decide) ?_
        exact lk_addWay hlt hL C1 fx hG hF hgb hj hI hw hcs hss hl kk
      · refine lv_tableIn (tgt := 324) (off := 285) hx hb dL_law_39 (by decide) (by decide) (by decide) (by decide) ?_
        exact lk_addKart hlt hL C1 fx hG hF hgb hj hI hw hcs hss hl kk
      · refine lv_tableIn (tgt := 380) (off := 341) hx hb dL_law_39 (by decide) (by decide) (by decide) (by decide) ?_
        exact lk_gates hlt hL C1 fx hG hF hgb hj hI hw hcs hss hl kk
      · refine lv_tableIn (tgt := 393) (off := 354) hx hb dL_law_39 (by decide) (by decide) (by decide) (by decide) ?_
        exact lk_karts hlt hL C1 fx hG hF hgb hj hI hw hcs hss hl kk
      · refine lv_tableIn (tgt := 406) (off := 367) hx hb dL_law_39 (by decide) (by decide) (by decide) (by decide) ?_
        exact lk_rest hlt hL C1 fx hG hF hgb hj hI hw hcs hss hl kk
      · refine lv_tableIn (tgt := 462) (off := 423) hx hb dL_law_39 (by decide) (by decide) (by decide) (by decide) ?_
        exact lk_start hlt hL C1 fx hG hF hgb hj hI hw hcs hss hl kk
      · refine lv_tableIn (tgt := 518) (off := 479) hx hb dL_law_39 (by decide) (by decide) (by decide) (by decide) ?_
        exact lk_isOn hlt hL C1 fx hG hF hgb hj hI hw hcs hss hl kk
      · refine lv_tableIn (tgt := 531) (off := 492) hx hb dL_law_39 (by decide) (by decide) (by decide) (by decide) ?_
        exact lk_pass hlt hL C1 fx hG hF hgb hj hI hw hcs hss hl kk
      · refine lv_tableIn (tgt := 599) (off := 560) hx hb dL_law_39 (by decide) (by decide) (by decide) (by decide) ?_
        exact lk_idle hlt hL C1 fx hG hF hgb hj hI hw hcs hss hl kk
      · refine lv_tableIn (tgt := 655) (off := 616) hx hb dL_law_39 (by decide) (by decide) (by decide) (by decide) ?_
        exact lk_gateOf hlt hL C1 fx hG hF hgb hj hI hw hcs hss hl kk
      · refine lv_tableIn (tgt := 711) (off := 672) hx hb dL_law_39 (by decide) (by decide) (by decide) (by decide) ?_
        exact lk_lapsOf hlt hL C1 fx hG hF hgb hj hI hw hcs hss hl kk
      · refine lv_tableIn (tgt := 767) (off := 728) hx hb dL_law_39 (by decide) (by decide) (by decide) (by decide) ?_
        exact lk_missing hlt hL C1 fx hG hF hgb hj hI hw hcs hss hl kk
      · refine lv_tableIn (tgt := 823) (off := 784) hx hb dL_law_39 (by decide) (by decide) (by decide) (by decide) ?_
        exact lk_rank hlt hL C1 fx hG hF hgb hj hI hw hcs hss hl kk
      · refine lv_tableIn (tgt := 879) (off := 840) hx hb dL_law_39 (by decide) (by decide) (by decide) (by decide) ?_
        exact lk_rankByRecord hlt hL C1 fx hG hF hgb hj hI hw hcs hss hl kk
      · refine lv_tableIn (tgt := 935) (off := 896) hx hb dL_law_39 (by decide) (by decide) (by decide) (by decide) ?_
        exact lk_catchUp hlt hL C1 fx hG hF hgb hj hI hw hcs hss hl kk
      · refine lv_tableIn (tgt := 991) (off := 952) hx hb dL_law_39 (by decide) (by decide) (by decide) (by decide) ?_
        exact lk_setDraw hlt hL C1 fx hG hF hgb hj hI hw hcs hss hl kk
      · refine lv_tableIn (tgt := 1014) (off := 975) hx hb dL_law_39 (by decide) (by decide) (by decide) (by decide) ?_
        exact lk_draw hlt hL C1 fx hG hF hgb hj hI hw hcs hss hl kk
      · refine lv_tableIn (tgt := 1070) (off := 1031) hx hb dL_law_39 (by decide) (by decide) (by decide) (by decide) ?_
        exact lk_use hlt hL C1 fx hG hF hgb hj hI hw hcs hss hl kk
      · refine lv_tableIn (tgt := 1126) (off := 1087) hx hb dL_law_39 (by decide) (by decide) (by decide) (by decide) ?_
        exact lk_itemOf hlt hL C1 fx hG hF hgb hj hI hw hcs hss hl kk
      · refine lv_tableIn (tgt := 1182) (off := 1143) hx hb dL_law_39 (by decide) (by decide) (by decide) (by decide) ?_
        exact lk_stunned hlt hL C1 fx hG hF hgb hj hI hw hcs hss hl kk
      · refine lv_tableIn (tgt := 1238) (off := 1199) hx hb dL_law_39 (by decide) (by decide) (by decide) (by decide) ?_
        exact lk_end hlt hL C1 fx hG hF hgb hj hI hw hcs hss hl kk
      · refine lv_tableIn (tgt := 1282) (off := 1243) hx hb dL_law_39 (by decide) (by decide) (by decide) (by decide) ?_
        exact lk_races hlt hL C1 fx hG hF hgb hj hI hw hcs hss hl kk
      · refine lv_tableIn (tgt := 1295) (off := 1256) hx hb dL_law_39 (by decide) (by decide) (by decide) (by decide) ?_
        exact lk_place hlt hL C1 fx hG hF hgb hj hI hw hcs hss hl kk
      · refine lv_tableIn (tgt := 1363) (off := 1324) hx hb dL_law_39 (by decide) (by decide) (by decide) (by decide) ?_
        exact lk_setDropped hlt hL C1 fx hG hF hgb hj hI hw hcs hss hl kk
      · refine lv_tableIn (tgt := 1419) (off := 1380) hx hb dL_law_39 (by decide) (by decide) (by decide) (by decide) ?_
        exact lk_points hlt hL C1 fx hG hF hgb hj hI hw hcs hss hl kk
      · refine lv_tableIn (tgt := 1475) (off := 1436) hx hb dL_law_39 (by decide) (by decide) (by decide) (by decide) ?_
        exact lk_teamPoints hlt hL C1 fx hG hF hgb hj hI hw hcs hss hl kk
      · refine lv_tableIn (tgt := 1531) (off := 1492) hx hb dL_law_39 (by decide) (by decide) (by decide) (by decide) ?_
        exact lk_standing hlt hL C1 fx hG hF hgb hj hI hw hcs hss hl kk
      · refine lv_tableIn (tgt := 1587) (off := 1548) hx hb dL_law_39 (by decide) (by decide) (by decide) (by decide) ?_
        exact lk_textLength hlt hL C1 fx hG hF hgb hj hI hw hcs hss hl kk
      · refine lv_tableIn (tgt := 1600) (off := 1561) hx hb dL_law_39 (by decide) (by decide) (by decide) (by decide) ?_
        exact lk_textAt hlt hL C1 fx hG hF hgb hj hI hw hcs hss hl kk
      · refine lv_tableOut (tgt := 1656) hx hb dL_law_39 (by decide) (by decide) ?_
        exact W.widen (Nat.le_add_right _ 1) (Nat.le_add_right _ 6) (kk σ H locs ls (Inv_s hI) hw hl)
      · refine lv_tableOut (tgt := 1656) hx hb dL_law_39 (by decide) (by decide) ?_
        exact W.widen (Nat.le_add_right _ 1) (Nat.le_add_right _ 6) (kk σ H locs ls (Inv_s hI) hw hl)
