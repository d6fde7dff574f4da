def rmX2_clear : Room := ({ frames := 0, cells := 0, slots := 0, locals := 0 } : Room)
set_option maxHeartbeats 4000000 in
set_option maxRecDepth 100000 in
theorem kX2_clear (l : Launch) (G : Gx) (hG : gOk G) (hF : Full G) (σ : St)  : CtV l yX2_clear wsX2_clear rmX2_clear G σ [.ref (gad G 20)] (fun σ' => σ' = upA σ 20 (upd (σ 20) 2 0)) := by
  refine bgMet (cc := cX2_clear) (maxL := 1) (ret := none) (own := RX2) (by decide) rfl rfl hG (Nat.le_of_ble_eq_true rfl) rfl ?_
  intro p e s m args below meth c ls Bd hl
  obtain ⟨hx, hb, hr, hml, hts, hown, hlocks, fx, hw⟩ := Bd
  have hl : lv_has ls 1 [(0, .ref (gad G 20))] := hl
  have hin : ∀ w ∈ wsX20, w ∈ wsX2_clear := by decide +kernel
  refine lv_aload_n hx hb dX2_clear_0 rfl (lv_at hl 0 rfl) ?_
  refine lv_iconst (v := 0) hx hb dX2_clear_1 (by decide) ?_
  refine rPut (v := 0) (ty := .int) (C := RX2) (T := TX2) (N := 3) hx hb fx hown hts hin tyX2 tyX2_ok nmX2 hw 20 (hF.1 20 (by decide)) rfl rfl 2 (by decide) (hts (.fieldLink RX2 18 "Leaguewheel$Passings" "count" "I") (by decide +kernel)) (fun _ h9 => h9) rfl (by decide +kernel) rfl rfl (Nat.le_of_ble_eq_true rfl) rfl dX2_clear_2 (fun H locs hw => ?_)
  obtain ⟨σ_1, eσ_1⟩ : ∃ w9, w9 = upA σ 20 (upd (σ 20) 2 0) := ⟨_, rfl⟩
  rw [← eσ_1] at hw
  subst eσ_1
  exact rRetV hx hb hr hw (by first | rfl | simp [bI, upA_n, upA_s, upA_upA, upA_self, upd_self, upd_upd, pk_us, bI]) hlocks dX2_clear_5

def rmX2_isFull : Room := ({ frames := 0, cells := 0, slots := 0, locals := 0 } : Room)
set_option maxHeartbeats 4000000 in
set_option maxRecDepth 100000 in
theorem kX2_isFull (l : Launch) (G : Gx) (hG : gOk G) (hF : Full G) (σ : St)  : CtI l yX2_isFull wsX2_isFull rmX2_isFull G σ [.ref (gad G 20)] (fun r σ' => r = bI (!decide (σ 20 2 < 512)) ∧ σ' = σ) := by
  refine bgMet (cc := cX2_isFull) (maxL := 1) (ret := (some .boolean)) (own := RX2) (by decide) rfl rfl hG (Nat.le_of_ble_eq_true rfl) rfl ?_
  intro p e s m args below meth c ls Bd hl
  obtain ⟨hx, hb, hr, hml, hts, hown, hlocks, fx, hw⟩ := Bd
  have hl : lv_has ls 1 [(0, .ref (gad G 20))] := hl
  have hin : ∀ w ∈ wsX20, w ∈ wsX2_isFull := by decide +kernel
  refine lv_aload_n hx hb dX2_isFull_0 rfl (lv_at hl 0 rfl) ?_
  refine rGet (v := .int (σ 20 2)) (C := RX2) (T := TX2) (N := 3) hx hb fx hown hts hin hw 20 (hF.1 20 (by decide)) rfl rfl 2 (by decide) (hts (.fieldLink RX2 18 "Leaguewheel$Passings" "count" "I") (by decide +kernel)) (fun _ h9 => h9) rfl dX2_isFull_1 ?_
  refine lv_sipush (v := 512) hx hb dX2_isFull_4 (by decide) ?_
  refine lv_icmp_lt (tgt := 14) hx hb dX2_isFull_7 (by decide) (fun c_1 => ?_) (fun c_1 => ?_)
  · skip
    refine lv_iconst (v := 0) hx hb dX2_isFull_14 (by decide) ?_
    exact rRetZ hx hb hr hw (by decide) (by exact ⟨by first | rfl | simp [bI, bI, c_1] | simp [bI, upA_n, upA_s, upA_upA, upA_self, upd_self, upd_upd, pk_us, bI, c_1], by first | rfl | simp [bI, upA_n, upA_s, upA_upA, upA_self, upd_self, upd_upd, pk_us, bI, c_1]⟩) hlocks dX2_isFull_15
  · skip
    refine lv_iconst (v := 1) hx hb dX2_isFull_10 (by decide) ?_
    refine lv_goto (tgt := 15) hx hb dX2_isFull_11 (by decide) ?_
    exact rRetZ hx hb hr hw (by decide) (by exact ⟨by first | rfl | simp [bI, bI, c_1] | simp [bI, upA_n, upA_s, upA_upA, upA_self, upd_self, upd_upd, pk_us, bI, c_1], by first | rfl | simp [bI, upA_n, upA_s, upA_upA, upA_self, upd_self, upd_upd, pk_us, bI, c_1]⟩) hlocks dX2_isFull_15

def rmX2_note : Room := ({ frames := 0, cells := 0, slots := 0, locals := 0 } : Room)
set_option maxHeartbeats 4000000 in
set_option maxRecDepth 100000 in
theorem kX2_note (l : Launch) (G : Gx) (hG : gOk G) (hF : Full G) (σ : St) (z : Nat) (hz : σ 20 2 = nI z) (hz5 : z < 512) (x y : Int32)  : CtV l yX2_note wsX2_note rmX2_note G σ [.ref (gad G 20), .int x, .int y] (fun σ' => σ' = upA (upA (upA σ 21 (upd (σ 21) z x)) 22 (upd (σ 22) z y)) 20 (upd (σ 20) 2 (nI (z + 1)))) := by
  refine bgMet (cc := cX2_note) (maxL := 3) (ret := none) (own := RX2) (by decide) rfl rfl hG (Nat.le_of_ble_eq_true rfl) rfl ?_
  intro p e s m args below meth c ls Bd hl
  obtain ⟨hx, hb, hr, hml, hts, hown, hlocks, fx, hw⟩ := Bd
  have hl : lv_has ls 3 [(0, .ref (gad G 20)), (1, .int x), (2, .int y)] := hl
  have hin : ∀ w ∈ wsX20, w ∈ wsX2_note := by decide +kernel
  refine lv_aload_n hx hb dX2_note_0 rfl (lv_at hl 0 rfl) ?_
  refine rGet (v := .ref (gad G 21)) (C := RX2) (T := TX2) (N := 3) hx hb fx hown hts hin hw 20 (hF.1 20 (by decide)) rfl rfl 0 (by decide) (hts (.fieldLink RX2 9 "Leaguewheel$Passings" "kartRow" "[I") (by decide +kernel)) (fun _ h9 => h9) rfl dX2_note_1 ?_
  refine lv_aload_n hx hb dX2_note_4 rfl (lv_at hl 0 rfl) ?_
  refine rGet (v := .int (σ 20 2)) (C := RX2) (T := TX2) (N := 3) hx hb fx hown hts hin hw 20 (hF.1 20 (by decide)) rfl rfl 2 (by decide) (hts (.fieldLink RX2 18 "Leaguewheel$Passings" "count" "I") (by decide +kernel)) (fun _ h9 => h9) rfl dX2_note_5 ?_
  refine lv_rep0 (x := (σ 20 2)) (y := nI z) (by exact hz) ?_
  refine lv_iload_n hx hb dX2_note_8 rfl (lv_at hl 1 rfl) ?_
  refine rAst (x := x) hx hb fx hw 21 (hF.1 21 (by decide)) hF.2.1 (fun _ => rfl) z rfl (by omega) (by decide) dX2_note_9 (fun H locs hw => ?_)
  obtain ⟨σ_1, eσ_1⟩ : ∃ w9, w9 = upA σ 21 (upd (σ 21) z x) := ⟨_, rfl⟩
  rw [← eσ_1] at hw
  refine lv_aload_n hx hb dX2_note_10 rfl (lv_at hl 0 rfl) ?_
  refine rGet (v := .ref (gad G 22)) (C := RX2) (T := TX2) (N := 3) hx hb fx hown hts hin hw 20 (hF.1 20 (by decide)) rfl rfl 1 (by decide) (hts (.fieldLink RX2 15 "Leaguewheel$Passings" "gateRow" "[I") (by decide +kernel)) (fun _ h9 => h9) rfl dX2_note_11 ?_
  refine lv_aload_n hx hb dX2_note_14 rfl (lv_at hl 0 rfl) ?_
  refine rGet (v := .int (σ_1 20 2)) (C := RX2) (T := TX2) (N := 3) hx hb fx hown hts hin hw 20 (hF.1 20 (by decide)) rfl rfl 2 (by decide) (hts (.fieldLink RX2 18 "Leaguewheel$Passings" "count" "I") (by decide +kernel)) (fun _ h9 => h9) rfl dX2_note_15 ?_
  refine lv_rep0 (x := (σ_1 20 2)) (y := nI z) (by subst_vars; rw [upA_n (by decide)]; exact hz) ?_
  refine lv_iload_n hx hb dX2_note_18 rfl (lv_at hl 2 rfl) ?_
  refine rAst (x := y) hx hb fx hw 22 (hF.1 22 (by decide)) hF.2.1 (fun _ => rfl) z rfl (by omega) (by decide) dX2_note_19 (fun H locs hw => ?_)
  obtain ⟨σ_2, eσ_2⟩ : ∃ w9, w9 = upA σ_1 22 (upd (σ_1 22) z y) := ⟨_, rfl⟩
  rw [← eσ_2] at hw
  refine lv_aload_n hx hb dX2_note_20 rfl (lv_at hl 0 rfl) ?_
  refine lv_dup hx hb dX2_note_21 rfl ?_
  refine rGet (v := .int (σ_2 20 2)) (C := RX2) (T := TX2) (N := 3) hx hb fx hown hts hin hw 20 (hF.1 20 (by decide)) rfl rfl 2 (by decide) (hts (.fieldLink RX2 18 "Leaguewheel$Passings" "count" "I") (by decide +kernel)) (fun _ h9 => h9) rfl dX2_note_22 ?_
  refine lv_rep0 (x := (σ_2 20 2)) (y := nI z) (by subst_vars; rw [upA_n (by decide), upA_n (by decide)]; exact hz) ?_
  refine lv_iconst (v := 1) hx hb dX2_note_25 (by decide) ?_
  refine lv_rep0 (x := 1) (y := nI 1) rfl ?_
  refine lv_iadd hx hb dX2_note_26 ?_
  refine lv_rep0 (x := ((nI z) + (nI 1))) (y := nI (z + 1)) (nI_add _ _) ?_
  refine rPut (v := (nI (z + 1))) (ty := .int) (C := RX2) (T := TX2) (N := 3) hx hb fx hown hts hin tyX2 tyX2_ok nmX2 hw 20 (hF.1 20 (by decide)) rfl rfl 2 (by decide) (hts (.fieldLink RX2 18 "Leaguewheel$Passings" "count" "I") (by decide +kernel)) (fun _ h9 => h9) rfl (by decide +kernel) rfl rfl (Nat.le_of_ble_eq_true rfl) rfl dX2_note_27 (fun H locs hw => ?_)
  obtain ⟨σ_3, eσ_3⟩ : ∃ w9, w9 = upA σ_2 20 (upd (σ_2 20) 2 (nI (z + 1))) := ⟨_, rfl⟩
  rw [← eσ_3] at hw
  subst eσ_3
  subst eσ_2
  subst eσ_1
  exact rRetV hx hb hr hw (by first | rfl | simp [bI, upA_n, upA_s, upA_upA, upA_self, upd_self, upd_upd, pk_us, bI]) hlocks dX2_note_30

def rmX2_count : Room := ({ frames := 0, cells := 0, slots := 0, locals := 0 } : Room)
set_option maxHeartbeats 4000000 in
set_option maxRecDepth 100000 in
theorem kX2_count (l : Launch) (G : Gx) (hG : gOk G) (hF : Full G) (σ : St)  : CtI l yX2_count wsX2_count rmX2_count G σ [.ref (gad G 20)] (fun r σ' => r = σ 20 2 ∧ σ' = σ) := by
  refine bgMet (cc := cX2_count) (maxL := 1) (ret := (some .int)) (own := RX2) (by decide) rfl rfl hG (Nat.le_of_ble_eq_true rfl) rfl ?_
  intro p e s m args below meth c ls Bd hl
  obtain ⟨hx, hb, hr, hml, hts, hown, hlocks, fx, hw⟩ := Bd
  have hl : lv_has ls 1 [(0, .ref (gad G 20))] := hl
  have hin : ∀ w ∈ wsX20, w ∈ wsX2_count := by decide +kernel
  refine lv_aload_n hx hb dX2_count_0 rfl (lv_at hl 0 rfl) ?_
  refine rGet (v := .int (σ 20 2)) (C := RX2) (T := TX2) (N := 3) hx hb fx hown hts hin hw 20 (hF.1 20 (by decide)) rfl rfl 2 (by decide) (hts (.fieldLink RX2 18 "Leaguewheel$Passings" "count" "I") (by decide +kernel)) (fun _ h9 => h9) rfl dX2_count_1 ?_
  exact rRetI hx hb hr hw (by exact ⟨by first | rfl | simp [bI, bI] | simp [bI, upA_n, upA_s, upA_upA, upA_self, upd_self, upd_upd, pk_us, bI], by first | rfl | simp [bI, upA_n, upA_s, upA_upA, upA_self, upd_self, upd_upd, pk_us, bI]⟩) hlocks dX2_count_4

def rmX2_kartAt : Room := ({ frames := 0, cells := 0, slots := 0, locals := 0 } : Room)
set_option maxHeartbeats 4000000 in
set_option maxRecDepth 100000 in
theorem kX2_kartAt (l : Launch) (G : Gx) (hG : gOk G) (hF : Full G) (σ : St) (i : Nat) (hi : i < 512)  : CtI l yX2_kartAt wsX2_kartAt rmX2_kartAt G σ [.ref (gad G 20), .int (nI i)] (fun r σ' => r = σ 21 i ∧ σ' = σ) := by
  refine bgMet (cc := cX2_kartAt) (maxL := 2) (ret := (some .int)) (own := RX2) (by decide) rfl rfl hG (Nat.le_of_ble_eq_true rfl) rfl ?_
  intro p e s m args below meth c ls Bd hl
  obtain ⟨hx, hb, hr, hml, hts, hown, hlocks, fx, hw⟩ := Bd
  have hl : lv_has ls 2 [(0, .ref (gad G 20)), (1, .int (nI i))] := hl
  have hin : ∀ w ∈ wsX20, w ∈ wsX2_kartAt := by decide +kernel
  refine lv_aload_n hx hb dX2_kartAt_0 rfl (lv_at hl 0 rfl) ?_
  refine rGet (v := .ref (gad G 21)) (C := RX2) (T := TX2) (N := 3) hx hb fx hown hts hin hw 20 (hF.1 20 (by decide)) rfl rfl 0 (by decide) (hts (.fieldLink RX2 9 "Leaguewheel$Passings" "kartRow" "[I") (by decide +kernel)) (fun _ h9 => h9) rfl dX2_kartAt_1 ?_
  refine lv_iload_n hx hb dX2_kartAt_4 rfl (lv_at hl 1 rfl) ?_
  refine rAld hx hb fx hw 21 (hF.1 21 (by decide)) hF.2.1 (fun _ => rfl) i rfl (by omega) (by decide) dX2_kartAt_5 ?_
  exact rRetI hx hb hr hw (by exact ⟨by first | rfl | simp [bI, bI] | simp [bI, upA_n, upA_s, upA_upA, upA_self, upd_self, upd_upd, pk_us, bI], by first | rfl | simp [bI, upA_n, upA_s, upA_upA, upA_self, upd_self, upd_upd, pk_us, bI]⟩) hlocks dX2_kartAt_6

def rmX2_gateAt : Room := ({ frames := 0, cells := 0, slots := 0, locals := 0 } : Room)
set_option maxHeartbeats 4000000 in
set_option maxRecDepth 100000 in
theorem kX2_gateAt (l : Launch) (G : Gx) (hG : gOk G) (hF : Full G) (σ : St) (i : Nat) (hi : i < 512)  : CtI l yX2_gateAt wsX2_gateAt rmX2_gateAt G σ [.ref (gad G 20), .int (nI i)] (fun r σ' => r = σ 22 i ∧ σ' = σ) := by
  refine bgMet (cc := cX2_gateAt) (maxL := 2) (ret := (some .int)) (own := RX2) (by decide) rfl rfl hG (Nat.le_of_ble_eq_true rfl) rfl ?_
  intro p e s m args below meth c ls Bd hl
  obtain ⟨hx, hb, hr, hml, hts, hown, hlocks, fx, hw⟩ := Bd
  have hl : lv_has ls 2 [(0, .ref (gad G 20)), (1, .int (nI i))] := hl
  have hin : ∀ w ∈ wsX20, w ∈ wsX2_gateAt := by decide +kernel
  refine lv_aload_n hx hb dX2_gateAt_0 rfl (lv_at hl 0 rfl) ?_
  refine rGet (v := .ref (gad G 22)) (C := RX2) (T := TX2) (N := 3) hx hb fx hown hts hin hw 20 (hF.1 20 (by decide)) rfl rfl 1 (by decide) (hts (.fieldLink RX2 15 "Leaguewheel$Passings" "gateRow" "[I") (by decide +kernel)) (fun _ h9 => h9) rfl dX2_gateAt_1 ?_
  refine lv_iload_n hx hb dX2_gateAt_4 rfl (lv_at hl 1 rfl) ?_
  refine rAld hx hb fx hw 22 (hF.1 22 (by decide)) hF.2.1 (fun _ => rfl) i rfl (by omega) (by decide) dX2_gateAt_5 ?_
  exact rRetI hx hb hr hw (by exact ⟨by first | rfl | simp [bI, bI] | simp [bI, upA_n, upA_s, upA_upA, upA_self, upd_self, upd_upd, pk_us, bI], by first | rfl | simp [bI, upA_n, upA_s, upA_upA, upA_self, upd_self, upd_upd, pk_us, bI]⟩) hlocks dX2_gateAt_6

def rmX1_clear : Room := ({ frames := 0, cells := 0, slots := 0, locals := 0 } : Room)
set_option maxHeartbeats 4000000 in
set_option maxRecDepth 100000 in
theorem kX1_clear (l : Launch) (G : Gx) (hG : gOk G) (hF : ItG G) (σ : St)  : CtV l yX1_clear wsX1_clear rmX1_clear G σ [.ref (gad G 23)] (fun σ' => σ' = clS σ 6) := by
  refine bgMet (cc := cX1_clear) (maxL := 2) (ret := none) (own := RX1) (by decide) rfl rfl hG (Nat.le_of_ble_eq_true rfl) rfl ?_
  intro p e s m args below meth c ls Bd hl
  obtain ⟨hx, hb, hr, hml, hts, hown, hlocks, fx, hw⟩ := Bd
  have hl : lv_has ls 2 [(0, .ref (gad G 23))] := hl
  have hin : ∀ w ∈ wsX10, w ∈ wsX1_clear := by decide +kernel
  refine lv_iconst (v := 0) hx hb dX1_clear_0 (by decide) ?_
  refine lv_istore_n (lv' := [(1, .int 0), (0, .ref (gad G 23))]) hx hb dX1_clear_1 rfl hl (by decide) rfl (fun ls hl => ?_)
  have lab_2 : ∀ (n9 : Nat), ∀ (i : Nat), 6 - i < n9 → i ≤ 6 → ∀ (H : Heap) (locs : List Loc) (ls : Array Slot), Wd G s (clS σ i) H locs → lv_has ls 2 [(0, .ref (gad G 23)), (1, .int (nI i))] → W p l e rmX1_clear s m args below meth c H locs 0 0 (MQ below (va_Qv (fun σ' => σ' = clS σ 6) (BW G) (gA G)) args s 0 0 (gA G)) (F0 m 2 ls []) := by
    intro n9
    induction n9 with
    | zero => intro i hn9; exact absurd hn9 (Nat.not_lt_zero _)
    | succ n9 ih2 =>
      intro i hn9 h2_0 H locs ls hw hl
      obtain ⟨σ_1, eσ_1⟩ : ∃ w9, w9 = clS σ i := ⟨_, rfl⟩
      rw [← eσ_1] at hw
      refine lv_iload_n hx hb dX1_clear_2 rfl (lv_at hl 1 rfl) ?_
      refine lv_bipush (v := 6) hx hb dX1_clear_3 (by decide) ?_
      refine lv_rep0 (x := 6) (y := nI 6) rfl ?_
      refine lv_icmp_ge (tgt := 35) hx hb dX1_clear_5 (by decide) (fun c_2 => ?_) (fun c_2 => ?_)
      · skip
        have c_2 : 6 ≤ i := (nI_leI (by omega) (by omega)).mp c_2
        subst eσ_1
        exact rRetV hx hb hr hw (by rw [show 6 = i by omega]) hlocks dX1_clear_35
      · skip
        have c_2 : ¬ 6 ≤ i := fun h9 => c_2 ((nI_leI (by omega) (by omega)).mpr h9)
        refine lv_aload_n hx hb dX1_clear_8 rfl (lv_at hl 0 rfl) ?_
        refine rGet (v := .ref (gad G 24)) (C := RX1) (T := TX1) (N := 4) hx hb fx hown hts hin hw 23 (hF.1 23 (by decide)) rfl rfl 0 (by decide) (hts (.fieldLink RX1 9 "Leaguewheel$Items" "itemRow" "[I") (by decide +kernel)) (fun _ h9 => h9) rfl dX1_clear_9 ?_
        refine lv_iload_n hx hb dX1_clear_12 rfl (lv_at hl 1 rfl) ?_
        refine lv_iconst (v := (-1)) hx hb dX1_clear_13 (by decide) ?_
        refine rAst (x := (-1)) hx hb fx hw 24 (hF.1 24 (by decide)) hF.2.1 (fun _ => rfl) i rfl (by omega) (by decide) dX1_clear_14 (fun H locs hw => ?_)
        obtain ⟨σ_3, eσ_3⟩ : ∃ w9, w9 = upA σ_1 24 (upd (σ_1 24) i (-1)) := ⟨_, rfl⟩
        rw [← eσ_3] at hw
        refine lv_aload_n hx hb dX1_clear_15 rfl (lv_at hl 0 rfl) ?_
        refine rGet (v := .ref (gad G 25)) (C := RX1) (T := TX1) (N := 4) hx hb fx hown hts hin hw 23 (hF.1 23 (by decide)) rfl rfl 1 (by decide) (hts (.fieldLink RX1 15 "Leaguewheel$Items" "shieldRow" "[Z") (by decide +kernel)) (fun _ h9 => h9) rfl dX1_clear_16 ?_
        refine lv_iload_n hx hb dX1_clear_19 rfl (lv_at hl 1 rfl) ?_
        refine lv_iconst (v := 0) hx hb dX1_clear_20 (by decide) ?_
        refine rZst (x := 0) hx hb fx hw 25 (hF.1 25 (by decide)) hF.2.2.1 (fun _ => rfl) i rfl (by omega) (by decide) (by decide) dX1_clear_21 (fun H locs hw => ?_)
        obtain ⟨σ_4, eσ_4⟩ : ∃ w9, w9 = upA σ_3 25 (upd (σ_3 25) i 0) := ⟨_, rfl⟩
        rw [← eσ_4] at hw
        refine lv_aload_n hx hb dX1_clear_22 rfl (lv_at hl 0 rfl) ?_
        refine rGet (v := .ref (gad G 26)) (C := RX1) (T := TX1) (N := 4) hx hb fx hown hts hin hw 23 (hF.1 23 (by decide)) rfl rfl 2 (by decide) (hts (.fieldLink RX1 19 "Leaguewheel$Items" "awakeRow" "[I") (by decide +kernel)) (fun _ h9 => h9) rfl dX1_clear_23 ?_
        refine lv_iload_n hx hb dX1_clear_26 rfl (lv_at hl 1 rfl) ?_
        refine lv_iconst (v := 0) hx hb dX1_clear_27 (by decide) ?_
        refine rAst (x := 0) hx hb fx hw 26 (hF.1 26 (by decide)) hF.2.1 (fun _ => rfl) i rfl (by omega) (by decide) dX1_clear_28 (fun H locs hw => ?_)
        obtain ⟨σ_5, eσ_5⟩ : ∃ w9, w9 = upA σ_4 26 (upd (σ_4 26) i 0) := ⟨_, rfl⟩
        rw [← eσ_5] at hw
        refine lv_iinc (v := (nI (i + 1))) (lv' := [(1, .int (nI (i + 1))), (0, .ref (gad G 23))]) hx hb dX1_clear_29 hl (k := 1) rfl (nI_1 _) (by decide) rfl (fun ls hl => ?_)
        refine lv_goto (tgt := 2) hx hb dX1_clear_32 (by decide) ?_
        have q_6 : σ_5 = clS σ (i + 1) := by subst eσ_5 eσ_4 eσ_3 eσ_1; exact clS_s σ i _ _ _ rfl rfl rfl
        rw [q_6] at hw
        exact ih2 (i + 1) (by omega) (by omega) _ _ _ hw (lv_c (lv_at hl 1 rfl) (lv_c (lv_at hl 0 rfl) (lv_c0 hl)))
  have q_7 : 0 = (nI 0) := by first | rfl | (simp)
  have q_8 : σ = clS σ 0 := by unfold clS; rw [clrK_0, clrK_0, clrK_0, upA_self, upA_self, upA_self]
  rw [q_8] at hw
  exact lab_2 (6 - 0 + 1) 0 (by omega) (by omega) _ _ _ hw (lv_c (lv_at hl 1 rfl) (lv_c (lv_atq hl 0 rfl q_7) (lv_c0 hl)))

def rmX1_setNumber : Room := ({ frames := 0, cells := 0, slots := 0, locals := 0 } : Room)
set_option maxHeartbeats 4000000 in
set_option maxRecDepth 100000 in
theorem kX1_setNumber (l : Launch) (G : Gx) (hG : gOk G) (hF : Full G) (σ : St) (x : Int32)  : CtV l yX1_setNumber wsX1_setNumber rmX1_setNumber G σ [.ref (gad G 23), .int x] (fun σ' => σ' = upA σ 23 (upd (σ 23) 3 x)) := by
  refine bgMet (cc := cX1_setNumber) (maxL := 2) (ret := none) (own := RX1) (by decide) rfl rfl hG (Nat.le_of_ble_eq_true rfl) rfl ?_
  intro p e s m args below meth c ls Bd hl
  obtain ⟨hx, hb, hr, hml, hts, hown, hlocks, fx, hw⟩ := Bd
  have hl : lv_has ls 2 [(0, .ref (gad G 23)), (1, .int x)] := hl
  have hin : ∀ w ∈ wsX10, w ∈ wsX1_setNumber := by decide +kernel
  refine lv_aload_n hx hb dX1_setNumber_0 rfl (lv_at hl 0 rfl) ?_
  refine lv_iload_n hx hb dX1_setNumber_1 rfl (lv_at hl 1 rfl) ?_
  refine rPut (v := x) (ty := .int) (C := RX1) (T := TX1) (N := 4) hx hb fx hown hts hin tyX1 tyX1_ok nmX1 hw 23 (hF.1 23 (by decide)) rfl rfl 3 (by decide) (hts (.fieldLink RX1 22 "Leaguewheel$Items" "number" "I") (by decide +kernel)) (fun _ h9 => h9) rfl (by decide +kernel) rfl rfl (Nat.le_of_ble_eq_true rfl) rfl dX1_setNumber_2 (fun H locs hw => ?_)
  obtain ⟨σ_1, eσ_1⟩ : ∃ w9, w9 = upA σ 23 (upd (σ 23) 3 x) := ⟨_, rfl⟩
  rw [← eσ_1] at hw
  subst eσ_1
  exact rRetV hx hb hr hw (by first | rfl | simp [bI, upA_n, upA_s, upA_upA, upA_self, upd_self, upd_upd, pk_us, bI]) hlocks dX1_setNumber_5

def rmX1_heldBy : Room := ({ frames := 0, cells := 0, slots := 0, locals := 0 } : Room)
set_option maxHeartbeats 4000000 in
set_option maxRecDepth 100000 in
theorem kX1_heldBy (l : Launch) (G : Gx) (hG : gOk G) (hF : Full G) (σ : St) (k : Nat) (hk : k < 6)  : CtI l yX1_heldBy wsX1_heldBy rmX1_heldBy G σ [.ref (gad G 23), .int (nI k)] (fun r σ' => r = σ 24 k ∧ σ' = σ) := by
  refine bgMet (cc := cX1_heldBy) (maxL := 2) (ret := (some .int)) (own := RX1) (by decide) rfl rfl hG (Nat.le_of_ble_eq_true rfl) rfl ?_
  intro p e s m args below meth c ls Bd hl
  obtain ⟨hx, hb, hr, hml, hts, hown, hlocks, fx, hw⟩ := Bd
  have hl : lv_has ls 2 [(0, .ref (gad G 23)), (1, .int (nI k))] := hl
  have hin : ∀ w ∈ wsX10, w ∈ wsX1_heldBy := by decide +kernel
  refine lv_aload_n hx hb dX1_heldBy_0 rfl (lv_at hl 0 rfl) ?_
  refine rGet (v := .ref (gad G 24)) (C := RX1) (T := TX1) (N := 4) hx hb fx hown hts hin hw 23 (hF.1 23 (by decide)) rfl rfl 0 (by decide) (hts (.fieldLink RX1 9 "Leaguewheel$Items" "itemRow" "[I") (by decide +kernel)) (fun _ h9 => h9) rfl dX1_heldBy_1 ?_
  refine lv_iload_n hx hb dX1_heldBy_4 rfl (lv_at hl 1 rfl) ?_
  refine rAld hx hb fx hw 24 (hF.1 24 (by decide)) hF.2.1 (fun _ => rfl) k rfl (by omega) (by decide) dX1_heldBy_5 ?_
  exact rRetI hx hb hr hw (by exact ⟨by first | rfl | simp [bI, bI] | simp [bI, upA_n, upA_s, upA_upA, upA_self, upd_self, upd_upd, pk_us, bI], by first | rfl | simp [bI, upA_n, upA_s, upA_upA, upA_self, upd_self, upd_upd, pk_us, bI]⟩) hlocks dX1_heldBy_6

def rmX1_takeFrom : Room := ({ frames := 0, cells := 0, slots := 0, locals := 0 } : Room)
set_option maxHeartbeats 4000000 in
set_option maxRecDepth 100000 in
theorem kX1_takeFrom (l : Launch) (G : Gx) (hG : gOk G) (hF : Full G) (σ : St) (k : Nat) (hk : k < 6)  : CtV l yX1_takeFrom wsX1_takeFrom rmX1_takeFrom G σ [.ref (gad G 23), .int (nI k)] (fun σ' => σ' = upA σ 24 (upd (σ 24) k (-1))) := by
  refine bgMet (cc := cX1_takeFrom) (maxL := 2) (ret := none) (own := RX1) (by decide) rfl rfl hG (Nat.le_of_ble_eq_true rfl) rfl ?_
  intro p e s m args below meth c ls Bd hl
  obtain ⟨hx, hb, hr, hml, hts, hown, hlocks, fx, hw⟩ := Bd
  have hl : lv_has ls 2 [(0, .ref (gad G 23)), (1, .int (nI k))] := hl
  have hin : ∀ w ∈ wsX10, w ∈ wsX1_takeFrom := by decide +kernel
  refine lv_aload_n hx hb dX1_takeFrom_0 rfl (lv_at hl 0 rfl) ?_
  refine rGet (v := .ref (gad G 24)) (C := RX1) (T := TX1) (N := 4) hx hb fx hown hts hin hw 23 (hF.1 23 (by decide)) rfl rfl 0 (by decide) (hts (.fieldLink RX1 9 "Leaguewheel$Items" "itemRow" "[I") (by decide +kernel)) (fun _ h9 => h9) rfl dX1_takeFrom_1 ?_
  refine lv_iload_n hx hb dX1_takeFrom_4 rfl (lv_at hl 1 rfl) ?_
  refine lv_iconst (v := (-1)) hx hb dX1_takeFrom_5 (by decide) ?_
  refine rAst (x := (-1)) hx hb fx hw 24 (hF.1 24 (by decide)) hF.2.1 (fun _ => rfl) k rfl (by omega) (by decide) dX1_takeFrom_6 (fun H locs hw => ?_)
  obtain ⟨σ_1, eσ_1⟩ : ∃ w9, w9 = upA σ 24 (upd (σ 24) k (-1)) := ⟨_, rfl⟩
  rw [← eσ_1] at hw
  subst eσ_1
  exact rRetV hx hb hr hw (by first | rfl | simp [bI, upA_n, upA_s, upA_upA, upA_self, upd_self, upd_upd, pk_us, bI]) hlocks dX1_takeFrom_7

def rmX1_itemAt : Room := ({ frames := 0, cells := 0, slots := 0, locals := 0 } : Room)
set_option maxHeartbeats 4000000 in
set_option maxRecDepth 100000 in
theorem kX1_itemAt (l : Launch) (G : Gx) (hG : gOk G) (hF : Full G) (σ : St) (w d : Nat) (hm : w < 6) (hd : d < 4)  : CtI l yX1_itemAt wsX1_itemAt rmX1_itemAt G σ [.int (nI w), .int (nI d)] (fun r σ' => r = itA w d ∧ σ' = σ) := by
  refine bgMet (cc := cX1_itemAt) (maxL := 2) (ret := (some .int)) (own := RX1) (by decide) rfl rfl hG (Nat.le_of_ble_eq_true rfl) rfl ?_
  intro p e s m args below meth c ls Bd hl
  obtain ⟨hx, hb, hr, hml, hts, hown, hlocks, fx, hw⟩ := Bd
  have hl : lv_has ls 2 [(0, .int (nI w)), (1, .int (nI d))] := hl
  refine lv_iload_n hx hb dX1_itemAt_0 rfl (lv_at hl 0 rfl) ?_
  refine lv_if_ne (tgt := 10) hx hb dX1_itemAt_1 (by decide) (fun c_1 => ?_) (fun c_1 => ?_)
  · skip
    have c_1 : ¬ w = 0 := n0_net (by omega) c_1
    refine lv_iload_n hx hb dX1_itemAt_10 rfl (lv_at hl 0 rfl) ?_
    refine lv_iconst (v := 2) hx hb dX1_itemAt_11 (by decide) ?_
    refine lv_rep0 (x := 2) (y := nI 2) rfl ?_
    refine lv_icmp_gt (tgt := 23) hx hb dX1_itemAt_12 (by decide) (fun c_2 => ?_) (fun c_2 => ?_)
    · skip
      have c_2 : 2 < w := (nI_ltI (by omega) (by omega)).mp c_2
      refine rSts hx hb hw (fx.2.2.2 hF.2.2.2.2).1.2.2.1 hown (hts (.fieldLink RX1 40 "Leaguewheel$Items" "FOR_OTHERS" "[I") (by decide +kernel)) (fun _ h9 => h9) dX1_itemAt_23 (fun t_3 ht_3 => ?_)
      refine lv_iload_n hx hb dX1_itemAt_26 rfl (lv_at hl 1 rfl) ?_
      refine rStl hx hb hw ht_3 d rfl (by omega) (by decide) dX1_itemAt_27 ?_
      exact rRetI hx hb hr hw (by exact ⟨by unfold itA; (first | (rw [if_pos (by omega)]) | (rw [if_neg (by omega), if_pos (by omega)]) | (rw [if_neg (by omega), if_neg (by omega)])), rfl⟩) hlocks dX1_itemAt_28
    · skip
      have c_2 : ¬ 2 < w := fun h9 => c_2 ((nI_ltI (by omega) (by omega)).mpr h9)
      refine rSts hx hb hw (fx.2.2.2 hF.2.2.2.2).1.2.1 hown (hts (.fieldLink RX1 37 "Leaguewheel$Items" "FOR_MIDDLE" "[I") (by decide +kernel)) (fun _ h9 => h9) dX1_itemAt_15 (fun t_4 ht_4 => ?_)
      refine lv_iload_n hx hb dX1_itemAt_18 rfl (lv_at hl 1 rfl) ?_
      refine rStl hx hb hw ht_4 d rfl (by omega) (by decide) dX1_itemAt_19 ?_
      refine lv_goto (tgt := 28) hx hb dX1_itemAt_20 (by decide) ?_
      exact rRetI hx hb hr hw (by exact ⟨by unfold itA; (first | (rw [if_pos (by omega)]) | (rw [if_neg (by omega), if_pos (by omega)]) | (rw [if_neg (by omega), if_neg (by omega)])), rfl⟩) hlocks dX1_itemAt_28
  · skip
    have c_1 : w = 0 := n0_nef (by omega) c_1
    refine rSts hx hb hw (fx.2.2.2 hF.2.2.2.2).1.1 hown (hts (.fieldLink RX1 34 "Leaguewheel$Items" "FOR_FIRST" "[I") (by decide +kernel)) (fun _ h9 => h9) dX1_itemAt_4 (fun t_5 ht_5 => ?_)
    refine lv_iload_n hx hb dX1_itemAt_7 rfl (lv_at hl 1 rfl) ?_
    refine rStl hx hb hw ht_5 d rfl (by omega) (by decide) dX1_itemAt_8 ?_
    exact rRetI hx hb hr hw (by exact ⟨by unfold itA; (first | (rw [if_pos (by omega)]) | (rw [if_neg (by omega), if_pos (by omega)]) | (rw [if_neg (by omega), if_neg (by omega)])), rfl⟩) hlocks dX1_itemAt_9

def rmX1_drawFor : Room := ({ frames := 1, cells := 0, slots := 0, locals := 21 } : Room)
set_option maxHeartbeats 4000000 in
set_option maxRecDepth 100000 in
theorem kX1_drawFor (l : Launch) (G : Gx) (hG : gOk G) (hF : Full G) (σ : St) (k : Nat) (hk : k < 6) (w : Nat) (hm : w < 6)  : CtI l yX1_drawFor wsX1_drawFor rmX1_drawFor G σ [.ref (gad G 23), .int (nI k), .int (nI w)] (fun r σ' => r = itA w (dD (nxA (σ 23 3))) ∧ σ' = upA (upA σ 23 (upd (σ 23) 3 (nxA (σ 23 3)))) 24 (upd (σ 24) k (itA w (dD (nxA (σ 23 3)))))) := by
  refine bgMet (cc := cX1_drawFor) (maxL := 4) (ret := (some .int)) (own := RX1) (by decide) rfl rfl hG (Nat.le_of_ble_eq_true rfl) rfl ?_
  intro p e s m args below meth c ls Bd hl
  obtain ⟨hx, hb, hr, hml, hts, hown, hlocks, fx, hw⟩ := Bd
  have hl : lv_has ls 4 [(0, .ref (gad G 23)), (1, .int (nI k)), (2, .int (nI w))] := hl
  have hin : ∀ w ∈ wsX10, w ∈ wsX1_drawFor := by decide +kernel
  refine lv_aload_n hx hb dX1_drawFor_0 rfl (lv_at hl 0 rfl) ?_
  refine lv_aload_n hx hb dX1_drawFor_1 rfl (lv_at hl 0 rfl) ?_
  refine rGet (v := .int (σ 23 3)) (C := RX1) (T := TX1) (N := 4) hx hb fx hown hts hin hw 23 (hF.1 23 (by decide)) rfl rfl 3 (by decide) (hts (.fieldLink RX1 22 "Leaguewheel$Items" "number" "I") (by decide +kernel)) (fun _ h9 => h9) rfl dX1_drawFor_2 ?_
  refine lv_ldc (v := 1103515245) hx hb hown (hts (.constant RX1 29 (1103515245)) (by decide +kernel)) dX1_drawFor_5 ?_
  refine lv_imul hx hb dX1_drawFor_7 ?_
  refine lv_sipush (v := 12345) hx hb dX1_drawFor_8 (by decide) ?_
  refine lv_iadd hx hb dX1_drawFor_11 ?_
  refine lv_rep0 (x := (((σ 23 3) * 1103515245) + 12345)) (y := (nxA (σ 23 3))) (by rfl) ?_
  refine rPut (v := (nxA (σ 23 3))) (ty := .int) (C := RX1) (T := TX1) (N := 4) hx hb fx hown hts hin tyX1 tyX1_ok nmX1 hw 23 (hF.1 23 (by decide)) rfl rfl 3 (by decide) (hts (.fieldLink RX1 22 "Leaguewheel$Items" "number" "I") (by decide +kernel)) (fun _ h9 => h9) rfl (by decide +kernel) rfl rfl (Nat.le_of_ble_eq_true rfl) rfl dX1_drawFor_12 (fun H locs hw => ?_)
  obtain ⟨σ_1, eσ_1⟩ : ∃ w9, w9 = upA σ 23 (upd (σ 23) 3 (nxA (σ 23 3))) := ⟨_, rfl⟩
  rw [← eσ_1] at hw
  refine lv_aload_n hx hb dX1_drawFor_15 rfl (lv_at hl 0 rfl) ?_
  refine rGet (v := .int (σ_1 23 3)) (C := RX1) (T := TX1) (N := 4) hx hb fx hown hts hin hw 23 (hF.1 23 (by decide)) rfl rfl 3 (by decide) (hts (.fieldLink RX1 22 "Leaguewheel$Items" "number" "I") (by decide +kernel)) (fun _ h9 => h9) rfl dX1_drawFor_16 ?_
  refine lv_rep0 (x := (σ_1 23 3)) (y := (nxA (σ 23 3))) (by subst_vars; rw [upA_s]; exact pk_us) ?_
  refine lv_bipush (v := 16) hx hb dX1_drawFor_19 (by decide) ?_
  refine lv_iushr (v := ((nxA (σ 23 3)).toUInt32 >>> (Int32.toUInt32 16 &&& Int32.toUInt32 31)).toInt32) hx hb dX1_drawFor_21 rfl ?_
  refine lv_iconst (v := 3) hx hb dX1_drawFor_22 (by decide) ?_
  refine lv_iand hx hb dX1_drawFor_23 ?_
  refine lv_rep0 (x := ((((nxA (σ 23 3)).toUInt32 >>> (Int32.toUInt32 16 &&& Int32.toUInt32 31)).toInt32) &&& 3)) (y := nI (dD (nxA (σ 23 3)))) (by exact pk_and _ 2 (by decide)) ?_
  have hd9 := dD_lt (nxA (σ 23 3))
  refine lv_istore_n (lv' := [(3, .int (nI (dD (nxA (σ 23 3))))), (0, .ref (gad G 23)), (1, .int (nI k)), (2, .int (nI w))]) hx hb dX1_drawFor_24 rfl hl (by decide) rfl (fun ls hl => ?_)
  refine lv_aload_n hx hb dX1_drawFor_25 rfl (lv_at hl 1 rfl) ?_
  refine rGet (v := .ref (gad G 24)) (C := RX1) (T := TX1) (N := 4) hx hb fx hown hts hin hw 23 (hF.1 23 (by decide)) rfl rfl 0 (by decide) (hts (.fieldLink RX1 9 "Leaguewheel$Items" "itemRow" "[I") (by decide +kernel)) (fun _ h9 => h9) rfl dX1_drawFor_26 ?_
  refine lv_iload_n hx hb dX1_drawFor_29 rfl (lv_at hl 2 rfl) ?_
  refine lv_iload_n hx hb dX1_drawFor_30 rfl (lv_at hl 3 rfl) ?_
  refine lv_iload_n hx hb dX1_drawFor_31 rfl (lv_at hl 0 rfl) ?_
  refine rCallS (As := [.int (nI w), .int (nI (dD (nxA (σ 23 3))))]) (rest := [.int (nI k), .ref (gad G 24)]) ⟨hx, hb, hml, hown, hts⟩ fx hw (kX1_itemAt l G hG hF σ_1 w ((dD (nxA (σ 23 3)))) (by omega) (by omega)) (va_cwS 2 hts gX1_drawFor_X1_itemAt rfl rfl rfl (by decide +kernel) ⟨Nat.le_of_ble_eq_true rfl, Nat.le_of_ble_eq_true rfl⟩) rfl hl.1 rfl (Nat.le_of_ble_eq_true rfl) dX1_drawFor_32 ⟨Nat.zero_le _, Nat.zero_le _⟩ ?_
  intro r_3 σ_4 H locs p_2 hw
  obtain ⟨er_3, eσ_4⟩ := p_2
  have er_3 := er_3.symm; subst er_3
  have eσ_4 := eσ_4.symm; subst eσ_4
  refine rAst (x := (itA w (dD (nxA (σ 23 3))))) hx hb fx hw 24 (hF.1 24 (by decide)) hF.2.1 (fun _ => rfl) k rfl (by omega) (by decide) dX1_drawFor_35 (fun H locs hw => ?_)
  obtain ⟨σ_5, eσ_5⟩ : ∃ w9, w9 = upA σ_1 24 (upd (σ_1 24) k (itA w (dD (nxA (σ 23 3))))) := ⟨_, rfl⟩
  rw [← eσ_5] at hw
  refine lv_aload_n hx hb dX1_drawFor_36 rfl (lv_at hl 1 rfl) ?_
  refine rGet (v := .ref (gad G 24)) (C := RX1) (T := TX1) (N := 4) hx hb fx hown hts hin hw 23 (hF.1 23 (by decide)) rfl rfl 0 (by decide) (hts (.fieldLink RX1 9 "Leaguewheel$Items" "itemRow" "[I") (by decide +kernel)) (fun _ h9 => h9) rfl dX1_drawFor_37 ?_
  refine lv_iload_n hx hb dX1_drawFor_40 rfl (lv_at hl 2 rfl) ?_
  refine rAld hx hb fx hw 24 (hF.1 24 (by decide)) hF.2.1 (fun _ => rfl) k rfl (by omega) (by decide) dX1_drawFor_41 ?_
  subst eσ_5
  subst eσ_1
  exact rRetI hx hb hr hw (by exact ⟨by first | rfl | simp [bI, bI] | simp [bI, upA_n, upA_s, upA_upA, upA_self, upd_self, upd_upd, pk_us, bI], by first | rfl | simp [bI, upA_n, upA_s, upA_upA, upA_self, upd_self, upd_upd, pk_us, bI]⟩) hlocks dX1_drawFor_42

def rmX1_ticksStunned : Room := ({ frames := 1, cells := 0, slots := 0, locals := 13 } : Room)
set_option maxHeartbeats 4000000 in
set_option maxRecDepth 100000 in
theorem kX1_ticksStunned (l : Launch) (G : Gx) (hG : gOk G) (hF : Full G) (σ : St) (k : Nat) (hk : k < 6) (u : Int32)  : CtI l yX1_ticksStunned wsX1_ticksStunned rmX1_ticksStunned G σ [.ref (gad G 23), .int (nI k), .int u] (fun r σ' => r = (if σ 26 k - u < 0 then 0 else σ 26 k - u) ∧ σ' = σ) := by
  refine bgMet (cc := cX1_ticksStunned) (maxL := 3) (ret := (some .int)) (own := RX1) (by decide) rfl rfl hG (Nat.le_of_ble_eq_true rfl) rfl ?_
  intro p e s m args below meth c ls Bd hl
  obtain ⟨hx, hb, hr, hml, hts, hown, hlocks, fx, hw⟩ := Bd
  have hl : lv_has ls 3 [(0, .ref (gad G 23)), (1, .int (nI k)), (2, .int u)] := hl
  have hin : ∀ w ∈ wsX10, w ∈ wsX1_ticksStunned := by decide +kernel
  refine lv_aload_n hx hb dX1_ticksStunned_0 rfl (lv_at hl 0 rfl) ?_
  refine rGet (v := .ref (gad G 26)) (C := RX1) (T := TX1) (N := 4) hx hb fx hown hts hin hw 23 (hF.1 23 (by decide)) rfl rfl 2 (by decide) (hts (.fieldLink RX1 19 "Leaguewheel$Items" "awakeRow" "[I") (by decide +kernel)) (fun _ h9 => h9) rfl dX1_ticksStunned_1 ?_
  refine lv_iload_n hx hb dX1_ticksStunned_4 rfl (lv_at hl 1 rfl) ?_
  refine rAld hx hb fx hw 26 (hF.1 26 (by decide)) hF.2.1 (fun _ => rfl) k rfl (by omega) (by decide) dX1_ticksStunned_5 ?_
  refine lv_iload_n hx hb dX1_ticksStunned_6 rfl (lv_at hl 2 rfl) ?_
  refine lv_isub hx hb dX1_ticksStunned_7 ?_
  refine lv_iconst (v := 0) hx hb dX1_ticksStunned_8 (by decide) ?_
  refine va_mmax hx hb (by rw [hml]; exact hl.1.symm) hown (hts (.methodLink RX1 43 Lib.Math.max.name) (by decide +kernel)) (hts (.static Lib.Math.max.name) (by decide +kernel)) (hts (.initialized "java/lang/Math") (by decide +kernel)) (hts (.code Lib.Math.max.name Lib.Math.max.code 2 (some .int)) (by decide +kernel)) (Nat.le_of_ble_eq_true rfl) (Nat.le_of_ble_eq_true rfl) (Nat.zero_le _) (Nat.zero_le _) dX1_ticksStunned_9 ?_
  exact rRetI hx hb hr hw (by exact ⟨by first | rfl | simp [bI, bI] | simp [bI, upA_n, upA_s, upA_upA, upA_self, upd_self, upd_upd, pk_us, bI], by first | rfl | simp [bI, upA_n, upA_s, upA_upA, upA_self, upd_self, upd_upd, pk_us, bI]⟩) hlocks dX1_ticksStunned_12

def rmX1_wake : Room := ({ frames := 0, cells := 0, slots := 0, locals := 0 } : Room)
set_option maxHeartbeats 4000000 in
set_option maxRecDepth 100000 in
theorem kX1_wake (l : Launch) (G : Gx) (hG : gOk G) (hF : Full G) (σ : St) (k : Nat) (hk : k < 6)  : CtV l yX1_wake wsX1_wake rmX1_wake G σ [.ref (gad G 23), .int (nI k)] (fun σ' => σ' = upA σ 26 (upd (σ 26) k 0)) := by
  refine bgMet (cc := cX1_wake) (maxL := 2) (ret := none) (own := RX1) (by decide) rfl rfl hG (Nat.le_of_ble_eq_true rfl) rfl ?_
  intro p e s m args below meth c ls Bd hl
  obtain ⟨hx, hb, hr, hml, hts, hown, hlocks, fx, hw⟩ := Bd
  have hl : lv_has ls 2 [(0, .ref (gad G 23)), (1, .int (nI k))] := hl
  have hin : ∀ w ∈ wsX10, w ∈ wsX1_wake := by decide +kernel
  refine lv_aload_n hx hb dX1_wake_0 rfl (lv_at hl 0 rfl) ?_
  refine rGet (v := .ref (gad G 26)) (C := RX1) (T := TX1) (N := 4) hx hb fx hown hts hin hw 23 (hF.1 23 (by decide)) rfl rfl 2 (by decide) (hts (.fieldLink RX1 19 "Leaguewheel$Items" "awakeRow" "[I") (by decide +kernel)) (fun _ h9 => h9) rfl dX1_wake_1 ?_
  refine lv_iload_n hx hb dX1_wake_4 rfl (lv_at hl 1 rfl) ?_
  refine lv_iconst (v := 0) hx hb dX1_wake_5 (by decide) ?_
  refine rAst (x := 0) hx hb fx hw 26 (hF.1 26 (by decide)) hF.2.1 (fun _ => rfl) k rfl (by omega) (by decide) dX1_wake_6 (fun H locs hw => ?_)
  obtain ⟨σ_1, eσ_1⟩ : ∃ w9, w9 = upA σ 26 (upd (σ 26) k 0) := ⟨_, rfl⟩
  rw [← eσ_1] at hw
  subst eσ_1
  exact rRetV hx hb hr hw (by first | rfl | simp [bI, upA_n, upA_s, upA_upA, upA_self, upd_self, upd_upd, pk_us, bI]) hlocks dX1_wake_7

def rmX1_shield : Room := ({ frames := 0, cells := 0, slots := 0, locals := 0 } : Room)
set_option maxHeartbeats 4000000 in
set_option maxRecDepth 100000 in
theorem kX1_shield (l : Launch) (G : Gx) (hG : gOk G) (hF : Full G) (σ : St) (k : Nat) (hk : k < 6)  : CtV l yX1_shield wsX1_shield rmX1_shield G σ [.ref (gad G 23), .int (nI k)] (fun σ' => σ' = upA σ 25 (upd (σ 25) k 1)) := by
  refine bgMet (cc := cX1_shield) (maxL := 2) (ret := none) (own := RX1) (by decide) rfl rfl hG (Nat.le_of_ble_eq_true rfl) rfl ?_
  intro p e s m args below meth c ls Bd hl
  obtain ⟨hx, hb, hr, hml, hts, hown, hlocks, fx, hw⟩ := Bd
  have hl : lv_has ls 2 [(0, .ref (gad G 23)), (1, .int (nI k))] := hl
  have hin : ∀ w ∈ wsX10, w ∈ wsX1_shield := by decide +kernel
  refine lv_aload_n hx hb dX1_shield_0 rfl (lv_at hl 0 rfl) ?_
  refine rGet (v := .ref (gad G 25)) (C := RX1) (T := TX1) (N := 4) hx hb fx hown hts hin hw 23 (hF.1 23 (by decide)) rfl rfl 1 (by decide) (hts (.fieldLink RX1 15 "Leaguewheel$Items" "shieldRow" "[Z") (by decide +kernel)) (fun _ h9 => h9) rfl dX1_shield_1 ?_
  refine lv_iload_n hx hb dX1_shield_4 rfl (lv_at hl 1 rfl) ?_
  refine lv_iconst (v := 1) hx hb dX1_shield_5 (by decide) ?_
  refine rZst (x := 1) hx hb fx hw 25 (hF.1 25 (by decide)) hF.2.2.1 (fun _ => rfl) k rfl (by omega) (by decide) (by decide) dX1_shield_6 (fun H locs hw => ?_)
  obtain ⟨σ_1, eσ_1⟩ : ∃ w9, w9 = upA σ 25 (upd (σ 25) k 1) := ⟨_, rfl⟩
  rw [← eσ_1] at hw
  subst eσ_1
  exact rRetV hx hb hr hw (by first | rfl | simp [bI, upA_n, upA_s, upA_upA, upA_self, upd_self, upd_upd, pk_us, bI]) hlocks dX1_shield_7

def rmX1_hit : Room := ({ frames := 1, cells := 0, slots := 0, locals := 15 } : Room)
set_option maxHeartbeats 4000000 in
set_option maxRecDepth 100000 in
theorem kX1_hit (l : Launch) (G : Gx) (hG : gOk G) (hF : Full G) (σ : St) (k : Nat) (hk : k < 6) (u : Int32)  : CtI l yX1_hit wsX1_hit rmX1_hit G σ [.ref (gad G 23), .int (nI k), .int u] (fun r σ' => r = bI (decide (σ 25 k = 0)) ∧ σ' = htS σ k u) := by
  refine bgMet (cc := cX1_hit) (maxL := 3) (ret := (some .boolean)) (own := RX1) (by decide) rfl rfl hG (Nat.le_of_ble_eq_true rfl) rfl ?_
  intro p e s m args below meth c ls Bd hl
  obtain ⟨hx, hb, hr, hml, hts, hown, hlocks, fx, hw⟩ := Bd
  have hl : lv_has ls 3 [(0, .ref (gad G 23)), (1, .int (nI k)), (2, .int u)] := hl
  have hin : ∀ w ∈ wsX10, w ∈ wsX1_hit := by decide +kernel
  refine lv_aload_n hx hb dX1_hit_0 rfl (lv_at hl 0 rfl) ?_
  refine rGet (v := .ref (gad G 25)) (C := RX1) (T := TX1) (N := 4) hx hb fx hown hts hin hw 23 (hF.1 23 (by decide)) rfl rfl 1 (by decide) (hts (.fieldLink RX1 15 "Leaguewheel$Items" "shieldRow" "[Z") (by decide +kernel)) (fun _ h9 => h9) rfl dX1_hit_1 ?_
  refine lv_iload_n hx hb dX1_hit_4 rfl (lv_at hl 1 rfl) ?_
  refine rZld hx hb fx hw 25 (hF.1 25 (by decide)) hF.2.2.1 (fun _ => rfl) k rfl (by omega) (by decide) dX1_hit_5 ?_
  refine lv_if_eq (tgt := 18) hx hb dX1_hit_6 (by decide) (fun c_1 => ?_) (fun c_1 => ?_)
  · skip
    refine lv_aload_n hx hb dX1_hit_18 rfl (lv_at hl 0 rfl) ?_
    refine rGet (v := .ref (gad G 26)) (C := RX1) (T := TX1) (N := 4) hx hb fx hown hts hin hw 23 (hF.1 23 (by decide)) rfl rfl 2 (by decide) (hts (.fieldLink RX1 19 "Leaguewheel$Items" "awakeRow" "[I") (by decide +kernel)) (fun _ h9 => h9) rfl dX1_hit_19 ?_
    refine lv_iload_n hx hb dX1_hit_22 rfl (lv_at hl 1 rfl) ?_
    refine lv_aload_n hx hb dX1_hit_23 rfl (lv_at hl 0 rfl) ?_
    refine rGet (v := .ref (gad G 26)) (C := RX1) (T := TX1) (N := 4) hx hb fx hown hts hin hw 23 (hF.1 23 (by decide)) rfl rfl 2 (by decide) (hts (.fieldLink RX1 19 "Leaguewheel$Items" "awakeRow" "[I") (by decide +kernel)) (fun _ h9 => h9) rfl dX1_hit_24 ?_
    refine lv_iload_n hx hb dX1_hit_27 rfl (lv_at hl 1 rfl) ?_
    refine rAld hx hb fx hw 26 (hF.1 26 (by decide)) hF.2.1 (fun _ => rfl) k rfl (by omega) (by decide) dX1_hit_28 ?_
    refine lv_iload_n hx hb dX1_hit_29 rfl (lv_at hl 2 rfl) ?_
    refine va_mmax hx hb (by rw [hml]; exact hl.1.symm) hown (hts (.methodLink RX1 43 Lib.Math.max.name) (by decide +kernel)) (hts (.static Lib.Math.max.name) (by decide +kernel)) (hts (.initialized "java/lang/Math") (by decide +kernel)) (hts (.code Lib.Math.max.name Lib.Math.max.code 2 (some .int)) (by decide +kernel)) (Nat.le_of_ble_eq_true rfl) (Nat.le_of_ble_eq_true rfl) (Nat.zero_le _) (Nat.zero_le _) dX1_hit_30 ?_
    refine rAst (x := (if (σ 26 k) < u then u else (σ 26 k))) hx hb fx hw 26 (hF.1 26 (by decide)) hF.2.1 (fun _ => rfl) k rfl (by omega) (by decide) dX1_hit_33 (fun H locs hw => ?_)
    obtain ⟨σ_2, eσ_2⟩ : ∃ w9, w9 = upA σ 26 (upd (σ 26) k (if (σ 26 k) < u then u else (σ 26 k))) := ⟨_, rfl⟩
    rw [← eσ_2] at hw
    refine lv_iconst (v := 1) hx hb dX1_hit_34 (by decide) ?_
    subst eσ_2
    exact rRetZ hx hb hr hw (by decide) (by exact ⟨by first | rfl | simp [htS, bI, c_1] | simp [htS, upA_n, upA_s, upA_upA, upA_self, upd_self, upd_upd, pk_us, bI, c_1], by first | rfl | simp [htS, upA_n, upA_s, upA_upA, upA_self, upd_self, upd_upd, pk_us, bI, c_1]⟩) hlocks dX1_hit_35
  · skip
    refine lv_aload_n hx hb dX1_hit_9 rfl (lv_at hl 0 rfl) ?_
    refine rGet (v := .ref (gad G 25)) (C := RX1) (T := TX1) (N := 4) hx hb fx hown hts hin hw 23 (hF.1 23 (by decide)) rfl rfl 1 (by decide) (hts (.fieldLink RX1 15 "Leaguewheel$Items" "shieldRow" "[Z") (by decide +kernel)) (fun _ h9 => h9) rfl dX1_hit_10 ?_
    refine lv_iload_n hx hb dX1_hit_13 rfl (lv_at hl 1 rfl) ?_
    refine lv_iconst (v := 0) hx hb dX1_hit_14 (by decide) ?_
    refine rZst (x := 0) hx hb fx hw 25 (hF.1 25 (by decide)) hF.2.2.1 (fun _ => rfl) k rfl (by omega) (by decide) (by decide) dX1_hit_15 (fun H locs hw => ?_)
    obtain ⟨σ_3, eσ_3⟩ : ∃ w9, w9 = upA σ 25 (upd (σ 25) k 0) := ⟨_, rfl⟩
    rw [← eσ_3] at hw
    refine lv_iconst (v := 0) hx hb dX1_hit_16 (by decide) ?_
    subst eσ_3
    exact rRetZ hx hb hr hw (by decide) (by exact ⟨by first | rfl | simp [htS, bI, c_1] | simp [htS, upA_n, upA_s, upA_upA, upA_self, upd_self, upd_upd, pk_us, bI, c_1], by first | rfl | simp [htS, upA_n, upA_s, upA_upA, upA_self, upd_self, upd_upd, pk_us, bI, c_1]⟩) hlocks dX1_hit_17

def rmX0_endedRaces : Room := ({ frames := 0, cells := 0, slots := 0, locals := 0 } : Room)
set_option maxHeartbeats 4000000 in
set_option maxRecDepth 100000 in
theorem kX0_endedRaces (l : Launch) (G : Gx) (hG : gOk G) (hF : Full G) (σ : St)  : CtI l yX0_endedRaces wsX0_endedRaces rmX0_endedRaces G σ [.ref (gad G 27)] (fun r σ' => r = σ 27 2 ∧ σ' = σ) := by
  refine bgMet (cc := cX0_endedRaces) (maxL := 1) (ret := (some .int)) (own := RX0) (by decide) rfl rfl hG (Nat.le_of_ble_eq_true rfl) rfl ?_
  intro p e s m args below meth c ls Bd hl
  obtain ⟨hx, hb, hr, hml, hts, hown, hlocks, fx, hw⟩ := Bd
  have hl : lv_has ls 1 [(0, .ref (gad G 27))] := hl
  have hin : ∀ w ∈ wsX00, w ∈ wsX0_endedRaces := by decide +kernel
  refine lv_aload_n hx hb dX0_endedRaces_0 rfl (lv_at hl 0 rfl) ?_
  refine rGet (v := .int (σ 27 2)) (C := RX0) (T := TX0) (N := 4) hx hb fx hown hts hin hw 27 (hF.1 27 (by decide)) rfl rfl 2 (by decide) (hts (.fieldLink RX0 18 "Leaguewheel$Cup" "ended" "I") (by decide +kernel)) (fun _ h9 => h9) rfl dX0_endedRaces_1 ?_
  exact rRetI hx hb hr hw (by exact ⟨by first | rfl | simp [bI, bI] | simp [bI, upA_n, upA_s, upA_upA, upA_self, upd_self, upd_upd, pk_us, bI], by first | rfl | simp [bI, upA_n, upA_s, upA_upA, upA_self, upd_self, upd_upd, pk_us, bI]⟩) hlocks dX0_endedRaces_4

def rmX0_noteResult : Room := ({ frames := 0, cells := 0, slots := 0, locals := 0 } : Room)
set_option maxHeartbeats 4000000 in
set_option maxRecDepth 100000 in
theorem kX0_noteResult (l : Launch) (G : Gx) (hG : gOk G) (hF : Full G) (σ : St) (e9 : Nat) (he : σ 27 2 = nI e9) (he8 : e9 < 8) (k : Nat) (hk : k < 6) (q : Nat) (hq : q < 6) (b : Bool)  : CtV l yX0_noteResult wsX0_noteResult rmX0_noteResult G σ [.ref (gad G 27), .int (nI k), .int (nI q), .int (bI b)] (fun σ' => σ' = upA (upA σ 28 (upd (σ 28) (e9 * 6 + k) (nI q))) 29 (upd (σ 29) (e9 * 6 + k) (if b = true then tPts q else 0))) := by
  refine bgMet (cc := cX0_noteResult) (maxL := 4) (ret := none) (own := RX0) (by decide) rfl rfl hG (Nat.le_of_ble_eq_true rfl) rfl ?_
  intro p e s m args below meth c ls Bd hl
  obtain ⟨hx, hb, hr, hml, hts, hown, hlocks, fx, hw⟩ := Bd
  have hl : lv_has ls 4 [(0, .ref (gad G 27)), (1, .int (nI k)), (2, .int (nI q)), (3, .int (bI b))] := hl
  have hin : ∀ w ∈ wsX00, w ∈ wsX0_noteResult := by decide +kernel
  refine lv_aload_n hx hb dX0_noteResult_0 rfl (lv_at hl 0 rfl) ?_
  refine rGet (v := .ref (gad G 28)) (C := RX0) (T := TX0) (N := 4) hx hb fx hown hts hin hw 27 (hF.1 27 (by decide)) rfl rfl 0 (by decide) (hts (.fieldLink RX0 9 "Leaguewheel$Cup" "placeRow" "[I") (by decide +kernel)) (fun _ h9 => h9) rfl dX0_noteResult_1 ?_
  refine lv_aload_n hx hb dX0_noteResult_4 rfl (lv_at hl 0 rfl) ?_
  refine rGet (v := .int (σ 27 2)) (C := RX0) (T := TX0) (N := 4) hx hb fx hown hts hin hw 27 (hF.1 27 (by decide)) rfl rfl 2 (by decide) (hts (.fieldLink RX0 18 "Leaguewheel$Cup" "ended" "I") (by decide +kernel)) (fun _ h9 => h9) rfl dX0_noteResult_5 ?_
  refine lv_rep0 (x := (σ 27 2)) (y := nI e9) (by exact he) ?_
  refine lv_bipush (v := 6) hx hb dX0_noteResult_8 (by decide) ?_
  refine lv_rep0 (x := 6) (y := nI 6) rfl ?_
  refine lv_imul hx hb dX0_noteResult_10 ?_
  refine lv_rep0 (x := ((nI e9) * (nI 6))) (y := nI (e9 * 6)) (pk_mul _ _) ?_
  refine lv_iload_n hx hb dX0_noteResult_11 rfl (lv_at hl 1 rfl) ?_
  refine lv_iadd hx hb dX0_noteResult_12 ?_
  refine lv_rep0 (x := ((nI (e9 * 6)) + (nI k))) (y := nI ((e9 * 6) + k)) (nI_add _ _) ?_
  refine lv_iload_n hx hb dX0_noteResult_13 rfl (lv_at hl 2 rfl) ?_
  refine rAst (x := (nI q)) hx hb fx hw 28 (hF.1 28 (by decide)) hF.2.1 (fun _ => rfl) ((e9 * 6) + k) rfl (by omega) (by decide) dX0_noteResult_14 (fun H locs hw => ?_)
  obtain ⟨σ_1, eσ_1⟩ : ∃ w9, w9 = upA σ 28 (upd (σ 28) ((e9 * 6) + k) (nI q)) := ⟨_, rfl⟩
  rw [← eσ_1] at hw
  refine lv_aload_n hx hb dX0_noteResult_15 rfl (lv_at hl 0 rfl) ?_
  refine rGet (v := .ref (gad G 29)) (C := RX0) (T := TX0) (N := 4) hx hb fx hown hts hin hw 27 (hF.1 27 (by decide)) rfl rfl 1 (by decide) (hts (.fieldLink RX0 15 "Leaguewheel$Cup" "pointRow" "[I") (by decide +kernel)) (fun _ h9 => h9) rfl dX0_noteResult_16 ?_
  refine lv_aload_n hx hb dX0_noteResult_19 rfl (lv_at hl 0 rfl) ?_
  refine rGet (v := .int (σ_1 27 2)) (C := RX0) (T := TX0) (N := 4) hx hb fx hown hts hin hw 27 (hF.1 27 (by decide)) rfl rfl 2 (by decide) (hts (.fieldLink RX0 18 "Leaguewheel$Cup" "ended" "I") (by decide +kernel)) (fun _ h9 => h9) rfl dX0_noteResult_20 ?_
  refine lv_rep0 (x := (σ_1 27 2)) (y := nI e9) (by subst_vars; rw [upA_n (by decide)]; exact he) ?_
  refine lv_bipush (v := 6) hx hb dX0_noteResult_23 (by decide) ?_
  refine lv_rep0 (x := 6) (y := nI 6) rfl ?_
  refine lv_imul hx hb dX0_noteResult_25 ?_
  refine lv_rep0 (x := ((nI e9) * (nI 6))) (y := nI (e9 * 6)) (pk_mul _ _) ?_
  refine lv_iload_n hx hb dX0_noteResult_26 rfl (lv_at hl 1 rfl) ?_
  refine lv_iadd hx hb dX0_noteResult_27 ?_
  refine lv_rep0 (x := ((nI (e9 * 6)) + (nI k))) (y := nI ((e9 * 6) + k)) (nI_add _ _) ?_
  refine lv_iload_n hx hb dX0_noteResult_28 rfl (lv_at hl 3 rfl) ?_
  refine lv_b_eq (tgt := 40) hx hb dX0_noteResult_29 (by decide) (fun c_2 => ?_) (fun c_2 => ?_)
  · skip
    refine lv_iconst (v := 0) hx hb dX0_noteResult_40 (by decide) ?_
    refine rAst (x := 0) hx hb fx hw 29 (hF.1 29 (by decide)) hF.2.1 (fun _ => rfl) ((e9 * 6) + k) rfl (by omega) (by decide) dX0_noteResult_41 (fun H locs hw => ?_)
    obtain ⟨σ_3, eσ_3⟩ : ∃ w9, w9 = upA σ_1 29 (upd (σ_1 29) ((e9 * 6) + k) 0) := ⟨_, rfl⟩
    rw [← eσ_3] at hw
    subst eσ_3
    subst eσ_1
    exact rRetV hx hb hr hw (by first | rfl | simp [bI, upA_n, upA_s, upA_upA, upA_self, upd_self, upd_upd, pk_us, bI, c_2]) hlocks dX0_noteResult_42
  · skip
    refine rSts hx hb hw (fx.2.2.2 hF.2.2.2.2).1.2.2.2.1 hown (hts (.fieldLink RX0 25 "Leaguewheel$Cup" "POINTS_BY_PLACE" "[I") (by decide +kernel)) (fun _ h9 => h9) dX0_noteResult_32 (fun t_4 ht_4 => ?_)
    refine lv_iload_n hx hb dX0_noteResult_35 rfl (lv_at hl 2 rfl) ?_
    refine rStl hx hb hw ht_4 q rfl (by omega) (by decide) dX0_noteResult_36 ?_
    refine lv_goto (tgt := 41) hx hb dX0_noteResult_37 (by decide) ?_
    refine rAst (x := (tPts q)) hx hb fx hw 29 (hF.1 29 (by decide)) hF.2.1 (fun _ => rfl) ((e9 * 6) + k) rfl (by omega) (by decide) dX0_noteResult_41 (fun H locs hw => ?_)
    obtain ⟨σ_5, eσ_5⟩ : ∃ w9, w9 = upA σ_1 29 (upd (σ_1 29) ((e9 * 6) + k) (tPts q)) := ⟨_, rfl⟩
    rw [← eσ_5] at hw
    subst eσ_5
    subst eσ_1
    exact rRetV hx hb hr hw (by first | rfl | simp [bI, upA_n, upA_s, upA_upA, upA_self, upd_self, upd_upd, pk_us, bI, c_2]) hlocks dX0_noteResult_42

def rmX0_closeRace : Room := ({ frames := 0, cells := 0, slots := 0, locals := 0 } : Room)
set_option maxHeartbeats 4000000 in
set_option maxRecDepth 100000 in
theorem kX0_closeRace (l : Launch) (G : Gx) (hG : gOk G) (hF : Full G) (σ : St) (e9 : Nat) (he : σ 27 2 = nI e9)  : CtV l yX0_closeRace wsX0_closeRace rmX0_closeRace G σ [.ref (gad G 27)] (fun σ' => σ' = upA σ 27 (upd (σ 27) 2 (nI (e9 + 1)))) := by
  refine bgMet (cc := cX0_closeRace) (maxL := 1) (ret := none) (own := RX0) (by decide) rfl rfl hG (Nat.le_of_ble_eq_true rfl) rfl ?_
  intro p e s m args below meth c ls Bd hl
  obtain ⟨hx, hb, hr, hml, hts, hown, hlocks, fx, hw⟩ := Bd
  have hl : lv_has ls 1 [(0, .ref (gad G 27))] := hl
  have hin : ∀ w ∈ wsX00, w ∈ wsX0_closeRace := by decide +kernel
  refine lv_aload_n hx hb dX0_closeRace_0 rfl (lv_at hl 0 rfl) ?_
  refine lv_dup hx hb dX0_closeRace_1 rfl ?_
  refine rGet (v := .int (σ 27 2)) (C := RX0) (T := TX0) (N := 4) hx hb fx hown hts hin hw 27 (hF.1 27 (by decide)) rfl rfl 2 (by decide) (hts (.fieldLink RX0 18 "Leaguewheel$Cup" "ended" "I") (by decide +kernel)) (fun _ h9 => h9) rfl dX0_closeRace_2 ?_
  refine lv_rep0 (x := (σ 27 2)) (y := nI e9) (by exact he) ?_
  refine lv_iconst (v := 1) hx hb dX0_closeRace_5 (by decide) ?_
  refine lv_rep0 (x := 1) (y := nI 1) rfl ?_
  refine lv_iadd hx hb dX0_closeRace_6 ?_
  refine lv_rep0 (x := ((nI e9) + (nI 1))) (y := nI (e9 + 1)) (nI_add _ _) ?_
  refine rPut (v := (nI (e9 + 1))) (ty := .int) (C := RX0) (T := TX0) (N := 4) hx hb fx hown hts hin tyX0 tyX0_ok nmX0 hw 27 (hF.1 27 (by decide)) rfl rfl 2 (by decide) (hts (.fieldLink RX0 18 "Leaguewheel$Cup" "ended" "I") (by decide +kernel)) (fun _ h9 => h9) rfl (by decide +kernel) rfl rfl (Nat.le_of_ble_eq_true rfl) rfl dX0_closeRace_7 (fun H locs hw => ?_)
  obtain ⟨σ_1, eσ_1⟩ : ∃ w9, w9 = upA σ 27 (upd (σ 27) 2 (nI (e9 + 1))) := ⟨_, rfl⟩
  rw [← eσ_1] at hw
  subst eσ_1
  exact rRetV hx hb hr hw (by first | rfl | simp [bI, upA_n, upA_s, upA_upA, upA_self, upd_self, upd_upd, pk_us, bI]) hlocks dX0_closeRace_10

def rmX0_placeIn : Room := ({ frames := 0, cells := 0, slots := 0, locals := 0 } : Room)
set_option maxHeartbeats 4000000 in
set_option maxRecDepth 100000 in
theorem kX0_placeIn (l : Launch) (G : Gx) (hG : gOk G) (hF : Full G) (σ : St) (w : Nat) (hw8 : w < 8) (k : Nat) (hk : k < 6)  : CtI l yX0_placeIn wsX0_placeIn rmX0_placeIn G σ [.ref (gad G 27), .int (nI w), .int (nI k)] (fun r σ' => r = σ 28 (w * 6 + k) ∧ σ' = σ) := by
  refine bgMet (cc := cX0_placeIn) (maxL := 3) (ret := (some .int)) (own := RX0) (by decide) rfl rfl hG (Nat.le_of_ble_eq_true rfl) rfl ?_
  intro p e s m args below meth c ls Bd hl
  obtain ⟨hx, hb, hr, hml, hts, hown, hlocks, fx, hw⟩ := Bd
  have hl : lv_has ls 3 [(0, .ref (gad G 27)), (1, .int (nI w)), (2, .int (nI k))] := hl
  have hin : ∀ w ∈ wsX00, w ∈ wsX0_placeIn := by decide +kernel
  refine lv_aload_n hx hb dX0_placeIn_0 rfl (lv_at hl 0 rfl) ?_
  refine rGet (v := .ref (gad G 28)) (C := RX0) (T := TX0) (N := 4) hx hb fx hown hts hin hw 27 (hF.1 27 (by decide)) rfl rfl 0 (by decide) (hts (.fieldLink RX0 9 "Leaguewheel$Cup" "placeRow" "[I") (by decide +kernel)) (fun _ h9 => h9) rfl dX0_placeIn_1 ?_
  refine lv_iload_n hx hb dX0_placeIn_4 rfl (lv_at hl 1 rfl) ?_
  refine lv_bipush (v := 6) hx hb dX0_placeIn_5 (by decide) ?_
  refine lv_rep0 (x := 6) (y := nI 6) rfl ?_
  refine lv_imul hx hb dX0_placeIn_7 ?_
  refine lv_rep0 (x := ((nI w) * (nI 6))) (y := nI (w * 6)) (pk_mul _ _) ?_
  refine lv_iload_n hx hb dX0_placeIn_8 rfl (lv_at hl 2 rfl) ?_
  refine lv_iadd hx hb dX0_placeIn_9 ?_
  refine lv_rep0 (x := ((nI (w * 6)) + (nI k))) (y := nI ((w * 6) + k)) (nI_add _ _) ?_
  refine rAld hx hb fx hw 28 (hF.1 28 (by decide)) hF.2.1 (fun _ => rfl) ((w * 6) + k) rfl (by omega) (by decide) dX0_placeIn_10 ?_
  exact rRetI hx hb hr hw (by exact ⟨by first | rfl | simp [bI, bI] | simp [bI, upA_n, upA_s, upA_upA, upA_self, upd_self, upd_upd, pk_us, bI], by first | rfl | simp [bI, upA_n, upA_s, upA_upA, upA_self, upd_self, upd_upd, pk_us, bI]⟩) hlocks dX0_placeIn_11

def rmX0_changeDropped : Room := ({ frames := 0, cells := 0, slots := 0, locals := 0 } : Room)
set_option maxHeartbeats 4000000 in
set_option maxRecDepth 100000 in
theorem kX0_changeDropped (l : Launch) (G : Gx) (hG : gOk G) (hF : Full G) (σ : St) (x : Int32)  : CtI l yX0_changeDropped wsX0_changeDropped rmX0_changeDropped G σ [.ref (gad G 27), .int x] (fun r σ' => r = σ 27 3 ∧ σ' = upA σ 27 (upd (σ 27) 3 x)) := by
  refine bgMet (cc := cX0_changeDropped) (maxL := 3) (ret := (some .int)) (own := RX0) (by decide) rfl rfl hG (Nat.le_of_ble_eq_true rfl) rfl ?_
  intro p e s m args below meth c ls Bd hl
  obtain ⟨hx, hb, hr, hml, hts, hown, hlocks, fx, hw⟩ := Bd
  have hl : lv_has ls 3 [(0, .ref (gad G 27)), (1, .int x)] := hl
  have hin : ∀ w ∈ wsX00, w ∈ wsX0_changeDropped := by decide +kernel
  refine lv_aload_n hx hb dX0_changeDropped_0 rfl (lv_at hl 0 rfl) ?_
  refine rGet (v := .int (σ 27 3)) (C := RX0) (T := TX0) (N := 4) hx hb fx hown hts hin hw 27 (hF.1 27 (by decide)) rfl rfl 3 (by decide) (hts (.fieldLink RX0 22 "Leaguewheel$Cup" "dropped" "I") (by decide +kernel)) (fun _ h9 => h9) rfl dX0_changeDropped_1 ?_
  refine lv_istore_n (lv' := [(2, .int (σ 27 3)), (0, .ref (gad G 27)), (1, .int x)]) hx hb dX0_changeDropped_4 rfl hl (by decide) rfl (fun ls hl => ?_)
  refine lv_aload_n hx hb dX0_changeDropped_5 rfl (lv_at hl 1 rfl) ?_
  refine lv_iload_n hx hb dX0_changeDropped_6 rfl (lv_at hl 2 rfl) ?_
  refine rPut (v := x) (ty := .int) (C := RX0) (T := TX0) (N := 4) hx hb fx hown hts hin tyX0 tyX0_ok nmX0 hw 27 (hF.1 27 (by decide)) rfl rfl 3 (by decide) (hts (.fieldLink RX0 22 "Leaguewheel$Cup" "dropped" "I") (by decide +kernel)) (fun _ h9 => h9) rfl (by decide +kernel) rfl rfl (Nat.le_of_ble_eq_true rfl) rfl dX0_changeDropped_7 (fun H locs hw => ?_)
  obtain ⟨σ_1, eσ_1⟩ : ∃ w9, w9 = upA σ 27 (upd (σ 27) 3 x) := ⟨_, rfl⟩
  rw [← eσ_1] at hw
  refine lv_iload_n hx hb dX0_changeDropped_10 rfl (lv_at hl 0 rfl) ?_
  subst eσ_1
  exact rRetI hx hb hr hw (by exact ⟨by first | rfl | simp [bI, bI] | simp [bI, upA_n, upA_s, upA_upA, upA_self, upd_self, upd_upd, pk_us, bI], by first | rfl | simp [bI, upA_n, upA_s, upA_upA, upA_self, upd_self, upd_upd, pk_us, bI]⟩) hlocks dX0_changeDropped_11

def rmX0_countWorse : Room := ({ frames := 0, cells := 0, slots := 0, locals := 0 } : Room)
set_option maxHeartbeats 4000000 in
set_option maxRecDepth 100000 in
theorem kX0_countWorse (l : Launch) (G : Gx) (hG : gOk G) (hF : Full G) (σ : St) (nr : Nat) (hnr : nr < 8) (k : Nat) (hk : k < 6) (e9 : Nat) (he : σ 27 2 = nI e9) (he8 : e9 ≤ 8)  : CtI l yX0_countWorse wsX0_countWorse rmX0_countWorse G σ [.ref (gad G 27), .int (nI nr), .int (nI k)] (fun r σ' => r = nI (cntA (wrB (σ 29) k nr) e9) ∧ σ' = σ) := by
  refine bgMet (cc := cX0_countWorse) (maxL := 7) (ret := (some .int)) (own := RX0) (by decide) rfl rfl hG (Nat.le_of_ble_eq_true rfl) rfl ?_
  intro p e s m args below meth c ls Bd hl
  obtain ⟨hx, hb, hr, hml, hts, hown, hlocks, fx, hw⟩ := Bd
  have hl : lv_has ls 7 [(0, .ref (gad G 27)), (1, .int (nI nr)), (2, .int (nI k))] := hl
  have hin : ∀ w ∈ wsX00, w ∈ wsX0_countWorse := by decide +kernel
  refine lv_aload_n hx hb dX0_countWorse_0 rfl (lv_at hl 0 rfl) ?_
  refine rGet (v := .ref (gad G 29)) (C := RX0) (T := TX0) (N := 4) hx hb fx hown hts hin hw 27 (hF.1 27 (by decide)) rfl rfl 1 (by decide) (hts (.fieldLink RX0 15 "Leaguewheel$Cup" "pointRow" "[I") (by decide +kernel)) (fun _ h9 => h9) rfl dX0_countWorse_1 ?_
  refine lv_iload_n hx hb dX0_countWorse_4 rfl (lv_at hl 1 rfl) ?_
  refine lv_bipush (v := 6) hx hb dX0_countWorse_5 (by decide) ?_
  refine lv_rep0 (x := 6) (y := nI 6) rfl ?_
  refine lv_imul hx hb dX0_countWorse_7 ?_
  refine lv_rep0 (x := ((nI nr) * (nI 6))) (y := nI (nr * 6)) (pk_mul _ _) ?_
  refine lv_iload_n hx hb dX0_countWorse_8 rfl (lv_at hl 2 rfl) ?_
  refine lv_iadd hx hb dX0_countWorse_9 ?_
  refine lv_rep0 (x := ((nI (nr * 6)) + (nI k))) (y := nI ((nr * 6) + k)) (nI_add _ _) ?_
  refine rAld hx hb fx hw 29 (hF.1 29 (by decide)) hF.2.1 (fun _ => rfl) ((nr * 6) + k) rfl (by omega) (by decide) dX0_countWorse_10 ?_
  refine lv_istore_n (lv' := [(3, .int (σ 29 ((nr * 6) + k))), (0, .ref (gad G 27)), (1, .int (nI nr)), (2, .int (nI k))]) hx hb dX0_countWorse_11 rfl hl (by decide) rfl (fun ls hl => ?_)
  refine lv_iconst (v := 0) hx hb dX0_countWorse_12 (by decide) ?_
  refine lv_istore (lv' := [(4, .int 0), (3, .int (σ 29 ((nr * 6) + k))), (0, .ref (gad G 27)), (1, .int (nI nr)), (2, .int (nI k))]) hx hb dX0_countWorse_13 hl (by decide) rfl (fun ls hl => ?_)
  refine lv_iconst (v := 0) hx hb dX0_countWorse_15 (by decide) ?_
  refine lv_istore (lv' := [(5, .int 0), (4, .int 0), (3, .int (σ 29 ((nr * 6) + k))), (0, .ref (gad G 27)), (1, .int (nI nr)), (2, .int (nI k))]) hx hb dX0_countWorse_16 hl (by decide) rfl (fun ls hl => ?_)
  have lab_18 : ∀ (n9 : Nat), ∀ (i : Nat), e9 - i < n9 → i ≤ e9 → ∀ (H : Heap) (locs : List Loc) (ls : Array Slot), Wd G s σ H locs → lv_has ls 7 [(0, .ref (gad G 27)), (1, .int (nI nr)), (2, .int (nI k)), (3, .int (σ 29 (nr * 6 + k))), (4, .int (nI (cntA (wrB (σ 29) k nr) i))), (5, .int (nI i))] → W p l e rmX0_countWorse s m args below meth c H locs 0 0 (MQ below (va_Qi (fun r σ' => r = nI (cntA (wrB (σ 29) k nr) e9) ∧ σ' = σ) (BW G) (gA G)) args s 0 0 (gA G)) (F0 m 18 ls []) := by
    intro n9
    induction n9 with
    | zero => intro i hn9; exact absurd hn9 (Nat.not_lt_zero _)
    | succ n9 ih18 =>
      intro i hn9 h18_0 H locs ls hw hl
      refine lv_iload hx hb dX0_countWorse_18 (lv_at hl 5 rfl) ?_
      refine lv_aload_n hx hb dX0_countWorse_20 rfl (lv_at hl 0 rfl) ?_
      refine rGet (v := .int (σ 27 2)) (C := RX0) (T := TX0) (N := 4) hx hb fx hown hts hin hw 27 (hF.1 27 (by decide)) rfl rfl 2 (by decide) (hts (.fieldLink RX0 18 "Leaguewheel$Cup" "ended" "I") (by decide +kernel)) (fun _ h9 => h9) rfl dX0_countWorse_21 ?_
      refine lv_rep0 (x := (σ 27 2)) (y := nI e9) (by exact he) ?_
      refine lv_icmp_ge (tgt := 68) hx hb dX0_countWorse_24 (by decide) (fun c_1 => ?_) (fun c_1 => ?_)
      · skip
        have c_1 : e9 ≤ i := (nI_leI (by omega) (by omega)).mp c_1
        refine lv_iload hx hb dX0_countWorse_68 (lv_at hl 4 rfl) ?_
        exact rRetI hx hb hr hw (by exact ⟨by rw [show e9 = i by omega], rfl⟩) hlocks dX0_countWorse_70
      · skip
        have c_1 : ¬ e9 ≤ i := fun h9 => c_1 ((nI_leI (by omega) (by omega)).mpr h9)
        have lab_62 : ∀ (H : Heap) (locs : List Loc) (ls : Array Slot), Wd G s σ H locs → lv_has ls 7 [(0, .ref (gad G 27)), (1, .int (nI nr)), (2, .int (nI k)), (3, .int (σ 29 (nr * 6 + k))), (4, .int (nI (cntA (wrB (σ 29) k nr) (i + 1)))), (5, .int (nI i))] → W p l e rmX0_countWorse s m args below meth c H locs 0 0 (MQ below (va_Qi (fun r σ' => r = nI (cntA (wrB (σ 29) k nr) e9) ∧ σ' = σ) (BW G) (gA G)) args s 0 0 (gA G)) (F0 m 62 ls []) := by
          intro   H locs ls hw hl
          refine lv_iinc (v := (nI (i + 1))) (lv' := [(5, .int (nI (i + 1))), (0, .ref (gad G 27)), (1, .int (nI nr)), (2, .int (nI k)), (3, .int (σ 29 (nr * 6 + k))), (4, .int (nI (cntA (wrB (σ 29) k nr) (i + 1))))]) hx hb dX0_countWorse_62 hl (k := 5) rfl (nI_1 _) (by decide) rfl (fun ls hl => ?_)
          refine lv_goto (tgt := 18) hx hb dX0_countWorse_65 (by decide) ?_
          exact ih18 (i + 1) (by omega) (by omega) _ _ _ hw (lv_c (lv_at hl 1 rfl) (lv_c (lv_at hl 2 rfl) (lv_c (lv_at hl 3 rfl) (lv_c (lv_at hl 4 rfl) (lv_c (lv_at hl 5 rfl) (lv_c (lv_at hl 0 rfl) (lv_c0 hl)))))))
        refine lv_aload_n hx hb dX0_countWorse_27 rfl (lv_at hl 0 rfl) ?_
        refine rGet (v := .ref (gad G 29)) (C := RX0) (T := TX0) (N := 4) hx hb fx hown hts hin hw 27 (hF.1 27 (by decide)) rfl rfl 1 (by decide) (hts (.fieldLink RX0 15 "Leaguewheel$Cup" "pointRow" "[I") (by decide +kernel)) (fun _ h9 => h9) rfl dX0_countWorse_28 ?_
        refine lv_iload hx hb dX0_countWorse_31 (lv_at hl 5 rfl) ?_
        refine lv_bipush (v := 6) hx hb dX0_countWorse_33 (by decide) ?_
        refine lv_rep0 (x := 6) (y := nI 6) rfl ?_
        refine lv_imul hx hb dX0_countWorse_35 ?_
        refine lv_rep0 (x := ((nI i) * (nI 6))) (y := nI (i * 6)) (pk_mul _ _) ?_
        refine lv_iload_n hx hb dX0_countWorse_36 rfl (lv_at hl 2 rfl) ?_
        refine lv_iadd hx hb dX0_countWorse_37 ?_
        refine lv_rep0 (x := ((nI (i * 6)) + (nI k))) (y := nI ((i * 6) + k)) (nI_add _ _) ?_
        refine rAld hx hb fx hw 29 (hF.1 29 (by decide)) hF.2.1 (fun _ => rfl) ((i * 6) + k) rfl (by omega) (by decide) dX0_countWorse_38 ?_
        refine lv_istore (lv' := [(6, .int (σ 29 ((i * 6) + k))), (0, .ref (gad G 27)), (1, .int (nI nr)), (2, .int (nI k)), (3, .int (σ 29 (nr * 6 + k))), (4, .int (nI (cntA (wrB (σ 29) k nr) i))), (5, .int (nI i))]) hx hb dX0_countWorse_39 hl (by decide) rfl (fun ls hl => ?_)
        refine lv_iload hx hb dX0_countWorse_41 (lv_at hl 0 rfl) ?_
        refine lv_iload_n hx hb dX0_countWorse_43 rfl (lv_at hl 4 rfl) ?_
        refine lv_icmp_lt (tgt := 59) hx hb dX0_countWorse_44 (by decide) (fun c_2 => ?_) (fun c_2 => ?_)
        · skip
          refine lv_iinc (v := (nI ((cntA (wrB (σ 29) k nr) i) + 1))) (lv' := [(4, .int (nI ((cntA (wrB (σ 29) k nr) i) + 1))), (6, .int (σ 29 ((i * 6) + k))), (0, .ref (gad G 27)), (1, .int (nI nr)), (2, .int (nI k)), (3, .int (σ 29 (nr * 6 + k))), (5, .int (nI i))]) hx hb dX0_countWorse_59 hl (k := 5) rfl (nI_1 _) (by decide) rfl (fun ls hl => ?_)
          have q_3 : (nI ((cntA (wrB (σ 29) k nr) i) + 1)) = (nI (cntA (wrB (σ 29) k nr) (i + 1))) := by first | rfl | (simp [cntA, wrB, c_1, c_2])
          exact lab_62   _ _ _ hw (lv_c (lv_at hl 2 rfl) (lv_c (lv_at hl 3 rfl) (lv_c (lv_at hl 4 rfl) (lv_c (lv_at hl 5 rfl) (lv_c (lv_atq hl 0 rfl q_3) (lv_c (lv_at hl 6 rfl) (lv_c0 hl)))))))
        · skip
          refine lv_iload hx hb dX0_countWorse_47 (lv_at hl 0 rfl) ?_
          refine lv_iload_n hx hb dX0_countWorse_49 rfl (lv_at hl 4 rfl) ?_
          refine lv_icmp_ne (tgt := 62) hx hb dX0_countWorse_50 (by decide) (fun c_4 => ?_) (fun c_4 => ?_)
          · skip
            have q_5 : (nI (cntA (wrB (σ 29) k nr) i)) = (nI (cntA (wrB (σ 29) k nr) (i + 1))) := by first | rfl | (simp [cntA, wrB, c_1, c_2, c_4])
            exact lab_62   _ _ _ hw (lv_c (lv_at hl 1 rfl) (lv_c (lv_at hl 2 rfl) (lv_c (lv_at hl 3 rfl) (lv_c (lv_at hl 4 rfl) (lv_c (lv_atq hl 5 rfl q_5) (lv_c (lv_at hl 6 rfl) (lv_c0 hl)))))))
          · skip
            refine lv_iload hx hb dX0_countWorse_53 (lv_at hl 6 rfl) ?_
            refine lv_iload_n hx hb dX0_countWorse_55 rfl (lv_at hl 2 rfl) ?_
            refine lv_icmp_ge (tgt := 62) hx hb dX0_countWorse_56 (by decide) (fun c_6 => ?_) (fun c_6 => ?_)
            · skip
              have c_6 : nr ≤ i := (nI_leI (by omega) (by omega)).mp c_6
              have q_7 : (nI (cntA (wrB (σ 29) k nr) i)) = (nI (cntA (wrB (σ 29) k nr) (i + 1))) := by first | rfl | (simp [cntA, wrB, c_1, c_2, c_4, c_6])
              exact lab_62   _ _ _ hw (lv_c (lv_at hl 1 rfl) (lv_c (lv_at hl 2 rfl) (lv_c (lv_at hl 3 rfl) (lv_c (lv_at hl 4 rfl) (lv_c (lv_atq hl 5 rfl q_7) (lv_c (lv_at hl 6 rfl) (lv_c0 hl)))))))
            · skip
              have c_6 : ¬ nr ≤ i := fun h9 => c_6 ((nI_leI (by omega) (by omega)).mpr h9)
              refine lv_iinc (v := (nI ((cntA (wrB (σ 29) k nr) i) + 1))) (lv' := [(4, .int (nI ((cntA (wrB (σ 29) k nr) i) + 1))), (6, .int (σ 29 ((i * 6) + k))), (0, .ref (gad G 27)), (1, .int (nI nr)), (2, .int (nI k)), (3, .int (σ 29 (nr * 6 + k))), (5, .int (nI i))]) hx hb dX0_countWorse_59 hl (k := 5) rfl (nI_1 _) (by decide) rfl (fun ls hl => ?_)
              have q_8 : (nI ((cntA (wrB (σ 29) k nr) i) + 1)) = (nI (cntA (wrB (σ 29) k nr) (i + 1))) := by first | rfl | (simp [cntA, wrB, c_1, c_2, c_4, c_6])
              exact lab_62   _ _ _ hw (lv_c (lv_at hl 2 rfl) (lv_c (lv_at hl 3 rfl) (lv_c (lv_at hl 4 rfl) (lv_c (lv_at hl 5 rfl) (lv_c (lv_atq hl 0 rfl q_8) (lv_c (lv_at hl 6 rfl) (lv_c0 hl)))))))
  have q_9 : (σ 29 ((nr * 6) + k)) = (σ 29 (nr * 6 + k)) := by first | rfl | (simp)
  have q_10 : 0 = (nI (cntA (wrB (σ 29) k nr) 0)) := by first | rfl | (simp)
  have q_11 : 0 = (nI 0) := by first | rfl | (simp)
  exact lab_18 (e9 - 0 + 1) 0 (by omega) (by omega) _ _ _ hw (lv_c (lv_at hl 3 rfl) (lv_c (lv_at hl 4 rfl) (lv_c (lv_at hl 5 rfl) (lv_c (lv_atq hl 2 rfl q_9) (lv_c (lv_atq hl 1 rfl q_10) (lv_c (lv_atq hl 0 rfl q_11) (lv_c0 hl)))))))

def rmX0_pointsOf : Room := ({ frames := 1, cells := 0, slots := 0, locals := 26 } : Room)
set_option maxHeartbeats 4000000 in
set_option maxRecDepth 100000 in
theorem kX0_pointsOf (l : Launch) (G : Gx) (hG : gOk G) (hF : Full G) (σ : St) (k : Nat) (hk : k < 6) (e9 : Nat) (he : σ 27 2 = nI e9) (he8 : e9 ≤ 8)  : CtI l yX0_pointsOf wsX0_pointsOf rmX0_pointsOf G σ [.ref (gad G 27), .int (nI k)] (fun r σ' => r = sumA (σ 29) (σ 27 3) k e9 e9 ∧ σ' = σ) := by
  refine bgMet (cc := cX0_pointsOf) (maxL := 4) (ret := (some .int)) (own := RX0) (by decide) rfl rfl hG (Nat.le_of_ble_eq_true rfl) rfl ?_
  intro p e s m args below meth c ls Bd hl
  obtain ⟨hx, hb, hr, hml, hts, hown, hlocks, fx, hw⟩ := Bd
  have hl : lv_has ls 4 [(0, .ref (gad G 27)), (1, .int (nI k))] := hl
  have hin : ∀ w ∈ wsX00, w ∈ wsX0_pointsOf := by decide +kernel
  refine lv_iconst (v := 0) hx hb dX0_pointsOf_0 (by decide) ?_
  refine lv_istore_n (lv' := [(2, .int 0), (0, .ref (gad G 27)), (1, .int (nI k))]) hx hb dX0_pointsOf_1 rfl hl (by decide) rfl (fun ls hl => ?_)
  refine lv_iconst (v := 0) hx hb dX0_pointsOf_2 (by decide) ?_
  refine lv_istore_n (lv' := [(3, .int 0), (2, .int 0), (0, .ref (gad G 27)), (1, .int (nI k))]) hx hb dX0_pointsOf_3 rfl hl (by decide) rfl (fun ls hl => ?_)
  have lab_4 : ∀ (n9 : Nat), ∀ (i : Nat), e9 - i < n9 → i ≤ e9 → ∀ (H : Heap) (locs : List Loc) (ls : Array Slot), Wd G s σ H locs → lv_has ls 4 [(0, .ref (gad G 27)), (1, .int (nI k)), (2, .int (sumA (σ 29) (σ 27 3) k e9 i)), (3, .int (nI i))] → W p l e rmX0_pointsOf s m args below meth c H locs 0 0 (MQ below (va_Qi (fun r σ' => r = sumA (σ 29) (σ 27 3) k e9 e9 ∧ σ' = σ) (BW G) (gA G)) args s 0 0 (gA G)) (F0 m 4 ls []) := by
    intro n9
    induction n9 with
    | zero => intro i hn9; exact absurd hn9 (Nat.not_lt_zero _)
    | succ n9 ih4 =>
      intro i hn9 h4_0 H locs ls hw hl
      refine lv_iload_n hx hb dX0_pointsOf_4 rfl (lv_at hl 3 rfl) ?_
      refine lv_aload_n hx hb dX0_pointsOf_5 rfl (lv_at hl 0 rfl) ?_
      refine rGet (v := .int (σ 27 2)) (C := RX0) (T := TX0) (N := 4) hx hb fx hown hts hin hw 27 (hF.1 27 (by decide)) rfl rfl 2 (by decide) (hts (.fieldLink RX0 18 "Leaguewheel$Cup" "ended" "I") (by decide +kernel)) (fun _ h9 => h9) rfl dX0_pointsOf_6 ?_
      refine lv_rep0 (x := (σ 27 2)) (y := nI e9) (by exact he) ?_
      refine lv_icmp_ge (tgt := 45) hx hb dX0_pointsOf_9 (by decide) (fun c_1 => ?_) (fun c_1 => ?_)
      · skip
        have c_1 : e9 ≤ i := (nI_leI (by omega) (by omega)).mp c_1
        refine lv_iload_n hx hb dX0_pointsOf_45 rfl (lv_at hl 2 rfl) ?_
        exact rRetI hx hb hr hw (by exact ⟨by rw [show i = e9 by omega], rfl⟩) hlocks dX0_pointsOf_46
      · skip
        have c_1 : ¬ e9 ≤ i := fun h9 => c_1 ((nI_leI (by omega) (by omega)).mpr h9)
        refine lv_aload_n hx hb dX0_pointsOf_12 rfl (lv_at hl 0 rfl) ?_
        refine lv_iload_n hx hb dX0_pointsOf_13 rfl (lv_at hl 3 rfl) ?_
        refine lv_iload_n hx hb dX0_pointsOf_14 rfl (lv_at hl 1 rfl) ?_
        refine rCallI (C := RX0) (As := [.int (nI i), .int (nI k)]) (rest := []) ⟨hx, hb, hml, hown, hts⟩ fx hw (kX0_countWorse l G hG hF σ i (by omega) k (by omega) e9 he (by omega)) (cwV 2 hts gX0_pointsOf_X0_countWorse rfl rfl rfl (by decide +kernel) ⟨Nat.le_of_ble_eq_true rfl, Nat.le_of_ble_eq_true rfl⟩) (hF.1 27 (by decide)) rfl rfl rfl rfl hl.1 rfl (Nat.le_of_ble_eq_true rfl) dX0_pointsOf_15 ⟨Nat.zero_le _, Nat.zero_le _⟩ ?_
        intro r_3 σ_4 H locs p_2 hw
        obtain ⟨er_3, eσ_4⟩ := p_2
        have er_3 := er_3.symm; subst er_3
        have eσ_4 := eσ_4.symm; subst eσ_4
        refine lv_aload_n hx hb dX0_pointsOf_18 rfl (lv_at hl 0 rfl) ?_
        refine rGet (v := .int (σ 27 3)) (C := RX0) (T := TX0) (N := 4) hx hb fx hown hts hin hw 27 (hF.1 27 (by decide)) rfl rfl 3 (by decide) (hts (.fieldLink RX0 22 "Leaguewheel$Cup" "dropped" "I") (by decide +kernel)) (fun _ h9 => h9) rfl dX0_pointsOf_19 ?_
        refine lv_icmp_lt (tgt := 39) hx hb dX0_pointsOf_22 (by decide) (fun c_5 => ?_) (fun c_5 => ?_)
        · skip
          refine lv_iinc (v := (nI (i + 1))) (lv' := [(3, .int (nI (i + 1))), (0, .ref (gad G 27)), (1, .int (nI k)), (2, .int (sumA (σ 29) (σ 27 3) k e9 i))]) hx hb dX0_pointsOf_39 hl (k := 3) rfl (nI_1 _) (by decide) rfl (fun ls hl => ?_)
          refine lv_goto (tgt := 4) hx hb dX0_pointsOf_42 (by decide) ?_
          have q_6 : (sumA (σ 29) (σ 27 3) k e9 i) = (sumA (σ 29) (σ 27 3) k e9 (i + 1)) := by first | rfl | (simp [sumA, c_1, c_5])
          exact ih4 (i + 1) (by omega) (by omega) _ _ _ hw (lv_c (lv_at hl 1 rfl) (lv_c (lv_at hl 2 rfl) (lv_c (lv_atq hl 3 rfl q_6) (lv_c (lv_at hl 0 rfl) (lv_c0 hl)))))
        · skip
          refine lv_iload_n hx hb dX0_pointsOf_25 rfl (lv_at hl 2 rfl) ?_
          refine lv_aload_n hx hb dX0_pointsOf_26 rfl (lv_at hl 0 rfl) ?_
          refine rGet (v := .ref (gad G 29)) (C := RX0) (T := TX0) (N := 4) hx hb fx hown hts hin hw 27 (hF.1 27 (by decide)) rfl rfl 1 (by decide) (hts (.fieldLink RX0 15 "Leaguewheel$Cup" "pointRow" "[I") (by decide +kernel)) (fun _ h9 => h9) rfl dX0_pointsOf_27 ?_
          refine lv_iload_n hx hb dX0_pointsOf_30 rfl (lv_at hl 3 rfl) ?_
          refine lv_bipush (v := 6) hx hb dX0_pointsOf_31 (by decide) ?_
          refine lv_rep0 (x := 6) (y := nI 6) rfl ?_
          refine lv_imul hx hb dX0_pointsOf_33 ?_
          refine lv_rep0 (x := ((nI i) * (nI 6))) (y := nI (i * 6)) (pk_mul _ _) ?_
          refine lv_iload_n hx hb dX0_pointsOf_34 rfl (lv_at hl 1 rfl) ?_
          refine lv_iadd hx hb dX0_pointsOf_35 ?_
          refine lv_rep0 (x := ((nI (i * 6)) + (nI k))) (y := nI ((i * 6) + k)) (nI_add _ _) ?_
          refine rAld hx hb fx hw 29 (hF.1 29 (by decide)) hF.2.1 (fun _ => rfl) ((i * 6) + k) rfl (by omega) (by decide) dX0_pointsOf_36 ?_
          refine lv_iadd hx hb dX0_pointsOf_37 ?_
          refine lv_istore_n (lv' := [(2, .int ((sumA (σ 29) (σ 27 3) k e9 i) + (σ 29 ((i * 6) + k)))), (0, .ref (gad G 27)), (1, .int (nI k)), (3, .int (nI i))]) hx hb dX0_pointsOf_38 rfl hl (by decide) rfl (fun ls hl => ?_)
          refine lv_iinc (v := (nI (i + 1))) (lv' := [(3, .int (nI (i + 1))), (2, .int ((sumA (σ 29) (σ 27 3) k e9 i) + (σ 29 ((i * 6) + k)))), (0, .ref (gad G 27)), (1, .int (nI k))]) hx hb dX0_pointsOf_39 hl (k := 3) rfl (nI_1 _) (by decide) rfl (fun ls hl => ?_)
          refine lv_goto (tgt := 4) hx hb dX0_pointsOf_42 (by decide) ?_
          have q_7 : ((sumA (σ 29) (σ 27 3) k e9 i) + (σ 29 ((i * 6) + k))) = (sumA (σ 29) (σ 27 3) k e9 (i + 1)) := by first | rfl | (simp [sumA, c_1, c_5])
          exact ih4 (i + 1) (by omega) (by omega) _ _ _ hw (lv_c (lv_at hl 2 rfl) (lv_c (lv_at hl 3 rfl) (lv_c (lv_atq hl 1 rfl q_7) (lv_c (lv_at hl 0 rfl) (lv_c0 hl)))))
  have q_8 : 0 = (sumA (σ 29) (σ 27 3) k e9 0) := by first | rfl | (simp [sumA])
  have q_9 : 0 = (nI 0) := by first | rfl | (simp [sumA])
  exact lab_4 (e9 - 0 + 1) 0 (by omega) (by omega) _ _ _ hw (lv_c (lv_at hl 2 rfl) (lv_c (lv_at hl 3 rfl) (lv_c (lv_atq hl 1 rfl q_8) (lv_c (lv_atq hl 0 rfl q_9) (lv_c0 hl)))))

def rmX0_timesAt : Room := ({ frames := 0, cells := 0, slots := 0, locals := 0 } : Room)
set_option maxHeartbeats 4000000 in
set_option maxRecDepth 100000 in
theorem kX0_timesAt (l : Launch) (G : Gx) (hG : gOk G) (hF : Full G) (σ : St) (q : Nat) (k : Nat) (hk : k < 6) (e9 : Nat) (he : σ 27 2 = nI e9) (he8 : e9 ≤ 8)  : CtI l yX0_timesAt wsX0_timesAt rmX0_timesAt G σ [.ref (gad G 27), .int (nI q), .int (nI k)] (fun r σ' => r = nI (tmA (σ 28) e9 k q) ∧ σ' = σ) := by
  refine bgMet (cc := cX0_timesAt) (maxL := 5) (ret := (some .int)) (own := RX0) (by decide) rfl rfl hG (Nat.le_of_ble_eq_true rfl) rfl ?_
  intro p e s m args below meth c ls Bd hl
  obtain ⟨hx, hb, hr, hml, hts, hown, hlocks, fx, hw⟩ := Bd
  have hl : lv_has ls 5 [(0, .ref (gad G 27)), (1, .int (nI q)), (2, .int (nI k))] := hl
  have hin : ∀ w ∈ wsX00, w ∈ wsX0_timesAt := by decide +kernel
  refine lv_iconst (v := 0) hx hb dX0_timesAt_0 (by decide) ?_
  refine lv_istore_n (lv' := [(3, .int 0), (0, .ref (gad G 27)), (1, .int (nI q)), (2, .int (nI k))]) hx hb dX0_timesAt_1 rfl hl (by decide) rfl (fun ls hl => ?_)
  refine lv_iconst (v := 0) hx hb dX0_timesAt_2 (by decide) ?_
  refine lv_istore (lv' := [(4, .int 0), (3, .int 0), (0, .ref (gad G 27)), (1, .int (nI q)), (2, .int (nI k))]) hx hb dX0_timesAt_3 hl (by decide) rfl (fun ls hl => ?_)
  have lab_5 : ∀ (n9 : Nat), ∀ (i : Nat), e9 - i < n9 → i ≤ e9 → ∀ (H : Heap) (locs : List Loc) (ls : Array Slot), Wd G s σ H locs → lv_has ls 5 [(0, .ref (gad G 27)), (1, .int (nI q)), (2, .int (nI k)), (3, .int (nI (cntA (fun x9 => decide (σ 28 (x9 * 6 + k) = nI q)) i))), (4, .int (nI i))] → W p l e rmX0_timesAt s m args below meth c H locs 0 0 (MQ below (va_Qi (fun r σ' => r = nI (tmA (σ 28) e9 k q) ∧ σ' = σ) (BW G) (gA G)) args s 0 0 (gA G)) (F0 m 5 ls []) := by
    intro n9
    induction n9 with
    | zero => intro i hn9; exact absurd hn9 (Nat.not_lt_zero _)
    | succ n9 ih5 =>
      intro i hn9 h5_0 H locs ls hw hl
      refine lv_iload hx hb dX0_timesAt_5 (lv_at hl 4 rfl) ?_
      refine lv_aload_n hx hb dX0_timesAt_7 rfl (lv_at hl 0 rfl) ?_
      refine rGet (v := .int (σ 27 2)) (C := RX0) (T := TX0) (N := 4) hx hb fx hown hts hin hw 27 (hF.1 27 (by decide)) rfl rfl 2 (by decide) (hts (.fieldLink RX0 18 "Leaguewheel$Cup" "ended" "I") (by decide +kernel)) (fun _ h9 => h9) rfl dX0_timesAt_8 ?_
      refine lv_rep0 (x := (σ 27 2)) (y := nI e9) (by exact he) ?_
      refine lv_icmp_ge (tgt := 39) hx hb dX0_timesAt_11 (by decide) (fun c_1 => ?_) (fun c_1 => ?_)
      · skip
        have c_1 : e9 ≤ i := (nI_leI (by omega) (by omega)).mp c_1
        refine lv_iload_n hx hb dX0_timesAt_39 rfl (lv_at hl 3 rfl) ?_
        exact rRetI hx hb hr hw (by exact ⟨by rw [show e9 = i by omega]; rfl, rfl⟩) hlocks dX0_timesAt_40
      · skip
        have c_1 : ¬ e9 ≤ i := fun h9 => c_1 ((nI_leI (by omega) (by omega)).mpr h9)
        refine lv_aload_n hx hb dX0_timesAt_14 rfl (lv_at hl 0 rfl) ?_
        refine rGet (v := .ref (gad G 28)) (C := RX0) (T := TX0) (N := 4) hx hb fx hown hts hin hw 27 (hF.1 27 (by decide)) rfl rfl 0 (by decide) (hts (.fieldLink RX0 9 "Leaguewheel$Cup" "placeRow" "[I") (by decide +kernel)) (fun _ h9 => h9) rfl dX0_timesAt_15 ?_
        refine lv_iload hx hb dX0_timesAt_18 (lv_at hl 4 rfl) ?_
        refine lv_bipush (v := 6) hx hb dX0_timesAt_20 (by decide) ?_
        refine lv_rep0 (x := 6) (y := nI 6) rfl ?_
        refine lv_imul hx hb dX0_timesAt_22 ?_
        refine lv_rep0 (x := ((nI i) * (nI 6))) (y := nI (i * 6)) (pk_mul _ _) ?_
        refine lv_iload_n hx hb dX0_timesAt_23 rfl (lv_at hl 2 rfl) ?_
        refine lv_iadd hx hb dX0_timesAt_24 ?_
        refine lv_rep0 (x := ((nI (i * 6)) + (nI k))) (y := nI ((i * 6) + k)) (nI_add _ _) ?_
        refine rAld hx hb fx hw 28 (hF.1 28 (by decide)) hF.2.1 (fun _ => rfl) ((i * 6) + k) rfl (by omega) (by decide) dX0_timesAt_25 ?_
        refine lv_iload_n hx hb dX0_timesAt_26 rfl (lv_at hl 1 rfl) ?_
        refine lv_icmp_ne (tgt := 33) hx hb dX0_timesAt_27 (by decide) (fun c_2 => ?_) (fun c_2 => ?_)
        · skip
          refine lv_iinc (v := (nI (i + 1))) (lv' := [(4, .int (nI (i + 1))), (0, .ref (gad G 27)), (1, .int (nI q)), (2, .int (nI k)), (3, .int (nI (cntA (fun x9 => decide (σ 28 (x9 * 6 + k) = nI q)) i)))]) hx hb dX0_timesAt_33 hl (k := 4) rfl (nI_1 _) (by decide) rfl (fun ls hl => ?_)
          refine lv_goto (tgt := 5) hx hb dX0_timesAt_36 (by decide) ?_
          have q_3 : (nI (cntA (fun x9 => decide (σ 28 (x9 * 6 + k) = nI q)) i)) = (nI (cntA (fun x9 => decide (σ 28 (x9 * 6 + k) = nI q)) (i + 1))) := by first | rfl | (simp [cntA, c_1, c_2])
          exact ih5 (i + 1) (by omega) (by omega) _ _ _ hw (lv_c (lv_at hl 1 rfl) (lv_c (lv_at hl 2 rfl) (lv_c (lv_at hl 3 rfl) (lv_c (lv_atq hl 4 rfl q_3) (lv_c (lv_at hl 0 rfl) (lv_c0 hl))))))
        · skip
          refine lv_iinc (v := (nI ((cntA (fun x9 => decide (σ 28 (x9 * 6 + k) = nI q)) i) + 1))) (lv' := [(3, .int (nI ((cntA (fun x9 => decide (σ 28 (x9 * 6 + k) = nI q)) i) + 1))), (0, .ref (gad G 27)), (1, .int (nI q)), (2, .int (nI k)), (4, .int (nI i))]) hx hb dX0_timesAt_30 hl (k := 3) rfl (nI_1 _) (by decide) rfl (fun ls hl => ?_)
          refine lv_iinc (v := (nI (i + 1))) (lv' := [(4, .int (nI (i + 1))), (3, .int (nI ((cntA (fun x9 => decide (σ 28 (x9 * 6 + k) = nI q)) i) + 1))), (0, .ref (gad G 27)), (1, .int (nI q)), (2, .int (nI k))]) hx hb dX0_timesAt_33 hl (k := 4) rfl (nI_1 _) (by decide) rfl (fun ls hl => ?_)
          refine lv_goto (tgt := 5) hx hb dX0_timesAt_36 (by decide) ?_
          have q_4 : (nI ((cntA (fun x9 => decide (σ 28 (x9 * 6 + k) = nI q)) i) + 1)) = (nI (cntA (fun x9 => decide (σ 28 (x9 * 6 + k) = nI q)) (i + 1))) := by first | rfl | (simp [cntA, c_1, c_2])
          exact ih5 (i + 1) (by omega) (by omega) _ _ _ hw (lv_c (lv_at hl 2 rfl) (lv_c (lv_at hl 3 rfl) (lv_c (lv_at hl 4 rfl) (lv_c (lv_atq hl 1 rfl q_4) (lv_c (lv_at hl 0 rfl) (lv_c0 hl))))))
  have q_5 : 0 = (nI (cntA (fun x9 => decide (σ 28 (x9 * 6 + k) = nI q)) 0)) := by first | rfl | (simp [cntA])
  have q_6 : 0 = (nI 0) := by first | rfl | (simp [cntA])
  exact lab_5 (e9 - 0 + 1) 0 (by omega) (by omega) _ _ _ hw (lv_c (lv_at hl 2 rfl) (lv_c (lv_at hl 3 rfl) (lv_c (lv_at hl 4 rfl) (lv_c (lv_atq hl 1 rfl q_5) (lv_c (lv_atq hl 0 rfl q_6) (lv_c0 hl))))))

def rmX0_standsBefore : Room := ({ frames := 2, cells := 0, slots := 0, locals := 49 } : Room)
set_option maxHeartbeats 4000000 in
set_option maxRecDepth 100000 in
theorem kX0_standsBefore (l : Launch) (G : Gx) (hG : gOk G) (hF : Full G) (σ : St) (i j : Nat) (hi : i < 6) (hj : j < 6) (e9 : Nat) (he : σ 27 2 = nI e9) (he8 : e9 ≤ 8)  : CtI l yX0_standsBefore wsX0_standsBefore rmX0_standsBefore G σ [.ref (gad G 27), .int (nI i), .int (nI j)] (fun r σ' => r = bI (stB (σ 28) (σ 29) (σ 27 3) e9 i j) ∧ σ' = σ) := by
  refine bgMet (cc := cX0_standsBefore) (maxL := 8) (ret := (some .boolean)) (own := RX0) (by decide) rfl rfl hG (Nat.le_of_ble_eq_true rfl) rfl ?_
  intro p e s m args below meth c ls Bd hl
  obtain ⟨hx, hb, hr, hml, hts, hown, hlocks, fx, hw⟩ := Bd
  have hl : lv_has ls 8 [(0, .ref (gad G 27)), (1, .int (nI i)), (2, .int (nI j))] := hl
  refine lv_aload_n hx hb dX0_standsBefore_0 rfl (lv_at hl 0 rfl) ?_
  refine lv_iload_n hx hb dX0_standsBefore_1 rfl (lv_at hl 1 rfl) ?_
  refine rCallI (C := RX0) (As := [.int (nI i)]) (rest := []) ⟨hx, hb, hml, hown, hts⟩ fx hw (kX0_pointsOf l G hG hF σ i (by omega) e9 he (by omega)) (cwV 1 hts gX0_standsBefore_X0_pointsOf rfl rfl rfl (by decide +kernel) ⟨Nat.le_of_ble_eq_true rfl, Nat.le_of_ble_eq_true rfl⟩) (hF.1 27 (by decide)) rfl rfl rfl rfl hl.1 rfl (Nat.le_of_ble_eq_true rfl) dX0_standsBefore_2 ⟨Nat.zero_le _, Nat.zero_le _⟩ ?_
  intro r_2 σ_3 H locs p_1 hw
  obtain ⟨er_2, eσ_3⟩ := p_1
  have er_2 := er_2.symm; subst er_2
  have eσ_3 := eσ_3.symm; subst eσ_3
  refine lv_istore_n (lv' := [(3, .int (sumA (σ 29) (σ 27 3) i e9 e9)), (0, .ref (gad G 27)), (1, .int (nI i)), (2, .int (nI j))]) hx hb dX0_standsBefore_5 rfl hl (by decide) rfl (fun ls hl => ?_)
  refine lv_aload_n hx hb dX0_standsBefore_6 rfl (lv_at hl 1 rfl) ?_
  refine lv_iload_n hx hb dX0_standsBefore_7 rfl (lv_at hl 3 rfl) ?_
  refine rCallI (C := RX0) (As := [.int (nI j)]) (rest := []) ⟨hx, hb, hml, hown, hts⟩ fx hw (kX0_pointsOf l G hG hF σ j (by omega) e9 he (by omega)) (cwV 1 hts gX0_standsBefore_X0_pointsOf rfl rfl rfl (by decide +kernel) ⟨Nat.le_of_ble_eq_true rfl, Nat.le_of_ble_eq_true rfl⟩) (hF.1 27 (by decide)) rfl rfl rfl rfl hl.1 rfl (Nat.le_of_ble_eq_true rfl) dX0_standsBefore_8 ⟨Nat.zero_le _, Nat.zero_le _⟩ ?_
  intro r_5 σ_6 H locs p_4 hw
  obtain ⟨er_5, eσ_6⟩ := p_4
  have er_5 := er_5.symm; subst er_5
  have eσ_6 := eσ_6.symm; subst eσ_6
  refine lv_istore (lv' := [(4, .int (sumA (σ 29) (σ 27 3) j e9 e9)), (3, .int (sumA (σ 29) (σ 27 3) i e9 e9)), (0, .ref (gad G 27)), (1, .int (nI i)), (2, .int (nI j))]) hx hb dX0_standsBefore_11 hl (by decide) rfl (fun ls hl => ?_)
  refine lv_iload_n hx hb dX0_standsBefore_13 rfl (lv_at hl 1 rfl) ?_
  refine lv_iload hx hb dX0_standsBefore_14 (lv_at hl 0 rfl) ?_
  refine lv_icmp_eq (tgt := 31) hx hb dX0_standsBefore_16 (by decide) (fun c_7 => ?_) (fun c_7 => ?_)
  · skip
    refine lv_iconst (v := 0) hx hb dX0_standsBefore_31 (by decide) ?_
    refine lv_istore (lv' := [(5, .int 0), (4, .int (sumA (σ 29) (σ 27 3) j e9 e9)), (3, .int (sumA (σ 29) (σ 27 3) i e9 e9)), (0, .ref (gad G 27)), (1, .int (nI i)), (2, .int (nI j))]) hx hb dX0_standsBefore_32 hl (by decide) rfl (fun ls hl => ?_)
    have lab_34 : ∀ (n9 : Nat), ∀ (q : Nat), 6 - q < n9 → q ≤ 6 → stT (σ 28) e9 i j 6 = stT (σ 28) e9 i j (6 - q) → ∀ (H : Heap) (locs : List Loc) (ls : Array Slot), Wd G s σ H locs → lv_has ls 8 [(0, .ref (gad G 27)), (1, .int (nI i)), (2, .int (nI j)), (5, .int (nI q))] → W p l e rmX0_standsBefore s m args below meth c H locs 0 0 (MQ below (va_Qi (fun r σ' => r = bI (stB (σ 28) (σ 29) (σ 27 3) e9 i j) ∧ σ' = σ) (BW G) (gA G)) args s 0 0 (gA G)) (F0 m 34 ls []) := by
      intro n9
      induction n9 with
      | zero => intro q hn9; exact absurd hn9 (Nat.not_lt_zero _)
      | succ n9 ih34 =>
        intro q hn9 h34_0 h34_1 H locs ls hw hl
        refine lv_iload hx hb dX0_standsBefore_34 (lv_at hl 3 rfl) ?_
        refine lv_bipush (v := 6) hx hb dX0_standsBefore_36 (by decide) ?_
        refine lv_rep0 (x := 6) (y := nI 6) rfl ?_
        refine lv_icmp_ge (tgt := 85) hx hb dX0_standsBefore_38 (by decide) (fun c_8 => ?_) (fun c_8 => ?_)
        · skip
          have c_8 : 6 ≤ q := (nI_leI (by omega) (by omega)).mp c_8
          refine lv_iload_n hx hb dX0_standsBefore_85 rfl (lv_at hl 1 rfl) ?_
          refine lv_iload_n hx hb dX0_standsBefore_86 rfl (lv_at hl 2 rfl) ?_
          refine lv_icmp_ge (tgt := 94) hx hb dX0_standsBefore_87 (by decide) (fun c_9 => ?_) (fun c_9 => ?_)
          · skip
            have c_9 : j ≤ i := (nI_leI (by omega) (by omega)).mp c_9
            refine lv_iconst (v := 0) hx hb dX0_standsBefore_94 (by decide) ?_
            exact rRetZ hx hb hr hw (by decide) (by exact ⟨by rw [stB, if_pos c_7, h34_1, show 6 - q = 0 by omega, stT]; simp [bI, c_9], rfl⟩) hlocks dX0_standsBefore_95
          · skip
            have c_9 : ¬ j ≤ i := fun h9 => c_9 ((nI_leI (by omega) (by omega)).mpr h9)
            refine lv_iconst (v := 1) hx hb dX0_standsBefore_90 (by decide) ?_
            refine lv_goto (tgt := 95) hx hb dX0_standsBefore_91 (by decide) ?_
            exact rRetZ hx hb hr hw (by decide) (by exact ⟨by rw [stB, if_pos c_7, h34_1, show 6 - q = 0 by omega, stT]; simp [bI, c_9], rfl⟩) hlocks dX0_standsBefore_95
        · skip
          have c_8 : ¬ 6 ≤ q := fun h9 => c_8 ((nI_leI (by omega) (by omega)).mpr h9)
          refine lv_aload_n hx hb dX0_standsBefore_41 rfl (lv_at hl 0 rfl) ?_
          refine lv_iload hx hb dX0_standsBefore_42 (lv_at hl 3 rfl) ?_
          refine lv_iload_n hx hb dX0_standsBefore_44 rfl (lv_at hl 1 rfl) ?_
          refine rCallI (C := RX0) (As := [.int (nI q), .int (nI i)]) (rest := []) ⟨hx, hb, hml, hown, hts⟩ fx hw (kX0_timesAt l G hG hF σ q i (by omega) e9 he (by omega)) (cwV 2 hts gX0_standsBefore_X0_timesAt rfl rfl rfl (by decide +kernel) ⟨Nat.le_of_ble_eq_true rfl, Nat.le_of_ble_eq_true rfl⟩) (hF.1 27 (by decide)) rfl rfl rfl rfl hl.1 rfl (Nat.le_of_ble_eq_true rfl) dX0_standsBefore_45 ⟨Nat.zero_le _, Nat.zero_le _⟩ ?_
          intro r_11 σ_12 H locs p_10 hw
          obtain ⟨er_11, eσ_12⟩ := p_10
          have er_11 := er_11.symm; subst er_11
          have eσ_12 := eσ_12.symm; subst eσ_12
          have ht1 := cntA_le (fun z => decide (σ 28 (z * 6 + i) = nI q)) e9; change tmA (σ 28) e9 i q ≤ e9 at ht1
          refine lv_istore (lv' := [(6, .int (nI (tmA (σ 28) e9 i q))), (0, .ref (gad G 27)), (1, .int (nI i)), (2, .int (nI j)), (5, .int (nI q))]) hx hb dX0_standsBefore_48 hl (by decide) rfl (fun ls hl => ?_)
          refine lv_aload_n hx hb dX0_standsBefore_50 rfl (lv_at hl 1 rfl) ?_
          refine lv_iload hx hb dX0_standsBefore_51 (lv_at hl 4 rfl) ?_
          refine lv_iload_n hx hb dX0_standsBefore_53 rfl (lv_at hl 3 rfl) ?_
          refine rCallI (C := RX0) (As := [.int (nI q), .int (nI j)]) (rest := []) ⟨hx, hb, hml, hown, hts⟩ fx hw (kX0_timesAt l G hG hF σ q j (by omega) e9 he (by omega)) (cwV 2 hts gX0_standsBefore_X0_timesAt rfl rfl rfl (by decide +kernel) ⟨Nat.le_of_ble_eq_true rfl, Nat.le_of_ble_eq_true rfl⟩) (hF.1 27 (by decide)) rfl rfl rfl rfl hl.1 rfl (Nat.le_of_ble_eq_true rfl) dX0_standsBefore_54 ⟨Nat.zero_le _, Nat.zero_le _⟩ ?_
          intro r_14 σ_15 H locs p_13 hw
          obtain ⟨er_14, eσ_15⟩ := p_13
          have er_14 := er_14.symm; subst er_14
          have eσ_15 := eσ_15.symm; subst eσ_15
          have ht2 := cntA_le (fun z => decide (σ 28 (z * 6 + j) = nI q)) e9; change tmA (σ 28) e9 j q ≤ e9 at ht2
          refine lv_istore (lv' := [(7, .int (nI (tmA (σ 28) e9 j q))), (6, .int (nI (tmA (σ 28) e9 i q))), (0, .ref (gad G 27)), (1, .int (nI i)), (2, .int (nI j)), (5, .int (nI q))]) hx hb dX0_standsBefore_57 hl (by decide) rfl (fun ls hl => ?_)
          refine lv_iload hx hb dX0_standsBefore_59 (lv_at hl 1 rfl) ?_
          refine lv_iload hx hb dX0_standsBefore_61 (lv_at hl 0 rfl) ?_
          refine lv_icmp_eq (tgt := 79) hx hb dX0_standsBefore_63 (by decide) (fun c_16 => ?_) (fun c_16 => ?_)
          · skip
            have c_16 : (tmA (σ 28) e9 i q) = (tmA (σ 28) e9 j q) := (nI_eq (by omega) (by omega)).mp c_16
            refine lv_iinc (v := (nI (q + 1))) (lv' := [(5, .int (nI (q + 1))), (7, .int (nI (tmA (σ 28) e9 j q))), (6, .int (nI (tmA (σ 28) e9 i q))), (0, .ref (gad G 27)), (1, .int (nI i)), (2, .int (nI j))]) hx hb dX0_standsBefore_79 hl (k := 5) rfl (nI_1 _) (by decide) rfl (fun ls hl => ?_)
            refine lv_goto (tgt := 34) hx hb dX0_standsBefore_82 (by decide) ?_
            exact ih34 (q + 1) (by omega) (by omega) (by rw [h34_1]; exact stT_s (by omega) c_16) _ _ _ hw (lv_c (lv_at hl 3 rfl) (lv_c (lv_at hl 4 rfl) (lv_c (lv_at hl 5 rfl) (lv_c (lv_at hl 0 rfl) (lv_c0 hl)))))
          · skip
            have c_16 : ¬ (tmA (σ 28) e9 i q) = (tmA (σ 28) e9 j q) := fun h9 => c_16 ((nI_eq (by omega) (by omega)).mpr h9)
            refine lv_iload hx hb dX0_standsBefore_66 (lv_at hl 1 rfl) ?_
            refine lv_iload hx hb dX0_standsBefore_68 (lv_at hl 0 rfl) ?_
            refine lv_icmp_le (tgt := 77) hx hb dX0_standsBefore_70 (by decide) (fun c_17 => ?_) (fun c_17 => ?_)
            · skip
              have c_17 : (tmA (σ 28) e9 i q) ≤ (tmA (σ 28) e9 j q) := (nI_leI (by omega) (by omega)).mp c_17
              refine lv_iconst (v := 0) hx hb dX0_standsBefore_77 (by decide) ?_
              exact rRetZ hx hb hr hw (by decide) (by exact ⟨by rw [stB, if_pos c_7, h34_1, stT_n (by omega) c_16]; simp [bI, c_17], rfl⟩) hlocks dX0_standsBefore_78
            · skip
              have c_17 : ¬ (tmA (σ 28) e9 i q) ≤ (tmA (σ 28) e9 j q) := fun h9 => c_17 ((nI_leI (by omega) (by omega)).mpr h9)
              refine lv_iconst (v := 1) hx hb dX0_standsBefore_73 (by decide) ?_
              refine lv_goto (tgt := 78) hx hb dX0_standsBefore_74 (by decide) ?_
              exact rRetZ hx hb hr hw (by decide) (by exact ⟨by rw [stB, if_pos c_7, h34_1, stT_n (by omega) c_16]; simp [bI, c_17], rfl⟩) hlocks dX0_standsBefore_78
    have q_18 : 0 = (nI 0) := by first | rfl | (simp)
    exact lab_34 (6 - 0 + 1) 0 (by omega) (by omega) rfl _ _ _ hw (lv_c (lv_at hl 3 rfl) (lv_c (lv_at hl 4 rfl) (lv_c (lv_at hl 5 rfl) (lv_c (lv_atq hl 0 rfl q_18) (lv_c0 hl)))))
  · skip
    refine lv_iload_n hx hb dX0_standsBefore_19 rfl (lv_at hl 1 rfl) ?_
    refine lv_iload hx hb dX0_standsBefore_20 (lv_at hl 0 rfl) ?_
    refine lv_icmp_le (tgt := 29) hx hb dX0_standsBefore_22 (by decide) (fun c_19 => ?_) (fun c_19 => ?_)
    · skip
      refine lv_iconst (v := 0) hx hb dX0_standsBefore_29 (by decide) ?_
      exact rRetZ hx hb hr hw (by decide) (by exact ⟨by simp [stB, bI, c_7, c_19], rfl⟩) hlocks dX0_standsBefore_30
    · skip
      refine lv_iconst (v := 1) hx hb dX0_standsBefore_25 (by decide) ?_
      refine lv_goto (tgt := 30) hx hb dX0_standsBefore_26 (by decide) ?_
      exact rRetZ hx hb hr hw (by decide) (by exact ⟨by simp [stB, bI, c_7, c_19], rfl⟩) hlocks dX0_standsBefore_30

def rmX0_countBefore : Room := ({ frames := 3, cells := 0, slots := 0, locals := 76 } : Room)
set_option maxHeartbeats 4000000 in
set_option maxRecDepth 100000 in
theorem kX0_countBefore (l : Launch) (G : Gx) (hG : gOk G) (hF : Full G) (σ : St) (k : Nat) (hk : k < 6) (n : Nat) (hn : n ≤ 6) (e9 : Nat) (he : σ 27 2 = nI e9) (he8 : e9 ≤ 8)  : CtI l yX0_countBefore wsX0_countBefore rmX0_countBefore G σ [.ref (gad G 27), .int (nI k), .int (nI n)] (fun r σ' => r = nI (cntA (fun o => stB (σ 28) (σ 29) (σ 27 3) e9 o k) n) ∧ σ' = σ) := by
  refine bgMet (cc := cX0_countBefore) (maxL := 5) (ret := (some .int)) (own := RX0) (by decide) rfl rfl hG (Nat.le_of_ble_eq_true rfl) rfl ?_
  intro p e s m args below meth c ls Bd hl
  obtain ⟨hx, hb, hr, hml, hts, hown, hlocks, fx, hw⟩ := Bd
  have hl : lv_has ls 5 [(0, .ref (gad G 27)), (1, .int (nI k)), (2, .int (nI n))] := hl
  refine lv_iconst (v := 0) hx hb dX0_countBefore_0 (by decide) ?_
  refine lv_istore_n (lv' := [(3, .int 0), (0, .ref (gad G 27)), (1, .int (nI k)), (2, .int (nI n))]) hx hb dX0_countBefore_1 rfl hl (by decide) rfl (fun ls hl => ?_)
  refine lv_iconst (v := 0) hx hb dX0_countBefore_2 (by decide) ?_
  refine lv_istore (lv' := [(4, .int 0), (3, .int 0), (0, .ref (gad G 27)), (1, .int (nI k)), (2, .int (nI n))]) hx hb dX0_countBefore_3 hl (by decide) rfl (fun ls hl => ?_)
  have lab_5 : ∀ (n9 : Nat), ∀ (i : Nat), n - i < n9 → i ≤ n → ∀ (H : Heap) (locs : List Loc) (ls : Array Slot), Wd G s σ H locs → lv_has ls 5 [(0, .ref (gad G 27)), (1, .int (nI k)), (2, .int (nI n)), (3, .int (nI (cntA (fun o => stB (σ 28) (σ 29) (σ 27 3) e9 o k) i))), (4, .int (nI i))] → W p l e rmX0_countBefore s m args below meth c H locs 0 0 (MQ below (va_Qi (fun r σ' => r = nI (cntA (fun o => stB (σ 28) (σ 29) (σ 27 3) e9 o k) n) ∧ σ' = σ) (BW G) (gA G)) args s 0 0 (gA G)) (F0 m 5 ls []) := by
    intro n9
    induction n9 with
    | zero => intro i hn9; exact absurd hn9 (Nat.not_lt_zero _)
    | succ n9 ih5 =>
      intro i hn9 h5_0 H locs ls hw hl
      refine lv_iload hx hb dX0_countBefore_5 (lv_at hl 4 rfl) ?_
      refine lv_iload_n hx hb dX0_countBefore_7 rfl (lv_at hl 2 rfl) ?_
      refine lv_icmp_ge (tgt := 30) hx hb dX0_countBefore_8 (by decide) (fun c_1 => ?_) (fun c_1 => ?_)
      · skip
        have c_1 : n ≤ i := (nI_leI (by omega) (by omega)).mp c_1
        refine lv_iload_n hx hb dX0_countBefore_30 rfl (lv_at hl 3 rfl) ?_
        exact rRetI hx hb hr hw (by exact ⟨by rw [show n = i by omega], rfl⟩) hlocks dX0_countBefore_31
      · skip
        have c_1 : ¬ n ≤ i := fun h9 => c_1 ((nI_leI (by omega) (by omega)).mpr h9)
        refine lv_aload_n hx hb dX0_countBefore_11 rfl (lv_at hl 0 rfl) ?_
        refine lv_iload hx hb dX0_countBefore_12 (lv_at hl 4 rfl) ?_
        refine lv_iload_n hx hb dX0_countBefore_14 rfl (lv_at hl 1 rfl) ?_
        refine rCallI (C := RX0) (As := [.int (nI i), .int (nI k)]) (rest := []) ⟨hx, hb, hml, hown, hts⟩ fx hw (kX0_standsBefore l G hG hF σ i k (by omega) (by omega) e9 he (by omega)) (cwV 2 hts gX0_countBefore_X0_standsBefore rfl rfl rfl (by decide +kernel) ⟨Nat.le_of_ble_eq_true rfl, Nat.le_of_ble_eq_true rfl⟩) (hF.1 27 (by decide)) rfl rfl rfl rfl hl.1 rfl (Nat.le_of_ble_eq_true rfl) dX0_countBefore_15 ⟨Nat.zero_le _, Nat.zero_le _⟩ ?_
        intro r_3 σ_4 H locs p_2 hw
        obtain ⟨er_3, eσ_4⟩ := p_2
        have er_3 := er_3.symm; subst er_3
        have eσ_4 := eσ_4.symm; subst eσ_4
        refine lv_b_eq (tgt := 24) hx hb dX0_countBefore_18 (by decide) (fun c_5 => ?_) (fun c_5 => ?_)
        · skip
          refine lv_iinc (v := (nI (i + 1))) (lv' := [(4, .int (nI (i + 1))), (0, .ref (gad G 27)), (1, .int (nI k)), (2, .int (nI n)), (3, .int (nI (cntA (fun o => stB (σ 28) (σ 29) (σ 27 3) e9 o k) i)))]) hx hb dX0_countBefore_24 hl (k := 4) rfl (nI_1 _) (by decide) rfl (fun ls hl => ?_)
          refine lv_goto (tgt := 5) hx hb dX0_countBefore_27 (by decide) ?_
          have q_6 : (nI (cntA (fun o => stB (σ 28) (σ 29) (σ 27 3) e9 o k) i)) = (nI (cntA (fun o => stB (σ 28) (σ 29) (σ 27 3) e9 o k) (i + 1))) := by first | rfl | (simp [cntA, c_1, c_5])
          exact ih5 (i + 1) (by omega) (by omega) _ _ _ hw (lv_c (lv_at hl 1 rfl) (lv_c (lv_at hl 2 rfl) (lv_c (lv_at hl 3 rfl) (lv_c (lv_atq hl 4 rfl q_6) (lv_c (lv_at hl 0 rfl) (lv_c0 hl))))))
        · skip
          refine lv_iinc (v := (nI ((cntA (fun o => stB (σ 28) (σ 29) (σ 27 3) e9 o k) i) + 1))) (lv' := [(3, .int (nI ((cntA (fun o => stB (σ 28) (σ 29) (σ 27 3) e9 o k) i) + 1))), (0, .ref (gad G 27)), (1, .int (nI k)), (2, .int (nI n)), (4, .int (nI i))]) hx hb dX0_countBefore_21 hl (k := 3) rfl (nI_1 _) (by decide) rfl (fun ls hl => ?_)
          refine lv_iinc (v := (nI (i + 1))) (lv' := [(4, .int (nI (i + 1))), (3, .int (nI ((cntA (fun o => stB (σ 28) (σ 29) (σ 27 3) e9 o k) i) + 1))), (0, .ref (gad G 27)), (1, .int (nI k)), (2, .int (nI n))]) hx hb dX0_countBefore_24 hl (k := 4) rfl (nI_1 _) (by decide) rfl (fun ls hl => ?_)
          refine lv_goto (tgt := 5) hx hb dX0_countBefore_27 (by decide) ?_
          have q_7 : (nI ((cntA (fun o => stB (σ 28) (σ 29) (σ 27 3) e9 o k) i) + 1)) = (nI (cntA (fun o => stB (σ 28) (σ 29) (σ 27 3) e9 o k) (i + 1))) := by first | rfl | (simp [cntA, c_1, c_5])
          exact ih5 (i + 1) (by omega) (by omega) _ _ _ hw (lv_c (lv_at hl 2 rfl) (lv_c (lv_at hl 3 rfl) (lv_c (lv_at hl 4 rfl) (lv_c (lv_atq hl 1 rfl q_7) (lv_c (lv_at hl 0 rfl) (lv_c0 hl))))))
  have q_8 : 0 = (nI (cntA (fun o => stB (σ 28) (σ 29) (σ 27 3) e9 o k) 0)) := by first | rfl | (simp [cntA])
  have q_9 : 0 = (nI 0) := by first | rfl | (simp [cntA])
  exact lab_5 (n - 0 + 1) 0 (by omega) (by omega) _ _ _ hw (lv_c (lv_at hl 2 rfl) (lv_c (lv_at hl 3 rfl) (lv_c (lv_at hl 4 rfl) (lv_c (lv_atq hl 1 rfl q_8) (lv_c (lv_atq hl 0 rfl q_9) (lv_c0 hl))))))

def rmX0_kartStandingAt : Room := ({ frames := 4, cells := 0, slots := 0, locals := 100 } : Room)
set_option maxHeartbeats 4000000 in
set_option maxRecDepth 100000 in
theorem kX0_kartStandingAt (l : Launch) (G : Gx) (hG : gOk G) (hF : Full G) (σ : St) (q : Nat) (hq : q < 6) (n : Nat) (hn : n ≤ 6) (e9 : Nat) (he : σ 27 2 = nI e9) (he8 : e9 ≤ 8)  : CtI l yX0_kartStandingAt wsX0_kartStandingAt rmX0_kartStandingAt G σ [.ref (gad G 27), .int (nI q), .int (nI n)] (fun r σ' => r = nI (fsA (fun z => cntA (fun o => stB (σ 28) (σ 29) (σ 27 3) e9 o z) n) q n) ∧ σ' = σ) := by
  refine bgMet (cc := cX0_kartStandingAt) (maxL := 5) (ret := (some .int)) (own := RX0) (by decide) rfl rfl hG (Nat.le_of_ble_eq_true rfl) rfl ?_
  intro p e s m args below meth c ls Bd hl
  obtain ⟨hx, hb, hr, hml, hts, hown, hlocks, fx, hw⟩ := Bd
  have hl : lv_has ls 5 [(0, .ref (gad G 27)), (1, .int (nI q)), (2, .int (nI n))] := hl
  refine lv_iconst (v := 0) hx hb dX0_kartStandingAt_0 (by decide) ?_
  refine lv_istore_n (lv' := [(3, .int 0), (0, .ref (gad G 27)), (1, .int (nI q)), (2, .int (nI n))]) hx hb dX0_kartStandingAt_1 rfl hl (by decide) rfl (fun ls hl => ?_)
  refine lv_iconst (v := 0) hx hb dX0_kartStandingAt_2 (by decide) ?_
  refine lv_istore (lv' := [(4, .int 0), (3, .int 0), (0, .ref (gad G 27)), (1, .int (nI q)), (2, .int (nI n))]) hx hb dX0_kartStandingAt_3 hl (by decide) rfl (fun ls hl => ?_)
  have lab_5 : ∀ (n9 : Nat), ∀ (i : Nat), n - i < n9 → i ≤ n → ∀ (H : Heap) (locs : List Loc) (ls : Array Slot), Wd G s σ H locs → lv_has ls 5 [(0, .ref (gad G 27)), (1, .int (nI q)), (2, .int (nI n)), (3, .int (nI (fsA (fun z => cntA (fun o => stB (σ 28) (σ 29) (σ 27 3) e9 o z) n) q i))), (4, .int (nI i))] → W p l e rmX0_kartStandingAt s m args below meth c H locs 0 0 (MQ below (va_Qi (fun r σ' => r = nI (fsA (fun z => cntA (fun o => stB (σ 28) (σ 29) (σ 27 3) e9 o z) n) q n) ∧ σ' = σ) (BW G) (gA G)) args s 0 0 (gA G)) (F0 m 5 ls []) := by
    intro n9
    induction n9 with
    | zero => intro i hn9; exact absurd hn9 (Nat.not_lt_zero _)
    | succ n9 ih5 =>
      intro i hn9 h5_0 H locs ls hw hl
      refine lv_iload hx hb dX0_kartStandingAt_5 (lv_at hl 4 rfl) ?_
      refine lv_iload_n hx hb dX0_kartStandingAt_7 rfl (lv_at hl 2 rfl) ?_
      refine lv_icmp_ge (tgt := 31) hx hb dX0_kartStandingAt_8 (by decide) (fun c_1 => ?_) (fun c_1 => ?_)
      · skip
        have c_1 : n ≤ i := (nI_leI (by omega) (by omega)).mp c_1
        refine lv_iload_n hx hb dX0_kartStandingAt_31 rfl (lv_at hl 3 rfl) ?_
        exact rRetI hx hb hr hw (by exact ⟨by rw [show i = n by omega], rfl⟩) hlocks dX0_kartStandingAt_32
      · skip
        have c_1 : ¬ n ≤ i := fun h9 => c_1 ((nI_leI (by omega) (by omega)).mpr h9)
        refine lv_aload_n hx hb dX0_kartStandingAt_11 rfl (lv_at hl 0 rfl) ?_
        refine lv_iload hx hb dX0_kartStandingAt_12 (lv_at hl 4 rfl) ?_
        refine lv_iload_n hx hb dX0_kartStandingAt_14 rfl (lv_at hl 2 rfl) ?_
        refine rCallI (C := RX0) (As := [.int (nI i), .int (nI n)]) (rest := []) ⟨hx, hb, hml, hown, hts⟩ fx hw (kX0_countBefore l G hG hF σ i (by omega) n (by omega) e9 he (by omega)) (cwV 2 hts gX0_kartStandingAt_X0_countBefore rfl rfl rfl (by decide +kernel) ⟨Nat.le_of_ble_eq_true rfl, Nat.le_of_ble_eq_true rfl⟩) (hF.1 27 (by decide)) rfl rfl rfl rfl hl.1 rfl (Nat.le_of_ble_eq_true rfl) dX0_kartStandingAt_15 ⟨Nat.zero_le _, Nat.zero_le _⟩ ?_
        intro r_3 σ_4 H locs p_2 hw
        obtain ⟨er_3, eσ_4⟩ := p_2
        have er_3 := er_3.symm; subst er_3
        have eσ_4 := eσ_4.symm; subst eσ_4
        have hc9 := cntA_le (fun o => stB (σ 28) (σ 29) (σ 27 3) e9 o i) n
        refine lv_iload_n hx hb dX0_kartStandingAt_18 rfl (lv_at hl 1 rfl) ?_
        refine lv_icmp_ne (tgt := 25) hx hb dX0_kartStandingAt_19 (by decide) (fun c_5 => ?_) (fun c_5 => ?_)
        · skip
          have c_5 : ¬ (cntA (fun o => stB (σ 28) (σ 29) (σ 27 3) e9 o i) n) = q := fun h9 => c_5 ((nI_eq (by omega) (by omega)).mpr h9)
          refine lv_iinc (v := (nI (i + 1))) (lv' := [(4, .int (nI (i + 1))), (0, .ref (gad G 27)), (1, .int (nI q)), (2, .int (nI n)), (3, .int (nI (fsA (fun z => cntA (fun o => stB (σ 28) (σ 29) (σ 27 3) e9 o z) n) q i)))]) hx hb dX0_kartStandingAt_25 hl (k := 4) rfl (nI_1 _) (by decide) rfl (fun ls hl => ?_)
          refine lv_goto (tgt := 5) hx hb dX0_kartStandingAt_28 (by decide) ?_
          have q_6 : (nI (fsA (fun z => cntA (fun o => stB (σ 28) (σ 29) (σ 27 3) e9 o z) n) q i)) = (nI (fsA (fun z => cntA (fun o => stB (σ 28) (σ 29) (σ 27 3) e9 o z) n) q (i + 1))) := by first | rfl | (simp [fsA, c_1, c_5])
          exact ih5 (i + 1) (by omega) (by omega) _ _ _ hw (lv_c (lv_at hl 1 rfl) (lv_c (lv_at hl 2 rfl) (lv_c (lv_at hl 3 rfl) (lv_c (lv_atq hl 4 rfl q_6) (lv_c (lv_at hl 0 rfl) (lv_c0 hl))))))
        · skip
          have c_5 : (cntA (fun o => stB (σ 28) (σ 29) (σ 27 3) e9 o i) n) = q := (nI_eq (by omega) (by omega)).mp c_5
          refine lv_iload hx hb dX0_kartStandingAt_22 (lv_at hl 4 rfl) ?_
          refine lv_istore_n (lv' := [(3, .int (nI i)), (0, .ref (gad G 27)), (1, .int (nI q)), (2, .int (nI n)), (4, .int (nI i))]) hx hb dX0_kartStandingAt_24 rfl hl (by decide) rfl (fun ls hl => ?_)
          refine lv_iinc (v := (nI (i + 1))) (lv' := [(4, .int (nI (i + 1))), (3, .int (nI i)), (0, .ref (gad G 27)), (1, .int (nI q)), (2, .int (nI n))]) hx hb dX0_kartStandingAt_25 hl (k := 4) rfl (nI_1 _) (by decide) rfl (fun ls hl => ?_)
          refine lv_goto (tgt := 5) hx hb dX0_kartStandingAt_28 (by decide) ?_
          have q_7 : (nI i) = (nI (fsA (fun z => cntA (fun o => stB (σ 28) (σ 29) (σ 27 3) e9 o z) n) q (i + 1))) := by first | rfl | (simp [fsA, c_1, c_5])
          exact ih5 (i + 1) (by omega) (by omega) _ _ _ hw (lv_c (lv_at hl 2 rfl) (lv_c (lv_at hl 3 rfl) (lv_c (lv_at hl 4 rfl) (lv_c (lv_atq hl 1 rfl q_7) (lv_c (lv_at hl 0 rfl) (lv_c0 hl))))))
  have q_8 : 0 = (nI (fsA (fun z => cntA (fun o => stB (σ 28) (σ 29) (σ 27 3) e9 o z) n) q 0)) := by first | rfl | (simp [fsA])
  have q_9 : 0 = (nI 0) := by first | rfl | (simp [fsA])
  exact lab_5 (n - 0 + 1) 0 (by omega) (by omega) _ _ _ hw (lv_c (lv_at hl 2 rfl) (lv_c (lv_at hl 3 rfl) (lv_c (lv_at hl 4 rfl) (lv_c (lv_atq hl 1 rfl q_8) (lv_c (lv_atq hl 0 rfl q_9) (lv_c0 hl))))))
