def rmX3_lapGoal : Room := ({ frames := 0, cells := 0, slots := 0, locals := 0 } : Room)
set_option maxHeartbeats 4000000 in
set_option maxRecDepth 100000 in
theorem kX3_lapGoal (l : Launch) (G : Gx) (hG : gOk G) (hF : Full G) (σ : St) (B : Nat) (hB : rB B)  : CtI l yX3_lapGoal wsX3_lapGoal rmX3_lapGoal G σ [.ref (gad G B)] (fun r σ' => r = σ B 9 ∧ σ' = σ) := by
  refine bgMet (cc := cX3_lapGoal) (maxL := 1) (ret := (some .int)) (own := RX3) (by decide) rfl rfl hG (Nat.le_of_ble_eq_true rfl) rfl ?_
  intro p e s m args below meth c ls Bd hl
  obtain ⟨hx, hb, hr, hml, hts, hown, hlocks, fx, hw⟩ := Bd
  have hl : lv_has ls 1 [(0, .ref (gad G B))] := hl
  have hin : ∀ w ∈ wsX30, w ∈ wsX3_lapGoal := by decide +kernel
  refine lv_aload_n hx hb dX3_lapGoal_0 rfl (lv_at hl 0 rfl) ?_
  refine rGet (v := .int (σ B 9)) (C := RX3) (T := TX3) (N := 11) hx hb fx hown hts hin hw B (rB0 hF hB) (cE_race hB _) rfl 9 (by decide) (hts (.fieldLink RX3 41 "Leaguewheel$Race" "goal" "I") (by decide +kernel)) (fun _ h9 => h9) rfl dX3_lapGoal_1 ?_
  exact rRetI hx hb hr hw (by exact ⟨by first | rfl | simp [bI, bI], by first | rfl | simp [bI, upA_n, upA_s, upA_upA, upA_self, upd_self, upd_upd, pk_us, bI]⟩) hlocks dX3_lapGoal_4

def rmX3_gateAt : Room := ({ frames := 0, cells := 0, slots := 0, locals := 0 } : Room)
set_option maxHeartbeats 4000000 in
set_option maxRecDepth 100000 in
theorem kX3_gateAt (l : Launch) (G : Gx) (hG : gOk G) (hF : Full G) (σ : St) (B : Nat) (hB : rB B) (k : Nat) (hk : k < 6)  : CtI l yX3_gateAt wsX3_gateAt rmX3_gateAt G σ [.ref (gad G B), .int (nI k)] (fun r σ' => r = σ (B + 1) k ∧ σ' = σ) := by
  refine bgMet (cc := cX3_gateAt) (maxL := 2) (ret := (some .int)) (own := RX3) (by decide) rfl rfl hG (Nat.le_of_ble_eq_true rfl) rfl ?_
  intro p e s m args below meth c ls Bd hl
  obtain ⟨hx, hb, hr, hml, hts, hown, hlocks, fx, hw⟩ := Bd
  have hl : lv_has ls 2 [(0, .ref (gad G B)), (1, .int (nI k))] := hl
  have hin : ∀ w ∈ wsX30, w ∈ wsX3_gateAt := by decide +kernel
  refine lv_aload_n hx hb dX3_gateAt_0 rfl (lv_at hl 0 rfl) ?_
  refine rGet (v := .ref (gad G (B + 1))) (C := RX3) (T := TX3) (N := 11) hx hb fx hown hts hin hw B (rB0 hF hB) (cE_race hB _) rfl 1 (by decide) (hts (.fieldLink RX3 15 "Leaguewheel$Race" "gateRow" "[I") (by decide +kernel)) (fun _ h9 => h9) rfl dX3_gateAt_1 ?_
  refine lv_iload_n hx hb dX3_gateAt_4 rfl (lv_at hl 1 rfl) ?_
  refine rAld hx hb fx hw (B + 1) (rBk hF hB (by decide)) hF.2.1 (fun f => cE_row hB (k := 1) (by decide) (by decide) f) k rfl (by omega) (by decide) dX3_gateAt_5 ?_
  exact rRetI hx hb hr hw (by exact ⟨by first | rfl | simp [bI, bI], by first | rfl | simp [bI, upA_n, upA_s, upA_upA, upA_self, upd_self, upd_upd, pk_us, bI]⟩) hlocks dX3_gateAt_6

def rmX3_netLaps : Room := ({ frames := 0, cells := 0, slots := 0, locals := 0 } : Room)
set_option maxHeartbeats 4000000 in
set_option maxRecDepth 100000 in
theorem kX3_netLaps (l : Launch) (G : Gx) (hG : gOk G) (hF : Full G) (σ : St) (B : Nat) (hB : rB B) (k : Nat) (hk : k < 6)  : CtI l yX3_netLaps wsX3_netLaps rmX3_netLaps G σ [.ref (gad G B), .int (nI k)] (fun r σ' => r = netA σ B k ∧ σ' = σ) := by
  refine bgMet (cc := cX3_netLaps) (maxL := 2) (ret := (some .int)) (own := RX3) (by decide) rfl rfl hG (Nat.le_of_ble_eq_true rfl) rfl ?_
  intro p e s m args below meth c ls Bd hl
  obtain ⟨hx, hb, hr, hml, hts, hown, hlocks, fx, hw⟩ := Bd
  have hl : lv_has ls 2 [(0, .ref (gad G B)), (1, .int (nI k))] := hl
  have hin : ∀ w ∈ wsX30, w ∈ wsX3_netLaps := by decide +kernel
  refine lv_aload_n hx hb dX3_netLaps_0 rfl (lv_at hl 0 rfl) ?_
  refine rGet (v := .ref (gad G (B + 2))) (C := RX3) (T := TX3) (N := 11) hx hb fx hown hts hin hw B (rB0 hF hB) (cE_race hB _) rfl 2 (by decide) (hts (.fieldLink RX3 19 "Leaguewheel$Race" "lapRow" "[I") (by decide +kernel)) (fun _ h9 => h9) rfl dX3_netLaps_1 ?_
  refine lv_iload_n hx hb dX3_netLaps_4 rfl (lv_at hl 1 rfl) ?_
  refine rAld hx hb fx hw (B + 2) (rBk hF hB (by decide)) hF.2.1 (fun f => cE_row hB (k := 2) (by decide) (by decide) f) k rfl (by omega) (by decide) dX3_netLaps_5 ?_
  refine lv_aload_n hx hb dX3_netLaps_6 rfl (lv_at hl 0 rfl) ?_
  refine rGet (v := .ref (gad G (B + 3))) (C := RX3) (T := TX3) (N := 11) hx hb fx hown hts hin hw B (rB0 hF hB) (cE_race hB _) rfl 3 (by decide) (hts (.fieldLink RX3 22 "Leaguewheel$Race" "debtRow" "[I") (by decide +kernel)) (fun _ h9 => h9) rfl dX3_netLaps_7 ?_
  refine lv_iload_n hx hb dX3_netLaps_10 rfl (lv_at hl 1 rfl) ?_
  refine rAld hx hb fx hw (B + 3) (rBk hF hB (by decide)) hF.2.1 (fun f => cE_row hB (k := 3) (by decide) (by decide) f) k rfl (by omega) (by decide) dX3_netLaps_11 ?_
  refine lv_isub hx hb dX3_netLaps_12 ?_
  exact rRetI hx hb hr hw (by exact ⟨by first | rfl | simp [netA, bI], by first | rfl | simp [netA, upA_n, upA_s, upA_upA, upA_self, upd_self, upd_upd, pk_us, bI]⟩) hlocks dX3_netLaps_13

def rmX3_missingGates : Room := ({ frames := 1, cells := 0, slots := 0, locals := 20 } : Room)
set_option maxHeartbeats 4000000 in
set_option maxRecDepth 100000 in
theorem kX3_missingGates (l : Launch) (G : Gx) (hG : gOk G) (hF : Full G) (σ : St) (B : Nat) (hB : rB B) (k : Nat) (hk : k < 6)  : CtI l yX3_missingGates wsX3_missingGates rmX3_missingGates G σ [.ref (gad G B), .int (nI k)] (fun r σ' => r = misA σ B k ∧ σ' = σ) := by
  refine bgMet (cc := cX3_missingGates) (maxL := 2) (ret := (some .int)) (own := RX3) (by decide) rfl rfl hG (Nat.le_of_ble_eq_true rfl) rfl ?_
  intro p e s m args below meth c ls Bd hl
  obtain ⟨hx, hb, hr, hml, hts, hown, hlocks, fx, hw⟩ := Bd
  have hl : lv_has ls 2 [(0, .ref (gad G B)), (1, .int (nI k))] := hl
  have hin : ∀ w ∈ wsX30, w ∈ wsX3_missingGates := by decide +kernel
  refine lv_aload_n hx hb dX3_missingGates_0 rfl (lv_at hl 0 rfl) ?_
  refine rGet (v := .ref (gad G 1)) (C := RX3) (T := TX3) (N := 11) hx hb fx hown hts hin hw B (rB0 hF hB) (cE_race hB _) rfl 0 (by decide) (hts (.fieldLink RX3 9 "Leaguewheel$Race" "track" "LLeaguewheel$Track;") (by decide +kernel)) (fun _ h9 => h9) rfl dX3_missingGates_1 ?_
  refine rCallI (C := RX4) (As := []) (rest := []) ⟨hx, hb, hml, hown, hts⟩ fx hw (kX4_needed l G hG hF σ ) (cwV 0 hts gX3_missingGates_X4_needed rfl rfl rfl (by decide +kernel) ⟨Nat.le_of_ble_eq_true rfl, Nat.le_of_ble_eq_true rfl⟩) (hF.1 1 (by decide)) rfl rfl rfl rfl hl.1 rfl (Nat.le_of_ble_eq_true rfl) dX3_missingGates_4 ⟨Nat.zero_le _, Nat.zero_le _⟩ ?_
  intro r_2 σ_3 H locs p_1 hw
  obtain ⟨er_2, eσ_3⟩ := p_1
  have er_2 := er_2.symm; subst er_2
  have eσ_3 := eσ_3.symm; subst eσ_3
  refine lv_aload_n hx hb dX3_missingGates_7 rfl (lv_at hl 0 rfl) ?_
  refine rGet (v := .ref (gad G (B + 4))) (C := RX3) (T := TX3) (N := 11) hx hb fx hown hts hin hw B (rB0 hF hB) (cE_race hB _) rfl 4 (by decide) (hts (.fieldLink RX3 25 "Leaguewheel$Race" "passedRow" "[I") (by decide +kernel)) (fun _ h9 => h9) rfl dX3_missingGates_8 ?_
  refine lv_iload_n hx hb dX3_missingGates_11 rfl (lv_at hl 1 rfl) ?_
  refine rAld hx hb fx hw (B + 4) (rBk hF hB (by decide)) hF.2.1 (fun f => cE_row hB (k := 4) (by decide) (by decide) f) k rfl (by omega) (by decide) dX3_missingGates_12 ?_
  refine lv_iconst (v := (-1)) hx hb dX3_missingGates_13 (by decide) ?_
  refine lv_ixor hx hb dX3_missingGates_14 ?_
  refine lv_iand hx hb dX3_missingGates_15 ?_
  exact rRetI hx hb hr hw (by exact ⟨by first | rfl | simp [misA, bI], by first | rfl | simp [misA, upA_n, upA_s, upA_upA, upA_self, upd_self, upd_upd, pk_us, bI]⟩) hlocks dX3_missingGates_16

def rmX3_isFinished : Room := ({ frames := 0, cells := 0, slots := 0, locals := 0 } : Room)
set_option maxHeartbeats 4000000 in
set_option maxRecDepth 100000 in
theorem kX3_isFinished (l : Launch) (G : Gx) (hG : gOk G) (hF : Full G) (σ : St) (B : Nat) (hB : rB B) (k : Nat) (hk : k < 6)  : CtI l yX3_isFinished wsX3_isFinished rmX3_isFinished G σ [.ref (gad G B), .int (nI k)] (fun r σ' => r = bI (finB σ B k) ∧ σ' = σ) := by
  refine bgMet (cc := cX3_isFinished) (maxL := 2) (ret := (some .boolean)) (own := RX3) (by decide) rfl rfl hG (Nat.le_of_ble_eq_true rfl) rfl ?_
  intro p e s m args below meth c ls Bd hl
  obtain ⟨hx, hb, hr, hml, hts, hown, hlocks, fx, hw⟩ := Bd
  have hl : lv_has ls 2 [(0, .ref (gad G B)), (1, .int (nI k))] := hl
  have hin : ∀ w ∈ wsX30, w ∈ wsX3_isFinished := by decide +kernel
  refine lv_aload_n hx hb dX3_isFinished_0 rfl (lv_at hl 0 rfl) ?_
  refine rGet (v := .ref (gad G (B + 2))) (C := RX3) (T := TX3) (N := 11) hx hb fx hown hts hin hw B (rB0 hF hB) (cE_race hB _) rfl 2 (by decide) (hts (.fieldLink RX3 19 "Leaguewheel$Race" "lapRow" "[I") (by decide +kernel)) (fun _ h9 => h9) rfl dX3_isFinished_1 ?_
  refine lv_iload_n hx hb dX3_isFinished_4 rfl (lv_at hl 1 rfl) ?_
  refine rAld hx hb fx hw (B + 2) (rBk hF hB (by decide)) hF.2.1 (fun f => cE_row hB (k := 2) (by decide) (by decide) f) k rfl (by omega) (by decide) dX3_isFinished_5 ?_
  refine lv_aload_n hx hb dX3_isFinished_6 rfl (lv_at hl 0 rfl) ?_
  refine rGet (v := .int (σ B 9)) (C := RX3) (T := TX3) (N := 11) hx hb fx hown hts hin hw B (rB0 hF hB) (cE_race hB _) rfl 9 (by decide) (hts (.fieldLink RX3 41 "Leaguewheel$Race" "goal" "I") (by decide +kernel)) (fun _ h9 => h9) rfl dX3_isFinished_7 ?_
  refine lv_icmp_lt (tgt := 17) hx hb dX3_isFinished_10 (by decide) (fun c_1 => ?_) (fun c_1 => ?_)
  · skip
    refine lv_iconst (v := 0) hx hb dX3_isFinished_17 (by decide) ?_
    exact rRetZ hx hb hr hw (by decide) (by exact ⟨by first | rfl | simp [finB, bI, c_1], by first | rfl | simp [finB, upA_n, upA_s, upA_upA, upA_self, upd_self, upd_upd, pk_us, bI, c_1]⟩) hlocks dX3_isFinished_18
  · skip
    refine lv_iconst (v := 1) hx hb dX3_isFinished_13 (by decide) ?_
    refine lv_goto (tgt := 18) hx hb dX3_isFinished_14 (by decide) ?_
    exact rRetZ hx hb hr hw (by decide) (by exact ⟨by first | rfl | simp [finB, bI, c_1], by first | rfl | simp [finB, upA_n, upA_s, upA_upA, upA_self, upd_self, upd_upd, pk_us, bI, c_1]⟩) hlocks dX3_isFinished_18

def rmX3_isWorthPoints : Room := ({ frames := 1, cells := 0, slots := 0, locals := 21 } : Room)
set_option maxHeartbeats 4000000 in
set_option maxRecDepth 100000 in
theorem kX3_isWorthPoints (l : Launch) (G : Gx) (hG : gOk G) (hF : Full G) (σ : St) (B : Nat) (hB : rB B) (k : Nat) (hk : k < 6)  : CtI l yX3_isWorthPoints wsX3_isWorthPoints rmX3_isWorthPoints G σ [.ref (gad G B), .int (nI k)] (fun r σ' => r = bI (finB σ B k || !decide (netA σ B k ≤ 0)) ∧ σ' = σ) := by
  refine bgMet (cc := cX3_isWorthPoints) (maxL := 2) (ret := (some .boolean)) (own := RX3) (by decide) rfl rfl hG (Nat.le_of_ble_eq_true rfl) rfl ?_
  intro p e s m args below meth c ls Bd hl
  obtain ⟨hx, hb, hr, hml, hts, hown, hlocks, fx, hw⟩ := Bd
  have hl : lv_has ls 2 [(0, .ref (gad G B)), (1, .int (nI k))] := hl
  refine lv_aload_n hx hb dX3_isWorthPoints_0 rfl (lv_at hl 0 rfl) ?_
  refine lv_iload_n hx hb dX3_isWorthPoints_1 rfl (lv_at hl 1 rfl) ?_
  refine rCallI (C := RX3) (As := [.int (nI k)]) (rest := []) ⟨hx, hb, hml, hown, hts⟩ fx hw (kX3_isFinished l G hG hF σ B hB k (by omega)) (cwV 1 hts gX3_isWorthPoints_X3_isFinished rfl rfl rfl (by decide +kernel) ⟨Nat.le_of_ble_eq_true rfl, Nat.le_of_ble_eq_true rfl⟩) (rB0 hF hB) (cE_race hB _) rfl rfl rfl hl.1 rfl (Nat.le_of_ble_eq_true rfl) dX3_isWorthPoints_2 ⟨Nat.zero_le _, Nat.zero_le _⟩ ?_
  intro r_2 σ_3 H locs p_1 hw
  obtain ⟨er_2, eσ_3⟩ := p_1
  have er_2 := er_2.symm; subst er_2
  have eσ_3 := eσ_3.symm; subst eσ_3
  refine lv_b_ne (tgt := 16) hx hb dX3_isWorthPoints_5 (by decide) (fun c_4 => ?_) (fun c_4 => ?_)
  · skip
    refine lv_iconst (v := 1) hx hb dX3_isWorthPoints_16 (by decide) ?_
    refine lv_goto (tgt := 21) hx hb dX3_isWorthPoints_17 (by decide) ?_
    exact rRetZ hx hb hr hw (by decide) (by exact ⟨by first | rfl | simp [bI, bI, c_4], by first | rfl | simp [bI, upA_n, upA_s, upA_upA, upA_self, upd_self, upd_upd, pk_us, bI, c_4]⟩) hlocks dX3_isWorthPoints_21
  · skip
    refine lv_aload_n hx hb dX3_isWorthPoints_8 rfl (lv_at hl 0 rfl) ?_
    refine lv_iload_n hx hb dX3_isWorthPoints_9 rfl (lv_at hl 1 rfl) ?_
    refine rCallI (C := RX3) (As := [.int (nI k)]) (rest := []) ⟨hx, hb, hml, hown, hts⟩ fx hw (kX3_netLaps l G hG hF σ B hB k (by omega)) (cwV 1 hts gX3_isWorthPoints_X3_netLaps rfl rfl rfl (by decide +kernel) ⟨Nat.le_of_ble_eq_true rfl, Nat.le_of_ble_eq_true rfl⟩) (rB0 hF hB) (cE_race hB _) rfl rfl rfl hl.1 rfl (Nat.le_of_ble_eq_true rfl) dX3_isWorthPoints_10 ⟨Nat.zero_le _, Nat.zero_le _⟩ ?_
    intro r_6 σ_7 H locs p_5 hw
    obtain ⟨er_6, eσ_7⟩ := p_5
    have er_6 := er_6.symm; subst er_6
    have eσ_7 := eσ_7.symm; subst eσ_7
    refine lv_if_le (tgt := 20) hx hb dX3_isWorthPoints_13 (by decide) (fun c_8 => ?_) (fun c_8 => ?_)
    · skip
      refine lv_iconst (v := 0) hx hb dX3_isWorthPoints_20 (by decide) ?_
      exact rRetZ hx hb hr hw (by decide) (by exact ⟨by first | rfl | simp [bI, bI, c_4, c_8], by first | rfl | simp [bI, upA_n, upA_s, upA_upA, upA_self, upd_self, upd_upd, pk_us, bI, c_4, c_8]⟩) hlocks dX3_isWorthPoints_21
    · skip
      refine lv_iconst (v := 1) hx hb dX3_isWorthPoints_16 (by decide) ?_
      refine lv_goto (tgt := 21) hx hb dX3_isWorthPoints_17 (by decide) ?_
      exact rRetZ hx hb hr hw (by decide) (by exact ⟨by first | rfl | simp [bI, bI, c_4, c_8], by first | rfl | simp [bI, upA_n, upA_s, upA_upA, upA_self, upd_self, upd_upd, pk_us, bI, c_4, c_8]⟩) hlocks dX3_isWorthPoints_21

def rmX3_begin : Room := ({ frames := 0, cells := 0, slots := 0, locals := 0 } : Room)
set_option maxHeartbeats 4000000 in
set_option maxRecDepth 100000 in
theorem kX3_begin (l : Launch) (G : Gx) (hG : gOk G) (hF : Full G) (σ : St) (B : Nat) (hB : rB B) (n laps : Int32) : CtV l yX3_begin wsX3_begin rmX3_begin G σ [.ref (gad G B), .int n, .int laps] (fun σ' => σ' = bgS σ B n laps 6) := by
  refine bgMet (cc := cX3_begin) (maxL := 4) (ret := none) (own := RX3) (by decide) rfl rfl hG (Nat.le_of_ble_eq_true rfl) rfl ?_
  intro p e s m args below meth c ls Bd hl
  obtain ⟨hx, hb, hr, hml, hts, hown, hlocks, fx, hw⟩ := Bd
  have hl : lv_has ls 4 [(0, .ref (gad G B)), (1, .int n), (2, .int laps)] := hl
  have hin : ∀ w ∈ wsX30, w ∈ wsX3_begin := by decide +kernel
  refine lv_aload_n hx hb dX3_begin_0 rfl (lv_at hl 0 rfl) ?_
  refine lv_iload_n hx hb dX3_begin_1 rfl (lv_at hl 1 rfl) ?_
  refine rPut (v := n) (ty := .int) (C := RX3) (T := TX3) (N := 11) hx hb fx hown hts hin tyX3 tyX3_ok nmX3 hw B (rB0 hF hB) (cE_race hB _) rfl 8 (by decide) (hts (.fieldLink RX3 37 "Leaguewheel$Race" "count" "I") (by decide +kernel)) (fun _ h9 => h9) rfl (by decide +kernel) rfl rfl (Nat.le_of_ble_eq_true rfl) (cE_race hB _) dX3_begin_2 (fun H locs hw => ?_)
  obtain ⟨σ_1, eσ_1⟩ : ∃ z, z = upA σ B (upd (σ B) 8 n) := ⟨_, rfl⟩
  rw [← eσ_1] at hw
  refine lv_aload_n hx hb dX3_begin_5 rfl (lv_at hl 0 rfl) ?_
  refine lv_iload_n hx hb dX3_begin_6 rfl (lv_at hl 2 rfl) ?_
  refine rPut (v := laps) (ty := .int) (C := RX3) (T := TX3) (N := 11) hx hb fx hown hts hin tyX3 tyX3_ok nmX3 hw B (rB0 hF hB) (cE_race hB _) rfl 9 (by decide) (hts (.fieldLink RX3 41 "Leaguewheel$Race" "goal" "I") (by decide +kernel)) (fun _ h9 => h9) rfl (by decide +kernel) rfl rfl (Nat.le_of_ble_eq_true rfl) (cE_race hB _) dX3_begin_7 (fun H locs hw => ?_)
  obtain ⟨σ_2, eσ_2⟩ : ∃ z, z = upA σ_1 B (upd (σ_1 B) 9 laps) := ⟨_, rfl⟩
  rw [← eσ_2] at hw
  refine lv_aload_n hx hb dX3_begin_10 rfl (lv_at hl 0 rfl) ?_
  refine lv_iconst (v := 0) hx hb dX3_begin_11 (by decide) ?_
  refine rPut (v := 0) (ty := .int) (C := RX3) (T := TX3) (N := 11) hx hb fx hown hts hin tyX3 tyX3_ok nmX3 hw B (rB0 hF hB) (cE_race hB _) rfl 10 (by decide) (hts (.fieldLink RX3 44 "Leaguewheel$Race" "moment" "I") (by decide +kernel)) (fun _ h9 => h9) rfl (by decide +kernel) rfl rfl (Nat.le_of_ble_eq_true rfl) (cE_race hB _) dX3_begin_12 (fun H locs hw => ?_)
  obtain ⟨σ_3, eσ_3⟩ : ∃ z, z = upA σ_2 B (upd (σ_2 B) 10 0) := ⟨_, rfl⟩
  rw [← eσ_3] at hw
  refine lv_iconst (v := 0) hx hb dX3_begin_15 (by decide) ?_
  refine lv_istore_n (lv' := [(3, .int 0), (0, .ref (gad G B)), (1, .int n), (2, .int laps)]) hx hb dX3_begin_16 rfl hl (by decide) rfl (fun ls hl => ?_)
  have lab_17 : ∀ (n9 : Nat), ∀ (i : Nat), 6 - i < n9 → i ≤ 6 → ∀ (H : Heap) (locs : List Loc) (ls : Array Slot), Wd G s (bgS σ B n laps i) H locs → lv_has ls 4 [(0, .ref (gad G B)), (3, .int (nI i))] → W p l e rmX3_begin s m args below meth c H locs 0 0 (MQ below (va_Qv (fun σ' => σ' = bgS σ B n laps 6) (BW G) (gA G)) args s 0 0 (gA G)) (F0 m 17 ls []) := by
    intro n9
    induction n9 with
    | zero => intro i hn9; exact absurd hn9 (Nat.not_lt_zero _)
    | succ n9 ih17 =>
      intro i hn9 h17_0 H locs ls hw hl
      obtain ⟨σ_4, eσ_4⟩ : ∃ z, z = bgS σ B n laps i := ⟨_, rfl⟩
      rw [← eσ_4] at hw
      refine lv_iload_n hx hb dX3_begin_17 rfl (lv_at hl 1 rfl) ?_
      refine lv_bipush (v := 6) hx hb dX3_begin_18 (by decide) ?_
      refine lv_rep0 (x := 6) (y := nI 6) rfl ?_
      refine lv_icmp_ge (tgt := 64) hx hb dX3_begin_20 (by decide) (fun c_5 => ?_) (fun c_5 => ?_)
      · skip
        have c_5 : 6 ≤ i := (nI_leI (by omega) (by omega)).mp c_5
        subst eσ_4
        exact rRetV hx hb hr hw (by rw [show 6 = i by omega]) hlocks dX3_begin_64
      · skip
        have c_5 : ¬ 6 ≤ i := fun h9 => c_5 ((nI_leI (by omega) (by omega)).mpr h9)
        refine lv_aload_n hx hb dX3_begin_23 rfl (lv_at hl 0 rfl) ?_
        refine rGet (v := .ref (gad G (B + 1))) (C := RX3) (T := TX3) (N := 11) hx hb fx hown hts hin hw B (rB0 hF hB) (cE_race hB _) rfl 1 (by decide) (hts (.fieldLink RX3 15 "Leaguewheel$Race" "gateRow" "[I") (by decide +kernel)) (fun _ h9 => h9) rfl dX3_begin_24 ?_
        refine lv_iload_n hx hb dX3_begin_27 rfl (lv_at hl 1 rfl) ?_
        refine lv_iconst (v := 0) hx hb dX3_begin_28 (by decide) ?_
        refine rAst (x := 0) hx hb fx hw (B + 1) (rBk hF hB (by decide)) hF.2.1 (fun f => cE_row hB (k := 1) (by decide) (by decide) f) i rfl (by omega) (by decide) dX3_begin_29 (fun H locs hw => ?_)
        obtain ⟨σ_6, eσ_6⟩ : ∃ z, z = upA σ_4 (B + 1) (upd (σ_4 (B + 1)) i 0) := ⟨_, rfl⟩
        rw [← eσ_6] at hw
        refine lv_aload_n hx hb dX3_begin_30 rfl (lv_at hl 0 rfl) ?_
        refine rGet (v := .ref (gad G (B + 2))) (C := RX3) (T := TX3) (N := 11) hx hb fx hown hts hin hw B (rB0 hF hB) (cE_race hB _) rfl 2 (by decide) (hts (.fieldLink RX3 19 "Leaguewheel$Race" "lapRow" "[I") (by decide +kernel)) (fun _ h9 => h9) rfl dX3_begin_31 ?_
        refine lv_iload_n hx hb dX3_begin_34 rfl (lv_at hl 1 rfl) ?_
        refine lv_iconst (v := 0) hx hb dX3_begin_35 (by decide) ?_
        refine rAst (x := 0) hx hb fx hw (B + 2) (rBk hF hB (by decide)) hF.2.1 (fun f => cE_row hB (k := 2) (by decide) (by decide) f) i rfl (by omega) (by decide) dX3_begin_36 (fun H locs hw => ?_)
        obtain ⟨σ_7, eσ_7⟩ : ∃ z, z = upA σ_6 (B + 2) (upd (σ_6 (B + 2)) i 0) := ⟨_, rfl⟩
        rw [← eσ_7] at hw
        refine lv_aload_n hx hb dX3_begin_37 rfl (lv_at hl 0 rfl) ?_
        refine rGet (v := .ref (gad G (B + 3))) (C := RX3) (T := TX3) (N := 11) hx hb fx hown hts hin hw B (rB0 hF hB) (cE_race hB _) rfl 3 (by decide) (hts (.fieldLink RX3 22 "Leaguewheel$Race" "debtRow" "[I") (by decide +kernel)) (fun _ h9 => h9) rfl dX3_begin_38 ?_
        refine lv_iload_n hx hb dX3_begin_41 rfl (lv_at hl 1 rfl) ?_
        refine lv_iconst (v := 0) hx hb dX3_begin_42 (by decide) ?_
        refine rAst (x := 0) hx hb fx hw (B + 3) (rBk hF hB (by decide)) hF.2.1 (fun f => cE_row hB (k := 3) (by decide) (by decide) f) i rfl (by omega) (by decide) dX3_begin_43 (fun H locs hw => ?_)
        obtain ⟨σ_8, eσ_8⟩ : ∃ z, z = upA σ_7 (B + 3) (upd (σ_7 (B + 3)) i 0) := ⟨_, rfl⟩
        rw [← eσ_8] at hw
        refine lv_aload_n hx hb dX3_begin_44 rfl (lv_at hl 0 rfl) ?_
        refine rGet (v := .ref (gad G (B + 4))) (C := RX3) (T := TX3) (N := 11) hx hb fx hown hts hin hw B (rB0 hF hB) (cE_race hB _) rfl 4 (by decide) (hts (.fieldLink RX3 25 "Leaguewheel$Race" "passedRow" "[I") (by decide +kernel)) (fun _ h9 => h9) rfl dX3_begin_45 ?_
        refine lv_iload_n hx hb dX3_begin_48 rfl (lv_at hl 1 rfl) ?_
        refine lv_iconst (v := 0) hx hb dX3_begin_49 (by decide) ?_
        refine rAst (x := 0) hx hb fx hw (B + 4) (rBk hF hB (by decide)) hF.2.1 (fun f => cE_row hB (k := 4) (by decide) (by decide) f) i rfl (by omega) (by decide) dX3_begin_50 (fun H locs hw => ?_)
        obtain ⟨σ_9, eσ_9⟩ : ∃ z, z = upA σ_8 (B + 4) (upd (σ_8 (B + 4)) i 0) := ⟨_, rfl⟩
        rw [← eσ_9] at hw
        refine lv_aload_n hx hb dX3_begin_51 rfl (lv_at hl 0 rfl) ?_
        refine rGet (v := .ref (gad G (B + 5))) (C := RX3) (T := TX3) (N := 11) hx hb fx hown hts hin hw B (rB0 hF hB) (cE_race hB _) rfl 5 (by decide) (hts (.fieldLink RX3 28 "Leaguewheel$Race" "momentRow" "[I") (by decide +kernel)) (fun _ h9 => h9) rfl dX3_begin_52 ?_
        refine lv_iload_n hx hb dX3_begin_55 rfl (lv_at hl 1 rfl) ?_
        refine lv_iconst (v := 0) hx hb dX3_begin_56 (by decide) ?_
        refine rAst (x := 0) hx hb fx hw (B + 5) (rBk hF hB (by decide)) hF.2.1 (fun f => cE_row hB (k := 5) (by decide) (by decide) f) i rfl (by omega) (by decide) dX3_begin_57 (fun H locs hw => ?_)
        obtain ⟨σ_10, eσ_10⟩ : ∃ z, z = upA σ_9 (B + 5) (upd (σ_9 (B + 5)) i 0) := ⟨_, rfl⟩
        rw [← eσ_10] at hw
        refine lv_iinc (v := (nI (i + 1))) (lv' := [(3, .int (nI (i + 1))), (0, .ref (gad G B))]) hx hb dX3_begin_58 hl (k := 1) rfl (nI_1 _) (by decide) rfl (fun ls hl => ?_)
        refine lv_goto (tgt := 17) hx hb dX3_begin_61 (by decide) ?_
        have q_11 : σ_10 = bgS σ B n laps (i + 1) := by subst eσ_10 eσ_9 eσ_8 eσ_7 eσ_6 eσ_4; exact bgS_s σ B n laps i _ _ _ _ _ rfl rfl rfl rfl rfl
        rw [q_11] at hw
        exact ih17 (i + 1) (by omega) (by omega) _ _ _ hw (lv_c (lv_at hl 1 rfl) (lv_c (lv_at hl 0 rfl) (lv_c0 hl)))
  have q_12 : 0 = (nI 0) := by first | rfl | (simp)
  have q_13 : σ_3 = bgS σ B n laps 0 := by subst eσ_3 eσ_2 eσ_1; rw [← bgS_0]; simp only [upA_s, upA_upA]
  rw [q_13] at hw
  exact lab_17 (6 - 0 + 1) 0 (by omega) (by omega) _ _ _ hw (lv_c (lv_at hl 1 rfl) (lv_c (lv_atq hl 0 rfl q_12) (lv_c0 hl)))

def rmX3_goBack : Room := ({ frames := 0, cells := 0, slots := 0, locals := 0 } : Room)
set_option maxHeartbeats 4000000 in
set_option maxRecDepth 100000 in
theorem kX3_goBack (l : Launch) (G : Gx) (hG : gOk G) (hF : Full G) (σ : St) (B : Nat) (hB : rB B) (k : Nat) (hk : k < 6) (f : Nat) (hf : f < 12)  : CtI l yX3_goBack wsX3_goBack rmX3_goBack G σ [.ref (gad G B), .int (nI k), .int (nI f)] (fun r σ' => r = 3 ∧ σ' = bkS σ B k f) := by
  refine bgMet (cc := cX3_goBack) (maxL := 3) (ret := (some .int)) (own := RX3) (by decide) rfl rfl hG (Nat.le_of_ble_eq_true rfl) rfl ?_
  intro p e s m args below meth c ls Bd hl
  obtain ⟨hx, hb, hr, hml, hts, hown, hlocks, fx, hw⟩ := Bd
  have hl : lv_has ls 3 [(0, .ref (gad G B)), (1, .int (nI k)), (2, .int (nI f))] := hl
  have hin : ∀ w ∈ wsX30, w ∈ wsX3_goBack := by decide +kernel
  refine lv_iload_n hx hb dX3_goBack_0 rfl (lv_at hl 2 rfl) ?_
  refine lv_if_ne (tgt := 17) hx hb dX3_goBack_1 (by decide) (fun c_1 => ?_) (fun c_1 => ?_)
  · skip
    have c_1 : ¬ f = 0 := n0_net (by omega) c_1
    refine lv_aload_n hx hb dX3_goBack_17 rfl (lv_at hl 0 rfl) ?_
    refine rGet (v := .ref (gad G (B + 4))) (C := RX3) (T := TX3) (N := 11) hx hb fx hown hts hin hw B (rB0 hF hB) (cE_race hB _) rfl 4 (by decide) (hts (.fieldLink RX3 25 "Leaguewheel$Race" "passedRow" "[I") (by decide +kernel)) (fun _ h9 => h9) rfl dX3_goBack_18 ?_
    refine lv_iload_n hx hb dX3_goBack_21 rfl (lv_at hl 1 rfl) ?_
    refine lv_dup2_11 hx hb dX3_goBack_22 rfl rfl ?_
    refine rAld hx hb fx hw (B + 4) (rBk hF hB (by decide)) hF.2.1 (fun f => cE_row hB (k := 4) (by decide) (by decide) f) k rfl (by omega) (by decide) dX3_goBack_23 ?_
    refine lv_iconst (v := 1) hx hb dX3_goBack_24 (by decide) ?_
    refine lv_iload_n hx hb dX3_goBack_25 rfl (lv_at hl 2 rfl) ?_
    refine lv_ishl hx hb dX3_goBack_26 ?_
    refine lv_iconst (v := (-1)) hx hb dX3_goBack_27 (by decide) ?_
    refine lv_ixor hx hb dX3_goBack_28 ?_
    refine lv_iand hx hb dX3_goBack_29 ?_
    refine rAst (x := ((σ (B + 4) k) &&& ((1 <<< ((nI f) &&& 31)) ^^^ (-1)))) hx hb fx hw (B + 4) (rBk hF hB (by decide)) hF.2.1 (fun f => cE_row hB (k := 4) (by decide) (by decide) f) k rfl (by omega) (by decide) dX3_goBack_30 (fun H locs hw => ?_)
    obtain ⟨σ_2, eσ_2⟩ : ∃ z, z = upA σ (B + 4) (upd (σ (B + 4)) k ((σ (B + 4) k) &&& ((1 <<< ((nI f) &&& 31)) ^^^ (-1)))) := ⟨_, rfl⟩
    rw [← eσ_2] at hw
    refine lv_iconst (v := 3) hx hb dX3_goBack_31 (by decide) ?_
    subst eσ_2
    exact rRetI hx hb hr hw (by (rcases hB with rfl | rfl <;> (try simp only [bkS, upA_n, upA_s, pk_us, ne_eq, Nat.reduceAdd, Nat.reduceEqDiff, not_false_eq_true, decide_eq_true_eq, decide_eq_false_iff_not, Bool.not_eq_true', Bool.not_eq_false'] at c_1) <;> exact ⟨by simp [bkS, upA_n, upA_s, upA_upA, upA_self, upd_self, upd_upd, pk_us, bI, c_1], by simp [bkS, upA_n, upA_s, upA_upA, upA_self, upd_self, upd_upd, pk_us, bI, c_1]⟩)) hlocks dX3_goBack_32
  · skip
    have c_1 : f = 0 := n0_nef (by omega) c_1
    refine lv_aload_n hx hb dX3_goBack_4 rfl (lv_at hl 0 rfl) ?_
    refine rGet (v := .ref (gad G (B + 3))) (C := RX3) (T := TX3) (N := 11) hx hb fx hown hts hin hw B (rB0 hF hB) (cE_race hB _) rfl 3 (by decide) (hts (.fieldLink RX3 22 "Leaguewheel$Race" "debtRow" "[I") (by decide +kernel)) (fun _ h9 => h9) rfl dX3_goBack_5 ?_
    refine lv_iload_n hx hb dX3_goBack_8 rfl (lv_at hl 1 rfl) ?_
    refine lv_dup2_11 hx hb dX3_goBack_9 rfl rfl ?_
    refine rAld hx hb fx hw (B + 3) (rBk hF hB (by decide)) hF.2.1 (fun f => cE_row hB (k := 3) (by decide) (by decide) f) k rfl (by omega) (by decide) dX3_goBack_10 ?_
    refine lv_iconst (v := 1) hx hb dX3_goBack_11 (by decide) ?_
    refine lv_iadd hx hb dX3_goBack_12 ?_
    refine rAst (x := ((σ (B + 3) k) + 1)) hx hb fx hw (B + 3) (rBk hF hB (by decide)) hF.2.1 (fun f => cE_row hB (k := 3) (by decide) (by decide) f) k rfl (by omega) (by decide) dX3_goBack_13 (fun H locs hw => ?_)
    obtain ⟨σ_3, eσ_3⟩ : ∃ z, z = upA σ (B + 3) (upd (σ (B + 3)) k ((σ (B + 3) k) + 1)) := ⟨_, rfl⟩
    rw [← eσ_3] at hw
    refine lv_goto (tgt := 31) hx hb dX3_goBack_14 (by decide) ?_
    refine lv_iconst (v := 3) hx hb dX3_goBack_31 (by decide) ?_
    subst eσ_3
    exact rRetI hx hb hr hw (by (rcases hB with rfl | rfl <;> (try simp only [bkS, upA_n, upA_s, pk_us, ne_eq, Nat.reduceAdd, Nat.reduceEqDiff, not_false_eq_true, decide_eq_true_eq, decide_eq_false_iff_not, Bool.not_eq_true', Bool.not_eq_false'] at c_1) <;> exact ⟨by simp [bkS, upA_n, upA_s, upA_upA, upA_self, upd_self, upd_upd, pk_us, bI, c_1], by simp [bkS, upA_n, upA_s, upA_upA, upA_self, upd_self, upd_upd, pk_us, bI, c_1]⟩)) hlocks dX3_goBack_32

def rmX3_reachGate : Room := ({ frames := 1, cells := 0, slots := 0, locals := 21 } : Room)
set_option maxHeartbeats 4000000 in
set_option maxRecDepth 100000 in
theorem kX3_reachGate (l : Launch) (G : Gx) (hG : gOk G) (hF : Full G) (σ : St) (B : Nat) (hB : rB B) (k : Nat) (hk : k < 6) (t : Nat) (ht : t < 12)  : CtI l yX3_reachGate wsX3_reachGate rmX3_reachGate G σ [.ref (gad G B), .int (nI k), .int (nI t)] (fun r σ' => r = 0 ∧ σ' = rgS σ B k t) := by
  refine bgMet (cc := cX3_reachGate) (maxL := 3) (ret := (some .int)) (own := RX3) (by decide) rfl rfl hG (Nat.le_of_ble_eq_true rfl) rfl ?_
  intro p e s m args below meth c ls Bd hl
  obtain ⟨hx, hb, hr, hml, hts, hown, hlocks, fx, hw⟩ := Bd
  have hl : lv_has ls 3 [(0, .ref (gad G B)), (1, .int (nI k)), (2, .int (nI t))] := hl
  have hin : ∀ w ∈ wsX30, w ∈ wsX3_reachGate := by decide +kernel
  refine lv_aload_n hx hb dX3_reachGate_0 rfl (lv_at hl 0 rfl) ?_
  refine rGet (v := .ref (gad G 1)) (C := RX3) (T := TX3) (N := 11) hx hb fx hown hts hin hw B (rB0 hF hB) (cE_race hB _) rfl 0 (by decide) (hts (.fieldLink RX3 9 "Leaguewheel$Race" "track" "LLeaguewheel$Track;") (by decide +kernel)) (fun _ h9 => h9) rfl dX3_reachGate_1 ?_
  refine lv_iload_n hx hb dX3_reachGate_4 rfl (lv_at hl 2 rfl) ?_
  refine rCallI (C := RX4) (As := [.int (nI t)]) (rest := []) ⟨hx, hb, hml, hown, hts⟩ fx hw (kX4_isNeeded l G hG hF σ t) (cwV 1 hts gX3_reachGate_X4_isNeeded rfl rfl rfl (by decide +kernel) ⟨Nat.le_of_ble_eq_true rfl, Nat.le_of_ble_eq_true rfl⟩) (hF.1 1 (by decide)) rfl rfl rfl rfl hl.1 rfl (Nat.le_of_ble_eq_true rfl) dX3_reachGate_5 ⟨Nat.zero_le _, Nat.zero_le _⟩ ?_
  intro r_2 σ_3 H locs p_1 hw
  obtain ⟨er_2, eσ_3⟩ := p_1
  have er_2 := er_2.symm; subst er_2
  have eσ_3 := eσ_3.symm; subst eσ_3
  refine lv_b_eq (tgt := 32) hx hb dX3_reachGate_8 (by decide) (fun c_4 => ?_) (fun c_4 => ?_)
  · skip
    refine lv_iconst (v := 0) hx hb dX3_reachGate_32 (by decide) ?_
    exact rRetI hx hb hr hw (by exact ⟨rfl, by first | exact rgS_f (fun h => c_4 h.2) | exact rgS_f (fun h => h.1 (by simpa using c_4)) | exact rgS_t (by simpa using c_4) c_4⟩) hlocks dX3_reachGate_33
  · skip
    refine lv_aload_n hx hb dX3_reachGate_11 rfl (lv_at hl 0 rfl) ?_
    refine rGet (v := .ref (gad G (B + 3))) (C := RX3) (T := TX3) (N := 11) hx hb fx hown hts hin hw B (rB0 hF hB) (cE_race hB _) rfl 3 (by decide) (hts (.fieldLink RX3 22 "Leaguewheel$Race" "debtRow" "[I") (by decide +kernel)) (fun _ h9 => h9) rfl dX3_reachGate_12 ?_
    refine lv_iload_n hx hb dX3_reachGate_15 rfl (lv_at hl 1 rfl) ?_
    refine rAld hx hb fx hw (B + 3) (rBk hF hB (by decide)) hF.2.1 (fun f => cE_row hB (k := 3) (by decide) (by decide) f) k rfl (by omega) (by decide) dX3_reachGate_16 ?_
    refine lv_if_ne (tgt := 32) hx hb dX3_reachGate_17 (by decide) (fun c_5 => ?_) (fun c_5 => ?_)
    · skip
      refine lv_iconst (v := 0) hx hb dX3_reachGate_32 (by decide) ?_
      exact rRetI hx hb hr hw (by exact ⟨rfl, by first | exact rgS_f (fun h => c_5 h.2) | exact rgS_f (fun h => h.1 (by simpa using c_5)) | exact rgS_t (by simpa using c_4) c_5⟩) hlocks dX3_reachGate_33
    · skip
      refine lv_aload_n hx hb dX3_reachGate_20 rfl (lv_at hl 0 rfl) ?_
      refine rGet (v := .ref (gad G (B + 4))) (C := RX3) (T := TX3) (N := 11) hx hb fx hown hts hin hw B (rB0 hF hB) (cE_race hB _) rfl 4 (by decide) (hts (.fieldLink RX3 25 "Leaguewheel$Race" "passedRow" "[I") (by decide +kernel)) (fun _ h9 => h9) rfl dX3_reachGate_21 ?_
      refine lv_iload_n hx hb dX3_reachGate_24 rfl (lv_at hl 1 rfl) ?_
      refine lv_dup2_11 hx hb dX3_reachGate_25 rfl rfl ?_
      refine rAld hx hb fx hw (B + 4) (rBk hF hB (by decide)) hF.2.1 (fun f => cE_row hB (k := 4) (by decide) (by decide) f) k rfl (by omega) (by decide) dX3_reachGate_26 ?_
      refine lv_iconst (v := 1) hx hb dX3_reachGate_27 (by decide) ?_
      refine lv_iload_n hx hb dX3_reachGate_28 rfl (lv_at hl 2 rfl) ?_
      refine lv_ishl hx hb dX3_reachGate_29 ?_
      refine lv_ior hx hb dX3_reachGate_30 ?_
      refine rAst (x := ((σ (B + 4) k) ||| (1 <<< ((nI t) &&& 31)))) hx hb fx hw (B + 4) (rBk hF hB (by decide)) hF.2.1 (fun f => cE_row hB (k := 4) (by decide) (by decide) f) k rfl (by omega) (by decide) dX3_reachGate_31 (fun H locs hw => ?_)
      obtain ⟨σ_6, eσ_6⟩ : ∃ z, z = upA σ (B + 4) (upd (σ (B + 4)) k ((σ (B + 4) k) ||| (1 <<< ((nI t) &&& 31)))) := ⟨_, rfl⟩
      rw [← eσ_6] at hw
      refine lv_iconst (v := 0) hx hb dX3_reachGate_32 (by decide) ?_
      subst eσ_6
      exact rRetI hx hb hr hw (by exact ⟨rfl, by first | exact rgS_f (fun h => c_5 h.2) | exact rgS_f (fun h => h.1 (by simpa using c_5)) | exact rgS_t (by simpa using c_4) c_5⟩) hlocks dX3_reachGate_33

def rmX3_crossLine : Room := ({ frames := 2, cells := 0, slots := 0, locals := 41 } : Room)
set_option maxHeartbeats 4000000 in
set_option maxRecDepth 100000 in
theorem kX3_crossLine (l : Launch) (G : Gx) (hG : gOk G) (hF : Full G) (σ : St) (B : Nat) (hB : rB B) (k : Nat) (hk : k < 6)  : CtI l yX3_crossLine wsX3_crossLine rmX3_crossLine G σ [.ref (gad G B), .int (nI k)] (fun r σ' => r = crR σ B k ∧ σ' = crS σ B k) := by
  refine bgMet (cc := cX3_crossLine) (maxL := 3) (ret := (some .int)) (own := RX3) (by decide) rfl rfl hG (Nat.le_of_ble_eq_true rfl) rfl ?_
  intro p e s m args below meth c ls Bd hl
  obtain ⟨hx, hb, hr, hml, hts, hown, hlocks, fx, hw⟩ := Bd
  have hl : lv_has ls 3 [(0, .ref (gad G B)), (1, .int (nI k))] := hl
  have hin : ∀ w ∈ wsX30, w ∈ wsX3_crossLine := by decide +kernel
  refine lv_aload_n hx hb dX3_crossLine_0 rfl (lv_at hl 0 rfl) ?_
  refine lv_iload_n hx hb dX3_crossLine_1 rfl (lv_at hl 1 rfl) ?_
  refine rCallI (C := RX3) (As := [.int (nI k)]) (rest := []) ⟨hx, hb, hml, hown, hts⟩ fx hw (kX3_missingGates l G hG hF σ B hB k (by omega)) (cwV 1 hts gX3_crossLine_X3_missingGates rfl rfl rfl (by decide +kernel) ⟨Nat.le_of_ble_eq_true rfl, Nat.le_of_ble_eq_true rfl⟩) (rB0 hF hB) (cE_race hB _) rfl rfl rfl hl.1 rfl (Nat.le_of_ble_eq_true rfl) dX3_crossLine_2 ⟨Nat.zero_le _, Nat.zero_le _⟩ ?_
  intro r_2 σ_3 H locs p_1 hw
  obtain ⟨er_2, eσ_3⟩ := p_1
  have er_2 := er_2.symm; subst er_2
  have eσ_3 := eσ_3.symm; subst eσ_3
  have lab_13 : ∀ (H : Heap) (locs : List Loc) (ls : Array Slot), Wd G s σ H locs → lv_has ls 3 [(0, .ref (gad G B)), (1, .int (nI k))] → W p l e rmX3_crossLine s m args below meth c H locs 0 0 (MQ below (va_Qi (fun r σ' => r = crR σ B k ∧ σ' = crS σ B k) (BW G) (gA G)) args s 0 0 (gA G)) (F0 m 13 ls [.int (bI (decide (misA σ B k = 0)))]) := by
    intro   H locs ls hw hl
    refine lv_istore_n (lv' := [(2, .int (bI (decide (misA σ B k = 0)))), (0, .ref (gad G B)), (1, .int (nI k))]) hx hb dX3_crossLine_13 rfl hl (by decide) rfl (fun ls hl => ?_)
    refine lv_aload_n hx hb dX3_crossLine_14 rfl (lv_at hl 1 rfl) ?_
    refine rGet (v := .ref (gad G (B + 4))) (C := RX3) (T := TX3) (N := 11) hx hb fx hown hts hin hw B (rB0 hF hB) (cE_race hB _) rfl 4 (by decide) (hts (.fieldLink RX3 25 "Leaguewheel$Race" "passedRow" "[I") (by decide +kernel)) (fun _ h9 => h9) rfl dX3_crossLine_15 ?_
    refine lv_iload_n hx hb dX3_crossLine_18 rfl (lv_at hl 2 rfl) ?_
    refine lv_iconst (v := 0) hx hb dX3_crossLine_19 (by decide) ?_
    refine rAst (x := 0) hx hb fx hw (B + 4) (rBk hF hB (by decide)) hF.2.1 (fun f => cE_row hB (k := 4) (by decide) (by decide) f) k rfl (by omega) (by decide) dX3_crossLine_20 (fun H locs hw => ?_)
    obtain ⟨σ_4, eσ_4⟩ : ∃ z, z = upA σ (B + 4) (upd (σ (B + 4)) k 0) := ⟨_, rfl⟩
    rw [← eσ_4] at hw
    refine lv_aload_n hx hb dX3_crossLine_21 rfl (lv_at hl 1 rfl) ?_
    refine rGet (v := .ref (gad G (B + 3))) (C := RX3) (T := TX3) (N := 11) hx hb fx hown hts hin hw B (rB0 hF hB) (cE_race hB _) rfl 3 (by decide) (hts (.fieldLink RX3 22 "Leaguewheel$Race" "debtRow" "[I") (by decide +kernel)) (fun _ h9 => h9) rfl dX3_crossLine_22 ?_
    refine lv_iload_n hx hb dX3_crossLine_25 rfl (lv_at hl 2 rfl) ?_
    refine rAld hx hb fx hw (B + 3) (rBk hF hB (by decide)) hF.2.1 (fun f => cE_row hB (k := 3) (by decide) (by decide) f) k rfl (by omega) (by decide) dX3_crossLine_26 ?_
    refine lv_if_le (tgt := 42) hx hb dX3_crossLine_27 (by decide) (fun c_5 => ?_) (fun c_5 => ?_)
    · skip
      refine lv_iload_n hx hb dX3_crossLine_42 rfl (lv_at hl 0 rfl) ?_
      refine lv_b_ne (tgt := 48) hx hb dX3_crossLine_43 (by decide) (fun c_6 => ?_) (fun c_6 => ?_)
      · skip
        refine lv_aload_n hx hb dX3_crossLine_48 rfl (lv_at hl 1 rfl) ?_
        refine rGet (v := .ref (gad G (B + 2))) (C := RX3) (T := TX3) (N := 11) hx hb fx hown hts hin hw B (rB0 hF hB) (cE_race hB _) rfl 2 (by decide) (hts (.fieldLink RX3 19 "Leaguewheel$Race" "lapRow" "[I") (by decide +kernel)) (fun _ h9 => h9) rfl dX3_crossLine_49 ?_
        refine lv_iload_n hx hb dX3_crossLine_52 rfl (lv_at hl 2 rfl) ?_
        refine lv_dup2_11 hx hb dX3_crossLine_53 rfl rfl ?_
        refine rAld hx hb fx hw (B + 2) (rBk hF hB (by decide)) hF.2.1 (fun f => cE_row hB (k := 2) (by decide) (by decide) f) k rfl (by omega) (by decide) dX3_crossLine_54 ?_
        refine lv_iconst (v := 1) hx hb dX3_crossLine_55 (by decide) ?_
        refine lv_iadd hx hb dX3_crossLine_56 ?_
        refine rAst (x := ((σ_4 (B + 2) k) + 1)) hx hb fx hw (B + 2) (rBk hF hB (by decide)) hF.2.1 (fun f => cE_row hB (k := 2) (by decide) (by decide) f) k rfl (by omega) (by decide) dX3_crossLine_57 (fun H locs hw => ?_)
        obtain ⟨σ_7, eσ_7⟩ : ∃ z, z = upA σ_4 (B + 2) (upd (σ_4 (B + 2)) k ((σ_4 (B + 2) k) + 1)) := ⟨_, rfl⟩
        rw [← eσ_7] at hw
        refine lv_aload_n hx hb dX3_crossLine_58 rfl (lv_at hl 1 rfl) ?_
        refine lv_iload_n hx hb dX3_crossLine_59 rfl (lv_at hl 2 rfl) ?_
        refine rCallI (C := RX3) (As := [.int (nI k)]) (rest := []) ⟨hx, hb, hml, hown, hts⟩ fx hw (kX3_isFinished l G hG hF σ_7 B hB k (by omega)) (cwV 1 hts gX3_crossLine_X3_isFinished rfl rfl rfl (by decide +kernel) ⟨Nat.le_of_ble_eq_true rfl, Nat.le_of_ble_eq_true rfl⟩) (rB0 hF hB) (cE_race hB _) rfl rfl rfl hl.1 rfl (Nat.le_of_ble_eq_true rfl) dX3_crossLine_60 ⟨Nat.zero_le _, Nat.zero_le _⟩ ?_
        intro r_9 σ_10 H locs p_8 hw
        obtain ⟨er_9, eσ_10⟩ := p_8
        have er_9 := er_9.symm; subst er_9
        have eσ_10 := eσ_10.symm; subst eσ_10
        refine lv_b_eq (tgt := 70) hx hb dX3_crossLine_63 (by decide) (fun c_11 => ?_) (fun c_11 => ?_)
        · skip
          refine lv_iconst (v := 1) hx hb dX3_crossLine_70 (by decide) ?_
          subst eσ_7
          subst eσ_4
          exact rRetI hx hb hr hw (by (rcases hB with rfl | rfl <;> (try simp only [crR, crS, finB, upA_n, upA_s, pk_us, ne_eq, Nat.reduceAdd, Nat.reduceEqDiff, not_false_eq_true, decide_eq_true_eq, decide_eq_false_iff_not, Bool.not_eq_true', Bool.not_eq_false'] at c_5 c_6 c_11) <;> exact ⟨by simp [crR, crS, finB, upA_n, upA_s, upA_upA, upA_self, upd_self, upd_upd, pk_us, bI, c_5, c_6, c_11], by simp [crR, crS, finB, upA_n, upA_s, upA_upA, upA_self, upd_self, upd_upd, pk_us, bI, c_5, c_6, c_11]⟩)) hlocks dX3_crossLine_71
        · skip
          refine lv_iconst (v := 5) hx hb dX3_crossLine_66 (by decide) ?_
          refine lv_goto (tgt := 71) hx hb dX3_crossLine_67 (by decide) ?_
          subst eσ_7
          subst eσ_4
          exact rRetI hx hb hr hw (by (rcases hB with rfl | rfl <;> (try simp only [crR, crS, finB, upA_n, upA_s, pk_us, ne_eq, Nat.reduceAdd, Nat.reduceEqDiff, not_false_eq_true, decide_eq_true_eq, decide_eq_false_iff_not, Bool.not_eq_true', Bool.not_eq_false'] at c_5 c_6 c_11) <;> exact ⟨by simp [crR, crS, finB, upA_n, upA_s, upA_upA, upA_self, upd_self, upd_upd, pk_us, bI, c_5, c_6, c_11], by simp [crR, crS, finB, upA_n, upA_s, upA_upA, upA_self, upd_self, upd_upd, pk_us, bI, c_5, c_6, c_11]⟩)) hlocks dX3_crossLine_71
      · skip
        refine lv_iconst (v := 2) hx hb dX3_crossLine_46 (by decide) ?_
        subst eσ_4
        exact rRetI hx hb hr hw (by (rcases hB with rfl | rfl <;> (try simp only [crR, crS, finB, upA_n, upA_s, pk_us, ne_eq, Nat.reduceAdd, Nat.reduceEqDiff, not_false_eq_true, decide_eq_true_eq, decide_eq_false_iff_not, Bool.not_eq_true', Bool.not_eq_false'] at c_5 c_6) <;> exact ⟨by simp [crR, crS, finB, upA_n, upA_s, upA_upA, upA_self, upd_self, upd_upd, pk_us, bI, c_5, c_6], by simp [crR, crS, finB, upA_n, upA_s, upA_upA, upA_self, upd_self, upd_upd, pk_us, bI, c_5, c_6]⟩)) hlocks dX3_crossLine_47
    · skip
      refine lv_aload_n hx hb dX3_crossLine_30 rfl (lv_at hl 1 rfl) ?_
      refine rGet (v := .ref (gad G (B + 3))) (C := RX3) (T := TX3) (N := 11) hx hb fx hown hts hin hw B (rB0 hF hB) (cE_race hB _) rfl 3 (by decide) (hts (.fieldLink RX3 22 "Leaguewheel$Race" "debtRow" "[I") (by decide +kernel)) (fun _ h9 => h9) rfl dX3_crossLine_31 ?_
      refine lv_iload_n hx hb dX3_crossLine_34 rfl (lv_at hl 2 rfl) ?_
      refine lv_dup2_11 hx hb dX3_crossLine_35 rfl rfl ?_
      refine rAld hx hb fx hw (B + 3) (rBk hF hB (by decide)) hF.2.1 (fun f => cE_row hB (k := 3) (by decide) (by decide) f) k rfl (by omega) (by decide) dX3_crossLine_36 ?_
      refine lv_iconst (v := 1) hx hb dX3_crossLine_37 (by decide) ?_
      refine lv_isub hx hb dX3_crossLine_38 ?_
      refine rAst (x := ((σ_4 (B + 3) k) - 1)) hx hb fx hw (B + 3) (rBk hF hB (by decide)) hF.2.1 (fun f => cE_row hB (k := 3) (by decide) (by decide) f) k rfl (by omega) (by decide) dX3_crossLine_39 (fun H locs hw => ?_)
      obtain ⟨σ_12, eσ_12⟩ : ∃ z, z = upA σ_4 (B + 3) (upd (σ_4 (B + 3)) k ((σ_4 (B + 3) k) - 1)) := ⟨_, rfl⟩
      rw [← eσ_12] at hw
      refine lv_iconst (v := 4) hx hb dX3_crossLine_40 (by decide) ?_
      subst eσ_12
      subst eσ_4
      exact rRetI hx hb hr hw (by (rcases hB with rfl | rfl <;> (try simp only [crR, crS, finB, upA_n, upA_s, pk_us, ne_eq, Nat.reduceAdd, Nat.reduceEqDiff, not_false_eq_true, decide_eq_true_eq, decide_eq_false_iff_not, Bool.not_eq_true', Bool.not_eq_false'] at c_5) <;> exact ⟨by simp [crR, crS, finB, upA_n, upA_s, upA_upA, upA_self, upd_self, upd_upd, pk_us, bI, c_5], by simp [crR, crS, finB, upA_n, upA_s, upA_upA, upA_self, upd_self, upd_upd, pk_us, bI, c_5]⟩)) hlocks dX3_crossLine_41
  refine lv_if_ne (tgt := 12) hx hb dX3_crossLine_5 (by decide) (fun c_13 => ?_) (fun c_13 => ?_)
  · skip
    refine lv_iconst (v := 0) hx hb dX3_crossLine_12 (by decide) ?_
    have q_14 : 0 = (bI (decide (misA σ B k = 0))) := by first | rfl | (simp [bI, c_13])
    refine lv_rep0 q_14 ?_
    exact lab_13   _ _ _ hw (lv_c (lv_at hl 0 rfl) (lv_c (lv_at hl 1 rfl) (lv_c0 hl)))
  · skip
    refine lv_iconst (v := 1) hx hb dX3_crossLine_8 (by decide) ?_
    refine lv_goto (tgt := 13) hx hb dX3_crossLine_9 (by decide) ?_
    have q_15 : 1 = (bI (decide (misA σ B k = 0))) := by first | rfl | (simp [bI, c_13])
    refine lv_rep0 q_15 ?_
    exact lab_13   _ _ _ hw (lv_c (lv_at hl 0 rfl) (lv_c (lv_at hl 1 rfl) (lv_c0 hl)))

def rmX3_move : Room := ({ frames := 3, cells := 0, slots := 0, locals := 63 } : Room)
set_option maxHeartbeats 4000000 in
set_option maxRecDepth 100000 in
theorem kX3_move (l : Launch) (G : Gx) (hG : gOk G) (hF : Full G) (σ : St) (B : Nat) (hB : rB B) (k : Nat) (hk : k < 6) (t : Nat) (ht : t < 12) (hg : rOk σ B)  : CtI l yX3_move wsX3_move rmX3_move G σ [.ref (gad G B), .int (nI k), .int (nI t)] (fun r σ' => r = mvR σ B k t ∧ σ' = mvS σ B k t) := by
  refine bgMet (cc := cX3_move) (maxL := 4) (ret := (some .int)) (own := RX3) (by decide) rfl rfl hG (Nat.le_of_ble_eq_true rfl) rfl ?_
  intro p e s m args below meth c ls Bd hl
  obtain ⟨hx, hb, hr, hml, hts, hown, hlocks, fx, hw⟩ := Bd
  have hl : lv_has ls 4 [(0, .ref (gad G B)), (1, .int (nI k)), (2, .int (nI t))] := hl
  have hin : ∀ w ∈ wsX30, w ∈ wsX3_move := by decide +kernel
  have hgk := (hg k hk).2
  refine lv_aload_n hx hb dX3_move_0 rfl (lv_at hl 0 rfl) ?_
  refine rGet (v := .ref (gad G (B + 1))) (C := RX3) (T := TX3) (N := 11) hx hb fx hown hts hin hw B (rB0 hF hB) (cE_race hB _) rfl 1 (by decide) (hts (.fieldLink RX3 15 "Leaguewheel$Race" "gateRow" "[I") (by decide +kernel)) (fun _ h9 => h9) rfl dX3_move_1 ?_
  refine lv_iload_n hx hb dX3_move_4 rfl (lv_at hl 1 rfl) ?_
  refine rAld hx hb fx hw (B + 1) (rBk hF hB (by decide)) hF.2.1 (fun f => cE_row hB (k := 1) (by decide) (by decide) f) k rfl (by omega) (by decide) dX3_move_5 ?_
  refine lv_rep0 (x := (σ (B + 1) k)) (y := nI (gN σ B k)) (by exact (hg k hk).1) ?_
  refine lv_istore_n (lv' := [(3, .int (nI (gN σ B k))), (0, .ref (gad G B)), (1, .int (nI k)), (2, .int (nI t))]) hx hb dX3_move_6 rfl hl (by decide) rfl (fun ls hl => ?_)
  refine lv_aload_n hx hb dX3_move_7 rfl (lv_at hl 1 rfl) ?_
  refine lv_dup hx hb dX3_move_8 rfl ?_
  refine rGet (v := .int (σ B 10)) (C := RX3) (T := TX3) (N := 11) hx hb fx hown hts hin hw B (rB0 hF hB) (cE_race hB _) rfl 10 (by decide) (hts (.fieldLink RX3 44 "Leaguewheel$Race" "moment" "I") (by decide +kernel)) (fun _ h9 => h9) rfl dX3_move_9 ?_
  refine lv_iconst (v := 1) hx hb dX3_move_12 (by decide) ?_
  refine lv_iadd hx hb dX3_move_13 ?_
  refine rPut (v := ((σ B 10) + 1)) (ty := .int) (C := RX3) (T := TX3) (N := 11) hx hb fx hown hts hin tyX3 tyX3_ok nmX3 hw B (rB0 hF hB) (cE_race hB _) rfl 10 (by decide) (hts (.fieldLink RX3 44 "Leaguewheel$Race" "moment" "I") (by decide +kernel)) (fun _ h9 => h9) rfl (by decide +kernel) rfl rfl (Nat.le_of_ble_eq_true rfl) (cE_race hB _) dX3_move_14 (fun H locs hw => ?_)
  obtain ⟨σ_1, eσ_1⟩ : ∃ z, z = upA σ B (upd (σ B) 10 ((σ B 10) + 1)) := ⟨_, rfl⟩
  rw [← eσ_1] at hw
  refine lv_aload_n hx hb dX3_move_17 rfl (lv_at hl 1 rfl) ?_
  refine rGet (v := .ref (gad G (B + 5))) (C := RX3) (T := TX3) (N := 11) hx hb fx hown hts hin hw B (rB0 hF hB) (cE_race hB _) rfl 5 (by decide) (hts (.fieldLink RX3 28 "Leaguewheel$Race" "momentRow" "[I") (by decide +kernel)) (fun _ h9 => h9) rfl dX3_move_18 ?_
  refine lv_iload_n hx hb dX3_move_21 rfl (lv_at hl 2 rfl) ?_
  refine lv_aload_n hx hb dX3_move_22 rfl (lv_at hl 1 rfl) ?_
  refine rGet (v := .int (σ_1 B 10)) (C := RX3) (T := TX3) (N := 11) hx hb fx hown hts hin hw B (rB0 hF hB) (cE_race hB _) rfl 10 (by decide) (hts (.fieldLink RX3 44 "Leaguewheel$Race" "moment" "I") (by decide +kernel)) (fun _ h9 => h9) rfl dX3_move_23 ?_
  refine rAst (x := (σ_1 B 10)) hx hb fx hw (B + 5) (rBk hF hB (by decide)) hF.2.1 (fun f => cE_row hB (k := 5) (by decide) (by decide) f) k rfl (by omega) (by decide) dX3_move_26 (fun H locs hw => ?_)
  obtain ⟨σ_2, eσ_2⟩ : ∃ z, z = upA σ_1 (B + 5) (upd (σ_1 (B + 5)) k (σ_1 B 10)) := ⟨_, rfl⟩
  rw [← eσ_2] at hw
  refine lv_aload_n hx hb dX3_move_27 rfl (lv_at hl 1 rfl) ?_
  refine rGet (v := .ref (gad G (B + 1))) (C := RX3) (T := TX3) (N := 11) hx hb fx hown hts hin hw B (rB0 hF hB) (cE_race hB _) rfl 1 (by decide) (hts (.fieldLink RX3 15 "Leaguewheel$Race" "gateRow" "[I") (by decide +kernel)) (fun _ h9 => h9) rfl dX3_move_28 ?_
  refine lv_iload_n hx hb dX3_move_31 rfl (lv_at hl 2 rfl) ?_
  refine lv_iload_n hx hb dX3_move_32 rfl (lv_at hl 3 rfl) ?_
  refine rAst (x := (nI t)) hx hb fx hw (B + 1) (rBk hF hB (by decide)) hF.2.1 (fun f => cE_row hB (k := 1) (by decide) (by decide) f) k rfl (by omega) (by decide) dX3_move_33 (fun H locs hw => ?_)
  obtain ⟨σ_3, eσ_3⟩ : ∃ z, z = upA σ_2 (B + 1) (upd (σ_2 (B + 1)) k (nI t)) := ⟨_, rfl⟩
  rw [← eσ_3] at hw
  refine lv_aload_n hx hb dX3_move_34 rfl (lv_at hl 1 rfl) ?_
  refine rGet (v := .ref (gad G 1)) (C := RX3) (T := TX3) (N := 11) hx hb fx hown hts hin hw B (rB0 hF hB) (cE_race hB _) rfl 0 (by decide) (hts (.fieldLink RX3 9 "Leaguewheel$Race" "track" "LLeaguewheel$Track;") (by decide +kernel)) (fun _ h9 => h9) rfl dX3_move_35 ?_
  refine lv_iload_n hx hb dX3_move_38 rfl (lv_at hl 0 rfl) ?_
  refine lv_iload_n hx hb dX3_move_39 rfl (lv_at hl 3 rfl) ?_
  refine rCallI (C := RX4) (As := [.int (nI (gN σ B k)), .int (nI t)]) (rest := []) ⟨hx, hb, hml, hown, hts⟩ fx hw (kX4_leads l G hG hF σ_3 ((gN σ B k)) t (by omega) (by omega)) (cwV 2 hts gX3_move_X4_leads rfl rfl rfl (by decide +kernel) ⟨Nat.le_of_ble_eq_true rfl, Nat.le_of_ble_eq_true rfl⟩) (hF.1 1 (by decide)) rfl rfl rfl rfl hl.1 rfl (Nat.le_of_ble_eq_true rfl) dX3_move_40 ⟨Nat.zero_le _, Nat.zero_le _⟩ ?_
  intro r_5 σ_6 H locs p_4 hw
  obtain ⟨er_5, eσ_6⟩ := p_4
  have er_5 := er_5.symm; subst er_5
  have eσ_6 := eσ_6.symm; subst eσ_6
  refine lv_b_ne (tgt := 53) hx hb dX3_move_43 (by decide) (fun c_7 => ?_) (fun c_7 => ?_)
  · skip
    refine lv_iload_n hx hb dX3_move_53 rfl (lv_at hl 3 rfl) ?_
    refine lv_if_ne (tgt := 65) hx hb dX3_move_54 (by decide) (fun c_8 => ?_) (fun c_8 => ?_)
    · skip
      have c_8 : ¬ t = 0 := n0_net (by omega) c_8
      refine lv_aload_n hx hb dX3_move_65 rfl (lv_at hl 1 rfl) ?_
      refine lv_iload_n hx hb dX3_move_66 rfl (lv_at hl 2 rfl) ?_
      refine lv_iload_n hx hb dX3_move_67 rfl (lv_at hl 3 rfl) ?_
      refine rCallI (C := RX3) (As := [.int (nI k), .int (nI t)]) (rest := []) ⟨hx, hb, hml, hown, hts⟩ fx hw (kX3_reachGate l G hG hF σ_3 B hB k (by omega) t (by omega)) (cwV 2 hts gX3_move_X3_reachGate rfl rfl rfl (by decide +kernel) ⟨Nat.le_of_ble_eq_true rfl, Nat.le_of_ble_eq_true rfl⟩) (rB0 hF hB) (cE_race hB _) rfl rfl rfl hl.1 rfl (Nat.le_of_ble_eq_true rfl) dX3_move_68 ⟨Nat.zero_le _, Nat.zero_le _⟩ ?_
      intro r_10 σ_11 H locs p_9 hw
      obtain ⟨er_10, eσ_11⟩ := p_9
      have er_10 := er_10.symm; subst er_10
      subst eσ_11
      subst eσ_3
      subst eσ_2
      subst eσ_1
      exact rRetI hx hb hr hw (by (first | subst c_8 | skip); (rcases hB with rfl | rfl <;> (try simp only [mvR, mvS, mv0, upA_n, upA_s, pk_us, ne_eq, Nat.reduceAdd, Nat.reduceEqDiff, not_false_eq_true, decide_eq_true_eq, decide_eq_false_iff_not, Bool.not_eq_true', Bool.not_eq_false'] at c_7 c_8) <;> exact ⟨by simp [mvR, mvS, mv0, upA_n, upA_s, upA_upA, upA_self, upd_self, upd_upd, pk_us, bI, c_7, c_8], by simp [mvR, mvS, mv0, upA_n, upA_s, upA_upA, upA_self, upd_self, upd_upd, pk_us, bI, c_7, c_8]⟩)) hlocks dX3_move_71
    · skip
      have c_8 : t = 0 := n0_nef (by omega) c_8
      refine lv_aload_n hx hb dX3_move_57 rfl (lv_at hl 1 rfl) ?_
      refine lv_iload_n hx hb dX3_move_58 rfl (lv_at hl 2 rfl) ?_
      refine rCallI (C := RX3) (As := [.int (nI k)]) (rest := []) ⟨hx, hb, hml, hown, hts⟩ fx hw (kX3_crossLine l G hG hF σ_3 B hB k (by omega)) (cwV 1 hts gX3_move_X3_crossLine rfl rfl rfl (by decide +kernel) ⟨Nat.le_of_ble_eq_true rfl, Nat.le_of_ble_eq_true rfl⟩) (rB0 hF hB) (cE_race hB _) rfl rfl rfl hl.1 rfl (Nat.le_of_ble_eq_true rfl) dX3_move_59 ⟨Nat.zero_le _, Nat.zero_le _⟩ ?_
      intro r_13 σ_14 H locs p_12 hw
      obtain ⟨er_13, eσ_14⟩ := p_12
      have er_13 := er_13.symm; subst er_13
      refine lv_goto (tgt := 71) hx hb dX3_move_62 (by decide) ?_
      subst eσ_14
      subst eσ_3
      subst eσ_2
      subst eσ_1
      exact rRetI hx hb hr hw (by (first | subst c_8 | skip); (rcases hB with rfl | rfl <;> (try simp only [mvR, mvS, mv0, upA_n, upA_s, pk_us, ne_eq, Nat.reduceAdd, Nat.reduceEqDiff, not_false_eq_true, decide_eq_true_eq, decide_eq_false_iff_not, Bool.not_eq_true', Bool.not_eq_false'] at c_7 c_8) <;> exact ⟨by simp [mvR, mvS, mv0, upA_n, upA_s, upA_upA, upA_self, upd_self, upd_upd, pk_us, bI, c_7, c_8], by simp [mvR, mvS, mv0, upA_n, upA_s, upA_upA, upA_self, upd_self, upd_upd, pk_us, bI, c_7, c_8]⟩)) hlocks dX3_move_71
  · skip
    refine lv_aload_n hx hb dX3_move_46 rfl (lv_at hl 1 rfl) ?_
    refine lv_iload_n hx hb dX3_move_47 rfl (lv_at hl 2 rfl) ?_
    refine lv_iload_n hx hb dX3_move_48 rfl (lv_at hl 0 rfl) ?_
    refine rCallI (C := RX3) (As := [.int (nI k), .int (nI (gN σ B k))]) (rest := []) ⟨hx, hb, hml, hown, hts⟩ fx hw (kX3_goBack l G hG hF σ_3 B hB k (by omega) ((gN σ B k)) (by omega)) (cwV 2 hts gX3_move_X3_goBack rfl rfl rfl (by decide +kernel) ⟨Nat.le_of_ble_eq_true rfl, Nat.le_of_ble_eq_true rfl⟩) (rB0 hF hB) (cE_race hB _) rfl rfl rfl hl.1 rfl (Nat.le_of_ble_eq_true rfl) dX3_move_49 ⟨Nat.zero_le _, Nat.zero_le _⟩ ?_
    intro r_16 σ_17 H locs p_15 hw
    obtain ⟨er_16, eσ_17⟩ := p_15
    have er_16 := er_16.symm; subst er_16
    subst eσ_17
    subst eσ_3
    subst eσ_2
    subst eσ_1
    exact rRetI hx hb hr hw (by (first | subst c_7 | skip); (rcases hB with rfl | rfl <;> (try simp only [mvR, mvS, mv0, upA_n, upA_s, pk_us, ne_eq, Nat.reduceAdd, Nat.reduceEqDiff, not_false_eq_true, decide_eq_true_eq, decide_eq_false_iff_not, Bool.not_eq_true', Bool.not_eq_false'] at c_7) <;> exact ⟨by simp [mvR, mvS, mv0, upA_n, upA_s, upA_upA, upA_self, upd_self, upd_upd, pk_us, bI, c_7], by simp [mvR, mvS, mv0, upA_n, upA_s, upA_upA, upA_self, upd_self, upd_upd, pk_us, bI, c_7]⟩)) hlocks dX3_move_52

def rmX3_isAhead : Room := ({ frames := 1, cells := 0, slots := 0, locals := 21 } : Room)
set_option maxHeartbeats 4000000 in
set_option maxRecDepth 100000 in
theorem kX3_isAhead (l : Launch) (G : Gx) (hG : gOk G) (hF : Full G) (σ : St) (B : Nat) (hB : rB B) (i j : Nat) (hi : i < 6) (hj : j < 6) (hg : rOk σ B)  : CtI l yX3_isAhead wsX3_isAhead rmX3_isAhead G σ [.ref (gad G B), .int (nI i), .int (nI j)] (fun r σ' => r = bI (ahB σ B i j) ∧ σ' = σ) := by
  refine bgMet (cc := cX3_isAhead) (maxL := 5) (ret := (some .boolean)) (own := RX3) (by decide) rfl rfl hG (Nat.le_of_ble_eq_true rfl) rfl ?_
  intro p e s m args below meth c ls Bd hl
  obtain ⟨hx, hb, hr, hml, hts, hown, hlocks, fx, hw⟩ := Bd
  have hl : lv_has ls 5 [(0, .ref (gad G B)), (1, .int (nI i)), (2, .int (nI j))] := hl
  have hin : ∀ w ∈ wsX30, w ∈ wsX3_isAhead := by decide +kernel
  have hgi := (hg i hi).2
  have hgj := (hg j hj).2
  refine lv_aload_n hx hb dX3_isAhead_0 rfl (lv_at hl 0 rfl) ?_
  refine lv_iload_n hx hb dX3_isAhead_1 rfl (lv_at hl 1 rfl) ?_
  refine rCallI (C := RX3) (As := [.int (nI i)]) (rest := []) ⟨hx, hb, hml, hown, hts⟩ fx hw (kX3_isFinished l G hG hF σ B hB i (by omega)) (cwV 1 hts gX3_isAhead_X3_isFinished rfl rfl rfl (by decide +kernel) ⟨Nat.le_of_ble_eq_true rfl, Nat.le_of_ble_eq_true rfl⟩) (rB0 hF hB) (cE_race hB _) rfl rfl rfl hl.1 rfl (Nat.le_of_ble_eq_true rfl) dX3_isAhead_2 ⟨Nat.zero_le _, Nat.zero_le _⟩ ?_
  intro r_2 σ_3 H locs p_1 hw
  obtain ⟨er_2, eσ_3⟩ := p_1
  have er_2 := er_2.symm; subst er_2
  have eσ_3 := eσ_3.symm; subst eσ_3
  refine lv_b_ne (tgt := 16) hx hb dX3_isAhead_5 (by decide) (fun c_4 => ?_) (fun c_4 => ?_)
  · skip
    refine lv_aload_n hx hb dX3_isAhead_16 rfl (lv_at hl 0 rfl) ?_
    refine lv_iload_n hx hb dX3_isAhead_17 rfl (lv_at hl 1 rfl) ?_
    refine rCallI (C := RX3) (As := [.int (nI i)]) (rest := []) ⟨hx, hb, hml, hown, hts⟩ fx hw (kX3_isFinished l G hG hF σ B hB i (by omega)) (cwV 1 hts gX3_isAhead_X3_isFinished rfl rfl rfl (by decide +kernel) ⟨Nat.le_of_ble_eq_true rfl, Nat.le_of_ble_eq_true rfl⟩) (rB0 hF hB) (cE_race hB _) rfl rfl rfl hl.1 rfl (Nat.le_of_ble_eq_true rfl) dX3_isAhead_18 ⟨Nat.zero_le _, Nat.zero_le _⟩ ?_
    intro r_6 σ_7 H locs p_5 hw
    obtain ⟨er_6, eσ_7⟩ := p_5
    have er_6 := er_6.symm; subst er_6
    have eσ_7 := eσ_7.symm; subst eσ_7
    refine lv_b_eq (tgt := 51) hx hb dX3_isAhead_21 (by decide) (fun c_8 => ?_) (fun c_8 => ?_)
    · skip
      exact absurd (c_4.symm.trans c_8) (by decide)
    · skip
      refine lv_aload_n hx hb dX3_isAhead_24 rfl (lv_at hl 0 rfl) ?_
      refine lv_iload_n hx hb dX3_isAhead_25 rfl (lv_at hl 2 rfl) ?_
      refine rCallI (C := RX3) (As := [.int (nI j)]) (rest := []) ⟨hx, hb, hml, hown, hts⟩ fx hw (kX3_isFinished l G hG hF σ B hB j (by omega)) (cwV 1 hts gX3_isAhead_X3_isFinished rfl rfl rfl (by decide +kernel) ⟨Nat.le_of_ble_eq_true rfl, Nat.le_of_ble_eq_true rfl⟩) (rB0 hF hB) (cE_race hB _) rfl rfl rfl hl.1 rfl (Nat.le_of_ble_eq_true rfl) dX3_isAhead_26 ⟨Nat.zero_le _, Nat.zero_le _⟩ ?_
      intro r_10 σ_11 H locs p_9 hw
      obtain ⟨er_10, eσ_11⟩ := p_9
      have er_10 := er_10.symm; subst er_10
      have eσ_11 := eσ_11.symm; subst eσ_11
      refine lv_b_eq (tgt := 47) hx hb dX3_isAhead_29 (by decide) (fun c_12 => ?_) (fun c_12 => ?_)
      · skip
        refine lv_iconst (v := 1) hx hb dX3_isAhead_47 (by decide) ?_
        refine lv_goto (tgt := 52) hx hb dX3_isAhead_48 (by decide) ?_
        exact rRetZ hx hb hr hw (by decide) (by exact ⟨by first | rfl | simp [ahB, rstA, bI, c_4, c_8, c_12], by first | rfl | simp [ahB, rstA, upA_n, upA_s, upA_upA, upA_self, upd_self, upd_upd, pk_us, bI, c_4, c_8, c_12]⟩) hlocks dX3_isAhead_52
      · skip
        refine lv_aload_n hx hb dX3_isAhead_32 rfl (lv_at hl 0 rfl) ?_
        refine rGet (v := .ref (gad G (B + 5))) (C := RX3) (T := TX3) (N := 11) hx hb fx hown hts hin hw B (rB0 hF hB) (cE_race hB _) rfl 5 (by decide) (hts (.fieldLink RX3 28 "Leaguewheel$Race" "momentRow" "[I") (by decide +kernel)) (fun _ h9 => h9) rfl dX3_isAhead_33 ?_
        refine lv_iload_n hx hb dX3_isAhead_36 rfl (lv_at hl 1 rfl) ?_
        refine rAld hx hb fx hw (B + 5) (rBk hF hB (by decide)) hF.2.1 (fun f => cE_row hB (k := 5) (by decide) (by decide) f) i rfl (by omega) (by decide) dX3_isAhead_37 ?_
        refine lv_aload_n hx hb dX3_isAhead_38 rfl (lv_at hl 0 rfl) ?_
        refine rGet (v := .ref (gad G (B + 5))) (C := RX3) (T := TX3) (N := 11) hx hb fx hown hts hin hw B (rB0 hF hB) (cE_race hB _) rfl 5 (by decide) (hts (.fieldLink RX3 28 "Leaguewheel$Race" "momentRow" "[I") (by decide +kernel)) (fun _ h9 => h9) rfl dX3_isAhead_39 ?_
        refine lv_iload_n hx hb dX3_isAhead_42 rfl (lv_at hl 2 rfl) ?_
        refine rAld hx hb fx hw (B + 5) (rBk hF hB (by decide)) hF.2.1 (fun f => cE_row hB (k := 5) (by decide) (by decide) f) j rfl (by omega) (by decide) dX3_isAhead_43 ?_
        refine lv_icmp_ge (tgt := 51) hx hb dX3_isAhead_44 (by decide) (fun c_13 => ?_) (fun c_13 => ?_)
        · skip
          refine lv_iconst (v := 0) hx hb dX3_isAhead_51 (by decide) ?_
          exact rRetZ hx hb hr hw (by decide) (by exact ⟨by first | rfl | simp [ahB, rstA, bI, c_4, c_8, c_12, c_13], by first | rfl | simp [ahB, rstA, upA_n, upA_s, upA_upA, upA_self, upd_self, upd_upd, pk_us, bI, c_4, c_8, c_12, c_13]⟩) hlocks dX3_isAhead_52
        · skip
          refine lv_iconst (v := 1) hx hb dX3_isAhead_47 (by decide) ?_
          refine lv_goto (tgt := 52) hx hb dX3_isAhead_48 (by decide) ?_
          exact rRetZ hx hb hr hw (by decide) (by exact ⟨by first | rfl | simp [ahB, rstA, bI, c_4, c_8, c_12, c_13], by first | rfl | simp [ahB, rstA, upA_n, upA_s, upA_upA, upA_self, upd_self, upd_upd, pk_us, bI, c_4, c_8, c_12, c_13]⟩) hlocks dX3_isAhead_52
  · skip
    refine lv_aload_n hx hb dX3_isAhead_8 rfl (lv_at hl 0 rfl) ?_
    refine lv_iload_n hx hb dX3_isAhead_9 rfl (lv_at hl 2 rfl) ?_
    refine rCallI (C := RX3) (As := [.int (nI j)]) (rest := []) ⟨hx, hb, hml, hown, hts⟩ fx hw (kX3_isFinished l G hG hF σ B hB j (by omega)) (cwV 1 hts gX3_isAhead_X3_isFinished rfl rfl rfl (by decide +kernel) ⟨Nat.le_of_ble_eq_true rfl, Nat.le_of_ble_eq_true rfl⟩) (rB0 hF hB) (cE_race hB _) rfl rfl rfl hl.1 rfl (Nat.le_of_ble_eq_true rfl) dX3_isAhead_10 ⟨Nat.zero_le _, Nat.zero_le _⟩ ?_
    intro r_15 σ_16 H locs p_14 hw
    obtain ⟨er_15, eσ_16⟩ := p_14
    have er_15 := er_15.symm; subst er_15
    have eσ_16 := eσ_16.symm; subst eσ_16
    refine lv_b_eq (tgt := 53) hx hb dX3_isAhead_13 (by decide) (fun c_17 => ?_) (fun c_17 => ?_)
    · skip
      refine lv_aload_n hx hb dX3_isAhead_53 rfl (lv_at hl 0 rfl) ?_
      refine lv_iload_n hx hb dX3_isAhead_54 rfl (lv_at hl 1 rfl) ?_
      refine rCallI (C := RX3) (As := [.int (nI i)]) (rest := []) ⟨hx, hb, hml, hown, hts⟩ fx hw (kX3_netLaps l G hG hF σ B hB i (by omega)) (cwV 1 hts gX3_isAhead_X3_netLaps rfl rfl rfl (by decide +kernel) ⟨Nat.le_of_ble_eq_true rfl, Nat.le_of_ble_eq_true rfl⟩) (rB0 hF hB) (cE_race hB _) rfl rfl rfl hl.1 rfl (Nat.le_of_ble_eq_true rfl) dX3_isAhead_55 ⟨Nat.zero_le _, Nat.zero_le _⟩ ?_
      intro r_19 σ_20 H locs p_18 hw
      obtain ⟨er_19, eσ_20⟩ := p_18
      have er_19 := er_19.symm; subst er_19
      have eσ_20 := eσ_20.symm; subst eσ_20
      refine lv_aload_n hx hb dX3_isAhead_58 rfl (lv_at hl 0 rfl) ?_
      refine lv_iload_n hx hb dX3_isAhead_59 rfl (lv_at hl 2 rfl) ?_
      refine rCallI (C := RX3) (As := [.int (nI j)]) (rest := [.int (netA σ B i)]) ⟨hx, hb, hml, hown, hts⟩ fx hw (kX3_netLaps l G hG hF σ B hB j (by omega)) (cwV 1 hts gX3_isAhead_X3_netLaps rfl rfl rfl (by decide +kernel) ⟨Nat.le_of_ble_eq_true rfl, Nat.le_of_ble_eq_true rfl⟩) (rB0 hF hB) (cE_race hB _) rfl rfl rfl hl.1 rfl (Nat.le_of_ble_eq_true rfl) dX3_isAhead_60 ⟨Nat.zero_le _, Nat.zero_le _⟩ ?_
      intro r_22 σ_23 H locs p_21 hw
      obtain ⟨er_22, eσ_23⟩ := p_21
      have er_22 := er_22.symm; subst er_22
      have eσ_23 := eσ_23.symm; subst eσ_23
      refine lv_icmp_eq (tgt := 85) hx hb dX3_isAhead_63 (by decide) (fun c_24 => ?_) (fun c_24 => ?_)
      · skip
        refine lv_aload_n hx hb dX3_isAhead_85 rfl (lv_at hl 0 rfl) ?_
        refine rGet (v := .ref (gad G 1)) (C := RX3) (T := TX3) (N := 11) hx hb fx hown hts hin hw B (rB0 hF hB) (cE_race hB _) rfl 0 (by decide) (hts (.fieldLink RX3 9 "Leaguewheel$Race" "track" "LLeaguewheel$Track;") (by decide +kernel)) (fun _ h9 => h9) rfl dX3_isAhead_86 ?_
        refine lv_aload_n hx hb dX3_isAhead_89 rfl (lv_at hl 0 rfl) ?_
        refine rGet (v := .ref (gad G (B + 1))) (C := RX3) (T := TX3) (N := 11) hx hb fx hown hts hin hw B (rB0 hF hB) (cE_race hB _) rfl 1 (by decide) (hts (.fieldLink RX3 15 "Leaguewheel$Race" "gateRow" "[I") (by decide +kernel)) (fun _ h9 => h9) rfl dX3_isAhead_90 ?_
        refine lv_iload_n hx hb dX3_isAhead_93 rfl (lv_at hl 1 rfl) ?_
        refine rAld hx hb fx hw (B + 1) (rBk hF hB (by decide)) hF.2.1 (fun f => cE_row hB (k := 1) (by decide) (by decide) f) i rfl (by omega) (by decide) dX3_isAhead_94 ?_
        refine lv_rep0 (x := (σ (B + 1) i)) (y := nI (gN σ B i)) (by exact (hg i hi).1) ?_
        refine rCallI (C := RX4) (As := [.int (nI (gN σ B i))]) (rest := []) ⟨hx, hb, hml, hown, hts⟩ fx hw (kX4_restOf l G hG hF σ ((gN σ B i)) (by omega)) (cwV 1 hts gX3_isAhead_X4_restOf rfl rfl rfl (by decide +kernel) ⟨Nat.le_of_ble_eq_true rfl, Nat.le_of_ble_eq_true rfl⟩) (hF.1 1 (by decide)) rfl rfl rfl rfl hl.1 rfl (Nat.le_of_ble_eq_true rfl) dX3_isAhead_95 ⟨Nat.zero_le _, Nat.zero_le _⟩ ?_
        intro r_26 σ_27 H locs p_25 hw
        obtain ⟨er_26, eσ_27⟩ := p_25
        have er_26 := er_26.symm; subst er_26
        have eσ_27 := eσ_27.symm; subst eσ_27
        refine lv_istore_n (lv' := [(3, .int (σ 3 (gN σ B i))), (0, .ref (gad G B)), (1, .int (nI i)), (2, .int (nI j))]) hx hb dX3_isAhead_98 rfl hl (by decide) rfl (fun ls hl => ?_)
        refine lv_aload_n hx hb dX3_isAhead_99 rfl (lv_at hl 1 rfl) ?_
        refine rGet (v := .ref (gad G 1)) (C := RX3) (T := TX3) (N := 11) hx hb fx hown hts hin hw B (rB0 hF hB) (cE_race hB _) rfl 0 (by decide) (hts (.fieldLink RX3 9 "Leaguewheel$Race" "track" "LLeaguewheel$Track;") (by decide +kernel)) (fun _ h9 => h9) rfl dX3_isAhead_100 ?_
        refine lv_aload_n hx hb dX3_isAhead_103 rfl (lv_at hl 1 rfl) ?_
        refine rGet (v := .ref (gad G (B + 1))) (C := RX3) (T := TX3) (N := 11) hx hb fx hown hts hin hw B (rB0 hF hB) (cE_race hB _) rfl 1 (by decide) (hts (.fieldLink RX3 15 "Leaguewheel$Race" "gateRow" "[I") (by decide +kernel)) (fun _ h9 => h9) rfl dX3_isAhead_104 ?_
        refine lv_iload_n hx hb dX3_isAhead_107 rfl (lv_at hl 3 rfl) ?_
        refine rAld hx hb fx hw (B + 1) (rBk hF hB (by decide)) hF.2.1 (fun f => cE_row hB (k := 1) (by decide) (by decide) f) j rfl (by omega) (by decide) dX3_isAhead_108 ?_
        refine lv_rep0 (x := (σ (B + 1) j)) (y := nI (gN σ B j)) (by exact (hg j hj).1) ?_
        refine rCallI (C := RX4) (As := [.int (nI (gN σ B j))]) (rest := []) ⟨hx, hb, hml, hown, hts⟩ fx hw (kX4_restOf l G hG hF σ ((gN σ B j)) (by omega)) (cwV 1 hts gX3_isAhead_X4_restOf rfl rfl rfl (by decide +kernel) ⟨Nat.le_of_ble_eq_true rfl, Nat.le_of_ble_eq_true rfl⟩) (hF.1 1 (by decide)) rfl rfl rfl rfl hl.1 rfl (Nat.le_of_ble_eq_true rfl) dX3_isAhead_109 ⟨Nat.zero_le _, Nat.zero_le _⟩ ?_
        intro r_29 σ_30 H locs p_28 hw
        obtain ⟨er_29, eσ_30⟩ := p_28
        have er_29 := er_29.symm; subst er_29
        have eσ_30 := eσ_30.symm; subst eσ_30
        refine lv_istore (lv' := [(4, .int (σ 3 (gN σ B j))), (3, .int (σ 3 (gN σ B i))), (0, .ref (gad G B)), (1, .int (nI i)), (2, .int (nI j))]) hx hb dX3_isAhead_112 hl (by decide) rfl (fun ls hl => ?_)
        refine lv_iload_n hx hb dX3_isAhead_114 rfl (lv_at hl 1 rfl) ?_
        refine lv_iload hx hb dX3_isAhead_115 (lv_at hl 0 rfl) ?_
        refine lv_icmp_eq (tgt := 132) hx hb dX3_isAhead_117 (by decide) (fun c_31 => ?_) (fun c_31 => ?_)
        · skip
          refine lv_aload_n hx hb dX3_isAhead_132 rfl (lv_at hl 2 rfl) ?_
          refine rGet (v := .ref (gad G (B + 5))) (C := RX3) (T := TX3) (N := 11) hx hb fx hown hts hin hw B (rB0 hF hB) (cE_race hB _) rfl 5 (by decide) (hts (.fieldLink RX3 28 "Leaguewheel$Race" "momentRow" "[I") (by decide +kernel)) (fun _ h9 => h9) rfl dX3_isAhead_133 ?_
          refine lv_iload_n hx hb dX3_isAhead_136 rfl (lv_at hl 3 rfl) ?_
          refine rAld hx hb fx hw (B + 5) (rBk hF hB (by decide)) hF.2.1 (fun f => cE_row hB (k := 5) (by decide) (by decide) f) i rfl (by omega) (by decide) dX3_isAhead_137 ?_
          refine lv_aload_n hx hb dX3_isAhead_138 rfl (lv_at hl 2 rfl) ?_
          refine rGet (v := .ref (gad G (B + 5))) (C := RX3) (T := TX3) (N := 11) hx hb fx hown hts hin hw B (rB0 hF hB) (cE_race hB _) rfl 5 (by decide) (hts (.fieldLink RX3 28 "Leaguewheel$Race" "momentRow" "[I") (by decide +kernel)) (fun _ h9 => h9) rfl dX3_isAhead_139 ?_
          refine lv_iload_n hx hb dX3_isAhead_142 rfl (lv_at hl 4 rfl) ?_
          refine rAld hx hb fx hw (B + 5) (rBk hF hB (by decide)) hF.2.1 (fun f => cE_row hB (k := 5) (by decide) (by decide) f) j rfl (by omega) (by decide) dX3_isAhead_143 ?_
          refine lv_icmp_eq (tgt := 168) hx hb dX3_isAhead_144 (by decide) (fun c_32 => ?_) (fun c_32 => ?_)
          · skip
            refine lv_iload_n hx hb dX3_isAhead_168 rfl (lv_at hl 3 rfl) ?_
            refine lv_iload_n hx hb dX3_isAhead_169 rfl (lv_at hl 4 rfl) ?_
            refine lv_icmp_ge (tgt := 177) hx hb dX3_isAhead_170 (by decide) (fun c_33 => ?_) (fun c_33 => ?_)
            · skip
              have c_33 : j ≤ i := (nI_leI (by omega) (by omega)).mp c_33
              refine lv_iconst (v := 0) hx hb dX3_isAhead_177 (by decide) ?_
              exact rRetZ hx hb hr hw (by decide) (by exact ⟨by first | rfl | simp [ahB, rstA, bI, c_4, c_17, c_24, c_31, c_32, c_33], by first | rfl | simp [ahB, rstA, upA_n, upA_s, upA_upA, upA_self, upd_self, upd_upd, pk_us, bI, c_4, c_17, c_24, c_31, c_32, c_33]⟩) hlocks dX3_isAhead_178
            · skip
              have c_33 : ¬ j ≤ i := fun h9 => c_33 ((nI_leI (by omega) (by omega)).mpr h9)
              refine lv_iconst (v := 1) hx hb dX3_isAhead_173 (by decide) ?_
              refine lv_goto (tgt := 178) hx hb dX3_isAhead_174 (by decide) ?_
              exact rRetZ hx hb hr hw (by decide) (by exact ⟨by first | rfl | simp [ahB, rstA, bI, c_4, c_17, c_24, c_31, c_32, c_33], by first | rfl | simp [ahB, rstA, upA_n, upA_s, upA_upA, upA_self, upd_self, upd_upd, pk_us, bI, c_4, c_17, c_24, c_31, c_32, c_33]⟩) hlocks dX3_isAhead_178
          · skip
            refine lv_aload_n hx hb dX3_isAhead_147 rfl (lv_at hl 2 rfl) ?_
            refine rGet (v := .ref (gad G (B + 5))) (C := RX3) (T := TX3) (N := 11) hx hb fx hown hts hin hw B (rB0 hF hB) (cE_race hB _) rfl 5 (by decide) (hts (.fieldLink RX3 28 "Leaguewheel$Race" "momentRow" "[I") (by decide +kernel)) (fun _ h9 => h9) rfl dX3_isAhead_148 ?_
            refine lv_iload_n hx hb dX3_isAhead_151 rfl (lv_at hl 3 rfl) ?_
            refine rAld hx hb fx hw (B + 5) (rBk hF hB (by decide)) hF.2.1 (fun f => cE_row hB (k := 5) (by decide) (by decide) f) i rfl (by omega) (by decide) dX3_isAhead_152 ?_
            refine lv_aload_n hx hb dX3_isAhead_153 rfl (lv_at hl 2 rfl) ?_
            refine rGet (v := .ref (gad G (B + 5))) (C := RX3) (T := TX3) (N := 11) hx hb fx hown hts hin hw B (rB0 hF hB) (cE_race hB _) rfl 5 (by decide) (hts (.fieldLink RX3 28 "Leaguewheel$Race" "momentRow" "[I") (by decide +kernel)) (fun _ h9 => h9) rfl dX3_isAhead_154 ?_
            refine lv_iload_n hx hb dX3_isAhead_157 rfl (lv_at hl 4 rfl) ?_
            refine rAld hx hb fx hw (B + 5) (rBk hF hB (by decide)) hF.2.1 (fun f => cE_row hB (k := 5) (by decide) (by decide) f) j rfl (by omega) (by decide) dX3_isAhead_158 ?_
            refine lv_icmp_ge (tgt := 166) hx hb dX3_isAhead_159 (by decide) (fun c_34 => ?_) (fun c_34 => ?_)
            · skip
              refine lv_iconst (v := 0) hx hb dX3_isAhead_166 (by decide) ?_
              exact rRetZ hx hb hr hw (by decide) (by exact ⟨by first | rfl | simp [ahB, rstA, bI, c_4, c_17, c_24, c_31, c_32, c_34], by first | rfl | simp [ahB, rstA, upA_n, upA_s, upA_upA, upA_self, upd_self, upd_upd, pk_us, bI, c_4, c_17, c_24, c_31, c_32, c_34]⟩) hlocks dX3_isAhead_167
            · skip
              refine lv_iconst (v := 1) hx hb dX3_isAhead_162 (by decide) ?_
              refine lv_goto (tgt := 167) hx hb dX3_isAhead_163 (by decide) ?_
              exact rRetZ hx hb hr hw (by decide) (by exact ⟨by first | rfl | simp [ahB, rstA, bI, c_4, c_17, c_24, c_31, c_32, c_34], by first | rfl | simp [ahB, rstA, upA_n, upA_s, upA_upA, upA_self, upd_self, upd_upd, pk_us, bI, c_4, c_17, c_24, c_31, c_32, c_34]⟩) hlocks dX3_isAhead_167
        · skip
          refine lv_iload_n hx hb dX3_isAhead_120 rfl (lv_at hl 1 rfl) ?_
          refine lv_iload hx hb dX3_isAhead_121 (lv_at hl 0 rfl) ?_
          refine lv_icmp_ge (tgt := 130) hx hb dX3_isAhead_123 (by decide) (fun c_35 => ?_) (fun c_35 => ?_)
          · skip
            refine lv_iconst (v := 0) hx hb dX3_isAhead_130 (by decide) ?_
            exact rRetZ hx hb hr hw (by decide) (by exact ⟨by first | rfl | simp [ahB, rstA, bI, c_4, c_17, c_24, c_31, c_35], by first | rfl | simp [ahB, rstA, upA_n, upA_s, upA_upA, upA_self, upd_self, upd_upd, pk_us, bI, c_4, c_17, c_24, c_31, c_35]⟩) hlocks dX3_isAhead_131
          · skip
            refine lv_iconst (v := 1) hx hb dX3_isAhead_126 (by decide) ?_
            refine lv_goto (tgt := 131) hx hb dX3_isAhead_127 (by decide) ?_
            exact rRetZ hx hb hr hw (by decide) (by exact ⟨by first | rfl | simp [ahB, rstA, bI, c_4, c_17, c_24, c_31, c_35], by first | rfl | simp [ahB, rstA, upA_n, upA_s, upA_upA, upA_self, upd_self, upd_upd, pk_us, bI, c_4, c_17, c_24, c_31, c_35]⟩) hlocks dX3_isAhead_131
      · skip
        refine lv_aload_n hx hb dX3_isAhead_66 rfl (lv_at hl 0 rfl) ?_
        refine lv_iload_n hx hb dX3_isAhead_67 rfl (lv_at hl 1 rfl) ?_
        refine rCallI (C := RX3) (As := [.int (nI i)]) (rest := []) ⟨hx, hb, hml, hown, hts⟩ fx hw (kX3_netLaps l G hG hF σ B hB i (by omega)) (cwV 1 hts gX3_isAhead_X3_netLaps rfl rfl rfl (by decide +kernel) ⟨Nat.le_of_ble_eq_true rfl, Nat.le_of_ble_eq_true rfl⟩) (rB0 hF hB) (cE_race hB _) rfl rfl rfl hl.1 rfl (Nat.le_of_ble_eq_true rfl) dX3_isAhead_68 ⟨Nat.zero_le _, Nat.zero_le _⟩ ?_
        intro r_37 σ_38 H locs p_36 hw
        obtain ⟨er_37, eσ_38⟩ := p_36
        have er_37 := er_37.symm; subst er_37
        have eσ_38 := eσ_38.symm; subst eσ_38
        refine lv_aload_n hx hb dX3_isAhead_71 rfl (lv_at hl 0 rfl) ?_
        refine lv_iload_n hx hb dX3_isAhead_72 rfl (lv_at hl 2 rfl) ?_
        refine rCallI (C := RX3) (As := [.int (nI j)]) (rest := [.int (netA σ B i)]) ⟨hx, hb, hml, hown, hts⟩ fx hw (kX3_netLaps l G hG hF σ B hB j (by omega)) (cwV 1 hts gX3_isAhead_X3_netLaps rfl rfl rfl (by decide +kernel) ⟨Nat.le_of_ble_eq_true rfl, Nat.le_of_ble_eq_true rfl⟩) (rB0 hF hB) (cE_race hB _) rfl rfl rfl hl.1 rfl (Nat.le_of_ble_eq_true rfl) dX3_isAhead_73 ⟨Nat.zero_le _, Nat.zero_le _⟩ ?_
        intro r_40 σ_41 H locs p_39 hw
        obtain ⟨er_40, eσ_41⟩ := p_39
        have er_40 := er_40.symm; subst er_40
        have eσ_41 := eσ_41.symm; subst eσ_41
        refine lv_icmp_le (tgt := 83) hx hb dX3_isAhead_76 (by decide) (fun c_42 => ?_) (fun c_42 => ?_)
        · skip
          refine lv_iconst (v := 0) hx hb dX3_isAhead_83 (by decide) ?_
          exact rRetZ hx hb hr hw (by decide) (by exact ⟨by first | rfl | simp [ahB, rstA, bI, c_4, c_17, c_24, c_42], by first | rfl | simp [ahB, rstA, upA_n, upA_s, upA_upA, upA_self, upd_self, upd_upd, pk_us, bI, c_4, c_17, c_24, c_42]⟩) hlocks dX3_isAhead_84
        · skip
          refine lv_iconst (v := 1) hx hb dX3_isAhead_79 (by decide) ?_
          refine lv_goto (tgt := 84) hx hb dX3_isAhead_80 (by decide) ?_
          exact rRetZ hx hb hr hw (by decide) (by exact ⟨by first | rfl | simp [ahB, rstA, bI, c_4, c_17, c_24, c_42], by first | rfl | simp [ahB, rstA, upA_n, upA_s, upA_upA, upA_self, upd_self, upd_upd, pk_us, bI, c_4, c_17, c_24, c_42]⟩) hlocks dX3_isAhead_84
    · skip
      refine lv_aload_n hx hb dX3_isAhead_16 rfl (lv_at hl 0 rfl) ?_
      refine lv_iload_n hx hb dX3_isAhead_17 rfl (lv_at hl 1 rfl) ?_
      refine rCallI (C := RX3) (As := [.int (nI i)]) (rest := []) ⟨hx, hb, hml, hown, hts⟩ fx hw (kX3_isFinished l G hG hF σ B hB i (by omega)) (cwV 1 hts gX3_isAhead_X3_isFinished rfl rfl rfl (by decide +kernel) ⟨Nat.le_of_ble_eq_true rfl, Nat.le_of_ble_eq_true rfl⟩) (rB0 hF hB) (cE_race hB _) rfl rfl rfl hl.1 rfl (Nat.le_of_ble_eq_true rfl) dX3_isAhead_18 ⟨Nat.zero_le _, Nat.zero_le _⟩ ?_
      intro r_44 σ_45 H locs p_43 hw
      obtain ⟨er_44, eσ_45⟩ := p_43
      have er_44 := er_44.symm; subst er_44
      have eσ_45 := eσ_45.symm; subst eσ_45
      refine lv_b_eq (tgt := 51) hx hb dX3_isAhead_21 (by decide) (fun c_46 => ?_) (fun c_46 => ?_)
      · skip
        refine lv_iconst (v := 0) hx hb dX3_isAhead_51 (by decide) ?_
        exact rRetZ hx hb hr hw (by decide) (by exact ⟨by first | rfl | simp [ahB, rstA, bI, c_4, c_17, c_46], by first | rfl | simp [ahB, rstA, upA_n, upA_s, upA_upA, upA_self, upd_self, upd_upd, pk_us, bI, c_4, c_17, c_46]⟩) hlocks dX3_isAhead_52
      · skip
        exact absurd (c_4.symm.trans c_46) (by decide)

def rmX3_countAhead : Room := ({ frames := 2, cells := 0, slots := 0, locals := 45 } : Room)
set_option maxHeartbeats 4000000 in
set_option maxRecDepth 100000 in
theorem kX3_countAhead (l : Launch) (G : Gx) (hG : gOk G) (hF : Full G) (σ : St) (B : Nat) (hB : rB B) (k : Nat) (hk : k < 6) (n : Nat) (hn : σ B 8 = nI n) (hn6 : n ≤ 6) (hg : rOk σ B)  : CtI l yX3_countAhead wsX3_countAhead rmX3_countAhead G σ [.ref (gad G B), .int (nI k)] (fun r σ' => r = nI (cntA (fun a => ahB σ B a k) n) ∧ σ' = σ) := by
  refine bgMet (cc := cX3_countAhead) (maxL := 4) (ret := (some .int)) (own := RX3) (by decide) rfl rfl hG (Nat.le_of_ble_eq_true rfl) rfl ?_
  intro p e s m args below meth c ls Bd hl
  obtain ⟨hx, hb, hr, hml, hts, hown, hlocks, fx, hw⟩ := Bd
  have hl : lv_has ls 4 [(0, .ref (gad G B)), (1, .int (nI k))] := hl
  have hin : ∀ w ∈ wsX30, w ∈ wsX3_countAhead := by decide +kernel
  refine lv_iconst (v := 0) hx hb dX3_countAhead_0 (by decide) ?_
  refine lv_istore_n (lv' := [(2, .int 0), (0, .ref (gad G B)), (1, .int (nI k))]) hx hb dX3_countAhead_1 rfl hl (by decide) rfl (fun ls hl => ?_)
  refine lv_iconst (v := 0) hx hb dX3_countAhead_2 (by decide) ?_
  refine lv_istore_n (lv' := [(3, .int 0), (2, .int 0), (0, .ref (gad G B)), (1, .int (nI k))]) hx hb dX3_countAhead_3 rfl hl (by decide) rfl (fun ls hl => ?_)
  have lab_4 : ∀ (n9 : Nat), ∀ (i : Nat), n - i < n9 → i ≤ n → ∀ (H : Heap) (locs : List Loc) (ls : Array Slot), Wd G s σ H locs → lv_has ls 4 [(0, .ref (gad G B)), (1, .int (nI k)), (2, .int (nI (cntA (fun a => ahB σ B a k) i))), (3, .int (nI i))] → W p l e rmX3_countAhead s m args below meth c H locs 0 0 (MQ below (va_Qi (fun r σ' => r = nI (cntA (fun a => ahB σ B a k) n) ∧ σ' = σ) (BW G) (gA G)) args s 0 0 (gA G)) (F0 m 4 ls []) := by
    intro n9
    induction n9 with
    | zero => intro i hn9; exact absurd hn9 (Nat.not_lt_zero _)
    | succ n9 ih4 =>
      intro i hn9 h4_0 H locs ls hw hl
      refine lv_iload_n hx hb dX3_countAhead_4 rfl (lv_at hl 3 rfl) ?_
      refine lv_aload_n hx hb dX3_countAhead_5 rfl (lv_at hl 0 rfl) ?_
      refine rGet (v := .int (σ B 8)) (C := RX3) (T := TX3) (N := 11) hx hb fx hown hts hin hw B (rB0 hF hB) (cE_race hB _) rfl 8 (by decide) (hts (.fieldLink RX3 37 "Leaguewheel$Race" "count" "I") (by decide +kernel)) (fun _ h9 => h9) rfl dX3_countAhead_6 ?_
      refine lv_rep0 (x := (σ B 8)) (y := nI n) (by exact hn) ?_
      refine lv_icmp_ge (tgt := 30) hx hb dX3_countAhead_9 (by decide) (fun c_1 => ?_) (fun c_1 => ?_)
      · skip
        have c_1 : n ≤ i := (nI_leI (by omega) (by omega)).mp c_1
        refine lv_iload_n hx hb dX3_countAhead_30 rfl (lv_at hl 2 rfl) ?_
        exact rRetI hx hb hr hw (by exact ⟨by rw [show n = i by omega], rfl⟩) hlocks dX3_countAhead_31
      · skip
        have c_1 : ¬ n ≤ i := fun h9 => c_1 ((nI_leI (by omega) (by omega)).mpr h9)
        refine lv_aload_n hx hb dX3_countAhead_12 rfl (lv_at hl 0 rfl) ?_
        refine lv_iload_n hx hb dX3_countAhead_13 rfl (lv_at hl 3 rfl) ?_
        refine lv_iload_n hx hb dX3_countAhead_14 rfl (lv_at hl 1 rfl) ?_
        refine rCallI (C := RX3) (As := [.int (nI i), .int (nI k)]) (rest := []) ⟨hx, hb, hml, hown, hts⟩ fx hw (kX3_isAhead l G hG hF σ B hB i k (by omega) (by omega) hg) (cwV 2 hts gX3_countAhead_X3_isAhead rfl rfl rfl (by decide +kernel) ⟨Nat.le_of_ble_eq_true rfl, Nat.le_of_ble_eq_true rfl⟩) (rB0 hF hB) (cE_race hB _) rfl rfl rfl hl.1 rfl (Nat.le_of_ble_eq_true rfl) dX3_countAhead_15 ⟨Nat.zero_le _, Nat.zero_le _⟩ ?_
        intro r_3 σ_4 H locs p_2 hw
        obtain ⟨er_3, eσ_4⟩ := p_2
        have er_3 := er_3.symm; subst er_3
        have eσ_4 := eσ_4.symm; subst eσ_4
        refine lv_b_eq (tgt := 24) hx hb dX3_countAhead_18 (by decide) (fun c_5 => ?_) (fun c_5 => ?_)
        · skip
          refine lv_iinc (v := (nI (i + 1))) (lv' := [(3, .int (nI (i + 1))), (0, .ref (gad G B)), (1, .int (nI k)), (2, .int (nI (cntA (fun a => ahB σ B a k) i)))]) hx hb dX3_countAhead_24 hl (k := 3) rfl (nI_1 _) (by decide) rfl (fun ls hl => ?_)
          refine lv_goto (tgt := 4) hx hb dX3_countAhead_27 (by decide) ?_
          have q_6 : (nI (cntA (fun a => ahB σ B a k) i)) = (nI (cntA (fun a => ahB σ B a k) (i + 1))) := by first | rfl | (simp [cntA, c_1, c_5])
          exact ih4 (i + 1) (by omega) (by omega) _ _ _ hw (lv_c (lv_at hl 1 rfl) (lv_c (lv_at hl 2 rfl) (lv_c (lv_atq hl 3 rfl q_6) (lv_c (lv_at hl 0 rfl) (lv_c0 hl)))))
        · skip
          refine lv_iinc (v := (nI ((cntA (fun a => ahB σ B a k) i) + 1))) (lv' := [(2, .int (nI ((cntA (fun a => ahB σ B a k) i) + 1))), (0, .ref (gad G B)), (1, .int (nI k)), (3, .int (nI i))]) hx hb dX3_countAhead_21 hl (k := 2) rfl (nI_1 _) (by decide) rfl (fun ls hl => ?_)
          refine lv_iinc (v := (nI (i + 1))) (lv' := [(3, .int (nI (i + 1))), (2, .int (nI ((cntA (fun a => ahB σ B a k) i) + 1))), (0, .ref (gad G B)), (1, .int (nI k))]) hx hb dX3_countAhead_24 hl (k := 3) rfl (nI_1 _) (by decide) rfl (fun ls hl => ?_)
          refine lv_goto (tgt := 4) hx hb dX3_countAhead_27 (by decide) ?_
          have q_7 : (nI ((cntA (fun a => ahB σ B a k) i) + 1)) = (nI (cntA (fun a => ahB σ B a k) (i + 1))) := by first | rfl | (simp [cntA, c_1, c_5])
          exact ih4 (i + 1) (by omega) (by omega) _ _ _ hw (lv_c (lv_at hl 2 rfl) (lv_c (lv_at hl 3 rfl) (lv_c (lv_atq hl 1 rfl q_7) (lv_c (lv_at hl 0 rfl) (lv_c0 hl)))))
  have q_8 : 0 = (nI (cntA (fun a => ahB σ B a k) 0)) := by first | rfl | (simp [cntA])
  have q_9 : 0 = (nI 0) := by first | rfl | (simp [cntA])
  exact lab_4 (n - 0 + 1) 0 (by omega) (by omega) _ _ _ hw (lv_c (lv_at hl 2 rfl) (lv_c (lv_at hl 3 rfl) (lv_c (lv_atq hl 1 rfl q_8) (lv_c (lv_atq hl 0 rfl q_9) (lv_c0 hl)))))

def rmX3_wayDone : Room := ({ frames := 1, cells := 0, slots := 0, locals := 21 } : Room)
set_option maxHeartbeats 4000000 in
set_option maxRecDepth 100000 in
theorem kX3_wayDone (l : Launch) (G : Gx) (hG : gOk G) (hF : Full G) (σ : St) (B : Nat) (hB : rB B) (k : Nat) (hk : k < 6) (hg : rOk σ B)  : CtI l yX3_wayDone wsX3_wayDone rmX3_wayDone G σ [.ref (gad G B), .int (nI k)] (fun r σ' => r = wayA σ B k ∧ σ' = σ) := by
  refine bgMet (cc := cX3_wayDone) (maxL := 4) (ret := (some .int)) (own := RX3) (by decide) rfl rfl hG (Nat.le_of_ble_eq_true rfl) rfl ?_
  intro p e s m args below meth c ls Bd hl
  obtain ⟨hx, hb, hr, hml, hts, hown, hlocks, fx, hw⟩ := Bd
  have hl : lv_has ls 4 [(0, .ref (gad G B)), (1, .int (nI k))] := hl
  have hin : ∀ w ∈ wsX30, w ∈ wsX3_wayDone := by decide +kernel
  have hgk := (hg k hk).2
  refine lv_aload_n hx hb dX3_wayDone_0 rfl (lv_at hl 0 rfl) ?_
  refine rGet (v := .ref (gad G 1)) (C := RX3) (T := TX3) (N := 11) hx hb fx hown hts hin hw B (rB0 hF hB) (cE_race hB _) rfl 0 (by decide) (hts (.fieldLink RX3 9 "Leaguewheel$Race" "track" "LLeaguewheel$Track;") (by decide +kernel)) (fun _ h9 => h9) rfl dX3_wayDone_1 ?_
  refine lv_iconst (v := 0) hx hb dX3_wayDone_4 (by decide) ?_
  refine lv_rep0 (x := 0) (y := nI 0) rfl ?_
  refine rCallI (C := RX4) (As := [.int (nI 0)]) (rest := []) ⟨hx, hb, hml, hown, hts⟩ fx hw (kX4_restOf l G hG hF σ 0 (by omega)) (cwV 1 hts gX3_wayDone_X4_restOf rfl rfl rfl (by decide +kernel) ⟨Nat.le_of_ble_eq_true rfl, Nat.le_of_ble_eq_true rfl⟩) (hF.1 1 (by decide)) rfl rfl rfl rfl hl.1 rfl (Nat.le_of_ble_eq_true rfl) dX3_wayDone_5 ⟨Nat.zero_le _, Nat.zero_le _⟩ ?_
  intro r_2 σ_3 H locs p_1 hw
  obtain ⟨er_2, eσ_3⟩ := p_1
  have er_2 := er_2.symm; subst er_2
  have eσ_3 := eσ_3.symm; subst eσ_3
  refine lv_istore_n (lv' := [(2, .int (σ 3 0)), (0, .ref (gad G B)), (1, .int (nI k))]) hx hb dX3_wayDone_8 rfl hl (by decide) rfl (fun ls hl => ?_)
  refine lv_aload_n hx hb dX3_wayDone_9 rfl (lv_at hl 1 rfl) ?_
  refine lv_iload_n hx hb dX3_wayDone_10 rfl (lv_at hl 2 rfl) ?_
  refine rCallI (C := RX3) (As := [.int (nI k)]) (rest := []) ⟨hx, hb, hml, hown, hts⟩ fx hw (kX3_netLaps l G hG hF σ B hB k (by omega)) (cwV 1 hts gX3_wayDone_X3_netLaps rfl rfl rfl (by decide +kernel) ⟨Nat.le_of_ble_eq_true rfl, Nat.le_of_ble_eq_true rfl⟩) (rB0 hF hB) (cE_race hB _) rfl rfl rfl hl.1 rfl (Nat.le_of_ble_eq_true rfl) dX3_wayDone_11 ⟨Nat.zero_le _, Nat.zero_le _⟩ ?_
  intro r_5 σ_6 H locs p_4 hw
  obtain ⟨er_5, eσ_6⟩ := p_4
  have er_5 := er_5.symm; subst er_5
  have eσ_6 := eσ_6.symm; subst eσ_6
  refine lv_iload_n hx hb dX3_wayDone_14 rfl (lv_at hl 0 rfl) ?_
  refine lv_imul hx hb dX3_wayDone_15 ?_
  refine lv_istore_n (lv' := [(3, .int ((netA σ B k) * (σ 3 0))), (2, .int (σ 3 0)), (0, .ref (gad G B)), (1, .int (nI k))]) hx hb dX3_wayDone_16 rfl hl (by decide) rfl (fun ls hl => ?_)
  refine lv_aload_n hx hb dX3_wayDone_17 rfl (lv_at hl 2 rfl) ?_
  refine rGet (v := .ref (gad G (B + 1))) (C := RX3) (T := TX3) (N := 11) hx hb fx hown hts hin hw B (rB0 hF hB) (cE_race hB _) rfl 1 (by decide) (hts (.fieldLink RX3 15 "Leaguewheel$Race" "gateRow" "[I") (by decide +kernel)) (fun _ h9 => h9) rfl dX3_wayDone_18 ?_
  refine lv_iload_n hx hb dX3_wayDone_21 rfl (lv_at hl 3 rfl) ?_
  refine rAld hx hb fx hw (B + 1) (rBk hF hB (by decide)) hF.2.1 (fun f => cE_row hB (k := 1) (by decide) (by decide) f) k rfl (by omega) (by decide) dX3_wayDone_22 ?_
  refine lv_rep0 (x := (σ (B + 1) k)) (y := nI (gN σ B k)) (by exact (hg k hk).1) ?_
  refine lv_if_eq (tgt := 44) hx hb dX3_wayDone_23 (by decide) (fun c_7 => ?_) (fun c_7 => ?_)
  · skip
    have c_7 : (gN σ B k) = 0 := n0_eqt (by omega) c_7
    refine lv_iload_n hx hb dX3_wayDone_44 rfl (lv_at hl 0 rfl) ?_
    exact rRetI hx hb hr hw (by exact ⟨by first | rfl | simp [wayA, rstA, bI, c_7], by first | rfl | simp [wayA, rstA, upA_n, upA_s, upA_upA, upA_self, upd_self, upd_upd, pk_us, bI, c_7]⟩) hlocks dX3_wayDone_45
  · skip
    have c_7 : ¬ (gN σ B k) = 0 := n0_eqf (by omega) c_7
    refine lv_iload_n hx hb dX3_wayDone_26 rfl (lv_at hl 0 rfl) ?_
    refine lv_iload_n hx hb dX3_wayDone_27 rfl (lv_at hl 1 rfl) ?_
    refine lv_aload_n hx hb dX3_wayDone_28 rfl (lv_at hl 2 rfl) ?_
    refine rGet (v := .ref (gad G 1)) (C := RX3) (T := TX3) (N := 11) hx hb fx hown hts hin hw B (rB0 hF hB) (cE_race hB _) rfl 0 (by decide) (hts (.fieldLink RX3 9 "Leaguewheel$Race" "track" "LLeaguewheel$Track;") (by decide +kernel)) (fun _ h9 => h9) rfl dX3_wayDone_29 ?_
    refine lv_aload_n hx hb dX3_wayDone_32 rfl (lv_at hl 2 rfl) ?_
    refine rGet (v := .ref (gad G (B + 1))) (C := RX3) (T := TX3) (N := 11) hx hb fx hown hts hin hw B (rB0 hF hB) (cE_race hB _) rfl 1 (by decide) (hts (.fieldLink RX3 15 "Leaguewheel$Race" "gateRow" "[I") (by decide +kernel)) (fun _ h9 => h9) rfl dX3_wayDone_33 ?_
    refine lv_iload_n hx hb dX3_wayDone_36 rfl (lv_at hl 3 rfl) ?_
    refine rAld hx hb fx hw (B + 1) (rBk hF hB (by decide)) hF.2.1 (fun f => cE_row hB (k := 1) (by decide) (by decide) f) k rfl (by omega) (by decide) dX3_wayDone_37 ?_
    refine lv_rep0 (x := (σ (B + 1) k)) (y := nI (gN σ B k)) (by exact (hg k hk).1) ?_
    refine rCallI (C := RX4) (As := [.int (nI (gN σ B k))]) (rest := [.int (σ 3 0), .int ((netA σ B k) * (σ 3 0))]) ⟨hx, hb, hml, hown, hts⟩ fx hw (kX4_restOf l G hG hF σ ((gN σ B k)) (by omega)) (cwV 1 hts gX3_wayDone_X4_restOf rfl rfl rfl (by decide +kernel) ⟨Nat.le_of_ble_eq_true rfl, Nat.le_of_ble_eq_true rfl⟩) (hF.1 1 (by decide)) rfl rfl rfl rfl hl.1 rfl (Nat.le_of_ble_eq_true rfl) dX3_wayDone_38 ⟨Nat.zero_le _, Nat.zero_le _⟩ ?_
    intro r_9 σ_10 H locs p_8 hw
    obtain ⟨er_9, eσ_10⟩ := p_8
    have er_9 := er_9.symm; subst er_9
    have eσ_10 := eσ_10.symm; subst eσ_10
    refine lv_isub hx hb dX3_wayDone_41 ?_
    refine lv_iadd hx hb dX3_wayDone_42 ?_
    refine lv_istore_n (lv' := [(3, .int (((netA σ B k) * (σ 3 0)) + ((σ 3 0) - (σ 3 (gN σ B k))))), (2, .int (σ 3 0)), (0, .ref (gad G B)), (1, .int (nI k))]) hx hb dX3_wayDone_43 rfl hl (by decide) rfl (fun ls hl => ?_)
    refine lv_iload_n hx hb dX3_wayDone_44 rfl (lv_at hl 0 rfl) ?_
    exact rRetI hx hb hr hw (by exact ⟨by first | rfl | simp [wayA, rstA, bI, c_7], by first | rfl | simp [wayA, rstA, upA_n, upA_s, upA_upA, upA_self, upd_self, upd_upd, pk_us, bI, c_7]⟩) hlocks dX3_wayDone_45

def rmX3_leadOver : Room := ({ frames := 3, cells := 0, slots := 0, locals := 68 } : Room)
set_option maxHeartbeats 4000000 in
set_option maxRecDepth 100000 in
theorem kX3_leadOver (l : Launch) (G : Gx) (hG : gOk G) (hF : Full G) (σ : St) (B : Nat) (hB : rB B) (k : Nat) (hk : k < 6) (n : Nat) (hn : σ B 8 = nI n) (hn6 : n ≤ 6) (hg : rOk σ B)  : CtI l yX3_leadOver wsX3_leadOver rmX3_leadOver G σ [.ref (gad G B), .int (nI k)] (fun r σ' => r = (if ldrA σ B n k n < 0 then 0 else ldrA σ B n k n) ∧ σ' = σ) := by
  refine bgMet (cc := cX3_leadOver) (maxL := 4) (ret := (some .int)) (own := RX3) (by decide) rfl rfl hG (Nat.le_of_ble_eq_true rfl) rfl ?_
  intro p e s m args below meth c ls Bd hl
  obtain ⟨hx, hb, hr, hml, hts, hown, hlocks, fx, hw⟩ := Bd
  have hl : lv_has ls 4 [(0, .ref (gad G B)), (1, .int (nI k))] := hl
  have hin : ∀ w ∈ wsX30, w ∈ wsX3_leadOver := by decide +kernel
  refine lv_iconst (v := 0) hx hb dX3_leadOver_0 (by decide) ?_
  refine lv_istore_n (lv' := [(2, .int 0), (0, .ref (gad G B)), (1, .int (nI k))]) hx hb dX3_leadOver_1 rfl hl (by decide) rfl (fun ls hl => ?_)
  refine lv_iconst (v := 0) hx hb dX3_leadOver_2 (by decide) ?_
  refine lv_istore_n (lv' := [(3, .int 0), (2, .int 0), (0, .ref (gad G B)), (1, .int (nI k))]) hx hb dX3_leadOver_3 rfl hl (by decide) rfl (fun ls hl => ?_)
  have lab_4 : ∀ (n9 : Nat), ∀ (i : Nat), n - i < n9 → i ≤ n → ∀ (H : Heap) (locs : List Loc) (ls : Array Slot), Wd G s σ H locs → lv_has ls 4 [(0, .ref (gad G B)), (1, .int (nI k)), (2, .int (ldrA σ B n k i)), (3, .int (nI i))] → W p l e rmX3_leadOver s m args below meth c H locs 0 0 (MQ below (va_Qi (fun r σ' => r = (if ldrA σ B n k n < 0 then 0 else ldrA σ B n k n) ∧ σ' = σ) (BW G) (gA G)) args s 0 0 (gA G)) (F0 m 4 ls []) := by
    intro n9
    induction n9 with
    | zero => intro i hn9; exact absurd hn9 (Nat.not_lt_zero _)
    | succ n9 ih4 =>
      intro i hn9 h4_0 H locs ls hw hl
      refine lv_iload_n hx hb dX3_leadOver_4 rfl (lv_at hl 3 rfl) ?_
      refine lv_aload_n hx hb dX3_leadOver_5 rfl (lv_at hl 0 rfl) ?_
      refine rGet (v := .int (σ B 8)) (C := RX3) (T := TX3) (N := 11) hx hb fx hown hts hin hw B (rB0 hF hB) (cE_race hB _) rfl 8 (by decide) (hts (.fieldLink RX3 37 "Leaguewheel$Race" "count" "I") (by decide +kernel)) (fun _ h9 => h9) rfl dX3_leadOver_6 ?_
      refine lv_rep0 (x := (σ B 8)) (y := nI n) (by exact hn) ?_
      refine lv_icmp_ge (tgt := 38) hx hb dX3_leadOver_9 (by decide) (fun c_1 => ?_) (fun c_1 => ?_)
      · skip
        have c_1 : n ≤ i := (nI_leI (by omega) (by omega)).mp c_1
        refine lv_iload_n hx hb dX3_leadOver_38 rfl (lv_at hl 2 rfl) ?_
        refine lv_iconst (v := 0) hx hb dX3_leadOver_39 (by decide) ?_
        refine va_mmax hx hb (by rw [hml]; exact hl.1.symm) hown (hts (.methodLink RX3 97 Lib.Math.max.name) (by decide +kernel)) (hts (.static Lib.Math.max.name) (by decide +kernel)) (hts (.initialized "java/lang/Math") (by decide +kernel)) (hts (.code Lib.Math.max.name Lib.Math.max.code 2 (some .int)) (by decide +kernel)) (Nat.le_of_ble_eq_true rfl) (Nat.le_of_ble_eq_true rfl) (Nat.zero_le _) (Nat.zero_le _) dX3_leadOver_40 ?_
        exact rRetI hx hb hr hw (by exact ⟨by rw [show n = i by omega], rfl⟩) hlocks dX3_leadOver_43
      · skip
        have c_1 : ¬ n ≤ i := fun h9 => c_1 ((nI_leI (by omega) (by omega)).mpr h9)
        refine lv_aload_n hx hb dX3_leadOver_12 rfl (lv_at hl 0 rfl) ?_
        refine lv_iload_n hx hb dX3_leadOver_13 rfl (lv_at hl 3 rfl) ?_
        refine rCallI (C := RX3) (As := [.int (nI i)]) (rest := []) ⟨hx, hb, hml, hown, hts⟩ fx hw (kX3_countAhead l G hG hF σ B hB i (by omega) n hn (by omega) hg) (cwV 1 hts gX3_leadOver_X3_countAhead rfl rfl rfl (by decide +kernel) ⟨Nat.le_of_ble_eq_true rfl, Nat.le_of_ble_eq_true rfl⟩) (rB0 hF hB) (cE_race hB _) rfl rfl rfl hl.1 rfl (Nat.le_of_ble_eq_true rfl) dX3_leadOver_14 ⟨Nat.zero_le _, Nat.zero_le _⟩ ?_
        intro r_3 σ_4 H locs p_2 hw
        obtain ⟨er_3, eσ_4⟩ := p_2
        have er_3 := er_3.symm; subst er_3
        have eσ_4 := eσ_4.symm; subst eσ_4
        have hc9 := cntA_le (fun a => ahB σ B a i) n
        refine lv_if_ne (tgt := 32) hx hb dX3_leadOver_17 (by decide) (fun c_5 => ?_) (fun c_5 => ?_)
        · skip
          have c_5 : ¬ (cntA (fun a => ahB σ B a i) n) = 0 := n0_net (by omega) c_5
          refine lv_iinc (v := (nI (i + 1))) (lv' := [(3, .int (nI (i + 1))), (0, .ref (gad G B)), (1, .int (nI k)), (2, .int (ldrA σ B n k i))]) hx hb dX3_leadOver_32 hl (k := 3) rfl (nI_1 _) (by decide) rfl (fun ls hl => ?_)
          refine lv_goto (tgt := 4) hx hb dX3_leadOver_35 (by decide) ?_
          have q_6 : (ldrA σ B n k i) = (ldrA σ B n k (i + 1)) := by first | rfl | (simp [ldrA, c_1, c_5])
          exact ih4 (i + 1) (by omega) (by omega) _ _ _ hw (lv_c (lv_at hl 1 rfl) (lv_c (lv_at hl 2 rfl) (lv_c (lv_atq hl 3 rfl q_6) (lv_c (lv_at hl 0 rfl) (lv_c0 hl)))))
        · skip
          have c_5 : (cntA (fun a => ahB σ B a i) n) = 0 := n0_nef (by omega) c_5
          refine lv_aload_n hx hb dX3_leadOver_20 rfl (lv_at hl 0 rfl) ?_
          refine lv_iload_n hx hb dX3_leadOver_21 rfl (lv_at hl 3 rfl) ?_
          refine rCallI (C := RX3) (As := [.int (nI i)]) (rest := []) ⟨hx, hb, hml, hown, hts⟩ fx hw (kX3_wayDone l G hG hF σ B hB i (by omega) hg) (cwV 1 hts gX3_leadOver_X3_wayDone rfl rfl rfl (by decide +kernel) ⟨Nat.le_of_ble_eq_true rfl, Nat.le_of_ble_eq_true rfl⟩) (rB0 hF hB) (cE_race hB _) rfl rfl rfl hl.1 rfl (Nat.le_of_ble_eq_true rfl) dX3_leadOver_22 ⟨Nat.zero_le _, Nat.zero_le _⟩ ?_
          intro r_8 σ_9 H locs p_7 hw
          obtain ⟨er_8, eσ_9⟩ := p_7
          have er_8 := er_8.symm; subst er_8
          have eσ_9 := eσ_9.symm; subst eσ_9
          refine lv_aload_n hx hb dX3_leadOver_25 rfl (lv_at hl 0 rfl) ?_
          refine lv_iload_n hx hb dX3_leadOver_26 rfl (lv_at hl 1 rfl) ?_
          refine rCallI (C := RX3) (As := [.int (nI k)]) (rest := [.int (wayA σ B i)]) ⟨hx, hb, hml, hown, hts⟩ fx hw (kX3_wayDone l G hG hF σ B hB k (by omega) hg) (cwV 1 hts gX3_leadOver_X3_wayDone rfl rfl rfl (by decide +kernel) ⟨Nat.le_of_ble_eq_true rfl, Nat.le_of_ble_eq_true rfl⟩) (rB0 hF hB) (cE_race hB _) rfl rfl rfl hl.1 rfl (Nat.le_of_ble_eq_true rfl) dX3_leadOver_27 ⟨Nat.zero_le _, Nat.zero_le _⟩ ?_
          intro r_11 σ_12 H locs p_10 hw
          obtain ⟨er_11, eσ_12⟩ := p_10
          have er_11 := er_11.symm; subst er_11
          have eσ_12 := eσ_12.symm; subst eσ_12
          refine lv_isub hx hb dX3_leadOver_30 ?_
          refine lv_istore_n (lv' := [(2, .int ((wayA σ B i) - (wayA σ B k))), (0, .ref (gad G B)), (1, .int (nI k)), (3, .int (nI i))]) hx hb dX3_leadOver_31 rfl hl (by decide) rfl (fun ls hl => ?_)
          refine lv_iinc (v := (nI (i + 1))) (lv' := [(3, .int (nI (i + 1))), (2, .int ((wayA σ B i) - (wayA σ B k))), (0, .ref (gad G B)), (1, .int (nI k))]) hx hb dX3_leadOver_32 hl (k := 3) rfl (nI_1 _) (by decide) rfl (fun ls hl => ?_)
          refine lv_goto (tgt := 4) hx hb dX3_leadOver_35 (by decide) ?_
          have q_13 : ((wayA σ B i) - (wayA σ B k)) = (ldrA σ B n k (i + 1)) := by first | rfl | (simp [ldrA, c_1, c_5])
          exact ih4 (i + 1) (by omega) (by omega) _ _ _ hw (lv_c (lv_at hl 2 rfl) (lv_c (lv_at hl 3 rfl) (lv_c (lv_atq hl 1 rfl q_13) (lv_c (lv_at hl 0 rfl) (lv_c0 hl)))))
  have q_14 : 0 = (ldrA σ B n k 0) := by first | rfl | (simp [ldrA])
  have q_15 : 0 = (nI 0) := by first | rfl | (simp [ldrA])
  exact lab_4 (n - 0 + 1) 0 (by omega) (by omega) _ _ _ hw (lv_c (lv_at hl 2 rfl) (lv_c (lv_at hl 3 rfl) (lv_c (lv_atq hl 1 rfl q_14) (lv_c (lv_atq hl 0 rfl q_15) (lv_c0 hl)))))

def rmX3_insertInOrder : Room := ({ frames := 2, cells := 0, slots := 0, locals := 45 } : Room)
set_option maxHeartbeats 4000000 in
set_option maxRecDepth 100000 in
theorem kX3_insertInOrder (l : Launch) (G : Gx) (hG : gOk G) (hF : Full G) (σ : St) (B : Nat) (hB : rB B) (k : Nat) (hk : k < 6) (hg : rOk σ B) (ho : ∀ x, x < k → σ (B + 6) x = nI (σ (B + 6) x).toNatClampNeg ∧ (σ (B + 6) x).toNatClampNeg < 6)  : CtV l yX3_insertInOrder wsX3_insertInOrder rmX3_insertInOrder G σ [.ref (gad G B), .int (nI k)] (fun σ' => σ' = upA σ (B + 6) (insA (ahB σ B) (σ (B + 6)) k)) := by
  refine bgMet (cc := cX3_insertInOrder) (maxL := 3) (ret := none) (own := RX3) (by decide) rfl rfl hG (Nat.le_of_ble_eq_true rfl) rfl ?_
  intro p e s m args below meth c ls Bd hl
  obtain ⟨hx, hb, hr, hml, hts, hown, hlocks, fx, hw⟩ := Bd
  have hl : lv_has ls 3 [(0, .ref (gad G B)), (1, .int (nI k))] := hl
  have hin : ∀ w ∈ wsX30, w ∈ wsX3_insertInOrder := by decide +kernel
  refine lv_iload_n hx hb dX3_insertInOrder_0 rfl (lv_at hl 1 rfl) ?_
  refine lv_istore_n (lv' := [(2, .int (nI k)), (0, .ref (gad G B)), (1, .int (nI k))]) hx hb dX3_insertInOrder_1 rfl hl (by decide) rfl (fun ls hl => ?_)
  have lab_2 : ∀ (n9 : Nat), ∀ (j : Nat), j < n9 → j ≤ k → insP (ahB σ B) (σ (B + 6)) k k = insP (ahB σ B) (σ (B + 6)) k j → ∀ (H : Heap) (locs : List Loc) (ls : Array Slot), Wd G s (upA σ (B + 6) (shfA (σ (B + 6)) k j)) H locs → lv_has ls 3 [(0, .ref (gad G B)), (1, .int (nI k)), (2, .int (nI j))] → W p l e rmX3_insertInOrder s m args below meth c H locs 0 0 (MQ below (va_Qv (fun σ' => σ' = upA σ (B + 6) (insA (ahB σ B) (σ (B + 6)) k)) (BW G) (gA G)) args s 0 0 (gA G)) (F0 m 2 ls []) := by
    intro n9
    induction n9 with
    | zero => intro j hn9; exact absurd hn9 (Nat.not_lt_zero _)
    | succ n9 ih2 =>
      intro j hn9 h2_0 h2_1 H locs ls hw hl
      obtain ⟨σ_1, eσ_1⟩ : ∃ z, z = upA σ (B + 6) (shfA (σ (B + 6)) k j) := ⟨_, rfl⟩
      rw [← eσ_1] at hw
      refine lv_iload_n hx hb dX3_insertInOrder_2 rfl (lv_at hl 2 rfl) ?_
      refine lv_if_le (tgt := 42) hx hb dX3_insertInOrder_3 (by decide) (fun c_2 => ?_) (fun c_2 => ?_)
      · skip
        have c_2 : j = 0 := n0_let (by omega) c_2
        refine lv_aload_n hx hb dX3_insertInOrder_42 rfl (lv_at hl 0 rfl) ?_
        refine rGet (v := .ref (gad G (B + 6))) (C := RX3) (T := TX3) (N := 11) hx hb fx hown hts hin hw B (rB0 hF hB) (cE_race hB _) rfl 6 (by decide) (hts (.fieldLink RX3 31 "Leaguewheel$Race" "order" "[I") (by decide +kernel)) (fun _ h9 => h9) rfl dX3_insertInOrder_43 ?_
        refine lv_iload_n hx hb dX3_insertInOrder_46 rfl (lv_at hl 2 rfl) ?_
        refine lv_iload_n hx hb dX3_insertInOrder_47 rfl (lv_at hl 1 rfl) ?_
        refine rAst (x := (nI k)) hx hb fx hw (B + 6) (rBk hF hB (by decide)) hF.2.1 (fun f => cE_row hB (k := 6) (by decide) (by decide) f) j rfl (by omega) (by decide) dX3_insertInOrder_48 (fun H locs hw => ?_)
        obtain ⟨σ_3, eσ_3⟩ : ∃ z, z = upA σ_1 (B + 6) (upd (σ_1 (B + 6)) j (nI k)) := ⟨_, rfl⟩
        rw [← eσ_3] at hw
        subst eσ_3
        subst eσ_1
        exact rRetV hx hb hr hw (by unfold insA; rw [show insP (ahB σ B) (σ (B + 6)) k k = j by rw [h2_1]; first | exact insP_f (by omega) c_2 | exact insP_0 (by omega)]; simp only [upA_s, upA_upA]) hlocks dX3_insertInOrder_49
      · skip
        have c_2 : 0 < j := n0_lef (by omega) c_2
        have hop := (ho (j - 1) (by omega)).2
        refine lv_aload_n hx hb dX3_insertInOrder_6 rfl (lv_at hl 0 rfl) ?_
        refine lv_iload_n hx hb dX3_insertInOrder_7 rfl (lv_at hl 1 rfl) ?_
        refine lv_aload_n hx hb dX3_insertInOrder_8 rfl (lv_at hl 0 rfl) ?_
        refine rGet (v := .ref (gad G (B + 6))) (C := RX3) (T := TX3) (N := 11) hx hb fx hown hts hin hw B (rB0 hF hB) (cE_race hB _) rfl 6 (by decide) (hts (.fieldLink RX3 31 "Leaguewheel$Race" "order" "[I") (by decide +kernel)) (fun _ h9 => h9) rfl dX3_insertInOrder_9 ?_
        refine lv_iload_n hx hb dX3_insertInOrder_12 rfl (lv_at hl 2 rfl) ?_
        refine lv_iconst (v := 1) hx hb dX3_insertInOrder_13 (by decide) ?_
        refine lv_rep0 (x := 1) (y := nI 1) rfl ?_
        refine lv_isub hx hb dX3_insertInOrder_14 ?_
        refine lv_rep0 (x := ((nI j) - (nI 1))) (y := nI (j - 1)) (pk_sub (by omega)) ?_
        refine rAld hx hb fx hw (B + 6) (rBk hF hB (by decide)) hF.2.1 (fun f => cE_row hB (k := 6) (by decide) (by decide) f) (j - 1) rfl (by omega) (by decide) dX3_insertInOrder_15 ?_
        refine lv_rep0 (x := (σ_1 (B + 6) (j - 1))) (y := nI (σ (B + 6) (j - 1)).toNatClampNeg) (by subst_vars; rw [upA_s, shfA_lo (by omega)]; exact (ho (j - 1) (by omega)).1) ?_
        refine rCallI (C := RX3) (As := [.int (nI k), .int (nI (σ (B + 6) (j - 1)).toNatClampNeg)]) (rest := []) ⟨hx, hb, hml, hown, hts⟩ fx hw (kX3_isAhead l G hG hF σ_1 B hB k ((σ (B + 6) (j - 1)).toNatClampNeg) (by omega) (by omega) (by subst_vars; exact rOk_6 hg _)) (cwV 2 hts gX3_insertInOrder_X3_isAhead rfl rfl rfl (by decide +kernel) ⟨Nat.le_of_ble_eq_true rfl, Nat.le_of_ble_eq_true rfl⟩) (rB0 hF hB) (cE_race hB _) rfl rfl rfl hl.1 rfl (Nat.le_of_ble_eq_true rfl) dX3_insertInOrder_16 ⟨Nat.zero_le _, Nat.zero_le _⟩ ?_
        intro r_5 σ_6 H locs p_4 hw
        obtain ⟨er_5, eσ_6⟩ := p_4
        have er_5 := er_5.symm; subst er_5
        have eσ_6 := eσ_6.symm; subst eσ_6
        refine lv_rep0 (x := (bI (ahB σ_1 B k ((σ (B + 6) (j - 1)).toNatClampNeg)))) (y := (bI (ahB σ B k (σ (B + 6) (j - 1)).toNatClampNeg))) (by subst_vars; rw [ahB_6 hB]) ?_
        refine lv_b_eq (tgt := 42) hx hb dX3_insertInOrder_19 (by decide) (fun c_7 => ?_) (fun c_7 => ?_)
        · skip
          refine lv_aload_n hx hb dX3_insertInOrder_42 rfl (lv_at hl 0 rfl) ?_
          refine rGet (v := .ref (gad G (B + 6))) (C := RX3) (T := TX3) (N := 11) hx hb fx hown hts hin hw B (rB0 hF hB) (cE_race hB _) rfl 6 (by decide) (hts (.fieldLink RX3 31 "Leaguewheel$Race" "order" "[I") (by decide +kernel)) (fun _ h9 => h9) rfl dX3_insertInOrder_43 ?_
          refine lv_iload_n hx hb dX3_insertInOrder_46 rfl (lv_at hl 2 rfl) ?_
          refine lv_iload_n hx hb dX3_insertInOrder_47 rfl (lv_at hl 1 rfl) ?_
          refine rAst (x := (nI k)) hx hb fx hw (B + 6) (rBk hF hB (by decide)) hF.2.1 (fun f => cE_row hB (k := 6) (by decide) (by decide) f) j rfl (by omega) (by decide) dX3_insertInOrder_48 (fun H locs hw => ?_)
          obtain ⟨σ_8, eσ_8⟩ : ∃ z, z = upA σ_1 (B + 6) (upd (σ_1 (B + 6)) j (nI k)) := ⟨_, rfl⟩
          rw [← eσ_8] at hw
          subst eσ_8
          subst eσ_1
          exact rRetV hx hb hr hw (by unfold insA; rw [show insP (ahB σ B) (σ (B + 6)) k k = j by rw [h2_1]; first | exact insP_f (by omega) c_7 | exact insP_0 (by omega)]; simp only [upA_s, upA_upA]) hlocks dX3_insertInOrder_49
        · skip
          refine lv_aload_n hx hb dX3_insertInOrder_22 rfl (lv_at hl 0 rfl) ?_
          refine rGet (v := .ref (gad G (B + 6))) (C := RX3) (T := TX3) (N := 11) hx hb fx hown hts hin hw B (rB0 hF hB) (cE_race hB _) rfl 6 (by decide) (hts (.fieldLink RX3 31 "Leaguewheel$Race" "order" "[I") (by decide +kernel)) (fun _ h9 => h9) rfl dX3_insertInOrder_23 ?_
          refine lv_iload_n hx hb dX3_insertInOrder_26 rfl (lv_at hl 2 rfl) ?_
          refine lv_aload_n hx hb dX3_insertInOrder_27 rfl (lv_at hl 0 rfl) ?_
          refine rGet (v := .ref (gad G (B + 6))) (C := RX3) (T := TX3) (N := 11) hx hb fx hown hts hin hw B (rB0 hF hB) (cE_race hB _) rfl 6 (by decide) (hts (.fieldLink RX3 31 "Leaguewheel$Race" "order" "[I") (by decide +kernel)) (fun _ h9 => h9) rfl dX3_insertInOrder_28 ?_
          refine lv_iload_n hx hb dX3_insertInOrder_31 rfl (lv_at hl 2 rfl) ?_
          refine lv_iconst (v := 1) hx hb dX3_insertInOrder_32 (by decide) ?_
          refine lv_rep0 (x := 1) (y := nI 1) rfl ?_
          refine lv_isub hx hb dX3_insertInOrder_33 ?_
          refine lv_rep0 (x := ((nI j) - (nI 1))) (y := nI (j - 1)) (pk_sub (by omega)) ?_
          refine rAld hx hb fx hw (B + 6) (rBk hF hB (by decide)) hF.2.1 (fun f => cE_row hB (k := 6) (by decide) (by decide) f) (j - 1) rfl (by omega) (by decide) dX3_insertInOrder_34 ?_
          refine rAst (x := (σ_1 (B + 6) (j - 1))) hx hb fx hw (B + 6) (rBk hF hB (by decide)) hF.2.1 (fun f => cE_row hB (k := 6) (by decide) (by decide) f) j rfl (by omega) (by decide) dX3_insertInOrder_35 (fun H locs hw => ?_)
          obtain ⟨σ_9, eσ_9⟩ : ∃ z, z = upA σ_1 (B + 6) (upd (σ_1 (B + 6)) j (σ_1 (B + 6) (j - 1))) := ⟨_, rfl⟩
          rw [← eσ_9] at hw
          refine lv_iinc (v := ((nI j) + (-1))) (lv' := [(2, .int ((nI j) + (-1))), (0, .ref (gad G B)), (1, .int (nI k))]) hx hb dX3_insertInOrder_36 hl (k := 2) rfl (rfl) (by decide) rfl (fun ls hl => ?_)
          refine lv_goto (tgt := 2) hx hb dX3_insertInOrder_39 (by decide) ?_
          have q_10 : ((nI j) + (-1)) = (nI (j - 1)) := by have e9 := nI_pred (j - 1); rw [show j - 1 + 1 = j by omega] at e9; rw [← e9, Int32.sub_eq_add_neg]
          have q_11 : σ_9 = upA σ (B + 6) (shfA (σ (B + 6)) k (j - 1)) := by subst eσ_9 eσ_1; simp only [upA_s, upA_upA]; rw [shfA_lo (x := j - 1) (by omega)]; have e9 := shfA_s (σ (B + 6)) k (j - 1) (by omega); rw [show j - 1 + 1 = j by omega] at e9; rw [e9]
          rw [q_11] at hw
          exact ih2 (j - 1) (by omega) (by omega) (by rw [h2_1]; exact insP_t (by omega) c_7) _ _ _ hw (lv_c (lv_at hl 1 rfl) (lv_c (lv_at hl 2 rfl) (lv_c (lv_atq hl 0 rfl q_10) (lv_c0 hl))))
  have q_12 : σ = upA σ (B + 6) (shfA (σ (B + 6)) k k) := by rw [shfA_0, upA_self]
  rw [q_12] at hw
  exact lab_2 (k + 1) k (by omega) (by omega) rfl _ _ _ hw (lv_c (lv_at hl 1 rfl) (lv_c (lv_at hl 2 rfl) (lv_c (lv_at hl 0 rfl) (lv_c0 hl))))

def rmX3_sortedRank : Room := ({ frames := 3, cells := 0, slots := 0, locals := 67 } : Room)
set_option maxHeartbeats 4000000 in
set_option maxRecDepth 100000 in
theorem kX3_sortedRank (l : Launch) (G : Gx) (hG : gOk G) (hF : Full G) (σ : St) (B : Nat) (hB : rB B) (k : Nat) (n : Nat) (hn : σ B 8 = nI n) (hn6 : n ≤ 6) (hg : rOk σ B) (hk : k < n)  : CtI l yX3_sortedRank wsX3_sortedRank rmX3_sortedRank G σ [.ref (gad G B), .int (nI k)] (fun r σ' => r = rrA (ordA (ahB σ B) (σ (B + 6)) n) (σ (B + 7)) n k ∧ σ' = upA (upA σ (B + 6) (ordA (ahB σ B) (σ (B + 6)) n)) (B + 7) (rrA (ordA (ahB σ B) (σ (B + 6)) n) (σ (B + 7)) n)) := by
  refine bgMet (cc := cX3_sortedRank) (maxL := 3) (ret := (some .int)) (own := RX3) (by decide) rfl rfl hG (Nat.le_of_ble_eq_true rfl) rfl ?_
  intro p e s m args below meth c ls Bd hl
  obtain ⟨hx, hb, hr, hml, hts, hown, hlocks, fx, hw⟩ := Bd
  have hl : lv_has ls 3 [(0, .ref (gad G B)), (1, .int (nI k))] := hl
  have hin : ∀ w ∈ wsX30, w ∈ wsX3_sortedRank := by decide +kernel
  refine lv_iconst (v := 0) hx hb dX3_sortedRank_0 (by decide) ?_
  refine lv_istore_n (lv' := [(2, .int 0), (0, .ref (gad G B)), (1, .int (nI k))]) hx hb dX3_sortedRank_1 rfl hl (by decide) rfl (fun ls hl => ?_)
  have lab_2 : ∀ (n9 : Nat), ∀ (i : Nat), n - i < n9 → i ≤ n → ∀ (H : Heap) (locs : List Loc) (ls : Array Slot), Wd G s (upA σ (B + 6) (ordA (ahB σ B) (σ (B + 6)) i)) H locs → lv_has ls 3 [(0, .ref (gad G B)), (1, .int (nI k)), (2, .int (nI i))] → W p l e rmX3_sortedRank s m args below meth c H locs 0 0 (MQ below (va_Qi (fun r σ' => r = rrA (ordA (ahB σ B) (σ (B + 6)) n) (σ (B + 7)) n k ∧ σ' = upA (upA σ (B + 6) (ordA (ahB σ B) (σ (B + 6)) n)) (B + 7) (rrA (ordA (ahB σ B) (σ (B + 6)) n) (σ (B + 7)) n)) (BW G) (gA G)) args s 0 0 (gA G)) (F0 m 2 ls []) := by
    intro n9
    induction n9 with
    | zero => intro i hn9; exact absurd hn9 (Nat.not_lt_zero _)
    | succ n9 ih2 =>
      intro i hn9 h2_0 H locs ls hw hl
      obtain ⟨σ_1, eσ_1⟩ : ∃ z, z = upA σ (B + 6) (ordA (ahB σ B) (σ (B + 6)) i) := ⟨_, rfl⟩
      rw [← eσ_1] at hw
      refine lv_iload_n hx hb dX3_sortedRank_2 rfl (lv_at hl 2 rfl) ?_
      refine lv_aload_n hx hb dX3_sortedRank_3 rfl (lv_at hl 0 rfl) ?_
      refine rGet (v := .int (σ_1 B 8)) (C := RX3) (T := TX3) (N := 11) hx hb fx hown hts hin hw B (rB0 hF hB) (cE_race hB _) rfl 8 (by decide) (hts (.fieldLink RX3 37 "Leaguewheel$Race" "count" "I") (by decide +kernel)) (fun _ h9 => h9) rfl dX3_sortedRank_4 ?_
      refine lv_rep0 (x := (σ_1 B 8)) (y := nI n) (by subst_vars; rw [upA_n (by omega)]; exact hn) ?_
      refine lv_icmp_ge (tgt := 21) hx hb dX3_sortedRank_7 (by decide) (fun c_2 => ?_) (fun c_2 => ?_)
      · skip
        have c_2 : n ≤ i := (nI_leI (by omega) (by omega)).mp c_2
        have lab_23 : ∀ (n9 : Nat), ∀ (i : Nat), n - i < n9 → i ≤ n → ∀ (H : Heap) (locs : List Loc) (ls : Array Slot), Wd G s (upA (upA σ (B + 6) (ordA (ahB σ B) (σ (B + 6)) n)) (B + 7) (rrA (ordA (ahB σ B) (σ (B + 6)) n) (σ (B + 7)) i)) H locs → lv_has ls 3 [(0, .ref (gad G B)), (1, .int (nI k)), (2, .int (nI i))] → W p l e rmX3_sortedRank s m args below meth c H locs 0 0 (MQ below (va_Qi (fun r σ' => r = rrA (ordA (ahB σ B) (σ (B + 6)) n) (σ (B + 7)) n k ∧ σ' = upA (upA σ (B + 6) (ordA (ahB σ B) (σ (B + 6)) n)) (B + 7) (rrA (ordA (ahB σ B) (σ (B + 6)) n) (σ (B + 7)) n)) (BW G) (gA G)) args s 0 0 (gA G)) (F0 m 23 ls []) := by
          intro n9
          induction n9 with
          | zero => intro i hn9; exact absurd hn9 (Nat.not_lt_zero _)
          | succ n9 ih23 =>
            intro i hn9 h23_0 H locs ls hw hl
            obtain ⟨σ_3, eσ_3⟩ : ∃ z, z = upA (upA σ (B + 6) (ordA (ahB σ B) (σ (B + 6)) n)) (B + 7) (rrA (ordA (ahB σ B) (σ (B + 6)) n) (σ (B + 7)) i) := ⟨_, rfl⟩
            rw [← eσ_3] at hw
            refine lv_iload_n hx hb dX3_sortedRank_23 rfl (lv_at hl 2 rfl) ?_
            refine lv_aload_n hx hb dX3_sortedRank_24 rfl (lv_at hl 0 rfl) ?_
            refine rGet (v := .int (σ_3 B 8)) (C := RX3) (T := TX3) (N := 11) hx hb fx hown hts hin hw B (rB0 hF hB) (cE_race hB _) rfl 8 (by decide) (hts (.fieldLink RX3 37 "Leaguewheel$Race" "count" "I") (by decide +kernel)) (fun _ h9 => h9) rfl dX3_sortedRank_25 ?_
            refine lv_rep0 (x := (σ_3 B 8)) (y := nI n) (by subst_vars; rw [upA_n (by omega), upA_n (by omega)]; exact hn) ?_
            refine lv_icmp_ge (tgt := 49) hx hb dX3_sortedRank_28 (by decide) (fun c_4 => ?_) (fun c_4 => ?_)
            · skip
              have c_4 : n ≤ i := (nI_leI (by omega) (by omega)).mp c_4
              refine lv_aload_n hx hb dX3_sortedRank_49 rfl (lv_at hl 0 rfl) ?_
              refine rGet (v := .ref (gad G (B + 7))) (C := RX3) (T := TX3) (N := 11) hx hb fx hown hts hin hw B (rB0 hF hB) (cE_race hB _) rfl 7 (by decide) (hts (.fieldLink RX3 34 "Leaguewheel$Race" "rankRow" "[I") (by decide +kernel)) (fun _ h9 => h9) rfl dX3_sortedRank_50 ?_
              refine lv_iload_n hx hb dX3_sortedRank_53 rfl (lv_at hl 1 rfl) ?_
              refine rAld hx hb fx hw (B + 7) (rBk hF hB (by decide)) hF.2.1 (fun f => cE_row hB (k := 7) (by decide) (by decide) f) k rfl (by omega) (by decide) dX3_sortedRank_54 ?_
              subst eσ_3
              exact rRetI hx hb hr hw (by rw [show n = i by omega]; simp [upA_s]) hlocks dX3_sortedRank_55
            · skip
              have c_4 : ¬ n ≤ i := fun h9 => c_4 ((nI_leI (by omega) (by omega)).mpr h9)
              have hoi := (ordA_ok (ahB σ B) (σ (B + 6)) n hn6 n (Nat.le_refl n) i (by omega)).2
              refine lv_aload_n hx hb dX3_sortedRank_31 rfl (lv_at hl 0 rfl) ?_
              refine rGet (v := .ref (gad G (B + 7))) (C := RX3) (T := TX3) (N := 11) hx hb fx hown hts hin hw B (rB0 hF hB) (cE_race hB _) rfl 7 (by decide) (hts (.fieldLink RX3 34 "Leaguewheel$Race" "rankRow" "[I") (by decide +kernel)) (fun _ h9 => h9) rfl dX3_sortedRank_32 ?_
              refine lv_aload_n hx hb dX3_sortedRank_35 rfl (lv_at hl 0 rfl) ?_
              refine rGet (v := .ref (gad G (B + 6))) (C := RX3) (T := TX3) (N := 11) hx hb fx hown hts hin hw B (rB0 hF hB) (cE_race hB _) rfl 6 (by decide) (hts (.fieldLink RX3 31 "Leaguewheel$Race" "order" "[I") (by decide +kernel)) (fun _ h9 => h9) rfl dX3_sortedRank_36 ?_
              refine lv_iload_n hx hb dX3_sortedRank_39 rfl (lv_at hl 2 rfl) ?_
              refine rAld hx hb fx hw (B + 6) (rBk hF hB (by decide)) hF.2.1 (fun f => cE_row hB (k := 6) (by decide) (by decide) f) i rfl (by omega) (by decide) dX3_sortedRank_40 ?_
              refine lv_rep0 (x := (σ_3 (B + 6) i)) (y := nI (ordA (ahB σ B) (σ (B + 6)) n i).toNatClampNeg) (by subst_vars; rw [upA_n (by omega), upA_s]; exact (ordA_ok (ahB σ B) (σ (B + 6)) n hn6 n (Nat.le_refl n) i (by omega)).1) ?_
              refine lv_iload_n hx hb dX3_sortedRank_41 rfl (lv_at hl 2 rfl) ?_
              refine rAst (x := (nI i)) hx hb fx hw (B + 7) (rBk hF hB (by decide)) hF.2.1 (fun f => cE_row hB (k := 7) (by decide) (by decide) f) (ordA (ahB σ B) (σ (B + 6)) n i).toNatClampNeg rfl (by omega) (by decide) dX3_sortedRank_42 (fun H locs hw => ?_)
              obtain ⟨σ_5, eσ_5⟩ : ∃ z, z = upA σ_3 (B + 7) (upd (σ_3 (B + 7)) (ordA (ahB σ B) (σ (B + 6)) n i).toNatClampNeg (nI i)) := ⟨_, rfl⟩
              rw [← eσ_5] at hw
              refine lv_iinc (v := (nI (i + 1))) (lv' := [(2, .int (nI (i + 1))), (0, .ref (gad G B)), (1, .int (nI k))]) hx hb dX3_sortedRank_43 hl (k := 2) rfl (nI_1 _) (by decide) rfl (fun ls hl => ?_)
              refine lv_goto (tgt := 23) hx hb dX3_sortedRank_46 (by decide) ?_
              have q_6 : σ_5 = upA (upA σ (B + 6) (ordA (ahB σ B) (σ (B + 6)) n)) (B + 7) (rrA (ordA (ahB σ B) (σ (B + 6)) n) (σ (B + 7)) (i + 1)) := by subst eσ_5 eσ_3; simp only [upA_s, upA_upA]; rfl
              rw [q_6] at hw
              exact ih23 (i + 1) (by omega) (by omega) _ _ _ hw (lv_c (lv_at hl 1 rfl) (lv_c (lv_at hl 2 rfl) (lv_c (lv_at hl 0 rfl) (lv_c0 hl))))
        refine lv_iconst (v := 0) hx hb dX3_sortedRank_21 (by decide) ?_
        refine lv_istore_n (lv' := [(2, .int 0), (0, .ref (gad G B)), (1, .int (nI k))]) hx hb dX3_sortedRank_22 rfl hl (by decide) rfl (fun ls hl => ?_)
        have q_7 : 0 = (nI 0) := by first | rfl | (simp)
        have q_8 : σ_1 = upA (upA σ (B + 6) (ordA (ahB σ B) (σ (B + 6)) n)) (B + 7) (rrA (ordA (ahB σ B) (σ (B + 6)) n) (σ (B + 7)) 0) := by subst eσ_1; rw [show i = n by omega]; have e9 : upA σ (B + 6) (ordA (ahB σ B) (σ (B + 6)) n) (B + 7) = σ (B + 7) := upA_n (by omega); rw [rrA, ← e9, upA_self]
        rw [q_8] at hw
        exact lab_23 (n - 0 + 1) 0 (by omega) (by omega) _ _ _ hw (lv_c (lv_at hl 1 rfl) (lv_c (lv_at hl 2 rfl) (lv_c (lv_atq hl 0 rfl q_7) (lv_c0 hl))))
      · skip
        have c_2 : ¬ n ≤ i := fun h9 => c_2 ((nI_leI (by omega) (by omega)).mpr h9)
        refine lv_aload_n hx hb dX3_sortedRank_10 rfl (lv_at hl 0 rfl) ?_
        refine lv_iload_n hx hb dX3_sortedRank_11 rfl (lv_at hl 2 rfl) ?_
        refine rCallV (C := RX3) (As := [.int (nI i)]) (rest := []) ⟨hx, hb, hml, hown, hts⟩ fx hw (kX3_insertInOrder l G hG hF σ_1 B hB i (by omega) (by subst_vars; exact rOk_6 hg _) (by subst_vars; intro x hx; rw [upA_s]; have e9 := ordA_ok (ahB σ B) (σ (B + 6)) n hn6 i (by omega) x hx; exact ⟨e9.1, by omega⟩)) (cwV 1 hts gX3_sortedRank_X3_insertInOrder rfl rfl rfl (by decide +kernel) ⟨Nat.le_of_ble_eq_true rfl, Nat.le_of_ble_eq_true rfl⟩) (rB0 hF hB) (cE_race hB _) rfl rfl rfl hl.1 rfl (Nat.le_of_ble_eq_true rfl) dX3_sortedRank_12 ⟨Nat.zero_le _, Nat.zero_le _⟩ ?_
        intro σ_10 H locs p_9 hw
        have eσ_10 := p_9
        refine lv_iinc (v := (nI (i + 1))) (lv' := [(2, .int (nI (i + 1))), (0, .ref (gad G B)), (1, .int (nI k))]) hx hb dX3_sortedRank_15 hl (k := 2) rfl (nI_1 _) (by decide) rfl (fun ls hl => ?_)
        refine lv_goto (tgt := 2) hx hb dX3_sortedRank_18 (by decide) ?_
        have q_11 : σ_10 = upA σ (B + 6) (ordA (ahB σ B) (σ (B + 6)) (i + 1)) := by subst eσ_10 eσ_1; simp only [upA_s, upA_upA]; rw [show ahB (upA σ (B + 6) (ordA (ahB σ B) (σ (B + 6)) i)) B = ahB σ B from funext fun x => funext fun y => ahB_6 hB σ _ x y]; rfl
        rw [q_11] at hw
        exact ih2 (i + 1) (by omega) (by omega) _ _ _ hw (lv_c (lv_at hl 1 rfl) (lv_c (lv_at hl 2 rfl) (lv_c (lv_at hl 0 rfl) (lv_c0 hl))))
  have q_12 : 0 = (nI 0) := by first | rfl | (simp)
  have q_13 : σ = upA σ (B + 6) (ordA (ahB σ B) (σ (B + 6)) 0) := by exact (upA_self σ (B + 6)).symm
  rw [q_13] at hw
  exact lab_2 (n - 0 + 1) 0 (by omega) (by omega) _ _ _ hw (lv_c (lv_at hl 1 rfl) (lv_c (lv_at hl 2 rfl) (lv_c (lv_atq hl 0 rfl q_12) (lv_c0 hl))))
