def rmX4_gateCount : Room := ({ frames := 0, cells := 0, slots := 0, locals := 0 } : Room)
set_option maxHeartbeats 4000000 in
set_option maxRecDepth 100000 in
theorem kX4_gateCount (l : Launch) (G : Gx) (hG : gOk G) (hF : Full G) (σ : St)  : CtI l yX4_gateCount wsX4_gateCount rmX4_gateCount G σ [.ref (gad G 1)] (fun r σ' => r = σ 1 2 ∧ σ' = σ) := by
  refine bgMet (cc := cX4_gateCount) (maxL := 1) (ret := (some .int)) (own := RX4) (by decide) rfl rfl hG (Nat.le_of_ble_eq_true rfl) rfl ?_
  intro p e s m args below meth c ls Bd hl
  obtain ⟨hx, hb, hr, hml, hts, hown, hlocks, fx, hw⟩ := Bd
  have hl : lv_has ls 1 [(0, .ref (gad G 1))] := hl
  have hin : ∀ w ∈ wsX40, w ∈ wsX4_gateCount := by decide +kernel
  refine lv_aload_n hx hb dX4_gateCount_0 rfl (lv_at hl 0 rfl) ?_
  refine rGet (v := .int (σ 1 2)) (C := RX4) (T := TX4) (N := 4) hx hb fx hown hts hin hw 1 (hF.1 1 (by decide)) rfl rfl 2 (by decide) (hts (.fieldLink RX4 18 "Leaguewheel$Track" "count" "I") (by decide +kernel)) (fun _ h9 => h9) rfl dX4_gateCount_1 ?_
  exact rRetI hx hb hr hw (by exact ⟨by first | rfl | simp [bI, bI] | simp [bI, upA_n, upA_s, upA_upA, upA_self, upd_self, upd_upd, pk_us, bI], by first | rfl | simp [bI, upA_n, upA_s, upA_upA, upA_self, upd_self, upd_upd, pk_us, bI]⟩) hlocks dX4_gateCount_4

def rmX4_isFull : Room := ({ frames := 0, cells := 0, slots := 0, locals := 0 } : Room)
set_option maxHeartbeats 4000000 in
set_option maxRecDepth 100000 in
theorem kX4_isFull (l : Launch) (G : Gx) (hG : gOk G) (hF : Full G) (σ : St)  : CtI l yX4_isFull wsX4_isFull rmX4_isFull G σ [.ref (gad G 1)] (fun r σ' => r = bI (!decide (σ 1 2 < 12)) ∧ σ' = σ) := by
  refine bgMet (cc := cX4_isFull) (maxL := 1) (ret := (some .boolean)) (own := RX4) (by decide) rfl rfl hG (Nat.le_of_ble_eq_true rfl) rfl ?_
  intro p e s m args below meth c ls Bd hl
  obtain ⟨hx, hb, hr, hml, hts, hown, hlocks, fx, hw⟩ := Bd
  have hl : lv_has ls 1 [(0, .ref (gad G 1))] := hl
  have hin : ∀ w ∈ wsX40, w ∈ wsX4_isFull := by decide +kernel
  refine lv_aload_n hx hb dX4_isFull_0 rfl (lv_at hl 0 rfl) ?_
  refine rGet (v := .int (σ 1 2)) (C := RX4) (T := TX4) (N := 4) hx hb fx hown hts hin hw 1 (hF.1 1 (by decide)) rfl rfl 2 (by decide) (hts (.fieldLink RX4 18 "Leaguewheel$Track" "count" "I") (by decide +kernel)) (fun _ h9 => h9) rfl dX4_isFull_1 ?_
  refine lv_bipush (v := 12) hx hb dX4_isFull_4 (by decide) ?_
  refine lv_icmp_lt (tgt := 13) hx hb dX4_isFull_6 (by decide) (fun c_1 => ?_) (fun c_1 => ?_)
  · skip
    refine lv_iconst (v := 0) hx hb dX4_isFull_13 (by decide) ?_
    exact rRetZ hx hb hr hw (by decide) (by exact ⟨by first | rfl | simp [bI, bI, c_1] | simp [bI, upA_n, upA_s, upA_upA, upA_self, upd_self, upd_upd, pk_us, bI, c_1], by first | rfl | simp [bI, upA_n, upA_s, upA_upA, upA_self, upd_self, upd_upd, pk_us, bI, c_1]⟩) hlocks dX4_isFull_14
  · skip
    refine lv_iconst (v := 1) hx hb dX4_isFull_9 (by decide) ?_
    refine lv_goto (tgt := 14) hx hb dX4_isFull_10 (by decide) ?_
    exact rRetZ hx hb hr hw (by decide) (by exact ⟨by first | rfl | simp [bI, bI, c_1] | simp [bI, upA_n, upA_s, upA_upA, upA_self, upd_self, upd_upd, pk_us, bI, c_1], by first | rfl | simp [bI, upA_n, upA_s, upA_upA, upA_self, upd_self, upd_upd, pk_us, bI, c_1]⟩) hlocks dX4_isFull_14

def rmX4_needed : Room := ({ frames := 0, cells := 0, slots := 0, locals := 0 } : Room)
set_option maxHeartbeats 4000000 in
set_option maxRecDepth 100000 in
theorem kX4_needed (l : Launch) (G : Gx) (hG : gOk G) (hF : Full G) (σ : St)  : CtI l yX4_needed wsX4_needed rmX4_needed G σ [.ref (gad G 1)] (fun r σ' => r = σ 1 3 ∧ σ' = σ) := by
  refine bgMet (cc := cX4_needed) (maxL := 1) (ret := (some .int)) (own := RX4) (by decide) rfl rfl hG (Nat.le_of_ble_eq_true rfl) rfl ?_
  intro p e s m args below meth c ls Bd hl
  obtain ⟨hx, hb, hr, hml, hts, hown, hlocks, fx, hw⟩ := Bd
  have hl : lv_has ls 1 [(0, .ref (gad G 1))] := hl
  have hin : ∀ w ∈ wsX40, w ∈ wsX4_needed := by decide +kernel
  refine lv_aload_n hx hb dX4_needed_0 rfl (lv_at hl 0 rfl) ?_
  refine rGet (v := .int (σ 1 3)) (C := RX4) (T := TX4) (N := 4) hx hb fx hown hts hin hw 1 (hF.1 1 (by decide)) rfl rfl 3 (by decide) (hts (.fieldLink RX4 22 "Leaguewheel$Track" "neededGates" "I") (by decide +kernel)) (fun _ h9 => h9) rfl dX4_needed_1 ?_
  exact rRetI hx hb hr hw (by exact ⟨by first | rfl | simp [bI, bI] | simp [bI, upA_n, upA_s, upA_upA, upA_self, upd_self, upd_upd, pk_us, bI], by first | rfl | simp [bI, upA_n, upA_s, upA_upA, upA_self, upd_self, upd_upd, pk_us, bI]⟩) hlocks dX4_needed_4

def rmX4_isNeeded : Room := ({ frames := 0, cells := 0, slots := 0, locals := 0 } : Room)
set_option maxHeartbeats 4000000 in
set_option maxRecDepth 100000 in
theorem kX4_isNeeded (l : Launch) (G : Gx) (hG : gOk G) (hF : Full G) (σ : St) (a : Nat) : CtI l yX4_isNeeded wsX4_isNeeded rmX4_isNeeded G σ [.ref (gad G 1), .int (nI a)] (fun r σ' => r = bI (!decide ((σ 1 3 &&& ((1 : Int32) <<< (nI a &&& 31))) = 0)) ∧ σ' = σ) := by
  refine bgMet (cc := cX4_isNeeded) (maxL := 2) (ret := (some .boolean)) (own := RX4) (by decide) rfl rfl hG (Nat.le_of_ble_eq_true rfl) rfl ?_
  intro p e s m args below meth c ls Bd hl
  obtain ⟨hx, hb, hr, hml, hts, hown, hlocks, fx, hw⟩ := Bd
  have hl : lv_has ls 2 [(0, .ref (gad G 1)), (1, .int (nI a))] := hl
  have hin : ∀ w ∈ wsX40, w ∈ wsX4_isNeeded := by decide +kernel
  refine lv_aload_n hx hb dX4_isNeeded_0 rfl (lv_at hl 0 rfl) ?_
  refine rGet (v := .int (σ 1 3)) (C := RX4) (T := TX4) (N := 4) hx hb fx hown hts hin hw 1 (hF.1 1 (by decide)) rfl rfl 3 (by decide) (hts (.fieldLink RX4 22 "Leaguewheel$Track" "neededGates" "I") (by decide +kernel)) (fun _ h9 => h9) rfl dX4_isNeeded_1 ?_
  refine lv_iconst (v := 1) hx hb dX4_isNeeded_4 (by decide) ?_
  refine lv_iload_n hx hb dX4_isNeeded_5 rfl (lv_at hl 1 rfl) ?_
  refine lv_ishl hx hb dX4_isNeeded_6 ?_
  refine lv_iand hx hb dX4_isNeeded_7 ?_
  refine lv_if_eq (tgt := 15) hx hb dX4_isNeeded_8 (by decide) (fun c_1 => ?_) (fun c_1 => ?_)
  · skip
    refine lv_iconst (v := 0) hx hb dX4_isNeeded_15 (by decide) ?_
    exact rRetZ hx hb hr hw (by decide) (by exact ⟨by first | rfl | simp [bI, bI, c_1] | simp [bI, upA_n, upA_s, upA_upA, upA_self, upd_self, upd_upd, pk_us, bI, c_1], by first | rfl | simp [bI, upA_n, upA_s, upA_upA, upA_self, upd_self, upd_upd, pk_us, bI, c_1]⟩) hlocks dX4_isNeeded_16
  · skip
    refine lv_iconst (v := 1) hx hb dX4_isNeeded_11 (by decide) ?_
    refine lv_goto (tgt := 16) hx hb dX4_isNeeded_12 (by decide) ?_
    exact rRetZ hx hb hr hw (by decide) (by exact ⟨by first | rfl | simp [bI, bI, c_1] | simp [bI, upA_n, upA_s, upA_upA, upA_self, upd_self, upd_upd, pk_us, bI, c_1], by first | rfl | simp [bI, upA_n, upA_s, upA_upA, upA_self, upd_self, upd_upd, pk_us, bI, c_1]⟩) hlocks dX4_isNeeded_16

def rmX4_wayLength : Room := ({ frames := 0, cells := 0, slots := 0, locals := 0 } : Room)
set_option maxHeartbeats 4000000 in
set_option maxRecDepth 100000 in
theorem kX4_wayLength (l : Launch) (G : Gx) (hG : gOk G) (hF : Full G) (σ : St) (f t : Nat) (hf : f < 12) (ht : t < 12) : CtI l yX4_wayLength wsX4_wayLength rmX4_wayLength G σ [.ref (gad G 1), .int (nI f), .int (nI t)] (fun r σ' => r = σ 2 (f * 12 + t) ∧ σ' = σ) := by
  refine bgMet (cc := cX4_wayLength) (maxL := 3) (ret := (some .int)) (own := RX4) (by decide) rfl rfl hG (Nat.le_of_ble_eq_true rfl) rfl ?_
  intro p e s m args below meth c ls Bd hl
  obtain ⟨hx, hb, hr, hml, hts, hown, hlocks, fx, hw⟩ := Bd
  have hl : lv_has ls 3 [(0, .ref (gad G 1)), (1, .int (nI f)), (2, .int (nI t))] := hl
  have hin : ∀ w ∈ wsX40, w ∈ wsX4_wayLength := by decide +kernel
  refine lv_aload_n hx hb dX4_wayLength_0 rfl (lv_at hl 0 rfl) ?_
  refine rGet (v := .ref (gad G 2)) (C := RX4) (T := TX4) (N := 4) hx hb fx hown hts hin hw 1 (hF.1 1 (by decide)) rfl rfl 0 (by decide) (hts (.fieldLink RX4 9 "Leaguewheel$Track" "lengths" "[I") (by decide +kernel)) (fun _ h9 => h9) rfl dX4_wayLength_1 ?_
  refine lv_iload_n hx hb dX4_wayLength_4 rfl (lv_at hl 1 rfl) ?_
  refine lv_bipush (v := 12) hx hb dX4_wayLength_5 (by decide) ?_
  refine lv_rep0 (x := 12) (y := nI 12) rfl ?_
  refine lv_imul hx hb dX4_wayLength_7 ?_
  refine lv_rep0 (x := ((nI f) * (nI 12))) (y := nI (f * 12)) (pk_mul _ _) ?_
  refine lv_iload_n hx hb dX4_wayLength_8 rfl (lv_at hl 2 rfl) ?_
  refine lv_iadd hx hb dX4_wayLength_9 ?_
  refine lv_rep0 (x := ((nI (f * 12)) + (nI t))) (y := nI ((f * 12) + t)) (nI_add _ _) ?_
  refine rAld hx hb fx hw 2 (hF.1 2 (by decide)) hF.2.1 (fun _ => rfl) ((f * 12) + t) rfl (by omega) (by decide) dX4_wayLength_10 ?_
  exact rRetI hx hb hr hw (by exact ⟨by first | rfl | simp [bI, bI] | simp [bI, upA_n, upA_s, upA_upA, upA_self, upd_self, upd_upd, pk_us, bI], by first | rfl | simp [bI, upA_n, upA_s, upA_upA, upA_self, upd_self, upd_upd, pk_us, bI]⟩) hlocks dX4_wayLength_11

def rmX4_leads : Room := ({ frames := 1, cells := 0, slots := 0, locals := 22 } : Room)
set_option maxHeartbeats 4000000 in
set_option maxRecDepth 100000 in
theorem kX4_leads (l : Launch) (G : Gx) (hG : gOk G) (hF : Full G) (σ : St) (f t : Nat) (hf : f < 12) (ht : t < 12) : CtI l yX4_leads wsX4_leads rmX4_leads G σ [.ref (gad G 1), .int (nI f), .int (nI t)] (fun r σ' => r = bI (ldB (σ 2) f t) ∧ σ' = σ) := by
  refine bgMet (cc := cX4_leads) (maxL := 3) (ret := (some .boolean)) (own := RX4) (by decide) rfl rfl hG (Nat.le_of_ble_eq_true rfl) rfl ?_
  intro p e s m args below meth c ls Bd hl
  obtain ⟨hx, hb, hr, hml, hts, hown, hlocks, fx, hw⟩ := Bd
  have hl : lv_has ls 3 [(0, .ref (gad G 1)), (1, .int (nI f)), (2, .int (nI t))] := hl
  refine lv_aload_n hx hb dX4_leads_0 rfl (lv_at hl 0 rfl) ?_
  refine lv_iload_n hx hb dX4_leads_1 rfl (lv_at hl 1 rfl) ?_
  refine lv_iload_n hx hb dX4_leads_2 rfl (lv_at hl 2 rfl) ?_
  refine rCallI (C := RX4) (As := [.int (nI f), .int (nI t)]) (rest := []) ⟨hx, hb, hml, hown, hts⟩ fx hw (kX4_wayLength l G hG hF σ f t (by omega) (by omega)) (cwV 2 hts gX4_leads_X4_wayLength rfl rfl rfl (by decide +kernel) ⟨Nat.le_of_ble_eq_true rfl, Nat.le_of_ble_eq_true rfl⟩) (hF.1 1 (by decide)) rfl rfl rfl rfl hl.1 rfl (Nat.le_of_ble_eq_true rfl) dX4_leads_3 ⟨Nat.zero_le _, Nat.zero_le _⟩ ?_
  intro r_2 σ_3 H locs p_1 hw
  obtain ⟨er_2, eσ_3⟩ := p_1
  have er_2 := er_2.symm; subst er_2
  have eσ_3 := eσ_3.symm; subst eσ_3
  refine lv_if_le (tgt := 13) hx hb dX4_leads_6 (by decide) (fun c_4 => ?_) (fun c_4 => ?_)
  · skip
    refine lv_iconst (v := 0) hx hb dX4_leads_13 (by decide) ?_
    exact rRetZ hx hb hr hw (by decide) (by exact ⟨by first | rfl | simp [ldB, bI, c_4] | simp [ldB, upA_n, upA_s, upA_upA, upA_self, upd_self, upd_upd, pk_us, bI, c_4], by first | rfl | simp [ldB, upA_n, upA_s, upA_upA, upA_self, upd_self, upd_upd, pk_us, bI, c_4]⟩) hlocks dX4_leads_14
  · skip
    refine lv_iconst (v := 1) hx hb dX4_leads_9 (by decide) ?_
    refine lv_goto (tgt := 14) hx hb dX4_leads_10 (by decide) ?_
    exact rRetZ hx hb hr hw (by decide) (by exact ⟨by first | rfl | simp [ldB, bI, c_4] | simp [ldB, upA_n, upA_s, upA_upA, upA_self, upd_self, upd_upd, pk_us, bI, c_4], by first | rfl | simp [ldB, upA_n, upA_s, upA_upA, upA_self, upd_self, upd_upd, pk_us, bI, c_4]⟩) hlocks dX4_leads_14

def rmX4_joins : Room := ({ frames := 2, cells := 0, slots := 0, locals := 44 } : Room)
set_option maxHeartbeats 4000000 in
set_option maxRecDepth 100000 in
theorem kX4_joins (l : Launch) (G : Gx) (hG : gOk G) (hF : Full G) (σ : St) (f t : Nat) (hf : f < 12) (ht : t < 12) : CtI l yX4_joins wsX4_joins rmX4_joins G σ [.ref (gad G 1), .int (nI f), .int (nI t)] (fun r σ' => r = bI (ldB (σ 2) f t || ldB (σ 2) t f) ∧ σ' = σ) := by
  refine bgMet (cc := cX4_joins) (maxL := 3) (ret := (some .boolean)) (own := RX4) (by decide) rfl rfl hG (Nat.le_of_ble_eq_true rfl) rfl ?_
  intro p e s m args below meth c ls Bd hl
  obtain ⟨hx, hb, hr, hml, hts, hown, hlocks, fx, hw⟩ := Bd
  have hl : lv_has ls 3 [(0, .ref (gad G 1)), (1, .int (nI f)), (2, .int (nI t))] := hl
  refine lv_aload_n hx hb dX4_joins_0 rfl (lv_at hl 0 rfl) ?_
  refine lv_iload_n hx hb dX4_joins_1 rfl (lv_at hl 1 rfl) ?_
  refine lv_iload_n hx hb dX4_joins_2 rfl (lv_at hl 2 rfl) ?_
  refine rCallI (C := RX4) (As := [.int (nI f), .int (nI t)]) (rest := []) ⟨hx, hb, hml, hown, hts⟩ fx hw (kX4_leads l G hG hF σ f t (by omega) (by omega)) (cwV 2 hts gX4_joins_X4_leads rfl rfl rfl (by decide +kernel) ⟨Nat.le_of_ble_eq_true rfl, Nat.le_of_ble_eq_true rfl⟩) (hF.1 1 (by decide)) rfl rfl rfl rfl hl.1 rfl (Nat.le_of_ble_eq_true rfl) dX4_joins_3 ⟨Nat.zero_le _, Nat.zero_le _⟩ ?_
  intro r_2 σ_3 H locs p_1 hw
  obtain ⟨er_2, eσ_3⟩ := p_1
  have er_2 := er_2.symm; subst er_2
  have eσ_3 := eσ_3.symm; subst eσ_3
  refine lv_b_ne (tgt := 18) hx hb dX4_joins_6 (by decide) (fun c_4 => ?_) (fun c_4 => ?_)
  · skip
    refine lv_iconst (v := 1) hx hb dX4_joins_18 (by decide) ?_
    refine lv_goto (tgt := 23) hx hb dX4_joins_19 (by decide) ?_
    exact rRetZ hx hb hr hw (by decide) (by exact ⟨by first | rfl | simp [bI, bI, c_4] | simp [bI, upA_n, upA_s, upA_upA, upA_self, upd_self, upd_upd, pk_us, bI, c_4], by first | rfl | simp [bI, upA_n, upA_s, upA_upA, upA_self, upd_self, upd_upd, pk_us, bI, c_4]⟩) hlocks dX4_joins_23
  · skip
    refine lv_aload_n hx hb dX4_joins_9 rfl (lv_at hl 0 rfl) ?_
    refine lv_iload_n hx hb dX4_joins_10 rfl (lv_at hl 2 rfl) ?_
    refine lv_iload_n hx hb dX4_joins_11 rfl (lv_at hl 1 rfl) ?_
    refine rCallI (C := RX4) (As := [.int (nI t), .int (nI f)]) (rest := []) ⟨hx, hb, hml, hown, hts⟩ fx hw (kX4_leads l G hG hF σ t f (by omega) (by omega)) (cwV 2 hts gX4_joins_X4_leads rfl rfl rfl (by decide +kernel) ⟨Nat.le_of_ble_eq_true rfl, Nat.le_of_ble_eq_true rfl⟩) (hF.1 1 (by decide)) rfl rfl rfl rfl hl.1 rfl (Nat.le_of_ble_eq_true rfl) dX4_joins_12 ⟨Nat.zero_le _, Nat.zero_le _⟩ ?_
    intro r_6 σ_7 H locs p_5 hw
    obtain ⟨er_6, eσ_7⟩ := p_5
    have er_6 := er_6.symm; subst er_6
    have eσ_7 := eσ_7.symm; subst eσ_7
    refine lv_b_eq (tgt := 22) hx hb dX4_joins_15 (by decide) (fun c_8 => ?_) (fun c_8 => ?_)
    · skip
      refine lv_iconst (v := 0) hx hb dX4_joins_22 (by decide) ?_
      exact rRetZ hx hb hr hw (by decide) (by exact ⟨by first | rfl | simp [bI, bI, c_4, c_8] | simp [bI, upA_n, upA_s, upA_upA, upA_self, upd_self, upd_upd, pk_us, bI, c_4, c_8], by first | rfl | simp [bI, upA_n, upA_s, upA_upA, upA_self, upd_self, upd_upd, pk_us, bI, c_4, c_8]⟩) hlocks dX4_joins_23
    · skip
      refine lv_iconst (v := 1) hx hb dX4_joins_18 (by decide) ?_
      refine lv_goto (tgt := 23) hx hb dX4_joins_19 (by decide) ?_
      exact rRetZ hx hb hr hw (by decide) (by exact ⟨by first | rfl | simp [bI, bI, c_4, c_8] | simp [bI, upA_n, upA_s, upA_upA, upA_self, upd_self, upd_upd, pk_us, bI, c_4, c_8], by first | rfl | simp [bI, upA_n, upA_s, upA_upA, upA_self, upd_self, upd_upd, pk_us, bI, c_4, c_8]⟩) hlocks dX4_joins_23

def rmX4_restOf : Room := ({ frames := 0, cells := 0, slots := 0, locals := 0 } : Room)
set_option maxHeartbeats 4000000 in
set_option maxRecDepth 100000 in
theorem kX4_restOf (l : Launch) (G : Gx) (hG : gOk G) (hF : Full G) (σ : St) (a : Nat) (ha : a < 12) : CtI l yX4_restOf wsX4_restOf rmX4_restOf G σ [.ref (gad G 1), .int (nI a)] (fun r σ' => r = σ 3 a ∧ σ' = σ) := by
  refine bgMet (cc := cX4_restOf) (maxL := 2) (ret := (some .int)) (own := RX4) (by decide) rfl rfl hG (Nat.le_of_ble_eq_true rfl) rfl ?_
  intro p e s m args below meth c ls Bd hl
  obtain ⟨hx, hb, hr, hml, hts, hown, hlocks, fx, hw⟩ := Bd
  have hl : lv_has ls 2 [(0, .ref (gad G 1)), (1, .int (nI a))] := hl
  have hin : ∀ w ∈ wsX40, w ∈ wsX4_restOf := by decide +kernel
  refine lv_aload_n hx hb dX4_restOf_0 rfl (lv_at hl 0 rfl) ?_
  refine rGet (v := .ref (gad G 3)) (C := RX4) (T := TX4) (N := 4) hx hb fx hown hts hin hw 1 (hF.1 1 (by decide)) rfl rfl 1 (by decide) (hts (.fieldLink RX4 15 "Leaguewheel$Track" "rests" "[I") (by decide +kernel)) (fun _ h9 => h9) rfl dX4_restOf_1 ?_
  refine lv_iload_n hx hb dX4_restOf_4 rfl (lv_at hl 1 rfl) ?_
  refine rAld hx hb fx hw 3 (hF.1 3 (by decide)) hF.2.1 (fun _ => rfl) a rfl (by omega) (by decide) dX4_restOf_5 ?_
  exact rRetI hx hb hr hw (by exact ⟨by first | rfl | simp [bI, bI] | simp [bI, upA_n, upA_s, upA_upA, upA_self, upd_self, upd_upd, pk_us, bI], by first | rfl | simp [bI, upA_n, upA_s, upA_upA, upA_self, upd_self, upd_upd, pk_us, bI]⟩) hlocks dX4_restOf_6

def rmX4_appendGate : Room := ({ frames := 0, cells := 0, slots := 0, locals := 0 } : Room)
set_option maxHeartbeats 4000000 in
set_option maxRecDepth 100000 in
theorem kX4_appendGate (l : Launch) (G : Gx) (hG : gOk G) (hF : Full G) (σ : St) (b : Bool) (g : Nat) (hg : σ 1 2 = nI g) (hg2 : g < 12) : CtI l yX4_appendGate wsX4_appendGate rmX4_appendGate G σ [.ref (gad G 1), .int (bI b)] (fun r σ' => r = nI g ∧ σ' = stGate σ b g) := by
  refine bgMet (cc := cX4_appendGate) (maxL := 3) (ret := (some .int)) (own := RX4) (by decide) rfl rfl hG (Nat.le_of_ble_eq_true rfl) rfl ?_
  intro p e s m args below meth c ls Bd hl
  obtain ⟨hx, hb, hr, hml, hts, hown, hlocks, fx, hw⟩ := Bd
  have hl : lv_has ls 3 [(0, .ref (gad G 1)), (1, .int (bI b))] := hl
  have hin : ∀ w ∈ wsX40, w ∈ wsX4_appendGate := by decide +kernel
  refine lv_aload_n hx hb dX4_appendGate_0 rfl (lv_at hl 0 rfl) ?_
  refine rGet (v := .int (σ 1 2)) (C := RX4) (T := TX4) (N := 4) hx hb fx hown hts hin hw 1 (hF.1 1 (by decide)) rfl rfl 2 (by decide) (hts (.fieldLink RX4 18 "Leaguewheel$Track" "count" "I") (by decide +kernel)) (fun _ h9 => h9) rfl dX4_appendGate_1 ?_
  refine lv_rep0 (x := (σ 1 2)) (y := nI g) (by exact hg) ?_
  refine lv_istore_n (lv' := [(2, .int (nI g)), (0, .ref (gad G 1)), (1, .int (bI b))]) hx hb dX4_appendGate_4 rfl hl (by decide) rfl (fun ls hl => ?_)
  refine lv_aload_n hx hb dX4_appendGate_5 rfl (lv_at hl 1 rfl) ?_
  refine rGet (v := .ref (gad G 3)) (C := RX4) (T := TX4) (N := 4) hx hb fx hown hts hin hw 1 (hF.1 1 (by decide)) rfl rfl 1 (by decide) (hts (.fieldLink RX4 15 "Leaguewheel$Track" "rests" "[I") (by decide +kernel)) (fun _ h9 => h9) rfl dX4_appendGate_6 ?_
  refine lv_iload_n hx hb dX4_appendGate_9 rfl (lv_at hl 0 rfl) ?_
  refine lv_iconst (v := (-1)) hx hb dX4_appendGate_10 (by decide) ?_
  refine rAst (x := (-1)) hx hb fx hw 3 (hF.1 3 (by decide)) hF.2.1 (fun _ => rfl) g rfl (by omega) (by decide) dX4_appendGate_11 (fun H locs hw => ?_)
  obtain ⟨σ_1, eσ_1⟩ : ∃ w9, w9 = upA σ 3 (upd (σ 3) g (-1)) := ⟨_, rfl⟩
  rw [← eσ_1] at hw
  refine lv_iload_n hx hb dX4_appendGate_12 rfl (lv_at hl 2 rfl) ?_
  refine lv_b_eq (tgt := 28) hx hb dX4_appendGate_13 (by decide) (fun c_2 => ?_) (fun c_2 => ?_)
  · skip
    refine lv_aload_n hx hb dX4_appendGate_28 rfl (lv_at hl 1 rfl) ?_
    refine lv_dup hx hb dX4_appendGate_29 rfl ?_
    refine rGet (v := .int (σ_1 1 2)) (C := RX4) (T := TX4) (N := 4) hx hb fx hown hts hin hw 1 (hF.1 1 (by decide)) rfl rfl 2 (by decide) (hts (.fieldLink RX4 18 "Leaguewheel$Track" "count" "I") (by decide +kernel)) (fun _ h9 => h9) rfl dX4_appendGate_30 ?_
    refine lv_rep0 (x := (σ_1 1 2)) (y := nI g) (by subst_vars; simp [upA, upd, hg]) ?_
    refine lv_iconst (v := 1) hx hb dX4_appendGate_33 (by decide) ?_
    refine lv_rep0 (x := 1) (y := nI 1) rfl ?_
    refine lv_iadd hx hb dX4_appendGate_34 ?_
    refine lv_rep0 (x := ((nI g) + (nI 1))) (y := nI (g + 1)) (nI_add _ _) ?_
    refine rPut (v := (nI (g + 1))) (ty := .int) (C := RX4) (T := TX4) (N := 4) hx hb fx hown hts hin tyX4 tyX4_ok nmX4 hw 1 (hF.1 1 (by decide)) rfl rfl 2 (by decide) (hts (.fieldLink RX4 18 "Leaguewheel$Track" "count" "I") (by decide +kernel)) (fun _ h9 => h9) rfl (by decide +kernel) rfl rfl (Nat.le_of_ble_eq_true rfl) rfl dX4_appendGate_35 (fun H locs hw => ?_)
    obtain ⟨σ_3, eσ_3⟩ : ∃ w9, w9 = upA σ_1 1 (upd (σ_1 1) 2 (nI (g + 1))) := ⟨_, rfl⟩
    rw [← eσ_3] at hw
    refine lv_iload_n hx hb dX4_appendGate_38 rfl (lv_at hl 0 rfl) ?_
    subst eσ_3
    subst eσ_1
    exact rRetI hx hb hr hw (by exact ⟨by first | rfl | simp [stGate, bI, c_2] | simp [stGate, upA_n, upA_s, upA_upA, upA_self, upd_self, upd_upd, pk_us, bI, c_2], by first | rfl | simp [stGate, upA_n, upA_s, upA_upA, upA_self, upd_self, upd_upd, pk_us, bI, c_2]⟩) hlocks dX4_appendGate_39
  · skip
    refine lv_aload_n hx hb dX4_appendGate_16 rfl (lv_at hl 1 rfl) ?_
    refine lv_dup hx hb dX4_appendGate_17 rfl ?_
    refine rGet (v := .int (σ_1 1 3)) (C := RX4) (T := TX4) (N := 4) hx hb fx hown hts hin hw 1 (hF.1 1 (by decide)) rfl rfl 3 (by decide) (hts (.fieldLink RX4 22 "Leaguewheel$Track" "neededGates" "I") (by decide +kernel)) (fun _ h9 => h9) rfl dX4_appendGate_18 ?_
    refine lv_iconst (v := 1) hx hb dX4_appendGate_21 (by decide) ?_
    refine lv_iload_n hx hb dX4_appendGate_22 rfl (lv_at hl 0 rfl) ?_
    refine lv_ishl hx hb dX4_appendGate_23 ?_
    refine lv_ior hx hb dX4_appendGate_24 ?_
    refine rPut (v := ((σ_1 1 3) ||| (1 <<< ((nI g) &&& 31)))) (ty := .int) (C := RX4) (T := TX4) (N := 4) hx hb fx hown hts hin tyX4 tyX4_ok nmX4 hw 1 (hF.1 1 (by decide)) rfl rfl 3 (by decide) (hts (.fieldLink RX4 22 "Leaguewheel$Track" "neededGates" "I") (by decide +kernel)) (fun _ h9 => h9) rfl (by decide +kernel) rfl rfl (Nat.le_of_ble_eq_true rfl) rfl dX4_appendGate_25 (fun H locs hw => ?_)
    obtain ⟨σ_4, eσ_4⟩ : ∃ w9, w9 = upA σ_1 1 (upd (σ_1 1) 3 ((σ_1 1 3) ||| (1 <<< ((nI g) &&& 31)))) := ⟨_, rfl⟩
    rw [← eσ_4] at hw
    refine lv_aload_n hx hb dX4_appendGate_28 rfl (lv_at hl 1 rfl) ?_
    refine lv_dup hx hb dX4_appendGate_29 rfl ?_
    refine rGet (v := .int (σ_4 1 2)) (C := RX4) (T := TX4) (N := 4) hx hb fx hown hts hin hw 1 (hF.1 1 (by decide)) rfl rfl 2 (by decide) (hts (.fieldLink RX4 18 "Leaguewheel$Track" "count" "I") (by decide +kernel)) (fun _ h9 => h9) rfl dX4_appendGate_30 ?_
    refine lv_rep0 (x := (σ_4 1 2)) (y := nI g) (by subst_vars; simp [upA, upd, hg]) ?_
    refine lv_iconst (v := 1) hx hb dX4_appendGate_33 (by decide) ?_
    refine lv_rep0 (x := 1) (y := nI 1) rfl ?_
    refine lv_iadd hx hb dX4_appendGate_34 ?_
    refine lv_rep0 (x := ((nI g) + (nI 1))) (y := nI (g + 1)) (nI_add _ _) ?_
    refine rPut (v := (nI (g + 1))) (ty := .int) (C := RX4) (T := TX4) (N := 4) hx hb fx hown hts hin tyX4 tyX4_ok nmX4 hw 1 (hF.1 1 (by decide)) rfl rfl 2 (by decide) (hts (.fieldLink RX4 18 "Leaguewheel$Track" "count" "I") (by decide +kernel)) (fun _ h9 => h9) rfl (by decide +kernel) rfl rfl (Nat.le_of_ble_eq_true rfl) rfl dX4_appendGate_35 (fun H locs hw => ?_)
    obtain ⟨σ_5, eσ_5⟩ : ∃ w9, w9 = upA σ_4 1 (upd (σ_4 1) 2 (nI (g + 1))) := ⟨_, rfl⟩
    rw [← eσ_5] at hw
    refine lv_iload_n hx hb dX4_appendGate_38 rfl (lv_at hl 0 rfl) ?_
    subst eσ_5
    subst eσ_4
    subst eσ_1
    exact rRetI hx hb hr hw (by exact ⟨by first | rfl | simp [stGate, bI, c_2] | simp [stGate, upA_n, upA_s, upA_upA, upA_self, upd_self, upd_upd, pk_us, bI, c_2], by first | rfl | simp [stGate, upA_n, upA_s, upA_upA, upA_self, upd_self, upd_upd, pk_us, bI, c_2]⟩) hlocks dX4_appendGate_39

def rmX4_leadsOn : Room := ({ frames := 2, cells := 0, slots := 0, locals := 44 } : Room)
set_option maxHeartbeats 4000000 in
set_option maxRecDepth 100000 in
theorem kX4_leadsOn (l : Launch) (G : Gx) (hG : gOk G) (hF : Full G) (σ : St) (a : Nat) (g : Nat) (hg : σ 1 2 = nI g) (hg2 : g ≤ 12) (ha : a < 12) : CtI l yX4_leadsOn wsX4_leadsOn rmX4_leadsOn G σ [.ref (gad G 1), .int (nI a)] (fun r σ' => r = bI (ldOn (σ 2) g a) ∧ σ' = σ) := by
  refine bgMet (cc := cX4_leadsOn) (maxL := 3) (ret := (some .boolean)) (own := RX4) (by decide) rfl rfl hG (Nat.le_of_ble_eq_true rfl) rfl ?_
  intro p e s m args below meth c ls Bd hl
  obtain ⟨hx, hb, hr, hml, hts, hown, hlocks, fx, hw⟩ := Bd
  have hl : lv_has ls 3 [(0, .ref (gad G 1)), (1, .int (nI a))] := hl
  have hin : ∀ w ∈ wsX40, w ∈ wsX4_leadsOn := by decide +kernel
  refine lv_iconst (v := 0) hx hb dX4_leadsOn_0 (by decide) ?_
  refine lv_istore_n (lv' := [(2, .int 0), (0, .ref (gad G 1)), (1, .int (nI a))]) hx hb dX4_leadsOn_1 rfl hl (by decide) rfl (fun ls hl => ?_)
  have lab_2 : ∀ (n9 : Nat), ∀ (i : Nat), g - i < n9 → i ≤ g → (∀ t, t < i → ldB (σ 2) a t = false) → ∀ (H : Heap) (locs : List Loc) (ls : Array Slot), Wd G s σ H locs → lv_has ls 3 [(0, .ref (gad G 1)), (1, .int (nI a)), (2, .int (nI i))] → W p l e rmX4_leadsOn s m args below meth c H locs 0 0 (MQ below (va_Qi (fun r σ' => r = bI (ldOn (σ 2) g a) ∧ σ' = σ) (BW G) (gA G)) args s 0 0 (gA G)) (F0 m 2 ls []) := by
    intro n9
    induction n9 with
    | zero => intro i hn9; exact absurd hn9 (Nat.not_lt_zero _)
    | succ n9 ih2 =>
      intro i hn9 h2_0 h2_1 H locs ls hw hl
      refine lv_iload_n hx hb dX4_leadsOn_2 rfl (lv_at hl 2 rfl) ?_
      refine lv_aload_n hx hb dX4_leadsOn_3 rfl (lv_at hl 0 rfl) ?_
      refine rGet (v := .int (σ 1 2)) (C := RX4) (T := TX4) (N := 4) hx hb fx hown hts hin hw 1 (hF.1 1 (by decide)) rfl rfl 2 (by decide) (hts (.fieldLink RX4 18 "Leaguewheel$Track" "count" "I") (by decide +kernel)) (fun _ h9 => h9) rfl dX4_leadsOn_4 ?_
      refine lv_rep0 (x := (σ 1 2)) (y := nI g) (by exact hg) ?_
      refine lv_icmp_ge (tgt := 27) hx hb dX4_leadsOn_7 (by decide) (fun c_1 => ?_) (fun c_1 => ?_)
      · skip
        have c_1 : g ≤ i := (nI_leI (by omega) (by omega)).mp c_1
        refine lv_iconst (v := 0) hx hb dX4_leadsOn_27 (by decide) ?_
        exact rRetZ hx hb hr hw (by decide) (by exact ⟨by rw [ldOn_f (fun t ht => h2_1 t (by omega))]; rfl, rfl⟩) hlocks dX4_leadsOn_28
      · skip
        have c_1 : ¬ g ≤ i := fun h9 => c_1 ((nI_leI (by omega) (by omega)).mpr h9)
        refine lv_aload_n hx hb dX4_leadsOn_10 rfl (lv_at hl 0 rfl) ?_
        refine lv_iload_n hx hb dX4_leadsOn_11 rfl (lv_at hl 1 rfl) ?_
        refine lv_iload_n hx hb dX4_leadsOn_12 rfl (lv_at hl 2 rfl) ?_
        refine rCallI (C := RX4) (As := [.int (nI a), .int (nI i)]) (rest := []) ⟨hx, hb, hml, hown, hts⟩ fx hw (kX4_leads l G hG hF σ a i (by omega) (by omega)) (cwV 2 hts gX4_leadsOn_X4_leads rfl rfl rfl (by decide +kernel) ⟨Nat.le_of_ble_eq_true rfl, Nat.le_of_ble_eq_true rfl⟩) (hF.1 1 (by decide)) rfl rfl rfl rfl hl.1 rfl (Nat.le_of_ble_eq_true rfl) dX4_leadsOn_13 ⟨Nat.zero_le _, Nat.zero_le _⟩ ?_
        intro r_3 σ_4 H locs p_2 hw
        obtain ⟨er_3, eσ_4⟩ := p_2
        have er_3 := er_3.symm; subst er_3
        have eσ_4 := eσ_4.symm; subst eσ_4
        refine lv_b_eq (tgt := 21) hx hb dX4_leadsOn_16 (by decide) (fun c_5 => ?_) (fun c_5 => ?_)
        · skip
          refine lv_iinc (v := (nI (i + 1))) (lv' := [(2, .int (nI (i + 1))), (0, .ref (gad G 1)), (1, .int (nI a))]) hx hb dX4_leadsOn_21 hl (k := 2) rfl (nI_1 _) (by decide) rfl (fun ls hl => ?_)
          refine lv_goto (tgt := 2) hx hb dX4_leadsOn_24 (by decide) ?_
          exact ih2 (i + 1) (by omega) (by omega) (lt_s h2_1 c_5) _ _ _ hw (lv_c (lv_at hl 1 rfl) (lv_c (lv_at hl 2 rfl) (lv_c (lv_at hl 0 rfl) (lv_c0 hl))))
        · skip
          refine lv_iconst (v := 1) hx hb dX4_leadsOn_19 (by decide) ?_
          exact rRetZ hx hb hr hw (by decide) (by exact ⟨by rw [ldOn_t (t := i) (by omega) c_5]; rfl, rfl⟩) hlocks dX4_leadsOn_20
  have q_6 : 0 = (nI 0) := by first | rfl | (simp)
  exact lab_2 (g - 0 + 1) 0 (by omega) (by omega) (fun t ht => by omega) _ _ _ hw (lv_c (lv_at hl 1 rfl) (lv_c (lv_at hl 2 rfl) (lv_c (lv_atq hl 0 rfl q_6) (lv_c0 hl))))

def rmX4_hasDeadEnd : Room := ({ frames := 3, cells := 0, slots := 0, locals := 66 } : Room)
set_option maxHeartbeats 4000000 in
set_option maxRecDepth 100000 in
theorem kX4_hasDeadEnd (l : Launch) (G : Gx) (hG : gOk G) (hF : Full G) (σ : St) (g : Nat) (hg : σ 1 2 = nI g) (hg2 : g ≤ 12) : CtI l yX4_hasDeadEnd wsX4_hasDeadEnd rmX4_hasDeadEnd G σ [.ref (gad G 1)] (fun r σ' => r = bI (deadB (σ 2) g) ∧ σ' = σ) := by
  refine bgMet (cc := cX4_hasDeadEnd) (maxL := 2) (ret := (some .boolean)) (own := RX4) (by decide) rfl rfl hG (Nat.le_of_ble_eq_true rfl) rfl ?_
  intro p e s m args below meth c ls Bd hl
  obtain ⟨hx, hb, hr, hml, hts, hown, hlocks, fx, hw⟩ := Bd
  have hl : lv_has ls 2 [(0, .ref (gad G 1))] := hl
  have hin : ∀ w ∈ wsX40, w ∈ wsX4_hasDeadEnd := by decide +kernel
  refine lv_iconst (v := 0) hx hb dX4_hasDeadEnd_0 (by decide) ?_
  refine lv_istore_n (lv' := [(1, .int 0), (0, .ref (gad G 1))]) hx hb dX4_hasDeadEnd_1 rfl hl (by decide) rfl (fun ls hl => ?_)
  have lab_2 : ∀ (n9 : Nat), ∀ (i : Nat), g - i < n9 → i ≤ g → (∀ t, t < i → ldOn (σ 2) g t = true) → ∀ (H : Heap) (locs : List Loc) (ls : Array Slot), Wd G s σ H locs → lv_has ls 2 [(0, .ref (gad G 1)), (1, .int (nI i))] → W p l e rmX4_hasDeadEnd s m args below meth c H locs 0 0 (MQ below (va_Qi (fun r σ' => r = bI (deadB (σ 2) g) ∧ σ' = σ) (BW G) (gA G)) args s 0 0 (gA G)) (F0 m 2 ls []) := by
    intro n9
    induction n9 with
    | zero => intro i hn9; exact absurd hn9 (Nat.not_lt_zero _)
    | succ n9 ih2 =>
      intro i hn9 h2_0 h2_1 H locs ls hw hl
      refine lv_iload_n hx hb dX4_hasDeadEnd_2 rfl (lv_at hl 1 rfl) ?_
      refine lv_aload_n hx hb dX4_hasDeadEnd_3 rfl (lv_at hl 0 rfl) ?_
      refine rGet (v := .int (σ 1 2)) (C := RX4) (T := TX4) (N := 4) hx hb fx hown hts hin hw 1 (hF.1 1 (by decide)) rfl rfl 2 (by decide) (hts (.fieldLink RX4 18 "Leaguewheel$Track" "count" "I") (by decide +kernel)) (fun _ h9 => h9) rfl dX4_hasDeadEnd_4 ?_
      refine lv_rep0 (x := (σ 1 2)) (y := nI g) (by exact hg) ?_
      refine lv_icmp_ge (tgt := 26) hx hb dX4_hasDeadEnd_7 (by decide) (fun c_1 => ?_) (fun c_1 => ?_)
      · skip
        have c_1 : g ≤ i := (nI_leI (by omega) (by omega)).mp c_1
        refine lv_iconst (v := 0) hx hb dX4_hasDeadEnd_26 (by decide) ?_
        exact rRetZ hx hb hr hw (by decide) (by exact ⟨by rw [deadB_f (fun t ht => h2_1 t (by omega))]; rfl, rfl⟩) hlocks dX4_hasDeadEnd_27
      · skip
        have c_1 : ¬ g ≤ i := fun h9 => c_1 ((nI_leI (by omega) (by omega)).mpr h9)
        refine lv_aload_n hx hb dX4_hasDeadEnd_10 rfl (lv_at hl 0 rfl) ?_
        refine lv_iload_n hx hb dX4_hasDeadEnd_11 rfl (lv_at hl 1 rfl) ?_
        refine rCallI (C := RX4) (As := [.int (nI i)]) (rest := []) ⟨hx, hb, hml, hown, hts⟩ fx hw (kX4_leadsOn l G hG hF σ i g hg (by omega) (by omega)) (cwV 1 hts gX4_hasDeadEnd_X4_leadsOn rfl rfl rfl (by decide +kernel) ⟨Nat.le_of_ble_eq_true rfl, Nat.le_of_ble_eq_true rfl⟩) (hF.1 1 (by decide)) rfl rfl rfl rfl hl.1 rfl (Nat.le_of_ble_eq_true rfl) dX4_hasDeadEnd_12 ⟨Nat.zero_le _, Nat.zero_le _⟩ ?_
        intro r_3 σ_4 H locs p_2 hw
        obtain ⟨er_3, eσ_4⟩ := p_2
        have er_3 := er_3.symm; subst er_3
        have eσ_4 := eσ_4.symm; subst eσ_4
        refine lv_b_ne (tgt := 20) hx hb dX4_hasDeadEnd_15 (by decide) (fun c_5 => ?_) (fun c_5 => ?_)
        · skip
          refine lv_iinc (v := (nI (i + 1))) (lv' := [(1, .int (nI (i + 1))), (0, .ref (gad G 1))]) hx hb dX4_hasDeadEnd_20 hl (k := 1) rfl (nI_1 _) (by decide) rfl (fun ls hl => ?_)
          refine lv_goto (tgt := 2) hx hb dX4_hasDeadEnd_23 (by decide) ?_
          exact ih2 (i + 1) (by omega) (by omega) (lt_s h2_1 c_5) _ _ _ hw (lv_c (lv_at hl 1 rfl) (lv_c (lv_at hl 0 rfl) (lv_c0 hl)))
        · skip
          refine lv_iconst (v := 1) hx hb dX4_hasDeadEnd_18 (by decide) ?_
          exact rRetZ hx hb hr hw (by decide) (by exact ⟨by rw [deadB_t (t := i) (by omega) c_5]; rfl, rfl⟩) hlocks dX4_hasDeadEnd_19
  have q_6 : 0 = (nI 0) := by first | rfl | (simp)
  exact lab_2 (g - 0 + 1) 0 (by omega) (by omega) (fun t ht => by omega) _ _ _ hw (lv_c (lv_at hl 1 rfl) (lv_c (lv_atq hl 0 rfl q_6) (lv_c0 hl)))

def rmX4_leastRest : Room := ({ frames := 2, cells := 0, slots := 0, locals := 44 } : Room)
set_option maxHeartbeats 4000000 in
set_option maxRecDepth 100000 in
theorem kX4_leastRest (l : Launch) (G : Gx) (hG : gOk G) (hF : Full G) (σ : St) (a : Nat) (g : Nat) (hg : σ 1 2 = nI g) (hg2 : g ≤ 12) (ha : a < g) : CtI l yX4_leastRest wsX4_leastRest rmX4_leastRest G σ [.ref (gad G 1), .int (nI a)] (fun r σ' => r = lrA (σ 2) (σ 3) a (g - 1 - a) ∧ σ' = σ) := by
  refine bgMet (cc := cX4_leastRest) (maxL := 5) (ret := (some .int)) (own := RX4) (by decide) rfl rfl hG (Nat.le_of_ble_eq_true rfl) rfl ?_
  intro p e s m args below meth c ls Bd hl
  obtain ⟨hx, hb, hr, hml, hts, hown, hlocks, fx, hw⟩ := Bd
  have hl : lv_has ls 5 [(0, .ref (gad G 1)), (1, .int (nI a))] := hl
  have hin : ∀ w ∈ wsX40, w ∈ wsX4_leastRest := by decide +kernel
  have lab_19 : ∀ (H : Heap) (locs : List Loc) (ls : Array Slot), Wd G s σ H locs → lv_has ls 5 [(0, .ref (gad G 1)), (1, .int (nI a))] → W p l e rmX4_leastRest s m args below meth c H locs 0 0 (MQ below (va_Qi (fun r σ' => r = lrA (σ 2) (σ 3) a (g - 1 - a) ∧ σ' = σ) (BW G) (gA G)) args s 0 0 (gA G)) (F0 m 19 ls [.int (lrA (σ 2) (σ 3) a 0)]) := by
    intro   H locs ls hw hl
    refine lv_istore_n (lv' := [(2, .int (lrA (σ 2) (σ 3) a 0)), (0, .ref (gad G 1)), (1, .int (nI a))]) hx hb dX4_leastRest_19 rfl hl (by decide) rfl (fun ls hl => ?_)
    refine lv_iload_n hx hb dX4_leastRest_20 rfl (lv_at hl 2 rfl) ?_
    refine lv_iconst (v := 1) hx hb dX4_leastRest_21 (by decide) ?_
    refine lv_rep0 (x := 1) (y := nI 1) rfl ?_
    refine lv_iadd hx hb dX4_leastRest_22 ?_
    refine lv_rep0 (x := ((nI a) + (nI 1))) (y := nI (a + 1)) (nI_add _ _) ?_
    refine lv_istore_n (lv' := [(3, .int (nI (a + 1))), (2, .int (lrA (σ 2) (σ 3) a 0)), (0, .ref (gad G 1)), (1, .int (nI a))]) hx hb dX4_leastRest_23 rfl hl (by decide) rfl (fun ls hl => ?_)
    have lab_24 : ∀ (n9 : Nat), ∀ (k : Nat), g - k < n9 → a + 1 + k ≤ g → ∀ (H : Heap) (locs : List Loc) (ls : Array Slot), Wd G s σ H locs → lv_has ls 5 [(0, .ref (gad G 1)), (1, .int (nI a)), (2, .int (lrA (σ 2) (σ 3) a k)), (3, .int (nI (a + 1 + k)))] → W p l e rmX4_leastRest s m args below meth c H locs 0 0 (MQ below (va_Qi (fun r σ' => r = lrA (σ 2) (σ 3) a (g - 1 - a) ∧ σ' = σ) (BW G) (gA G)) args s 0 0 (gA G)) (F0 m 24 ls []) := by
      intro n9
      induction n9 with
      | zero => intro k hn9; exact absurd hn9 (Nat.not_lt_zero _)
      | succ n9 ih24 =>
        intro k hn9 h24_0 H locs ls hw hl
        refine lv_iload_n hx hb dX4_leastRest_24 rfl (lv_at hl 3 rfl) ?_
        refine lv_aload_n hx hb dX4_leastRest_25 rfl (lv_at hl 0 rfl) ?_
        refine rGet (v := .int (σ 1 2)) (C := RX4) (T := TX4) (N := 4) hx hb fx hown hts hin hw 1 (hF.1 1 (by decide)) rfl rfl 2 (by decide) (hts (.fieldLink RX4 18 "Leaguewheel$Track" "count" "I") (by decide +kernel)) (fun _ h9 => h9) rfl dX4_leastRest_26 ?_
        refine lv_rep0 (x := (σ 1 2)) (y := nI g) (by exact hg) ?_
        refine lv_icmp_ge (tgt := 89) hx hb dX4_leastRest_29 (by decide) (fun c_1 => ?_) (fun c_1 => ?_)
        · skip
          have c_1 : g ≤ (a + 1 + k) := (nI_leI (by omega) (by omega)).mp c_1
          refine lv_iload_n hx hb dX4_leastRest_89 rfl (lv_at hl 2 rfl) ?_
          exact rRetI hx hb hr hw (by exact ⟨by rw [show g - 1 - a = k by omega], rfl⟩) hlocks dX4_leastRest_90
        · skip
          have c_1 : ¬ g ≤ (a + 1 + k) := fun h9 => c_1 ((nI_leI (by omega) (by omega)).mpr h9)
          have lab_82 : ∀ (H : Heap) (locs : List Loc) (ls : Array Slot), Wd G s σ H locs → lv_has ls 5 [(0, .ref (gad G 1)), (1, .int (nI a)), (3, .int (nI (a + 1 + k)))] → W p l e rmX4_leastRest s m args below meth c H locs 0 0 (MQ below (va_Qi (fun r σ' => r = lrA (σ 2) (σ 3) a (g - 1 - a) ∧ σ' = σ) (BW G) (gA G)) args s 0 0 (gA G)) (F0 m 82 ls [.int (lrA (σ 2) (σ 3) a (k + 1))]) := by
            intro   H locs ls hw hl
            refine lv_istore_n (lv' := [(2, .int (lrA (σ 2) (σ 3) a (k + 1))), (0, .ref (gad G 1)), (1, .int (nI a)), (3, .int (nI (a + 1 + k)))]) hx hb dX4_leastRest_82 rfl hl (by decide) rfl (fun ls hl => ?_)
            refine lv_iinc (v := (nI ((a + 1 + k) + 1))) (lv' := [(3, .int (nI ((a + 1 + k) + 1))), (2, .int (lrA (σ 2) (σ 3) a (k + 1))), (0, .ref (gad G 1)), (1, .int (nI a))]) hx hb dX4_leastRest_83 hl (k := 3) rfl (nI_1 _) (by decide) rfl (fun ls hl => ?_)
            refine lv_goto (tgt := 24) hx hb dX4_leastRest_86 (by decide) ?_
            have q_2 : (nI ((a + 1 + k) + 1)) = (nI (a + 1 + (k + 1))) := by first | rfl | (simp)
            exact ih24 (k + 1) (by omega) (by omega) _ _ _ hw (lv_c (lv_at hl 2 rfl) (lv_c (lv_at hl 3 rfl) (lv_c (lv_at hl 1 rfl) (lv_c (lv_atq hl 0 rfl q_2) (lv_c0 hl)))))
          have lab_83 : ∀ (H : Heap) (locs : List Loc) (ls : Array Slot), Wd G s σ H locs → lv_has ls 5 [(0, .ref (gad G 1)), (1, .int (nI a)), (2, .int (lrA (σ 2) (σ 3) a (k + 1))), (3, .int (nI (a + 1 + k)))] → W p l e rmX4_leastRest s m args below meth c H locs 0 0 (MQ below (va_Qi (fun r σ' => r = lrA (σ 2) (σ 3) a (g - 1 - a) ∧ σ' = σ) (BW G) (gA G)) args s 0 0 (gA G)) (F0 m 83 ls []) := by
            intro   H locs ls hw hl
            refine lv_iinc (v := (nI ((a + 1 + k) + 1))) (lv' := [(3, .int (nI ((a + 1 + k) + 1))), (0, .ref (gad G 1)), (1, .int (nI a)), (2, .int (lrA (σ 2) (σ 3) a (k + 1)))]) hx hb dX4_leastRest_83 hl (k := 3) rfl (nI_1 _) (by decide) rfl (fun ls hl => ?_)
            refine lv_goto (tgt := 24) hx hb dX4_leastRest_86 (by decide) ?_
            have q_3 : (nI ((a + 1 + k) + 1)) = (nI (a + 1 + (k + 1))) := by first | rfl | (simp)
            exact ih24 (k + 1) (by omega) (by omega) _ _ _ hw (lv_c (lv_at hl 1 rfl) (lv_c (lv_at hl 2 rfl) (lv_c (lv_at hl 3 rfl) (lv_c (lv_atq hl 0 rfl q_3) (lv_c0 hl)))))
          refine lv_aload_n hx hb dX4_leastRest_32 rfl (lv_at hl 0 rfl) ?_
          refine lv_iload_n hx hb dX4_leastRest_33 rfl (lv_at hl 1 rfl) ?_
          refine lv_iload_n hx hb dX4_leastRest_34 rfl (lv_at hl 3 rfl) ?_
          refine rCallI (C := RX4) (As := [.int (nI a), .int (nI (a + 1 + k))]) (rest := []) ⟨hx, hb, hml, hown, hts⟩ fx hw (kX4_leads l G hG hF σ a ((a + 1 + k)) (by omega) (by omega)) (cwV 2 hts gX4_leastRest_X4_leads rfl rfl rfl (by decide +kernel) ⟨Nat.le_of_ble_eq_true rfl, Nat.le_of_ble_eq_true rfl⟩) (hF.1 1 (by decide)) rfl rfl rfl rfl hl.1 rfl (Nat.le_of_ble_eq_true rfl) dX4_leastRest_35 ⟨Nat.zero_le _, Nat.zero_le _⟩ ?_
          intro r_5 σ_6 H locs p_4 hw
          obtain ⟨er_5, eσ_6⟩ := p_4
          have er_5 := er_5.symm; subst er_5
          have eσ_6 := eσ_6.symm; subst eσ_6
          refine lv_b_eq (tgt := 83) hx hb dX4_leastRest_38 (by decide) (fun c_7 => ?_) (fun c_7 => ?_)
          · skip
            have q_8 : (lrA (σ 2) (σ 3) a k) = (lrA (σ 2) (σ 3) a (k + 1)) := by first | rfl | (simp [lrA, c_1, c_7])
            exact lab_83   _ _ _ hw (lv_c (lv_at hl 0 rfl) (lv_c (lv_at hl 1 rfl) (lv_c (lv_atq hl 2 rfl q_8) (lv_c (lv_at hl 3 rfl) (lv_c0 hl)))))
          · skip
            refine lv_aload_n hx hb dX4_leastRest_41 rfl (lv_at hl 0 rfl) ?_
            refine rGet (v := .ref (gad G 3)) (C := RX4) (T := TX4) (N := 4) hx hb fx hown hts hin hw 1 (hF.1 1 (by decide)) rfl rfl 1 (by decide) (hts (.fieldLink RX4 15 "Leaguewheel$Track" "rests" "[I") (by decide +kernel)) (fun _ h9 => h9) rfl dX4_leastRest_42 ?_
            refine lv_iload_n hx hb dX4_leastRest_45 rfl (lv_at hl 3 rfl) ?_
            refine rAld hx hb fx hw 3 (hF.1 3 (by decide)) hF.2.1 (fun _ => rfl) (a + 1 + k) rfl (by omega) (by decide) dX4_leastRest_46 ?_
            refine lv_iconst (v := (-1)) hx hb dX4_leastRest_47 (by decide) ?_
            refine lv_icmp_eq (tgt := 83) hx hb dX4_leastRest_48 (by decide) (fun c_9 => ?_) (fun c_9 => ?_)
            · skip
              have q_10 : (lrA (σ 2) (σ 3) a k) = (lrA (σ 2) (σ 3) a (k + 1)) := by first | rfl | (simp [lrA, c_1, c_7, c_9])
              exact lab_83   _ _ _ hw (lv_c (lv_at hl 0 rfl) (lv_c (lv_at hl 1 rfl) (lv_c (lv_atq hl 2 rfl q_10) (lv_c (lv_at hl 3 rfl) (lv_c0 hl)))))
            · skip
              refine lv_aload_n hx hb dX4_leastRest_51 rfl (lv_at hl 0 rfl) ?_
              refine lv_iload_n hx hb dX4_leastRest_52 rfl (lv_at hl 1 rfl) ?_
              refine lv_iload_n hx hb dX4_leastRest_53 rfl (lv_at hl 3 rfl) ?_
              refine rCallI (C := RX4) (As := [.int (nI a), .int (nI (a + 1 + k))]) (rest := []) ⟨hx, hb, hml, hown, hts⟩ fx hw (kX4_wayLength l G hG hF σ a ((a + 1 + k)) (by omega) (by omega)) (cwV 2 hts gX4_leastRest_X4_wayLength rfl rfl rfl (by decide +kernel) ⟨Nat.le_of_ble_eq_true rfl, Nat.le_of_ble_eq_true rfl⟩) (hF.1 1 (by decide)) rfl rfl rfl rfl hl.1 rfl (Nat.le_of_ble_eq_true rfl) dX4_leastRest_54 ⟨Nat.zero_le _, Nat.zero_le _⟩ ?_
              intro r_12 σ_13 H locs p_11 hw
              obtain ⟨er_12, eσ_13⟩ := p_11
              have er_12 := er_12.symm; subst er_12
              have eσ_13 := eσ_13.symm; subst eσ_13
              refine lv_aload_n hx hb dX4_leastRest_57 rfl (lv_at hl 0 rfl) ?_
              refine rGet (v := .ref (gad G 3)) (C := RX4) (T := TX4) (N := 4) hx hb fx hown hts hin hw 1 (hF.1 1 (by decide)) rfl rfl 1 (by decide) (hts (.fieldLink RX4 15 "Leaguewheel$Track" "rests" "[I") (by decide +kernel)) (fun _ h9 => h9) rfl dX4_leastRest_58 ?_
              refine lv_iload_n hx hb dX4_leastRest_61 rfl (lv_at hl 3 rfl) ?_
              refine rAld hx hb fx hw 3 (hF.1 3 (by decide)) hF.2.1 (fun _ => rfl) (a + 1 + k) rfl (by omega) (by decide) dX4_leastRest_62 ?_
              refine lv_iadd hx hb dX4_leastRest_63 ?_
              refine lv_istore (lv' := [(4, .int ((σ 2 (a * 12 + (a + 1 + k))) + (σ 3 (a + 1 + k)))), (0, .ref (gad G 1)), (1, .int (nI a)), (2, .int (lrA (σ 2) (σ 3) a k)), (3, .int (nI (a + 1 + k)))]) hx hb dX4_leastRest_64 hl (by decide) rfl (fun ls hl => ?_)
              refine lv_iload_n hx hb dX4_leastRest_66 rfl (lv_at hl 3 rfl) ?_
              refine lv_iconst (v := (-1)) hx hb dX4_leastRest_67 (by decide) ?_
              refine lv_icmp_ne (tgt := 76) hx hb dX4_leastRest_68 (by decide) (fun c_14 => ?_) (fun c_14 => ?_)
              · skip
                refine lv_iload_n hx hb dX4_leastRest_76 rfl (lv_at hl 3 rfl) ?_
                refine lv_iload hx hb dX4_leastRest_77 (lv_at hl 0 rfl) ?_
                refine va_mmin hx hb (by rw [hml]; exact hl.1.symm) hown (hts (.methodLink RX4 44 Lib.Math.min.name) (by decide +kernel)) (hts (.static Lib.Math.min.name) (by decide +kernel)) (hts (.initialized "java/lang/Math") (by decide +kernel)) (hts (.code Lib.Math.min.name Lib.Math.min.code 2 (some .int)) (by decide +kernel)) (Nat.le_of_ble_eq_true rfl) (Nat.le_of_ble_eq_true rfl) (Nat.zero_le _) (Nat.zero_le _) dX4_leastRest_79 ?_
                have q_15 : (if ((σ 2 (a * 12 + (a + 1 + k))) + (σ 3 (a + 1 + k))) < (lrA (σ 2) (σ 3) a k) then ((σ 2 (a * 12 + (a + 1 + k))) + (σ 3 (a + 1 + k))) else (lrA (σ 2) (σ 3) a k)) = (lrA (σ 2) (σ 3) a (k + 1)) := by first | rfl | (simp [lrA, c_1, c_7, c_9, c_14])
                refine lv_rep0 q_15 ?_
                exact lab_82   _ _ _ hw (lv_c (lv_at hl 1 rfl) (lv_c (lv_at hl 2 rfl) (lv_c (lv_at hl 4 rfl) (lv_c0 hl))))
              · skip
                refine lv_iload hx hb dX4_leastRest_71 (lv_at hl 0 rfl) ?_
                refine lv_goto (tgt := 82) hx hb dX4_leastRest_73 (by decide) ?_
                have q_16 : ((σ 2 (a * 12 + (a + 1 + k))) + (σ 3 (a + 1 + k))) = (lrA (σ 2) (σ 3) a (k + 1)) := by first | rfl | (simp [lrA, c_1, c_7, c_9, c_14])
                refine lv_rep0 q_16 ?_
                exact lab_82   _ _ _ hw (lv_c (lv_at hl 1 rfl) (lv_c (lv_at hl 2 rfl) (lv_c (lv_at hl 4 rfl) (lv_c0 hl))))
    have q_17 : (nI (a + 1)) = (nI (a + 1 + 0)) := by first | rfl | (simp)
    exact lab_24 (g - 0 + 1) 0 (by omega) (by omega) _ _ _ hw (lv_c (lv_at hl 2 rfl) (lv_c (lv_at hl 3 rfl) (lv_c (lv_at hl 1 rfl) (lv_c (lv_atq hl 0 rfl q_17) (lv_c0 hl)))))
  refine lv_aload_n hx hb dX4_leastRest_0 rfl (lv_at hl 0 rfl) ?_
  refine lv_iload_n hx hb dX4_leastRest_1 rfl (lv_at hl 1 rfl) ?_
  refine lv_iconst (v := 0) hx hb dX4_leastRest_2 (by decide) ?_
  refine lv_rep0 (x := 0) (y := nI 0) rfl ?_
  refine rCallI (C := RX4) (As := [.int (nI a), .int (nI 0)]) (rest := []) ⟨hx, hb, hml, hown, hts⟩ fx hw (kX4_leads l G hG hF σ a 0 (by omega) (by omega)) (cwV 2 hts gX4_leastRest_X4_leads rfl rfl rfl (by decide +kernel) ⟨Nat.le_of_ble_eq_true rfl, Nat.le_of_ble_eq_true rfl⟩) (hF.1 1 (by decide)) rfl rfl rfl rfl hl.1 rfl (Nat.le_of_ble_eq_true rfl) dX4_leastRest_3 ⟨Nat.zero_le _, Nat.zero_le _⟩ ?_
  intro r_19 σ_20 H locs p_18 hw
  obtain ⟨er_19, eσ_20⟩ := p_18
  have er_19 := er_19.symm; subst er_19
  have eσ_20 := eσ_20.symm; subst eσ_20
  refine lv_b_eq (tgt := 18) hx hb dX4_leastRest_6 (by decide) (fun c_21 => ?_) (fun c_21 => ?_)
  · skip
    refine lv_iconst (v := (-1)) hx hb dX4_leastRest_18 (by decide) ?_
    have q_22 : (-1) = (lrA (σ 2) (σ 3) a 0) := by first | rfl | (simp [lrA, c_21])
    refine lv_rep0 q_22 ?_
    exact lab_19   _ _ _ hw (lv_c (lv_at hl 0 rfl) (lv_c (lv_at hl 1 rfl) (lv_c0 hl)))
  · skip
    refine lv_aload_n hx hb dX4_leastRest_9 rfl (lv_at hl 0 rfl) ?_
    refine lv_iload_n hx hb dX4_leastRest_10 rfl (lv_at hl 1 rfl) ?_
    refine lv_iconst (v := 0) hx hb dX4_leastRest_11 (by decide) ?_
    refine lv_rep0 (x := 0) (y := nI 0) rfl ?_
    refine rCallI (C := RX4) (As := [.int (nI a), .int (nI 0)]) (rest := []) ⟨hx, hb, hml, hown, hts⟩ fx hw (kX4_wayLength l G hG hF σ a 0 (by omega) (by omega)) (cwV 2 hts gX4_leastRest_X4_wayLength rfl rfl rfl (by decide +kernel) ⟨Nat.le_of_ble_eq_true rfl, Nat.le_of_ble_eq_true rfl⟩) (hF.1 1 (by decide)) rfl rfl rfl rfl hl.1 rfl (Nat.le_of_ble_eq_true rfl) dX4_leastRest_12 ⟨Nat.zero_le _, Nat.zero_le _⟩ ?_
    intro r_24 σ_25 H locs p_23 hw
    obtain ⟨er_24, eσ_25⟩ := p_23
    have er_24 := er_24.symm; subst er_24
    have eσ_25 := eσ_25.symm; subst eσ_25
    refine lv_goto (tgt := 19) hx hb dX4_leastRest_15 (by decide) ?_
    have q_26 : (σ 2 (a * 12 + 0)) = (lrA (σ 2) (σ 3) a 0) := by first | rfl | (simp [lrA, c_21])
    refine lv_rep0 q_26 ?_
    exact lab_19   _ _ _ hw (lv_c (lv_at hl 0 rfl) (lv_c (lv_at hl 1 rfl) (lv_c0 hl)))

def rmX4_measureRests : Room := ({ frames := 3, cells := 0, slots := 0, locals := 68 } : Room)
set_option maxHeartbeats 4000000 in
set_option maxRecDepth 100000 in
theorem kX4_measureRests (l : Launch) (G : Gx) (hG : gOk G) (hF : Full G) (σ : St) (g : Nat) (hg : σ 1 2 = nI g) (hg2 : g ≤ 12) : CtV l yX4_measureRests wsX4_measureRests rmX4_measureRests G σ [.ref (gad G 1)] (fun σ' => σ' = upA σ 3 (mrA (σ 2) (σ 3) g g)) := by
  refine bgMet (cc := cX4_measureRests) (maxL := 2) (ret := none) (own := RX4) (by decide) rfl rfl hG (Nat.le_of_ble_eq_true rfl) rfl ?_
  intro p e s m args below meth c ls Bd hl
  obtain ⟨hx, hb, hr, hml, hts, hown, hlocks, fx, hw⟩ := Bd
  have hl : lv_has ls 2 [(0, .ref (gad G 1))] := hl
  have hin : ∀ w ∈ wsX40, w ∈ wsX4_measureRests := by decide +kernel
  refine lv_aload_n hx hb dX4_measureRests_0 rfl (lv_at hl 0 rfl) ?_
  refine rGet (v := .int (σ 1 2)) (C := RX4) (T := TX4) (N := 4) hx hb fx hown hts hin hw 1 (hF.1 1 (by decide)) rfl rfl 2 (by decide) (hts (.fieldLink RX4 18 "Leaguewheel$Track" "count" "I") (by decide +kernel)) (fun _ h9 => h9) rfl dX4_measureRests_1 ?_
  refine lv_rep0 (x := (σ 1 2)) (y := nI g) (by exact hg) ?_
  refine lv_iconst (v := 1) hx hb dX4_measureRests_4 (by decide) ?_
  refine lv_rep0 (x := 1) (y := nI 1) rfl ?_
  refine lv_isub hx hb dX4_measureRests_5 ?_
  refine lv_istore_n (lv' := [(1, .int ((nI g) - (nI 1))), (0, .ref (gad G 1))]) hx hb dX4_measureRests_6 rfl hl (by decide) rfl (fun ls hl => ?_)
  have lab_7 : ∀ (n9 : Nat), ∀ (k : Nat), g - k < n9 → k ≤ g → ∀ (H : Heap) (locs : List Loc) (ls : Array Slot), Wd G s (upA σ 3 (mrA (σ 2) (σ 3) g k)) H locs → lv_has ls 2 [(0, .ref (gad G 1)), (1, .int (nI (g - k) - 1))] → W p l e rmX4_measureRests s m args below meth c H locs 0 0 (MQ below (va_Qv (fun σ' => σ' = upA σ 3 (mrA (σ 2) (σ 3) g g)) (BW G) (gA G)) args s 0 0 (gA G)) (F0 m 7 ls []) := by
    intro n9
    induction n9 with
    | zero => intro k hn9; exact absurd hn9 (Nat.not_lt_zero _)
    | succ n9 ih7 =>
      intro k hn9 h7_0 H locs ls hw hl
      obtain ⟨σ_1, eσ_1⟩ : ∃ w9, w9 = upA σ 3 (mrA (σ 2) (σ 3) g k) := ⟨_, rfl⟩
      rw [← eσ_1] at hw
      refine lv_iload_n hx hb dX4_measureRests_7 rfl (lv_at hl 1 rfl) ?_
      refine lv_if_lt (tgt := 28) hx hb dX4_measureRests_8 (by decide) (fun c_2 => ?_) (fun c_2 => ?_)
      · skip
        subst eσ_1
        exact rRetV hx hb hr hw (by rw [show g = k by rcases Nat.lt_or_ge k g with q | q; exact absurd (show ¬ nI (g - k) - 1 < 0 by rw [show g - k = (g - 1 - k) + 1 by omega, nI_pred]; exact nI_pos (by omega)) (fun h => h c_2); omega]) hlocks dX4_measureRests_28
      · skip
        have hk : k < g := by rcases Nat.lt_or_ge k g with q | q; exact q; exact absurd (show nI (g - k) - 1 < 0 by rw [show g - k = 0 by omega]; decide) c_2
        have q_3 : (nI (g - k) - 1) = (nI (g - 1 - k)) := by rw [show g - k = (g - 1 - k) + 1 by omega, nI_pred]
        have hl : lv_has ls 2 [(0, .ref (gad G 1)), (1, .int (nI (g - 1 - k)))] := (lv_c (lv_at hl 0 rfl) (lv_c (lv_atq hl 1 rfl q_3) (lv_c0 hl)))
        refine lv_aload_n hx hb dX4_measureRests_11 rfl (lv_at hl 0 rfl) ?_
        refine rGet (v := .ref (gad G 3)) (C := RX4) (T := TX4) (N := 4) hx hb fx hown hts hin hw 1 (hF.1 1 (by decide)) rfl rfl 1 (by decide) (hts (.fieldLink RX4 15 "Leaguewheel$Track" "rests" "[I") (by decide +kernel)) (fun _ h9 => h9) rfl dX4_measureRests_12 ?_
        refine lv_iload_n hx hb dX4_measureRests_15 rfl (lv_at hl 1 rfl) ?_
        refine lv_aload_n hx hb dX4_measureRests_16 rfl (lv_at hl 0 rfl) ?_
        refine lv_iload_n hx hb dX4_measureRests_17 rfl (lv_at hl 1 rfl) ?_
        refine rCallI (C := RX4) (As := [.int (nI (g - 1 - k))]) (rest := [.int (nI (g - 1 - k)), .ref (gad G 3)]) ⟨hx, hb, hml, hown, hts⟩ fx hw (kX4_leastRest l G hG hF σ_1 ((g - 1 - k)) g (by subst_vars; simp [upA_n, hg]) (by omega) (by omega)) (cwV 1 hts gX4_measureRests_X4_leastRest rfl rfl rfl (by decide +kernel) ⟨Nat.le_of_ble_eq_true rfl, Nat.le_of_ble_eq_true rfl⟩) (hF.1 1 (by decide)) rfl rfl rfl rfl hl.1 rfl (Nat.le_of_ble_eq_true rfl) dX4_measureRests_18 ⟨Nat.zero_le _, Nat.zero_le _⟩ ?_
        intro r_5 σ_6 H locs p_4 hw
        obtain ⟨er_5, eσ_6⟩ := p_4
        have er_5 := er_5.symm; subst er_5
        have eσ_6 := eσ_6.symm; subst eσ_6
        refine lv_rep0 (x := (lrA (σ_1 2) (σ_1 3) (g - 1 - k) (g - 1 - (g - 1 - k)))) (y := (lrA (σ 2) (mrA (σ 2) (σ 3) g k) (g - 1 - k) k)) (by subst_vars; simp [upA_n, upA_s]; rw [show g - 1 - (g - 1 - k) = k by omega]) ?_
        refine rAst (x := (lrA (σ 2) (mrA (σ 2) (σ 3) g k) (g - 1 - k) k)) hx hb fx hw 3 (hF.1 3 (by decide)) hF.2.1 (fun _ => rfl) (g - 1 - k) rfl (by omega) (by decide) dX4_measureRests_21 (fun H locs hw => ?_)
        obtain ⟨σ_7, eσ_7⟩ : ∃ w9, w9 = upA σ_1 3 (upd (σ_1 3) (g - 1 - k) (lrA (σ 2) (mrA (σ 2) (σ 3) g k) (g - 1 - k) k)) := ⟨_, rfl⟩
        rw [← eσ_7] at hw
        refine lv_iinc (v := ((nI (g - 1 - k)) + (-1))) (lv' := [(1, .int ((nI (g - 1 - k)) + (-1))), (0, .ref (gad G 1))]) hx hb dX4_measureRests_22 hl (k := 1) rfl (rfl) (by decide) rfl (fun ls hl => ?_)
        refine lv_goto (tgt := 7) hx hb dX4_measureRests_25 (by decide) ?_
        have q_8 : ((nI (g - 1 - k)) + (-1)) = (nI (g - (k + 1)) - 1) := by rw [show g - (k + 1) = g - 1 - k by omega, Int32.sub_eq_add_neg]
        have q_9 : σ_7 = upA σ 3 (mrA (σ 2) (σ 3) g (k + 1)) := by subst eσ_7 eσ_1; simp [mrA, upA_n, upA_s, upA_upA]
        rw [q_9] at hw
        exact ih7 (k + 1) (by omega) (by omega) _ _ _ hw (lv_c (lv_at hl 1 rfl) (lv_c (lv_atq hl 0 rfl q_8) (lv_c0 hl)))
  have q_10 : ((nI g) - (nI 1)) = (nI (g - 0) - 1) := by rfl
  have q_11 : σ = upA σ 3 (mrA (σ 2) (σ 3) g 0) := by exact (upA_self σ 3).symm
  rw [q_11] at hw
  exact lab_7 (g - 0 + 1) 0 (by omega) (by omega) _ _ _ hw (lv_c (lv_at hl 1 rfl) (lv_c (lv_atq hl 0 rfl q_10) (lv_c0 hl)))

def rmX4_layWay : Room := ({ frames := 4, cells := 0, slots := 0, locals := 89 } : Room)
set_option maxHeartbeats 4000000 in
set_option maxRecDepth 100000 in
theorem kX4_layWay (l : Launch) (G : Gx) (hG : gOk G) (hF : Full G) (σ : St) (f t : Nat) (hf : f < 12) (ht : t < 12) (w : Int32) (g : Nat) (hg : σ 1 2 = nI g) (hg2 : g ≤ 12) : CtV l yX4_layWay wsX4_layWay rmX4_layWay G σ [.ref (gad G 1), .int (nI f), .int (nI t), .int w] (fun σ' => σ' = upA (upA σ 2 (upd (σ 2) (f * 12 + t) w)) 3 (mrA (upd (σ 2) (f * 12 + t) w) (σ 3) g g)) := by
  refine bgMet (cc := cX4_layWay) (maxL := 4) (ret := none) (own := RX4) (by decide) rfl rfl hG (Nat.le_of_ble_eq_true rfl) rfl ?_
  intro p e s m args below meth c ls Bd hl
  obtain ⟨hx, hb, hr, hml, hts, hown, hlocks, fx, hw⟩ := Bd
  have hl : lv_has ls 4 [(0, .ref (gad G 1)), (1, .int (nI f)), (2, .int (nI t)), (3, .int w)] := hl
  have hin : ∀ w ∈ wsX40, w ∈ wsX4_layWay := by decide +kernel
  refine lv_aload_n hx hb dX4_layWay_0 rfl (lv_at hl 0 rfl) ?_
  refine rGet (v := .ref (gad G 2)) (C := RX4) (T := TX4) (N := 4) hx hb fx hown hts hin hw 1 (hF.1 1 (by decide)) rfl rfl 0 (by decide) (hts (.fieldLink RX4 9 "Leaguewheel$Track" "lengths" "[I") (by decide +kernel)) (fun _ h9 => h9) rfl dX4_layWay_1 ?_
  refine lv_iload_n hx hb dX4_layWay_4 rfl (lv_at hl 1 rfl) ?_
  refine lv_bipush (v := 12) hx hb dX4_layWay_5 (by decide) ?_
  refine lv_rep0 (x := 12) (y := nI 12) rfl ?_
  refine lv_imul hx hb dX4_layWay_7 ?_
  refine lv_rep0 (x := ((nI f) * (nI 12))) (y := nI (f * 12)) (pk_mul _ _) ?_
  refine lv_iload_n hx hb dX4_layWay_8 rfl (lv_at hl 2 rfl) ?_
  refine lv_iadd hx hb dX4_layWay_9 ?_
  refine lv_rep0 (x := ((nI (f * 12)) + (nI t))) (y := nI ((f * 12) + t)) (nI_add _ _) ?_
  refine lv_iload_n hx hb dX4_layWay_10 rfl (lv_at hl 3 rfl) ?_
  refine rAst (x := w) hx hb fx hw 2 (hF.1 2 (by decide)) hF.2.1 (fun _ => rfl) ((f * 12) + t) rfl (by omega) (by decide) dX4_layWay_11 (fun H locs hw => ?_)
  obtain ⟨σ_1, eσ_1⟩ : ∃ w9, w9 = upA σ 2 (upd (σ 2) ((f * 12) + t) w) := ⟨_, rfl⟩
  rw [← eσ_1] at hw
  refine lv_aload_n hx hb dX4_layWay_12 rfl (lv_at hl 0 rfl) ?_
  refine rCallV (C := RX4) (As := []) (rest := []) ⟨hx, hb, hml, hown, hts⟩ fx hw (kX4_measureRests l G hG hF σ_1 g (by subst_vars; rw [upA_n (by decide)]; exact hg) (by omega)) (cwV 0 hts gX4_layWay_X4_measureRests rfl rfl rfl (by decide +kernel) ⟨Nat.le_of_ble_eq_true rfl, Nat.le_of_ble_eq_true rfl⟩) (hF.1 1 (by decide)) rfl rfl rfl rfl hl.1 rfl (Nat.le_of_ble_eq_true rfl) dX4_layWay_13 ⟨Nat.zero_le _, Nat.zero_le _⟩ ?_
  intro σ_3 H locs p_2 hw
  have eσ_3 := p_2
  subst eσ_3
  subst eσ_1
  exact rRetV hx hb hr hw (by simp only [upA_s]; rw [upA_n (show 3 ≠ 2 by decide)]) hlocks dX4_layWay_16
