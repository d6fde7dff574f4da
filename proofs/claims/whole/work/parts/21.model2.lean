def rmX6_gates : Room := ({ frames := 1, cells := 0, slots := 0, locals := 21 } : Room)
set_option maxHeartbeats 4000000 in
set_option maxRecDepth 100000 in
theorem kX6_gates (l : Launch) (G : Gx) (hG : gOk G) (hF : Full G) (σ : St) (g n sd e9 z : Nat) (b : Bool) (hMv : MIv σ g n sd b e9 z)  : CtI l yX6_gates wsX6_gates rmX6_gates G σ [.ref (gad G 31)] (fun r σ' => r = nI g ∧ σ' = thr σ 0) := by
  refine bgMet (cc := cX6_gates) (maxL := 1) (ret := (some .int)) (own := RX6) (by decide) rfl rfl hG (Nat.le_of_ble_eq_true rfl) rfl ?_
  intro p e s m args below meth c ls Bd hl
  obtain ⟨hx, hb, hr, hml, hts, hown, hlocks, fx, hw⟩ := Bd
  have hl : lv_has ls 1 [(0, .ref (gad G 31))] := hl
  have hin : ∀ w ∈ wsX60, w ∈ wsX6_gates := by decide +kernel
  obtain ⟨⟨hmg, hmg1, hmg2⟩, ⟨hmn, hmn6⟩, ⟨hms, hms8⟩, ⟨hme, hme8⟩, hmo, ⟨hmz, hmz5⟩, hgm, hme9⟩ := id hMv
  refine lv_aload_n hx hb dX6_gates_0 rfl (lv_at hl 0 rfl) ?_
  refine lv_aload_n hx hb dX6_gates_1 rfl (lv_at hl 0 rfl) ?_
  refine rGet (v := .int (σ 31 0)) (C := RX6) (T := TX6) (N := 26) hx hb fx hown hts hin hw 31 (hF.1 31 (by decide)) rfl rfl 0 (by decide) (hts (.fieldLink RX6 7 "LeaguewheelModel" "gates" "I") (by decide +kernel)) (fun _ h9 => h9) rfl dX6_gates_2 ?_
  refine rCallI (C := RX6) (As := [.int (σ 31 0)]) (rest := []) ⟨hx, hb, hml, hown, hts⟩ fx hw (kX6_tells l G hG hF σ ((σ 31 0))) (cwV 1 hts gX6_gates_X6_tells rfl rfl rfl (by decide +kernel) ⟨Nat.le_of_ble_eq_true rfl, Nat.le_of_ble_eq_true rfl⟩) (hF.1 31 (by decide)) rfl rfl rfl rfl hl.1 rfl (Nat.le_of_ble_eq_true rfl) dX6_gates_5 ⟨Nat.zero_le _, Nat.zero_le _⟩ ?_
  intro r_2 σ_3 H locs p_1 hw
  obtain ⟨er_2, eσ_3⟩ := p_1
  have er_2 := er_2.symm; subst er_2
  subst eσ_3
  exact rRetI hx hb hr hw (by exact ⟨hmg, rfl⟩) hlocks dX6_gates_8

def rmX6_karts : Room := ({ frames := 1, cells := 0, slots := 0, locals := 21 } : Room)
set_option maxHeartbeats 4000000 in
set_option maxRecDepth 100000 in
theorem kX6_karts (l : Launch) (G : Gx) (hG : gOk G) (hF : Full G) (σ : St) (g n sd e9 z : Nat) (b : Bool) (hMv : MIv σ g n sd b e9 z)  : CtI l yX6_karts wsX6_karts rmX6_karts G σ [.ref (gad G 31)] (fun r σ' => r = nI n ∧ σ' = thr σ 0) := by
  refine bgMet (cc := cX6_karts) (maxL := 1) (ret := (some .int)) (own := RX6) (by decide) rfl rfl hG (Nat.le_of_ble_eq_true rfl) rfl ?_
  intro p e s m args below meth c ls Bd hl
  obtain ⟨hx, hb, hr, hml, hts, hown, hlocks, fx, hw⟩ := Bd
  have hl : lv_has ls 1 [(0, .ref (gad G 31))] := hl
  have hin : ∀ w ∈ wsX60, w ∈ wsX6_karts := by decide +kernel
  obtain ⟨⟨hmg, hmg1, hmg2⟩, ⟨hmn, hmn6⟩, ⟨hms, hms8⟩, ⟨hme, hme8⟩, hmo, ⟨hmz, hmz5⟩, hgm, hme9⟩ := id hMv
  refine lv_aload_n hx hb dX6_karts_0 rfl (lv_at hl 0 rfl) ?_
  refine lv_aload_n hx hb dX6_karts_1 rfl (lv_at hl 0 rfl) ?_
  refine rGet (v := .int (σ 31 4)) (C := RX6) (T := TX6) (N := 26) hx hb fx hown hts hin hw 31 (hF.1 31 (by decide)) rfl rfl 4 (by decide) (hts (.fieldLink RX6 64 "LeaguewheelModel" "karts" "I") (by decide +kernel)) (fun _ h9 => h9) rfl dX6_karts_2 ?_
  refine rCallI (C := RX6) (As := [.int (σ 31 4)]) (rest := []) ⟨hx, hb, hml, hown, hts⟩ fx hw (kX6_tells l G hG hF σ ((σ 31 4))) (cwV 1 hts gX6_karts_X6_tells rfl rfl rfl (by decide +kernel) ⟨Nat.le_of_ble_eq_true rfl, Nat.le_of_ble_eq_true rfl⟩) (hF.1 31 (by decide)) rfl rfl rfl rfl hl.1 rfl (Nat.le_of_ble_eq_true rfl) dX6_karts_5 ⟨Nat.zero_le _, Nat.zero_le _⟩ ?_
  intro r_2 σ_3 H locs p_1 hw
  obtain ⟨er_2, eσ_3⟩ := p_1
  have er_2 := er_2.symm; subst er_2
  subst eσ_3
  exact rRetI hx hb hr hw (by exact ⟨hmn, rfl⟩) hlocks dX6_karts_8

def rmX6_races : Room := ({ frames := 1, cells := 0, slots := 0, locals := 21 } : Room)
set_option maxHeartbeats 4000000 in
set_option maxRecDepth 100000 in
theorem kX6_races (l : Launch) (G : Gx) (hG : gOk G) (hF : Full G) (σ : St) (g n sd e9 z : Nat) (b : Bool) (hMv : MIv σ g n sd b e9 z)  : CtI l yX6_races wsX6_races rmX6_races G σ [.ref (gad G 31)] (fun r σ' => r = nI e9 ∧ σ' = thr σ 0) := by
  refine bgMet (cc := cX6_races) (maxL := 1) (ret := (some .int)) (own := RX6) (by decide) rfl rfl hG (Nat.le_of_ble_eq_true rfl) rfl ?_
  intro p e s m args below meth c ls Bd hl
  obtain ⟨hx, hb, hr, hml, hts, hown, hlocks, fx, hw⟩ := Bd
  have hl : lv_has ls 1 [(0, .ref (gad G 31))] := hl
  have hin : ∀ w ∈ wsX60, w ∈ wsX6_races := by decide +kernel
  obtain ⟨⟨hmg, hmg1, hmg2⟩, ⟨hmn, hmn6⟩, ⟨hms, hms8⟩, ⟨hme, hme8⟩, hmo, ⟨hmz, hmz5⟩, hgm, hme9⟩ := id hMv
  refine lv_aload_n hx hb dX6_races_0 rfl (lv_at hl 0 rfl) ?_
  refine lv_aload_n hx hb dX6_races_1 rfl (lv_at hl 0 rfl) ?_
  refine rGet (v := .int (σ 31 7)) (C := RX6) (T := TX6) (N := 26) hx hb fx hown hts hin hw 31 (hF.1 31 (by decide)) rfl rfl 7 (by decide) (hts (.fieldLink RX6 138 "LeaguewheelModel" "ended" "I") (by decide +kernel)) (fun _ h9 => h9) rfl dX6_races_2 ?_
  refine rCallI (C := RX6) (As := [.int (σ 31 7)]) (rest := []) ⟨hx, hb, hml, hown, hts⟩ fx hw (kX6_tells l G hG hF σ ((σ 31 7))) (cwV 1 hts gX6_races_X6_tells rfl rfl rfl (by decide +kernel) ⟨Nat.le_of_ble_eq_true rfl, Nat.le_of_ble_eq_true rfl⟩) (hF.1 31 (by decide)) rfl rfl rfl rfl hl.1 rfl (Nat.le_of_ble_eq_true rfl) dX6_races_5 ⟨Nat.zero_le _, Nat.zero_le _⟩ ?_
  intro r_2 σ_3 H locs p_1 hw
  obtain ⟨er_2, eσ_3⟩ := p_1
  have er_2 := er_2.symm; subst er_2
  subst eσ_3
  exact rRetI hx hb hr hw (by exact ⟨hme, rfl⟩) hlocks dX6_races_8

def rmX6_isOn : Room := ({ frames := 0, cells := 0, slots := 0, locals := 0 } : Room)
set_option maxHeartbeats 4000000 in
set_option maxRecDepth 100000 in
theorem kX6_isOn (l : Launch) (G : Gx) (hG : gOk G) (hF : Full G) (σ : St) (g n sd e9 z : Nat) (b : Bool) (hMv : MIv σ g n sd b e9 z)  : CtI l yX6_isOn wsX6_isOn rmX6_isOn G σ [.ref (gad G 31)] (fun r σ' => r = bI b ∧ σ' = thr σ 0) := by
  refine bgMet (cc := cX6_isOn) (maxL := 1) (ret := (some .boolean)) (own := RX6) (by decide) rfl rfl hG (Nat.le_of_ble_eq_true rfl) rfl ?_
  intro p e s m args below meth c ls Bd hl
  obtain ⟨hx, hb, hr, hml, hts, hown, hlocks, fx, hw⟩ := Bd
  have hl : lv_has ls 1 [(0, .ref (gad G 31))] := hl
  have hin : ∀ w ∈ wsX60, w ∈ wsX6_isOn := by decide +kernel
  obtain ⟨⟨hmg, hmg1, hmg2⟩, ⟨hmn, hmn6⟩, ⟨hms, hms8⟩, ⟨hme, hme8⟩, hmo, ⟨hmz, hmz5⟩, hgm, hme9⟩ := id hMv
  refine lv_aload_n hx hb dX6_isOn_0 rfl (lv_at hl 0 rfl) ?_
  refine lv_iconst (v := 0) hx hb dX6_isOn_1 (by decide) ?_
  refine rPut (v := 0) (ty := .int) (C := RX6) (T := TX6) (N := 26) hx hb fx hown hts hin tyX6 tyX6_ok nmX6 hw 31 (hF.1 31 (by decide)) rfl rfl 25 (by decide) (hts (.fieldLink RX6 57 "LeaguewheelModel" "thrown" "I") (by decide +kernel)) (fun _ h9 => h9) rfl (by decide +kernel) rfl rfl (Nat.le_of_ble_eq_true rfl) rfl dX6_isOn_2 (fun H locs hw => ?_)
  obtain ⟨σ_1, eσ_1⟩ : ∃ w9, w9 = upA σ 31 (upd (σ 31) 25 0) := ⟨_, rfl⟩
  rw [← eσ_1] at hw
  refine lv_aload_n hx hb dX6_isOn_5 rfl (lv_at hl 0 rfl) ?_
  refine rGet (v := .int (σ_1 31 8)) (C := RX6) (T := TX6) (N := 26) hx hb fx hown hts hin hw 31 (hF.1 31 (by decide)) rfl rfl 8 (by decide) (hts (.fieldLink RX6 87 "LeaguewheelModel" "isOn" "Z") (by decide +kernel)) (fun _ h9 => h9) rfl dX6_isOn_6 ?_
  refine lv_rep0 (x := (σ_1 31 8)) (y := (bI b)) (by subst_vars; exact hmo) ?_
  subst eσ_1
  exact rRetZ hx hb hr hw (nar_bI _) (by exact ⟨rfl, rfl⟩) hlocks dX6_isOn_9

def rmX6_setDraw : Room := ({ frames := 0, cells := 0, slots := 0, locals := 0 } : Room)
set_option maxHeartbeats 4000000 in
set_option maxRecDepth 100000 in
theorem kX6_setDraw (l : Launch) (G : Gx) (hG : gOk G) (hF : Full G) (σ : St) (x : Int32) (g n sd e9 z : Nat) (b : Bool) (hMv : MIv σ g n sd b e9 z)  : CtV l yX6_setDraw wsX6_setDraw rmX6_setDraw G σ [.ref (gad G 31), .int x] (fun σ' => σ' = upA σ 31 (upd (upd (σ 31) 25 0) 12 x)) := by
  refine bgMet (cc := cX6_setDraw) (maxL := 2) (ret := none) (own := RX6) (by decide) rfl rfl hG (Nat.le_of_ble_eq_true rfl) rfl ?_
  intro p e s m args below meth c ls Bd hl
  obtain ⟨hx, hb, hr, hml, hts, hown, hlocks, fx, hw⟩ := Bd
  have hl : lv_has ls 2 [(0, .ref (gad G 31)), (1, .int x)] := hl
  have hin : ∀ w ∈ wsX60, w ∈ wsX6_setDraw := by decide +kernel
  obtain ⟨⟨hmg, hmg1, hmg2⟩, ⟨hmn, hmn6⟩, ⟨hms, hms8⟩, ⟨hme, hme8⟩, hmo, ⟨hmz, hmz5⟩, hgm, hme9⟩ := id hMv
  refine lv_aload_n hx hb dX6_setDraw_0 rfl (lv_at hl 0 rfl) ?_
  refine lv_iconst (v := 0) hx hb dX6_setDraw_1 (by decide) ?_
  refine rPut (v := 0) (ty := .int) (C := RX6) (T := TX6) (N := 26) hx hb fx hown hts hin tyX6 tyX6_ok nmX6 hw 31 (hF.1 31 (by decide)) rfl rfl 25 (by decide) (hts (.fieldLink RX6 57 "LeaguewheelModel" "thrown" "I") (by decide +kernel)) (fun _ h9 => h9) rfl (by decide +kernel) rfl rfl (Nat.le_of_ble_eq_true rfl) rfl dX6_setDraw_2 (fun H locs hw => ?_)
  obtain ⟨σ_1, eσ_1⟩ : ∃ w9, w9 = upA σ 31 (upd (σ 31) 25 0) := ⟨_, rfl⟩
  rw [← eσ_1] at hw
  refine lv_aload_n hx hb dX6_setDraw_5 rfl (lv_at hl 0 rfl) ?_
  refine lv_iload_n hx hb dX6_setDraw_6 rfl (lv_at hl 1 rfl) ?_
  refine rPut (v := x) (ty := .int) (C := RX6) (T := TX6) (N := 26) hx hb fx hown hts hin tyX6 tyX6_ok nmX6 hw 31 (hF.1 31 (by decide)) rfl rfl 12 (by decide) (hts (.fieldLink RX6 127 "LeaguewheelModel" "x" "I") (by decide +kernel)) (fun _ h9 => h9) rfl (by decide +kernel) rfl rfl (Nat.le_of_ble_eq_true rfl) rfl dX6_setDraw_7 (fun H locs hw => ?_)
  obtain ⟨σ_2, eσ_2⟩ : ∃ w9, w9 = upA σ_1 31 (upd (σ_1 31) 12 x) := ⟨_, rfl⟩
  rw [← eσ_2] at hw
  subst eσ_2
  subst eσ_1
  exact rRetV hx hb hr hw (by simp [upA_n, upA_s, upA_upA, upA_self, upd_self, upd_upd, pk_us, bI]) hlocks dX6_setDraw_10

def rmX6_addGate : Room := ({ frames := 1, cells := 0, slots := 0, locals := 21 } : Room)
set_option maxHeartbeats 4000000 in
set_option maxRecDepth 100000 in
theorem kX6_addGate (l : Launch) (G : Gx) (hG : gOk G) (hF : Full G) (σ : St) (b9 : Bool) (g n sd e9 z : Nat) (b : Bool) (hMv : MIv σ g n sd b e9 z)  : CtI l yX6_addGate wsX6_addGate rmX6_addGate G σ [.ref (gad G 31), .int (bI b9)] (fun r σ' => ((decide (sd = 0) && decide (g < 12)) = true ∧ r = nI g ∧ σ' = mgS (thr σ 0) b9 g) ∨ ((decide (sd = 0) && decide (g < 12)) = false ∧ σ' = thr σ 1)) := by
  refine bgMet (cc := cX6_addGate) (maxL := 2) (ret := (some .int)) (own := RX6) (by decide) rfl rfl hG (Nat.le_of_ble_eq_true rfl) rfl ?_
  intro p e s m args below meth c ls Bd hl
  obtain ⟨hx, hb, hr, hml, hts, hown, hlocks, fx, hw⟩ := Bd
  have hl : lv_has ls 2 [(0, .ref (gad G 31)), (1, .int (bI b9))] := hl
  have hin : ∀ w ∈ wsX60, w ∈ wsX6_addGate := by decide +kernel
  obtain ⟨⟨hmg, hmg1, hmg2⟩, ⟨hmn, hmn6⟩, ⟨hms, hms8⟩, ⟨hme, hme8⟩, hmo, ⟨hmz, hmz5⟩, hgm, hme9⟩ := id hMv
  refine lv_aload_n hx hb dX6_addGate_0 rfl (lv_at hl 0 rfl) ?_
  refine lv_aload_n hx hb dX6_addGate_1 rfl (lv_at hl 0 rfl) ?_
  refine rGet (v := .int (σ 31 6)) (C := RX6) (T := TX6) (N := 26) hx hb fx hown hts hin hw 31 (hF.1 31 (by decide)) rfl rfl 6 (by decide) (hts (.fieldLink RX6 67 "LeaguewheelModel" "started" "I") (by decide +kernel)) (fun _ h9 => h9) rfl dX6_addGate_2 ?_
  refine lv_rep0 (x := (σ 31 6)) (y := nI sd) (by exact hms) ?_
  refine lv_if_gt (tgt := 17) hx hb dX6_addGate_5 (by decide) (fun c_1 => ?_) (fun c_1 => ?_)
  · skip
    have c_1 : 0 < sd := n0_gtt (by omega) c_1
    refine lv_iconst (v := 1) hx hb dX6_addGate_17 (by decide) ?_
    refine lv_goto (tgt := 22) hx hb dX6_addGate_18 (by decide) ?_
    refine lv_rep0 (x := 1) (y := nI 1) rfl ?_
    refine rCallI (C := RX6) (As := [.int (nI 1)]) (rest := []) ⟨hx, hb, hml, hown, hts⟩ fx hw (kX6_fails l G hG hF σ 1 (by omega)) (cwV 1 hts gX6_addGate_X6_fails rfl rfl rfl (by decide +kernel) ⟨Nat.le_of_ble_eq_true rfl, Nat.le_of_ble_eq_true rfl⟩) (hF.1 31 (by decide)) rfl rfl rfl rfl hl.1 rfl (Nat.le_of_ble_eq_true rfl) dX6_addGate_22 ⟨Nat.zero_le _, Nat.zero_le _⟩ ?_
    intro r_3 σ_4 H locs p_2 hw
    obtain ⟨er_3, eσ_4⟩ := p_2
    have er_3 := er_3.symm; subst er_3
    refine lv_b_eq (tgt := 30) hx hb dX6_addGate_25 (by decide) (fun c_5 => ?_) (fun c_5 => ?_)
    · skip
      exact absurd c_5 (by decide)
    · skip
      refine lv_iconst (v := 0) hx hb dX6_addGate_28 (by decide) ?_
      subst eσ_4
      exact rRetI hx hb hr hw (by first | exact Or.inr ⟨by (first | assumption | (simp [bI]; done) | (simp [c_1]; done) | (simp [c_1]; omega)), by rfl⟩) hlocks dX6_addGate_29
  · skip
    have c_1 : sd = 0 := n0_gtf (by omega) c_1
    refine lv_aload_n hx hb dX6_addGate_8 rfl (lv_at hl 0 rfl) ?_
    refine rGet (v := .int (σ 31 0)) (C := RX6) (T := TX6) (N := 26) hx hb fx hown hts hin hw 31 (hF.1 31 (by decide)) rfl rfl 0 (by decide) (hts (.fieldLink RX6 7 "LeaguewheelModel" "gates" "I") (by decide +kernel)) (fun _ h9 => h9) rfl dX6_addGate_9 ?_
    refine lv_rep0 (x := (σ 31 0)) (y := nI g) (by exact hmg) ?_
    refine lv_bipush (v := 12) hx hb dX6_addGate_12 (by decide) ?_
    refine lv_rep0 (x := 12) (y := nI 12) rfl ?_
    refine lv_icmp_ne (tgt := 21) hx hb dX6_addGate_14 (by decide) (fun c_6 => ?_) (fun c_6 => ?_)
    · skip
      have c_6 : ¬ g = 12 := fun h9 => c_6 ((nI_eq (by omega) (by omega)).mpr h9)
      refine lv_iconst (v := 0) hx hb dX6_addGate_21 (by decide) ?_
      refine lv_rep0 (x := 0) (y := nI 0) rfl ?_
      refine rCallI (C := RX6) (As := [.int (nI 0)]) (rest := []) ⟨hx, hb, hml, hown, hts⟩ fx hw (kX6_fails l G hG hF σ 0 (by omega)) (cwV 1 hts gX6_addGate_X6_fails rfl rfl rfl (by decide +kernel) ⟨Nat.le_of_ble_eq_true rfl, Nat.le_of_ble_eq_true rfl⟩) (hF.1 31 (by decide)) rfl rfl rfl rfl hl.1 rfl (Nat.le_of_ble_eq_true rfl) dX6_addGate_22 ⟨Nat.zero_le _, Nat.zero_le _⟩ ?_
      intro r_8 σ_9 H locs p_7 hw
      obtain ⟨er_8, eσ_9⟩ := p_7
      have er_8 := er_8.symm; subst er_8
      refine lv_b_eq (tgt := 30) hx hb dX6_addGate_25 (by decide) (fun c_10 => ?_) (fun c_10 => ?_)
      · skip
        refine lv_aload_n hx hb dX6_addGate_30 rfl (lv_at hl 0 rfl) ?_
        refine lv_dup hx hb dX6_addGate_31 rfl ?_
        refine rGet (v := .int (σ_9 31 1)) (C := RX6) (T := TX6) (N := 26) hx hb fx hown hts hin hw 31 (hF.1 31 (by decide)) rfl rfl 1 (by decide) (hts (.fieldLink RX6 74 "LeaguewheelModel" "needed" "I") (by decide +kernel)) (fun _ h9 => h9) rfl dX6_addGate_32 ?_
        refine lv_iload_n hx hb dX6_addGate_35 rfl (lv_at hl 1 rfl) ?_
        refine lv_b_eq (tgt := 48) hx hb dX6_addGate_36 (by decide) (fun c_11 => ?_) (fun c_11 => ?_)
        · skip
          refine lv_iconst (v := 0) hx hb dX6_addGate_48 (by decide) ?_
          refine lv_ior hx hb dX6_addGate_49 ?_
          refine rPut (v := ((σ_9 31 1) ||| 0)) (ty := .int) (C := RX6) (T := TX6) (N := 26) hx hb fx hown hts hin tyX6 tyX6_ok nmX6 hw 31 (hF.1 31 (by decide)) rfl rfl 1 (by decide) (hts (.fieldLink RX6 74 "LeaguewheelModel" "needed" "I") (by decide +kernel)) (fun _ h9 => h9) rfl (by decide +kernel) rfl rfl (Nat.le_of_ble_eq_true rfl) rfl dX6_addGate_50 (fun H locs hw => ?_)
          obtain ⟨σ_12, eσ_12⟩ : ∃ w9, w9 = upA σ_9 31 (upd (σ_9 31) 1 ((σ_9 31 1) ||| 0)) := ⟨_, rfl⟩
          rw [← eσ_12] at hw
          refine lv_aload_n hx hb dX6_addGate_53 rfl (lv_at hl 0 rfl) ?_
          refine lv_dup hx hb dX6_addGate_54 rfl ?_
          refine rGet (v := .int (σ_12 31 0)) (C := RX6) (T := TX6) (N := 26) hx hb fx hown hts hin hw 31 (hF.1 31 (by decide)) rfl rfl 0 (by decide) (hts (.fieldLink RX6 7 "LeaguewheelModel" "gates" "I") (by decide +kernel)) (fun _ h9 => h9) rfl dX6_addGate_55 ?_
          refine lv_rep0 (x := (σ_12 31 0)) (y := nI g) (by subst_vars; simp [upA_n, upA_s, upA_upA, upA_self, upd_self, upd_upd, pk_us, bI, thr, upd]; exact hmg) ?_
          refine lv_iconst (v := 1) hx hb dX6_addGate_58 (by decide) ?_
          refine lv_rep0 (x := 1) (y := nI 1) rfl ?_
          refine lv_iadd hx hb dX6_addGate_59 ?_
          refine lv_rep0 (x := ((nI g) + (nI 1))) (y := nI (g + 1)) (nI_add _ _) ?_
          refine rPut (v := (nI (g + 1))) (ty := .int) (C := RX6) (T := TX6) (N := 26) hx hb fx hown hts hin tyX6 tyX6_ok nmX6 hw 31 (hF.1 31 (by decide)) rfl rfl 0 (by decide) (hts (.fieldLink RX6 7 "LeaguewheelModel" "gates" "I") (by decide +kernel)) (fun _ h9 => h9) rfl (by decide +kernel) rfl rfl (Nat.le_of_ble_eq_true rfl) rfl dX6_addGate_60 (fun H locs hw => ?_)
          obtain ⟨σ_13, eσ_13⟩ : ∃ w9, w9 = upA σ_12 31 (upd (σ_12 31) 0 (nI (g + 1))) := ⟨_, rfl⟩
          rw [← eσ_13] at hw
          refine lv_aload_n hx hb dX6_addGate_63 rfl (lv_at hl 0 rfl) ?_
          refine rGet (v := .int (σ_13 31 0)) (C := RX6) (T := TX6) (N := 26) hx hb fx hown hts hin hw 31 (hF.1 31 (by decide)) rfl rfl 0 (by decide) (hts (.fieldLink RX6 7 "LeaguewheelModel" "gates" "I") (by decide +kernel)) (fun _ h9 => h9) rfl dX6_addGate_64 ?_
          refine lv_rep0 (x := (σ_13 31 0)) (y := nI (g + 1)) (by subst_vars; simp [upA_n, upA_s, upA_upA, upA_self, upd_self, upd_upd, pk_us, bI]) ?_
          refine lv_iconst (v := 1) hx hb dX6_addGate_67 (by decide) ?_
          refine lv_rep0 (x := 1) (y := nI 1) rfl ?_
          refine lv_isub hx hb dX6_addGate_68 ?_
          refine lv_rep0 (x := ((nI (g + 1)) - (nI 1))) (y := nI ((g + 1) - 1)) (pk_sub (by omega)) ?_
          subst eσ_13
          subst eσ_12
          subst eσ_9
          exact rRetI hx hb hr hw (by exact Or.inl ⟨by (first | assumption | (simp [c_11]; done) | (simp [c_1, c_6, c_11]; done) | (simp [c_1, c_6, c_11]; omega)), by rfl, by simp [mgS, upA_n, upA_s, upA_upA, upA_self, upd_self, upd_upd, pk_us, bI, c_1, c_6, c_11]⟩) hlocks dX6_addGate_69
        · skip
          refine lv_iconst (v := 1) hx hb dX6_addGate_39 (by decide) ?_
          refine lv_aload_n hx hb dX6_addGate_40 rfl (lv_at hl 0 rfl) ?_
          refine rGet (v := .int (σ_9 31 0)) (C := RX6) (T := TX6) (N := 26) hx hb fx hown hts hin hw 31 (hF.1 31 (by decide)) rfl rfl 0 (by decide) (hts (.fieldLink RX6 7 "LeaguewheelModel" "gates" "I") (by decide +kernel)) (fun _ h9 => h9) rfl dX6_addGate_41 ?_
          refine lv_rep0 (x := (σ_9 31 0)) (y := nI g) (by subst_vars; exact hmg) ?_
          refine lv_ishl hx hb dX6_addGate_44 ?_
          refine lv_goto (tgt := 49) hx hb dX6_addGate_45 (by decide) ?_
          refine lv_ior hx hb dX6_addGate_49 ?_
          refine rPut (v := ((σ_9 31 1) ||| (1 <<< ((nI g) &&& 31)))) (ty := .int) (C := RX6) (T := TX6) (N := 26) hx hb fx hown hts hin tyX6 tyX6_ok nmX6 hw 31 (hF.1 31 (by decide)) rfl rfl 1 (by decide) (hts (.fieldLink RX6 74 "LeaguewheelModel" "needed" "I") (by decide +kernel)) (fun _ h9 => h9) rfl (by decide +kernel) rfl rfl (Nat.le_of_ble_eq_true rfl) rfl dX6_addGate_50 (fun H locs hw => ?_)
          obtain ⟨σ_14, eσ_14⟩ : ∃ w9, w9 = upA σ_9 31 (upd (σ_9 31) 1 ((σ_9 31 1) ||| (1 <<< ((nI g) &&& 31)))) := ⟨_, rfl⟩
          rw [← eσ_14] at hw
          refine lv_aload_n hx hb dX6_addGate_53 rfl (lv_at hl 0 rfl) ?_
          refine lv_dup hx hb dX6_addGate_54 rfl ?_
          refine rGet (v := .int (σ_14 31 0)) (C := RX6) (T := TX6) (N := 26) hx hb fx hown hts hin hw 31 (hF.1 31 (by decide)) rfl rfl 0 (by decide) (hts (.fieldLink RX6 7 "LeaguewheelModel" "gates" "I") (by decide +kernel)) (fun _ h9 => h9) rfl dX6_addGate_55 ?_
          refine lv_rep0 (x := (σ_14 31 0)) (y := nI g) (by subst_vars; simp [upA_n, upA_s, upA_upA, upA_self, upd_self, upd_upd, pk_us, bI, thr, upd]; exact hmg) ?_
          refine lv_iconst (v := 1) hx hb dX6_addGate_58 (by decide) ?_
          refine lv_rep0 (x := 1) (y := nI 1) rfl ?_
          refine lv_iadd hx hb dX6_addGate_59 ?_
          refine lv_rep0 (x := ((nI g) + (nI 1))) (y := nI (g + 1)) (nI_add _ _) ?_
          refine rPut (v := (nI (g + 1))) (ty := .int) (C := RX6) (T := TX6) (N := 26) hx hb fx hown hts hin tyX6 tyX6_ok nmX6 hw 31 (hF.1 31 (by decide)) rfl rfl 0 (by decide) (hts (.fieldLink RX6 7 "LeaguewheelModel" "gates" "I") (by decide +kernel)) (fun _ h9 => h9) rfl (by decide +kernel) rfl rfl (Nat.le_of_ble_eq_true rfl) rfl dX6_addGate_60 (fun H locs hw => ?_)
          obtain ⟨σ_15, eσ_15⟩ : ∃ w9, w9 = upA σ_14 31 (upd (σ_14 31) 0 (nI (g + 1))) := ⟨_, rfl⟩
          rw [← eσ_15] at hw
          refine lv_aload_n hx hb dX6_addGate_63 rfl (lv_at hl 0 rfl) ?_
          refine rGet (v := .int (σ_15 31 0)) (C := RX6) (T := TX6) (N := 26) hx hb fx hown hts hin hw 31 (hF.1 31 (by decide)) rfl rfl 0 (by decide) (hts (.fieldLink RX6 7 "LeaguewheelModel" "gates" "I") (by decide +kernel)) (fun _ h9 => h9) rfl dX6_addGate_64 ?_
          refine lv_rep0 (x := (σ_15 31 0)) (y := nI (g + 1)) (by subst_vars; simp [upA_n, upA_s, upA_upA, upA_self, upd_self, upd_upd, pk_us, bI]) ?_
          refine lv_iconst (v := 1) hx hb dX6_addGate_67 (by decide) ?_
          refine lv_rep0 (x := 1) (y := nI 1) rfl ?_
          refine lv_isub hx hb dX6_addGate_68 ?_
          refine lv_rep0 (x := ((nI (g + 1)) - (nI 1))) (y := nI ((g + 1) - 1)) (pk_sub (by omega)) ?_
          subst eσ_15
          subst eσ_14
          subst eσ_9
          exact rRetI hx hb hr hw (by exact Or.inl ⟨by (first | assumption | (simp [c_11]; done) | (simp [c_1, c_6, c_11]; done) | (simp [c_1, c_6, c_11]; omega)), by rfl, by simp [mgS, upA_n, upA_s, upA_upA, upA_self, upd_self, upd_upd, pk_us, bI, c_1, c_6, c_11]⟩) hlocks dX6_addGate_69
      · skip
        exact absurd c_10 (by decide)
    · skip
      have c_6 : g = 12 := (nI_eq (by omega) (by omega)).mp c_6
      refine lv_iconst (v := 1) hx hb dX6_addGate_17 (by decide) ?_
      refine lv_goto (tgt := 22) hx hb dX6_addGate_18 (by decide) ?_
      refine lv_rep0 (x := 1) (y := nI 1) rfl ?_
      refine rCallI (C := RX6) (As := [.int (nI 1)]) (rest := []) ⟨hx, hb, hml, hown, hts⟩ fx hw (kX6_fails l G hG hF σ 1 (by omega)) (cwV 1 hts gX6_addGate_X6_fails rfl rfl rfl (by decide +kernel) ⟨Nat.le_of_ble_eq_true rfl, Nat.le_of_ble_eq_true rfl⟩) (hF.1 31 (by decide)) rfl rfl rfl rfl hl.1 rfl (Nat.le_of_ble_eq_true rfl) dX6_addGate_22 ⟨Nat.zero_le _, Nat.zero_le _⟩ ?_
      intro r_17 σ_18 H locs p_16 hw
      obtain ⟨er_17, eσ_18⟩ := p_16
      have er_17 := er_17.symm; subst er_17
      refine lv_b_eq (tgt := 30) hx hb dX6_addGate_25 (by decide) (fun c_19 => ?_) (fun c_19 => ?_)
      · skip
        exact absurd c_19 (by decide)
      · skip
        refine lv_iconst (v := 0) hx hb dX6_addGate_28 (by decide) ?_
        subst eσ_18
        exact rRetI hx hb hr hw (by first | exact Or.inr ⟨by (first | assumption | (simp [bI]; done) | (simp [c_1, c_6]; done) | (simp [c_1, c_6]; omega)), by rfl⟩) hlocks dX6_addGate_29

def rmX6_addWay : Room := ({ frames := 2, cells := 0, slots := 0, locals := 43 } : Room)
set_option maxHeartbeats 4000000 in
set_option maxRecDepth 100000 in
theorem kX6_addWay (l : Launch) (G : Gx) (hG : gOk G) (hF : Full G) (σ : St) (x y w : Int32) (g n sd e9 z : Nat) (b : Bool) (hMv : MIv σ g n sd b e9 z)  : CtI l yX6_addWay wsX6_addWay rmX6_addWay G σ [.ref (gad G 31), .int x, .int y, .int w] (fun r σ' => ((inB x g && inB y g) = true ∧ rgtB x y w = true ∧ decide (sd = 0) = true ∧ r = (if σ 32 (ix x * 12 + ix y) = 0 then -1 else σ 32 (ix x * 12 + ix y)) ∧ σ' = upA (thr σ 0) 32 (upd (σ 32) (ix x * 12 + ix y) w)) ∨ ((inB x g && inB y g) = false ∧ σ' = thr σ 1) ∨ ((inB x g && inB y g) = true ∧ rgtB x y w = false ∧ σ' = thr σ 2) ∨ ((inB x g && inB y g) = true ∧ rgtB x y w = true ∧ decide (sd = 0) = false ∧ σ' = thr σ 3)) := by
  refine bgMet (cc := cX6_addWay) (maxL := 7) (ret := (some .int)) (own := RX6) (by decide) rfl rfl hG (Nat.le_of_ble_eq_true rfl) rfl ?_
  intro p e s m args below meth c ls Bd hl
  obtain ⟨hx, hb, hr, hml, hts, hown, hlocks, fx, hw⟩ := Bd
  have hl : lv_has ls 7 [(0, .ref (gad G 31)), (1, .int x), (2, .int y), (3, .int w)] := hl
  have hin : ∀ w ∈ wsX60, w ∈ wsX6_addWay := by decide +kernel
  obtain ⟨⟨hmg, hmg1, hmg2⟩, ⟨hmn, hmn6⟩, ⟨hms, hms8⟩, ⟨hme, hme8⟩, hmo, ⟨hmz, hmz5⟩, hgm, hme9⟩ := id hMv
  refine lv_aload_n hx hb dX6_addWay_0 rfl (lv_at hl 0 rfl) ?_
  refine lv_iload_n hx hb dX6_addWay_1 rfl (lv_at hl 1 rfl) ?_
  refine rCallI (C := RX6) (As := [.int x]) (rest := []) ⟨hx, hb, hml, hown, hts⟩ fx hw (kX6_isGate l G hG hF σ x g (by subst_vars; exact hmg) (by omega)) (cwV 1 hts gX6_addWay_X6_isGate rfl rfl rfl (by decide +kernel) ⟨Nat.le_of_ble_eq_true rfl, Nat.le_of_ble_eq_true rfl⟩) (hF.1 31 (by decide)) rfl rfl rfl rfl hl.1 rfl (Nat.le_of_ble_eq_true rfl) dX6_addWay_2 ⟨Nat.zero_le _, Nat.zero_le _⟩ ?_
  intro r_2 σ_3 H locs p_1 hw
  obtain ⟨er_2, eσ_3⟩ := p_1
  have er_2 := er_2.symm; subst er_2
  have eσ_3 := eσ_3.symm; subst eσ_3
  refine lv_b_eq (tgt := 20) hx hb dX6_addWay_5 (by decide) (fun c_4 => ?_) (fun c_4 => ?_)
  · skip
    refine lv_iconst (v := 0) hx hb dX6_addWay_20 (by decide) ?_
    refine lv_istore (lv' := [(4, .int 0), (0, .ref (gad G 31)), (1, .int x), (2, .int y), (3, .int w)]) hx hb dX6_addWay_21 hl (by decide) rfl (fun ls hl => ?_)
    refine lv_iload_n hx hb dX6_addWay_23 rfl (lv_at hl 3 rfl) ?_
    refine lv_iload_n hx hb dX6_addWay_24 rfl (lv_at hl 2 rfl) ?_
    refine lv_icmp_gt (tgt := 36) hx hb dX6_addWay_25 (by decide) (fun c_5 => ?_) (fun c_5 => ?_)
    · skip
      refine lv_iload_n hx hb dX6_addWay_36 rfl (lv_at hl 4 rfl) ?_
      refine lv_iconst (v := 1) hx hb dX6_addWay_37 (by decide) ?_
      refine lv_bipush (v := 100) hx hb dX6_addWay_38 (by decide) ?_
      refine rCallS (As := [.int w, .int 1, .int 100]) (rest := []) ⟨hx, hb, hml, hown, hts⟩ fx hw (kX6_isIn l G hG hF σ w 1 100) (va_cwS 3 hts gX6_addWay_X6_isIn rfl rfl rfl (by decide +kernel) ⟨Nat.le_of_ble_eq_true rfl, Nat.le_of_ble_eq_true rfl⟩) rfl hl.1 rfl (Nat.le_of_ble_eq_true rfl) dX6_addWay_40 ⟨Nat.zero_le _, Nat.zero_le _⟩ ?_
      intro r_7 σ_8 H locs p_6 hw
      obtain ⟨er_7, eσ_8⟩ := p_6
      have er_7 := er_7.symm; subst er_7
      have eσ_8 := eσ_8.symm; subst eσ_8
      refine lv_b_eq (tgt := 50) hx hb dX6_addWay_43 (by decide) (fun c_9 => ?_) (fun c_9 => ?_)
      · skip
        refine lv_iconst (v := 0) hx hb dX6_addWay_50 (by decide) ?_
        refine lv_istore (lv' := [(5, .int 0), (4, .int 0), (0, .ref (gad G 31)), (1, .int x), (2, .int y), (3, .int w)]) hx hb dX6_addWay_51 hl (by decide) rfl (fun ls hl => ?_)
        refine lv_aload_n hx hb dX6_addWay_53 rfl (lv_at hl 2 rfl) ?_
        refine lv_iload hx hb dX6_addWay_54 (lv_at hl 1 rfl) ?_
        refine lv_if_ne (tgt := 63) hx hb dX6_addWay_56 (by decide) (fun c_10 => ?_) (fun c_10 => ?_)
        · skip
          exact absurd c_10 (by decide)
        · skip
          refine lv_iconst (v := 1) hx hb dX6_addWay_59 (by decide) ?_
          refine lv_goto (tgt := 84) hx hb dX6_addWay_60 (by decide) ?_
          refine lv_rep0 (x := 1) (y := nI 1) rfl ?_
          refine rCallI (C := RX6) (As := [.int (nI 1)]) (rest := []) ⟨hx, hb, hml, hown, hts⟩ fx hw (kX6_fails l G hG hF σ 1 (by omega)) (cwV 1 hts gX6_addWay_X6_fails rfl rfl rfl (by decide +kernel) ⟨Nat.le_of_ble_eq_true rfl, Nat.le_of_ble_eq_true rfl⟩) (hF.1 31 (by decide)) rfl rfl rfl rfl hl.1 rfl (Nat.le_of_ble_eq_true rfl) dX6_addWay_84 ⟨Nat.zero_le _, Nat.zero_le _⟩ ?_
          intro r_12 σ_13 H locs p_11 hw
          obtain ⟨er_12, eσ_13⟩ := p_11
          have er_12 := er_12.symm; subst er_12
          refine lv_b_eq (tgt := 92) hx hb dX6_addWay_87 (by decide) (fun c_14 => ?_) (fun c_14 => ?_)
          · skip
            exact absurd c_14 (by decide)
          · skip
            refine lv_iconst (v := 0) hx hb dX6_addWay_90 (by decide) ?_
            subst eσ_13
            exact rRetI hx hb hr hw (by first | exact Or.inr (Or.inl ⟨by simp [c_4, c_9], rfl⟩) | exact Or.inr (Or.inr (Or.inl ⟨by simp [c_4, c_9], by unfold rgtB; first | (rw [c_9]; exact Bool.and_false _) | (rw [show (decide (ix x < ix y) || (decide (ix y = 0) && decide (0 < ix x))) = false by simp; omega]; rfl), rfl⟩)) | exact Or.inr (Or.inr (Or.inr ⟨by simp [c_4, c_9], by unfold rgtB; rw [show (decide (ix x < ix y) || (decide (ix y = 0) && decide (0 < ix x))) = true by simp only [Bool.or_eq_true, Bool.and_eq_true, decide_eq_true_eq]; omega]; rw [Bool.true_and]; assumption, by simp; omega, rfl⟩))) hlocks dX6_addWay_91
      · skip
        refine lv_iconst (v := 1) hx hb dX6_addWay_46 (by decide) ?_
        refine lv_goto (tgt := 51) hx hb dX6_addWay_47 (by decide) ?_
        refine lv_istore (lv' := [(5, .int 1), (4, .int 0), (0, .ref (gad G 31)), (1, .int x), (2, .int y), (3, .int w)]) hx hb dX6_addWay_51 hl (by decide) rfl (fun ls hl => ?_)
        refine lv_aload_n hx hb dX6_addWay_53 rfl (lv_at hl 2 rfl) ?_
        refine lv_iload hx hb dX6_addWay_54 (lv_at hl 1 rfl) ?_
        refine lv_if_ne (tgt := 63) hx hb dX6_addWay_56 (by decide) (fun c_15 => ?_) (fun c_15 => ?_)
        · skip
          exact absurd c_15 (by decide)
        · skip
          refine lv_iconst (v := 1) hx hb dX6_addWay_59 (by decide) ?_
          refine lv_goto (tgt := 84) hx hb dX6_addWay_60 (by decide) ?_
          refine lv_rep0 (x := 1) (y := nI 1) rfl ?_
          refine rCallI (C := RX6) (As := [.int (nI 1)]) (rest := []) ⟨hx, hb, hml, hown, hts⟩ fx hw (kX6_fails l G hG hF σ 1 (by omega)) (cwV 1 hts gX6_addWay_X6_fails rfl rfl rfl (by decide +kernel) ⟨Nat.le_of_ble_eq_true rfl, Nat.le_of_ble_eq_true rfl⟩) (hF.1 31 (by decide)) rfl rfl rfl rfl hl.1 rfl (Nat.le_of_ble_eq_true rfl) dX6_addWay_84 ⟨Nat.zero_le _, Nat.zero_le _⟩ ?_
          intro r_17 σ_18 H locs p_16 hw
          obtain ⟨er_17, eσ_18⟩ := p_16
          have er_17 := er_17.symm; subst er_17
          refine lv_b_eq (tgt := 92) hx hb dX6_addWay_87 (by decide) (fun c_19 => ?_) (fun c_19 => ?_)
          · skip
            exact absurd c_19 (by decide)
          · skip
            refine lv_iconst (v := 0) hx hb dX6_addWay_90 (by decide) ?_
            subst eσ_18
            exact rRetI hx hb hr hw (by first | exact Or.inr (Or.inl ⟨by simp [c_4, c_9], rfl⟩) | exact Or.inr (Or.inr (Or.inl ⟨by simp [c_4, c_9], by unfold rgtB; first | (rw [c_9]; exact Bool.and_false _) | (rw [show (decide (ix x < ix y) || (decide (ix y = 0) && decide (0 < ix x))) = false by simp; omega]; rfl), rfl⟩)) | exact Or.inr (Or.inr (Or.inr ⟨by simp [c_4, c_9], by unfold rgtB; rw [show (decide (ix x < ix y) || (decide (ix y = 0) && decide (0 < ix x))) = true by simp only [Bool.or_eq_true, Bool.and_eq_true, decide_eq_true_eq]; omega]; rw [Bool.true_and]; assumption, by simp; omega, rfl⟩))) hlocks dX6_addWay_91
    · skip
      refine lv_iload_n hx hb dX6_addWay_28 rfl (lv_at hl 3 rfl) ?_
      refine lv_if_ne (tgt := 50) hx hb dX6_addWay_29 (by decide) (fun c_20 => ?_) (fun c_20 => ?_)
      · skip
        refine lv_iconst (v := 0) hx hb dX6_addWay_50 (by decide) ?_
        refine lv_istore (lv' := [(5, .int 0), (4, .int 0), (0, .ref (gad G 31)), (1, .int x), (2, .int y), (3, .int w)]) hx hb dX6_addWay_51 hl (by decide) rfl (fun ls hl => ?_)
        refine lv_aload_n hx hb dX6_addWay_53 rfl (lv_at hl 2 rfl) ?_
        refine lv_iload hx hb dX6_addWay_54 (lv_at hl 1 rfl) ?_
        refine lv_if_ne (tgt := 63) hx hb dX6_addWay_56 (by decide) (fun c_21 => ?_) (fun c_21 => ?_)
        · skip
          exact absurd c_21 (by decide)
        · skip
          refine lv_iconst (v := 1) hx hb dX6_addWay_59 (by decide) ?_
          refine lv_goto (tgt := 84) hx hb dX6_addWay_60 (by decide) ?_
          refine lv_rep0 (x := 1) (y := nI 1) rfl ?_
          refine rCallI (C := RX6) (As := [.int (nI 1)]) (rest := []) ⟨hx, hb, hml, hown, hts⟩ fx hw (kX6_fails l G hG hF σ 1 (by omega)) (cwV 1 hts gX6_addWay_X6_fails rfl rfl rfl (by decide +kernel) ⟨Nat.le_of_ble_eq_true rfl, Nat.le_of_ble_eq_true rfl⟩) (hF.1 31 (by decide)) rfl rfl rfl rfl hl.1 rfl (Nat.le_of_ble_eq_true rfl) dX6_addWay_84 ⟨Nat.zero_le _, Nat.zero_le _⟩ ?_
          intro r_23 σ_24 H locs p_22 hw
          obtain ⟨er_23, eσ_24⟩ := p_22
          have er_23 := er_23.symm; subst er_23
          refine lv_b_eq (tgt := 92) hx hb dX6_addWay_87 (by decide) (fun c_25 => ?_) (fun c_25 => ?_)
          · skip
            exact absurd c_25 (by decide)
          · skip
            refine lv_iconst (v := 0) hx hb dX6_addWay_90 (by decide) ?_
            subst eσ_24
            exact rRetI hx hb hr hw (by first | exact Or.inr (Or.inl ⟨by simp [c_4], rfl⟩) | exact Or.inr (Or.inr (Or.inl ⟨by simp [c_4], by unfold rgtB; first | (rw [c_20]; exact Bool.and_false _) | (rw [show (decide (ix x < ix y) || (decide (ix y = 0) && decide (0 < ix x))) = false by simp; omega]; rfl), rfl⟩)) | exact Or.inr (Or.inr (Or.inr ⟨by simp [c_4], by unfold rgtB; rw [show (decide (ix x < ix y) || (decide (ix y = 0) && decide (0 < ix x))) = true by simp only [Bool.or_eq_true, Bool.and_eq_true, decide_eq_true_eq]; omega]; rw [Bool.true_and]; assumption, by simp; omega, rfl⟩))) hlocks dX6_addWay_91
      · skip
        refine lv_iload_n hx hb dX6_addWay_32 rfl (lv_at hl 2 rfl) ?_
        refine lv_if_le (tgt := 50) hx hb dX6_addWay_33 (by decide) (fun c_26 => ?_) (fun c_26 => ?_)
        · skip
          refine lv_iconst (v := 0) hx hb dX6_addWay_50 (by decide) ?_
          refine lv_istore (lv' := [(5, .int 0), (4, .int 0), (0, .ref (gad G 31)), (1, .int x), (2, .int y), (3, .int w)]) hx hb dX6_addWay_51 hl (by decide) rfl (fun ls hl => ?_)
          refine lv_aload_n hx hb dX6_addWay_53 rfl (lv_at hl 2 rfl) ?_
          refine lv_iload hx hb dX6_addWay_54 (lv_at hl 1 rfl) ?_
          refine lv_if_ne (tgt := 63) hx hb dX6_addWay_56 (by decide) (fun c_27 => ?_) (fun c_27 => ?_)
          · skip
            exact absurd c_27 (by decide)
          · skip
            refine lv_iconst (v := 1) hx hb dX6_addWay_59 (by decide) ?_
            refine lv_goto (tgt := 84) hx hb dX6_addWay_60 (by decide) ?_
            refine lv_rep0 (x := 1) (y := nI 1) rfl ?_
            refine rCallI (C := RX6) (As := [.int (nI 1)]) (rest := []) ⟨hx, hb, hml, hown, hts⟩ fx hw (kX6_fails l G hG hF σ 1 (by omega)) (cwV 1 hts gX6_addWay_X6_fails rfl rfl rfl (by decide +kernel) ⟨Nat.le_of_ble_eq_true rfl, Nat.le_of_ble_eq_true rfl⟩) (hF.1 31 (by decide)) rfl rfl rfl rfl hl.1 rfl (Nat.le_of_ble_eq_true rfl) dX6_addWay_84 ⟨Nat.zero_le _, Nat.zero_le _⟩ ?_
            intro r_29 σ_30 H locs p_28 hw
            obtain ⟨er_29, eσ_30⟩ := p_28
            have er_29 := er_29.symm; subst er_29
            refine lv_b_eq (tgt := 92) hx hb dX6_addWay_87 (by decide) (fun c_31 => ?_) (fun c_31 => ?_)
            · skip
              exact absurd c_31 (by decide)
            · skip
              refine lv_iconst (v := 0) hx hb dX6_addWay_90 (by decide) ?_
              subst eσ_30
              exact rRetI hx hb hr hw (by first | exact Or.inr (Or.inl ⟨by simp [c_4], rfl⟩) | exact Or.inr (Or.inr (Or.inl ⟨by simp [c_4], by unfold rgtB; first | (rw [c_26]; exact Bool.and_false _) | (rw [show (decide (ix x < ix y) || (decide (ix y = 0) && decide (0 < ix x))) = false by simp; omega]; rfl), rfl⟩)) | exact Or.inr (Or.inr (Or.inr ⟨by simp [c_4], by unfold rgtB; rw [show (decide (ix x < ix y) || (decide (ix y = 0) && decide (0 < ix x))) = true by simp only [Bool.or_eq_true, Bool.and_eq_true, decide_eq_true_eq]; omega]; rw [Bool.true_and]; assumption, by simp; omega, rfl⟩))) hlocks dX6_addWay_91
        · skip
          refine lv_iload_n hx hb dX6_addWay_36 rfl (lv_at hl 4 rfl) ?_
          refine lv_iconst (v := 1) hx hb dX6_addWay_37 (by decide) ?_
          refine lv_bipush (v := 100) hx hb dX6_addWay_38 (by decide) ?_
          refine rCallS (As := [.int w, .int 1, .int 100]) (rest := []) ⟨hx, hb, hml, hown, hts⟩ fx hw (kX6_isIn l G hG hF σ w 1 100) (va_cwS 3 hts gX6_addWay_X6_isIn rfl rfl rfl (by decide +kernel) ⟨Nat.le_of_ble_eq_true rfl, Nat.le_of_ble_eq_true rfl⟩) rfl hl.1 rfl (Nat.le_of_ble_eq_true rfl) dX6_addWay_40 ⟨Nat.zero_le _, Nat.zero_le _⟩ ?_
          intro r_33 σ_34 H locs p_32 hw
          obtain ⟨er_33, eσ_34⟩ := p_32
          have er_33 := er_33.symm; subst er_33
          have eσ_34 := eσ_34.symm; subst eσ_34
          refine lv_b_eq (tgt := 50) hx hb dX6_addWay_43 (by decide) (fun c_35 => ?_) (fun c_35 => ?_)
          · skip
            refine lv_iconst (v := 0) hx hb dX6_addWay_50 (by decide) ?_
            refine lv_istore (lv' := [(5, .int 0), (4, .int 0), (0, .ref (gad G 31)), (1, .int x), (2, .int y), (3, .int w)]) hx hb dX6_addWay_51 hl (by decide) rfl (fun ls hl => ?_)
            refine lv_aload_n hx hb dX6_addWay_53 rfl (lv_at hl 2 rfl) ?_
            refine lv_iload hx hb dX6_addWay_54 (lv_at hl 1 rfl) ?_
            refine lv_if_ne (tgt := 63) hx hb dX6_addWay_56 (by decide) (fun c_36 => ?_) (fun c_36 => ?_)
            · skip
              exact absurd c_36 (by decide)
            · skip
              refine lv_iconst (v := 1) hx hb dX6_addWay_59 (by decide) ?_
              refine lv_goto (tgt := 84) hx hb dX6_addWay_60 (by decide) ?_
              refine lv_rep0 (x := 1) (y := nI 1) rfl ?_
              refine rCallI (C := RX6) (As := [.int (nI 1)]) (rest := []) ⟨hx, hb, hml, hown, hts⟩ fx hw (kX6_fails l G hG hF σ 1 (by omega)) (cwV 1 hts gX6_addWay_X6_fails rfl rfl rfl (by decide +kernel) ⟨Nat.le_of_ble_eq_true rfl, Nat.le_of_ble_eq_true rfl⟩) (hF.1 31 (by decide)) rfl rfl rfl rfl hl.1 rfl (Nat.le_of_ble_eq_true rfl) dX6_addWay_84 ⟨Nat.zero_le _, Nat.zero_le _⟩ ?_
              intro r_38 σ_39 H locs p_37 hw
              obtain ⟨er_38, eσ_39⟩ := p_37
              have er_38 := er_38.symm; subst er_38
              refine lv_b_eq (tgt := 92) hx hb dX6_addWay_87 (by decide) (fun c_40 => ?_) (fun c_40 => ?_)
              · skip
                exact absurd c_40 (by decide)
              · skip
                refine lv_iconst (v := 0) hx hb dX6_addWay_90 (by decide) ?_
                subst eσ_39
                exact rRetI hx hb hr hw (by first | exact Or.inr (Or.inl ⟨by simp [c_4, c_35], rfl⟩) | exact Or.inr (Or.inr (Or.inl ⟨by simp [c_4, c_35], by unfold rgtB; first | (rw [c_35]; exact Bool.and_false _) | (rw [show (decide (ix x < ix y) || (decide (ix y = 0) && decide (0 < ix x))) = false by simp; omega]; rfl), rfl⟩)) | exact Or.inr (Or.inr (Or.inr ⟨by simp [c_4, c_35], by unfold rgtB; rw [show (decide (ix x < ix y) || (decide (ix y = 0) && decide (0 < ix x))) = true by simp only [Bool.or_eq_true, Bool.and_eq_true, decide_eq_true_eq]; omega]; rw [Bool.true_and]; assumption, by simp; omega, rfl⟩))) hlocks dX6_addWay_91
          · skip
            refine lv_iconst (v := 1) hx hb dX6_addWay_46 (by decide) ?_
            refine lv_goto (tgt := 51) hx hb dX6_addWay_47 (by decide) ?_
            refine lv_istore (lv' := [(5, .int 1), (4, .int 0), (0, .ref (gad G 31)), (1, .int x), (2, .int y), (3, .int w)]) hx hb dX6_addWay_51 hl (by decide) rfl (fun ls hl => ?_)
            refine lv_aload_n hx hb dX6_addWay_53 rfl (lv_at hl 2 rfl) ?_
            refine lv_iload hx hb dX6_addWay_54 (lv_at hl 1 rfl) ?_
            refine lv_if_ne (tgt := 63) hx hb dX6_addWay_56 (by decide) (fun c_41 => ?_) (fun c_41 => ?_)
            · skip
              exact absurd c_41 (by decide)
            · skip
              refine lv_iconst (v := 1) hx hb dX6_addWay_59 (by decide) ?_
              refine lv_goto (tgt := 84) hx hb dX6_addWay_60 (by decide) ?_
              refine lv_rep0 (x := 1) (y := nI 1) rfl ?_
              refine rCallI (C := RX6) (As := [.int (nI 1)]) (rest := []) ⟨hx, hb, hml, hown, hts⟩ fx hw (kX6_fails l G hG hF σ 1 (by omega)) (cwV 1 hts gX6_addWay_X6_fails rfl rfl rfl (by decide +kernel) ⟨Nat.le_of_ble_eq_true rfl, Nat.le_of_ble_eq_true rfl⟩) (hF.1 31 (by decide)) rfl rfl rfl rfl hl.1 rfl (Nat.le_of_ble_eq_true rfl) dX6_addWay_84 ⟨Nat.zero_le _, Nat.zero_le _⟩ ?_
              intro r_43 σ_44 H locs p_42 hw
              obtain ⟨er_43, eσ_44⟩ := p_42
              have er_43 := er_43.symm; subst er_43
              refine lv_b_eq (tgt := 92) hx hb dX6_addWay_87 (by decide) (fun c_45 => ?_) (fun c_45 => ?_)
              · skip
                exact absurd c_45 (by decide)
              · skip
                refine lv_iconst (v := 0) hx hb dX6_addWay_90 (by decide) ?_
                subst eσ_44
                exact rRetI hx hb hr hw (by first | exact Or.inr (Or.inl ⟨by simp [c_4, c_35], rfl⟩) | exact Or.inr (Or.inr (Or.inl ⟨by simp [c_4, c_35], by unfold rgtB; first | (rw [c_35]; exact Bool.and_false _) | (rw [show (decide (ix x < ix y) || (decide (ix y = 0) && decide (0 < ix x))) = false by simp; omega]; rfl), rfl⟩)) | exact Or.inr (Or.inr (Or.inr ⟨by simp [c_4, c_35], by unfold rgtB; rw [show (decide (ix x < ix y) || (decide (ix y = 0) && decide (0 < ix x))) = true by simp only [Bool.or_eq_true, Bool.and_eq_true, decide_eq_true_eq]; omega]; rw [Bool.true_and]; assumption, by simp; omega, rfl⟩))) hlocks dX6_addWay_91
  · skip
    refine lv_aload_n hx hb dX6_addWay_8 rfl (lv_at hl 0 rfl) ?_
    refine lv_iload_n hx hb dX6_addWay_9 rfl (lv_at hl 2 rfl) ?_
    refine rCallI (C := RX6) (As := [.int y]) (rest := []) ⟨hx, hb, hml, hown, hts⟩ fx hw (kX6_isGate l G hG hF σ y g (by subst_vars; exact hmg) (by omega)) (cwV 1 hts gX6_addWay_X6_isGate rfl rfl rfl (by decide +kernel) ⟨Nat.le_of_ble_eq_true rfl, Nat.le_of_ble_eq_true rfl⟩) (hF.1 31 (by decide)) rfl rfl rfl rfl hl.1 rfl (Nat.le_of_ble_eq_true rfl) dX6_addWay_10 ⟨Nat.zero_le _, Nat.zero_le _⟩ ?_
    intro r_47 σ_48 H locs p_46 hw
    obtain ⟨er_47, eσ_48⟩ := p_46
    have er_47 := er_47.symm; subst er_47
    have eσ_48 := eσ_48.symm; subst eσ_48
    refine lv_b_eq (tgt := 20) hx hb dX6_addWay_13 (by decide) (fun c_49 => ?_) (fun c_49 => ?_)
    · skip
      refine lv_iconst (v := 0) hx hb dX6_addWay_20 (by decide) ?_
      refine lv_istore (lv' := [(4, .int 0), (0, .ref (gad G 31)), (1, .int x), (2, .int y), (3, .int w)]) hx hb dX6_addWay_21 hl (by decide) rfl (fun ls hl => ?_)
      refine lv_iload_n hx hb dX6_addWay_23 rfl (lv_at hl 3 rfl) ?_
      refine lv_iload_n hx hb dX6_addWay_24 rfl (lv_at hl 2 rfl) ?_
      refine lv_icmp_gt (tgt := 36) hx hb dX6_addWay_25 (by decide) (fun c_50 => ?_) (fun c_50 => ?_)
      · skip
        refine lv_iload_n hx hb dX6_addWay_36 rfl (lv_at hl 4 rfl) ?_
        refine lv_iconst (v := 1) hx hb dX6_addWay_37 (by decide) ?_
        refine lv_bipush (v := 100) hx hb dX6_addWay_38 (by decide) ?_
        refine rCallS (As := [.int w, .int 1, .int 100]) (rest := []) ⟨hx, hb, hml, hown, hts⟩ fx hw (kX6_isIn l G hG hF σ w 1 100) (va_cwS 3 hts gX6_addWay_X6_isIn rfl rfl rfl (by decide +kernel) ⟨Nat.le_of_ble_eq_true rfl, Nat.le_of_ble_eq_true rfl⟩) rfl hl.1 rfl (Nat.le_of_ble_eq_true rfl) dX6_addWay_40 ⟨Nat.zero_le _, Nat.zero_le _⟩ ?_
        intro r_52 σ_53 H locs p_51 hw
        obtain ⟨er_52, eσ_53⟩ := p_51
        have er_52 := er_52.symm; subst er_52
        have eσ_53 := eσ_53.symm; subst eσ_53
        refine lv_b_eq (tgt := 50) hx hb dX6_addWay_43 (by decide) (fun c_54 => ?_) (fun c_54 => ?_)
        · skip
          refine lv_iconst (v := 0) hx hb dX6_addWay_50 (by decide) ?_
          refine lv_istore (lv' := [(5, .int 0), (4, .int 0), (0, .ref (gad G 31)), (1, .int x), (2, .int y), (3, .int w)]) hx hb dX6_addWay_51 hl (by decide) rfl (fun ls hl => ?_)
          refine lv_aload_n hx hb dX6_addWay_53 rfl (lv_at hl 2 rfl) ?_
          refine lv_iload hx hb dX6_addWay_54 (lv_at hl 1 rfl) ?_
          refine lv_if_ne (tgt := 63) hx hb dX6_addWay_56 (by decide) (fun c_55 => ?_) (fun c_55 => ?_)
          · skip
            exact absurd c_55 (by decide)
          · skip
            refine lv_iconst (v := 1) hx hb dX6_addWay_59 (by decide) ?_
            refine lv_goto (tgt := 84) hx hb dX6_addWay_60 (by decide) ?_
            refine lv_rep0 (x := 1) (y := nI 1) rfl ?_
            refine rCallI (C := RX6) (As := [.int (nI 1)]) (rest := []) ⟨hx, hb, hml, hown, hts⟩ fx hw (kX6_fails l G hG hF σ 1 (by omega)) (cwV 1 hts gX6_addWay_X6_fails rfl rfl rfl (by decide +kernel) ⟨Nat.le_of_ble_eq_true rfl, Nat.le_of_ble_eq_true rfl⟩) (hF.1 31 (by decide)) rfl rfl rfl rfl hl.1 rfl (Nat.le_of_ble_eq_true rfl) dX6_addWay_84 ⟨Nat.zero_le _, Nat.zero_le _⟩ ?_
            intro r_57 σ_58 H locs p_56 hw
            obtain ⟨er_57, eσ_58⟩ := p_56
            have er_57 := er_57.symm; subst er_57
            refine lv_b_eq (tgt := 92) hx hb dX6_addWay_87 (by decide) (fun c_59 => ?_) (fun c_59 => ?_)
            · skip
              exact absurd c_59 (by decide)
            · skip
              refine lv_iconst (v := 0) hx hb dX6_addWay_90 (by decide) ?_
              subst eσ_58
              exact rRetI hx hb hr hw (by first | exact Or.inr (Or.inl ⟨by simp [c_4, c_49, c_54], rfl⟩) | exact Or.inr (Or.inr (Or.inl ⟨by simp [c_4, c_49, c_54], by unfold rgtB; first | (rw [c_54]; exact Bool.and_false _) | (rw [show (decide (ix x < ix y) || (decide (ix y = 0) && decide (0 < ix x))) = false by simp; omega]; rfl), rfl⟩)) | exact Or.inr (Or.inr (Or.inr ⟨by simp [c_4, c_49, c_54], by unfold rgtB; rw [show (decide (ix x < ix y) || (decide (ix y = 0) && decide (0 < ix x))) = true by simp only [Bool.or_eq_true, Bool.and_eq_true, decide_eq_true_eq]; omega]; rw [Bool.true_and]; assumption, by simp; omega, rfl⟩))) hlocks dX6_addWay_91
        · skip
          refine lv_iconst (v := 1) hx hb dX6_addWay_46 (by decide) ?_
          refine lv_goto (tgt := 51) hx hb dX6_addWay_47 (by decide) ?_
          refine lv_istore (lv' := [(5, .int 1), (4, .int 0), (0, .ref (gad G 31)), (1, .int x), (2, .int y), (3, .int w)]) hx hb dX6_addWay_51 hl (by decide) rfl (fun ls hl => ?_)
          refine lv_aload_n hx hb dX6_addWay_53 rfl (lv_at hl 2 rfl) ?_
          refine lv_iload hx hb dX6_addWay_54 (lv_at hl 1 rfl) ?_
          refine lv_if_ne (tgt := 63) hx hb dX6_addWay_56 (by decide) (fun c_60 => ?_) (fun c_60 => ?_)
          · skip
            exact absurd c_60 (by decide)
          · skip
            refine lv_iconst (v := 1) hx hb dX6_addWay_59 (by decide) ?_
            refine lv_goto (tgt := 84) hx hb dX6_addWay_60 (by decide) ?_
            refine lv_rep0 (x := 1) (y := nI 1) rfl ?_
            refine rCallI (C := RX6) (As := [.int (nI 1)]) (rest := []) ⟨hx, hb, hml, hown, hts⟩ fx hw (kX6_fails l G hG hF σ 1 (by omega)) (cwV 1 hts gX6_addWay_X6_fails rfl rfl rfl (by decide +kernel) ⟨Nat.le_of_ble_eq_true rfl, Nat.le_of_ble_eq_true rfl⟩) (hF.1 31 (by decide)) rfl rfl rfl rfl hl.1 rfl (Nat.le_of_ble_eq_true rfl) dX6_addWay_84 ⟨Nat.zero_le _, Nat.zero_le _⟩ ?_
            intro r_62 σ_63 H locs p_61 hw
            obtain ⟨er_62, eσ_63⟩ := p_61
            have er_62 := er_62.symm; subst er_62
            refine lv_b_eq (tgt := 92) hx hb dX6_addWay_87 (by decide) (fun c_64 => ?_) (fun c_64 => ?_)
            · skip
              exact absurd c_64 (by decide)
            · skip
              refine lv_iconst (v := 0) hx hb dX6_addWay_90 (by decide) ?_
              subst eσ_63
              exact rRetI hx hb hr hw (by first | exact Or.inr (Or.inl ⟨by simp [c_4, c_49, c_54], rfl⟩) | exact Or.inr (Or.inr (Or.inl ⟨by simp [c_4, c_49, c_54], by unfold rgtB; first | (rw [c_54]; exact Bool.and_false _) | (rw [show (decide (ix x < ix y) || (decide (ix y = 0) && decide (0 < ix x))) = false by simp; omega]; rfl), rfl⟩)) | exact Or.inr (Or.inr (Or.inr ⟨by simp [c_4, c_49, c_54], by unfold rgtB; rw [show (decide (ix x < ix y) || (decide (ix y = 0) && decide (0 < ix x))) = true by simp only [Bool.or_eq_true, Bool.and_eq_true, decide_eq_true_eq]; omega]; rw [Bool.true_and]; assumption, by simp; omega, rfl⟩))) hlocks dX6_addWay_91
      · skip
        refine lv_iload_n hx hb dX6_addWay_28 rfl (lv_at hl 3 rfl) ?_
        refine lv_if_ne (tgt := 50) hx hb dX6_addWay_29 (by decide) (fun c_65 => ?_) (fun c_65 => ?_)
        · skip
          refine lv_iconst (v := 0) hx hb dX6_addWay_50 (by decide) ?_
          refine lv_istore (lv' := [(5, .int 0), (4, .int 0), (0, .ref (gad G 31)), (1, .int x), (2, .int y), (3, .int w)]) hx hb dX6_addWay_51 hl (by decide) rfl (fun ls hl => ?_)
          refine lv_aload_n hx hb dX6_addWay_53 rfl (lv_at hl 2 rfl) ?_
          refine lv_iload hx hb dX6_addWay_54 (lv_at hl 1 rfl) ?_
          refine lv_if_ne (tgt := 63) hx hb dX6_addWay_56 (by decide) (fun c_66 => ?_) (fun c_66 => ?_)
          · skip
            exact absurd c_66 (by decide)
          · skip
            refine lv_iconst (v := 1) hx hb dX6_addWay_59 (by decide) ?_
            refine lv_goto (tgt := 84) hx hb dX6_addWay_60 (by decide) ?_
            refine lv_rep0 (x := 1) (y := nI 1) rfl ?_
            refine rCallI (C := RX6) (As := [.int (nI 1)]) (rest := []) ⟨hx, hb, hml, hown, hts⟩ fx hw (kX6_fails l G hG hF σ 1 (by omega)) (cwV 1 hts gX6_addWay_X6_fails rfl rfl rfl (by decide +kernel) ⟨Nat.le_of_ble_eq_true rfl, Nat.le_of_ble_eq_true rfl⟩) (hF.1 31 (by decide)) rfl rfl rfl rfl hl.1 rfl (Nat.le_of_ble_eq_true rfl) dX6_addWay_84 ⟨Nat.zero_le _, Nat.zero_le _⟩ ?_
            intro r_68 σ_69 H locs p_67 hw
            obtain ⟨er_68, eσ_69⟩ := p_67
            have er_68 := er_68.symm; subst er_68
            refine lv_b_eq (tgt := 92) hx hb dX6_addWay_87 (by decide) (fun c_70 => ?_) (fun c_70 => ?_)
            · skip
              exact absurd c_70 (by decide)
            · skip
              refine lv_iconst (v := 0) hx hb dX6_addWay_90 (by decide) ?_
              subst eσ_69
              exact rRetI hx hb hr hw (by first | exact Or.inr (Or.inl ⟨by simp [c_4, c_49], rfl⟩) | exact Or.inr (Or.inr (Or.inl ⟨by simp [c_4, c_49], by unfold rgtB; first | (rw [c_65]; exact Bool.and_false _) | (rw [show (decide (ix x < ix y) || (decide (ix y = 0) && decide (0 < ix x))) = false by simp; omega]; rfl), rfl⟩)) | exact Or.inr (Or.inr (Or.inr ⟨by simp [c_4, c_49], by unfold rgtB; rw [show (decide (ix x < ix y) || (decide (ix y = 0) && decide (0 < ix x))) = true by simp only [Bool.or_eq_true, Bool.and_eq_true, decide_eq_true_eq]; omega]; rw [Bool.true_and]; assumption, by simp; omega, rfl⟩))) hlocks dX6_addWay_91
        · skip
          refine lv_iload_n hx hb dX6_addWay_32 rfl (lv_at hl 2 rfl) ?_
          refine lv_if_le (tgt := 50) hx hb dX6_addWay_33 (by decide) (fun c_71 => ?_) (fun c_71 => ?_)
          · skip
            refine lv_iconst (v := 0) hx hb dX6_addWay_50 (by decide) ?_
            refine lv_istore (lv' := [(5, .int 0), (4, .int 0), (0, .ref (gad G 31)), (1, .int x), (2, .int y), (3, .int w)]) hx hb dX6_addWay_51 hl (by decide) rfl (fun ls hl => ?_)
            refine lv_aload_n hx hb dX6_addWay_53 rfl (lv_at hl 2 rfl) ?_
            refine lv_iload hx hb dX6_addWay_54 (lv_at hl 1 rfl) ?_
            refine lv_if_ne (tgt := 63) hx hb dX6_addWay_56 (by decide) (fun c_72 => ?_) (fun c_72 => ?_)
            · skip
              exact absurd c_72 (by decide)
            · skip
              refine lv_iconst (v := 1) hx hb dX6_addWay_59 (by decide) ?_
              refine lv_goto (tgt := 84) hx hb dX6_addWay_60 (by decide) ?_
              refine lv_rep0 (x := 1) (y := nI 1) rfl ?_
              refine rCallI (C := RX6) (As := [.int (nI 1)]) (rest := []) ⟨hx, hb, hml, hown, hts⟩ fx hw (kX6_fails l G hG hF σ 1 (by omega)) (cwV 1 hts gX6_addWay_X6_fails rfl rfl rfl (by decide +kernel) ⟨Nat.le_of_ble_eq_true rfl, Nat.le_of_ble_eq_true rfl⟩) (hF.1 31 (by decide)) rfl rfl rfl rfl hl.1 rfl (Nat.le_of_ble_eq_true rfl) dX6_addWay_84 ⟨Nat.zero_le _, Nat.zero_le _⟩ ?_
              intro r_74 σ_75 H locs p_73 hw
              obtain ⟨er_74, eσ_75⟩ := p_73
              have er_74 := er_74.symm; subst er_74
              refine lv_b_eq (tgt := 92) hx hb dX6_addWay_87 (by decide) (fun c_76 => ?_) (fun c_76 => ?_)
              · skip
                exact absurd c_76 (by decide)
              · skip
                refine lv_iconst (v := 0) hx hb dX6_addWay_90 (by decide) ?_
                subst eσ_75
                exact rRetI hx hb hr hw (by first | exact Or.inr (Or.inl ⟨by simp [c_4, c_49], rfl⟩) | exact Or.inr (Or.inr (Or.inl ⟨by simp [c_4, c_49], by unfold rgtB; first | (rw [c_71]; exact Bool.and_false _) | (rw [show (decide (ix x < ix y) || (decide (ix y = 0) && decide (0 < ix x))) = false by simp; omega]; rfl), rfl⟩)) | exact Or.inr (Or.inr (Or.inr ⟨by simp [c_4, c_49], by unfold rgtB; rw [show (decide (ix x < ix y) || (decide (ix y = 0) && decide (0 < ix x))) = true by simp only [Bool.or_eq_true, Bool.and_eq_true, decide_eq_true_eq]; omega]; rw [Bool.true_and]; assumption, by simp; omega, rfl⟩))) hlocks dX6_addWay_91
          · skip
            refine lv_iload_n hx hb dX6_addWay_36 rfl (lv_at hl 4 rfl) ?_
            refine lv_iconst (v := 1) hx hb dX6_addWay_37 (by decide) ?_
            refine lv_bipush (v := 100) hx hb dX6_addWay_38 (by decide) ?_
            refine rCallS (As := [.int w, .int 1, .int 100]) (rest := []) ⟨hx, hb, hml, hown, hts⟩ fx hw (kX6_isIn l G hG hF σ w 1 100) (va_cwS 3 hts gX6_addWay_X6_isIn rfl rfl rfl (by decide +kernel) ⟨Nat.le_of_ble_eq_true rfl, Nat.le_of_ble_eq_true rfl⟩) rfl hl.1 rfl (Nat.le_of_ble_eq_true rfl) dX6_addWay_40 ⟨Nat.zero_le _, Nat.zero_le _⟩ ?_
            intro r_78 σ_79 H locs p_77 hw
            obtain ⟨er_78, eσ_79⟩ := p_77
            have er_78 := er_78.symm; subst er_78
            have eσ_79 := eσ_79.symm; subst eσ_79
            refine lv_b_eq (tgt := 50) hx hb dX6_addWay_43 (by decide) (fun c_80 => ?_) (fun c_80 => ?_)
            · skip
              refine lv_iconst (v := 0) hx hb dX6_addWay_50 (by decide) ?_
              refine lv_istore (lv' := [(5, .int 0), (4, .int 0), (0, .ref (gad G 31)), (1, .int x), (2, .int y), (3, .int w)]) hx hb dX6_addWay_51 hl (by decide) rfl (fun ls hl => ?_)
              refine lv_aload_n hx hb dX6_addWay_53 rfl (lv_at hl 2 rfl) ?_
              refine lv_iload hx hb dX6_addWay_54 (lv_at hl 1 rfl) ?_
              refine lv_if_ne (tgt := 63) hx hb dX6_addWay_56 (by decide) (fun c_81 => ?_) (fun c_81 => ?_)
              · skip
                exact absurd c_81 (by decide)
              · skip
                refine lv_iconst (v := 1) hx hb dX6_addWay_59 (by decide) ?_
                refine lv_goto (tgt := 84) hx hb dX6_addWay_60 (by decide) ?_
                refine lv_rep0 (x := 1) (y := nI 1) rfl ?_
                refine rCallI (C := RX6) (As := [.int (nI 1)]) (rest := []) ⟨hx, hb, hml, hown, hts⟩ fx hw (kX6_fails l G hG hF σ 1 (by omega)) (cwV 1 hts gX6_addWay_X6_fails rfl rfl rfl (by decide +kernel) ⟨Nat.le_of_ble_eq_true rfl, Nat.le_of_ble_eq_true rfl⟩) (hF.1 31 (by decide)) rfl rfl rfl rfl hl.1 rfl (Nat.le_of_ble_eq_true rfl) dX6_addWay_84 ⟨Nat.zero_le _, Nat.zero_le _⟩ ?_
                intro r_83 σ_84 H locs p_82 hw
                obtain ⟨er_83, eσ_84⟩ := p_82
                have er_83 := er_83.symm; subst er_83
                refine lv_b_eq (tgt := 92) hx hb dX6_addWay_87 (by decide) (fun c_85 => ?_) (fun c_85 => ?_)
                · skip
                  exact absurd c_85 (by decide)
                · skip
                  refine lv_iconst (v := 0) hx hb dX6_addWay_90 (by decide) ?_
                  subst eσ_84
                  exact rRetI hx hb hr hw (by first | exact Or.inr (Or.inl ⟨by simp [c_4, c_49, c_80], rfl⟩) | exact Or.inr (Or.inr (Or.inl ⟨by simp [c_4, c_49, c_80], by unfold rgtB; first | (rw [c_80]; exact Bool.and_false _) | (rw [show (decide (ix x < ix y) || (decide (ix y = 0) && decide (0 < ix x))) = false by simp; omega]; rfl), rfl⟩)) | exact Or.inr (Or.inr (Or.inr ⟨by simp [c_4, c_49, c_80], by unfold rgtB; rw [show (decide (ix x < ix y) || (decide (ix y = 0) && decide (0 < ix x))) = true by simp only [Bool.or_eq_true, Bool.and_eq_true, decide_eq_true_eq]; omega]; rw [Bool.true_and]; assumption, by simp; omega, rfl⟩))) hlocks dX6_addWay_91
            · skip
              refine lv_iconst (v := 1) hx hb dX6_addWay_46 (by decide) ?_
              refine lv_goto (tgt := 51) hx hb dX6_addWay_47 (by decide) ?_
              refine lv_istore (lv' := [(5, .int 1), (4, .int 0), (0, .ref (gad G 31)), (1, .int x), (2, .int y), (3, .int w)]) hx hb dX6_addWay_51 hl (by decide) rfl (fun ls hl => ?_)
              refine lv_aload_n hx hb dX6_addWay_53 rfl (lv_at hl 2 rfl) ?_
              refine lv_iload hx hb dX6_addWay_54 (lv_at hl 1 rfl) ?_
              refine lv_if_ne (tgt := 63) hx hb dX6_addWay_56 (by decide) (fun c_86 => ?_) (fun c_86 => ?_)
              · skip
                exact absurd c_86 (by decide)
              · skip
                refine lv_iconst (v := 1) hx hb dX6_addWay_59 (by decide) ?_
                refine lv_goto (tgt := 84) hx hb dX6_addWay_60 (by decide) ?_
                refine lv_rep0 (x := 1) (y := nI 1) rfl ?_
                refine rCallI (C := RX6) (As := [.int (nI 1)]) (rest := []) ⟨hx, hb, hml, hown, hts⟩ fx hw (kX6_fails l G hG hF σ 1 (by omega)) (cwV 1 hts gX6_addWay_X6_fails rfl rfl rfl (by decide +kernel) ⟨Nat.le_of_ble_eq_true rfl, Nat.le_of_ble_eq_true rfl⟩) (hF.1 31 (by decide)) rfl rfl rfl rfl hl.1 rfl (Nat.le_of_ble_eq_true rfl) dX6_addWay_84 ⟨Nat.zero_le _, Nat.zero_le _⟩ ?_
                intro r_88 σ_89 H locs p_87 hw
                obtain ⟨er_88, eσ_89⟩ := p_87
                have er_88 := er_88.symm; subst er_88
                refine lv_b_eq (tgt := 92) hx hb dX6_addWay_87 (by decide) (fun c_90 => ?_) (fun c_90 => ?_)
                · skip
                  exact absurd c_90 (by decide)
                · skip
                  refine lv_iconst (v := 0) hx hb dX6_addWay_90 (by decide) ?_
                  subst eσ_89
                  exact rRetI hx hb hr hw (by first | exact Or.inr (Or.inl ⟨by simp [c_4, c_49, c_80], rfl⟩) | exact Or.inr (Or.inr (Or.inl ⟨by simp [c_4, c_49, c_80], by unfold rgtB; first | (rw [c_80]; exact Bool.and_false _) | (rw [show (decide (ix x < ix y) || (decide (ix y = 0) && decide (0 < ix x))) = false by simp; omega]; rfl), rfl⟩)) | exact Or.inr (Or.inr (Or.inr ⟨by simp [c_4, c_49, c_80], by unfold rgtB; rw [show (decide (ix x < ix y) || (decide (ix y = 0) && decide (0 < ix x))) = true by simp only [Bool.or_eq_true, Bool.and_eq_true, decide_eq_true_eq]; omega]; rw [Bool.true_and]; assumption, by simp; omega, rfl⟩))) hlocks dX6_addWay_91
    · skip
      refine lv_iconst (v := 1) hx hb dX6_addWay_16 (by decide) ?_
      refine lv_goto (tgt := 21) hx hb dX6_addWay_17 (by decide) ?_
      refine lv_istore (lv' := [(4, .int 1), (0, .ref (gad G 31)), (1, .int x), (2, .int y), (3, .int w)]) hx hb dX6_addWay_21 hl (by decide) rfl (fun ls hl => ?_)
      have hx9 := inB_ix (by omega) c_4
      have q_91 : x = (nI (ix x)) := by exact hx9.1
      have hl : lv_has ls 7 [(4, .int 1), (0, .ref (gad G 31)), (1, .int (nI (ix x))), (2, .int y), (3, .int w)] := (lv_c (lv_at hl 0 rfl) (lv_c (lv_at hl 1 rfl) (lv_c (lv_atq hl 2 rfl q_91) (lv_c (lv_at hl 3 rfl) (lv_c (lv_at hl 4 rfl) (lv_c0 hl))))))
      have hy9 := inB_ix (by omega) c_49
      have q_92 : y = (nI (ix y)) := by exact hy9.1
      have hl : lv_has ls 7 [(4, .int 1), (0, .ref (gad G 31)), (1, .int (nI (ix x))), (2, .int (nI (ix y))), (3, .int w)] := (lv_c (lv_at hl 0 rfl) (lv_c (lv_at hl 1 rfl) (lv_c (lv_at hl 2 rfl) (lv_c (lv_atq hl 3 rfl q_92) (lv_c (lv_at hl 4 rfl) (lv_c0 hl))))))
      refine lv_iload_n hx hb dX6_addWay_23 rfl (lv_at hl 3 rfl) ?_
      refine lv_iload_n hx hb dX6_addWay_24 rfl (lv_at hl 2 rfl) ?_
      refine lv_icmp_gt (tgt := 36) hx hb dX6_addWay_25 (by decide) (fun c_93 => ?_) (fun c_93 => ?_)
      · skip
        have c_93 : (ix x) < (ix y) := (nI_ltI (by omega) (by omega)).mp c_93
        refine lv_iload_n hx hb dX6_addWay_36 rfl (lv_at hl 4 rfl) ?_
        refine lv_iconst (v := 1) hx hb dX6_addWay_37 (by decide) ?_
        refine lv_bipush (v := 100) hx hb dX6_addWay_38 (by decide) ?_
        refine rCallS (As := [.int w, .int 1, .int 100]) (rest := []) ⟨hx, hb, hml, hown, hts⟩ fx hw (kX6_isIn l G hG hF σ w 1 100) (va_cwS 3 hts gX6_addWay_X6_isIn rfl rfl rfl (by decide +kernel) ⟨Nat.le_of_ble_eq_true rfl, Nat.le_of_ble_eq_true rfl⟩) rfl hl.1 rfl (Nat.le_of_ble_eq_true rfl) dX6_addWay_40 ⟨Nat.zero_le _, Nat.zero_le _⟩ ?_
        intro r_95 σ_96 H locs p_94 hw
        obtain ⟨er_95, eσ_96⟩ := p_94
        have er_95 := er_95.symm; subst er_95
        have eσ_96 := eσ_96.symm; subst eσ_96
        refine lv_b_eq (tgt := 50) hx hb dX6_addWay_43 (by decide) (fun c_97 => ?_) (fun c_97 => ?_)
        · skip
          refine lv_iconst (v := 0) hx hb dX6_addWay_50 (by decide) ?_
          refine lv_istore (lv' := [(5, .int 0), (4, .int 1), (0, .ref (gad G 31)), (1, .int (nI (ix x))), (2, .int (nI (ix y))), (3, .int w)]) hx hb dX6_addWay_51 hl (by decide) rfl (fun ls hl => ?_)
          refine lv_aload_n hx hb dX6_addWay_53 rfl (lv_at hl 2 rfl) ?_
          refine lv_iload hx hb dX6_addWay_54 (lv_at hl 1 rfl) ?_
          refine lv_if_ne (tgt := 63) hx hb dX6_addWay_56 (by decide) (fun c_98 => ?_) (fun c_98 => ?_)
          · skip
            refine lv_iload hx hb dX6_addWay_63 (lv_at hl 0 rfl) ?_
            refine lv_if_ne (tgt := 72) hx hb dX6_addWay_65 (by decide) (fun c_99 => ?_) (fun c_99 => ?_)
            · skip
              exact absurd c_99 (by decide)
            · skip
              refine lv_iconst (v := 2) hx hb dX6_addWay_68 (by decide) ?_
              refine lv_goto (tgt := 84) hx hb dX6_addWay_69 (by decide) ?_
              refine lv_rep0 (x := 2) (y := nI 2) rfl ?_
              refine rCallI (C := RX6) (As := [.int (nI 2)]) (rest := []) ⟨hx, hb, hml, hown, hts⟩ fx hw (kX6_fails l G hG hF σ 2 (by omega)) (cwV 1 hts gX6_addWay_X6_fails rfl rfl rfl (by decide +kernel) ⟨Nat.le_of_ble_eq_true rfl, Nat.le_of_ble_eq_true rfl⟩) (hF.1 31 (by decide)) rfl rfl rfl rfl hl.1 rfl (Nat.le_of_ble_eq_true rfl) dX6_addWay_84 ⟨Nat.zero_le _, Nat.zero_le _⟩ ?_
              intro r_101 σ_102 H locs p_100 hw
              obtain ⟨er_101, eσ_102⟩ := p_100
              have er_101 := er_101.symm; subst er_101
              refine lv_b_eq (tgt := 92) hx hb dX6_addWay_87 (by decide) (fun c_103 => ?_) (fun c_103 => ?_)
              · skip
                exact absurd c_103 (by decide)
              · skip
                refine lv_iconst (v := 0) hx hb dX6_addWay_90 (by decide) ?_
                subst eσ_102
                exact rRetI hx hb hr hw (by first | exact Or.inr (Or.inl ⟨by simp [c_4, c_49, c_97], rfl⟩) | exact Or.inr (Or.inr (Or.inl ⟨by simp [c_4, c_49, c_97], by unfold rgtB; first | (rw [c_97]; exact Bool.and_false _) | (rw [show (decide (ix x < ix y) || (decide (ix y = 0) && decide (0 < ix x))) = false by simp; omega]; rfl), rfl⟩)) | exact Or.inr (Or.inr (Or.inr ⟨by simp [c_4, c_49, c_97], by unfold rgtB; rw [show (decide (ix x < ix y) || (decide (ix y = 0) && decide (0 < ix x))) = true by simp only [Bool.or_eq_true, Bool.and_eq_true, decide_eq_true_eq]; omega]; rw [Bool.true_and]; assumption, by simp; omega, rfl⟩))) hlocks dX6_addWay_91
          · skip
            exact absurd c_98 (by decide)
        · skip
          refine lv_iconst (v := 1) hx hb dX6_addWay_46 (by decide) ?_
          refine lv_goto (tgt := 51) hx hb dX6_addWay_47 (by decide) ?_
          refine lv_istore (lv' := [(5, .int 1), (4, .int 1), (0, .ref (gad G 31)), (1, .int (nI (ix x))), (2, .int (nI (ix y))), (3, .int w)]) hx hb dX6_addWay_51 hl (by decide) rfl (fun ls hl => ?_)
          refine lv_aload_n hx hb dX6_addWay_53 rfl (lv_at hl 2 rfl) ?_
          refine lv_iload hx hb dX6_addWay_54 (lv_at hl 1 rfl) ?_
          refine lv_if_ne (tgt := 63) hx hb dX6_addWay_56 (by decide) (fun c_104 => ?_) (fun c_104 => ?_)
          · skip
            refine lv_iload hx hb dX6_addWay_63 (lv_at hl 0 rfl) ?_
            refine lv_if_ne (tgt := 72) hx hb dX6_addWay_65 (by decide) (fun c_105 => ?_) (fun c_105 => ?_)
            · skip
              refine lv_aload_n hx hb dX6_addWay_72 rfl (lv_at hl 2 rfl) ?_
              refine rGet (v := .int (σ 31 6)) (C := RX6) (T := TX6) (N := 26) hx hb fx hown hts hin hw 31 (hF.1 31 (by decide)) rfl rfl 6 (by decide) (hts (.fieldLink RX6 67 "LeaguewheelModel" "started" "I") (by decide +kernel)) (fun _ h9 => h9) rfl dX6_addWay_73 ?_
              refine lv_rep0 (x := (σ 31 6)) (y := nI sd) (by exact hms) ?_
              refine lv_if_le (tgt := 83) hx hb dX6_addWay_76 (by decide) (fun c_106 => ?_) (fun c_106 => ?_)
              · skip
                have c_106 : sd = 0 := n0_let (by omega) c_106
                refine lv_iconst (v := 0) hx hb dX6_addWay_83 (by decide) ?_
                refine lv_rep0 (x := 0) (y := nI 0) rfl ?_
                refine rCallI (C := RX6) (As := [.int (nI 0)]) (rest := []) ⟨hx, hb, hml, hown, hts⟩ fx hw (kX6_fails l G hG hF σ 0 (by omega)) (cwV 1 hts gX6_addWay_X6_fails rfl rfl rfl (by decide +kernel) ⟨Nat.le_of_ble_eq_true rfl, Nat.le_of_ble_eq_true rfl⟩) (hF.1 31 (by decide)) rfl rfl rfl rfl hl.1 rfl (Nat.le_of_ble_eq_true rfl) dX6_addWay_84 ⟨Nat.zero_le _, Nat.zero_le _⟩ ?_
                intro r_108 σ_109 H locs p_107 hw
                obtain ⟨er_108, eσ_109⟩ := p_107
                have er_108 := er_108.symm; subst er_108
                refine lv_b_eq (tgt := 92) hx hb dX6_addWay_87 (by decide) (fun c_110 => ?_) (fun c_110 => ?_)
                · skip
                  refine lv_aload_n hx hb dX6_addWay_92 rfl (lv_at hl 2 rfl) ?_
                  refine rGet (v := .ref (gad G 32)) (C := RX6) (T := TX6) (N := 26) hx hb fx hown hts hin hw 31 (hF.1 31 (by decide)) rfl rfl 2 (by decide) (hts (.fieldLink RX6 13 "LeaguewheelModel" "length" "[I") (by decide +kernel)) (fun _ h9 => h9) rfl dX6_addWay_93 ?_
                  refine lv_bipush (v := 12) hx hb dX6_addWay_96 (by decide) ?_
                  refine lv_iload_n hx hb dX6_addWay_98 rfl (lv_at hl 3 rfl) ?_
                  refine lv_rep1 (x := 12) (y := nI 12) rfl ?_
                  refine lv_imul hx hb dX6_addWay_99 ?_
                  refine lv_rep0 (x := ((nI 12) * (nI (ix x)))) (y := nI (12 * (ix x))) (pk_mul _ _) ?_
                  refine lv_iload_n hx hb dX6_addWay_100 rfl (lv_at hl 4 rfl) ?_
                  refine lv_iadd hx hb dX6_addWay_101 ?_
                  refine lv_rep0 (x := ((nI (12 * (ix x))) + (nI (ix y)))) (y := nI ((12 * (ix x)) + (ix y))) (nI_add _ _) ?_
                  refine lv_rep0 (x := (nI ((12 * (ix x)) + (ix y)))) (y := nI (ix x * 12 + ix y)) (by rw [Nat.mul_comm 12]) ?_
                  refine rAld hx hb fx hw 32 (hF.1 32 (by decide)) hF.2.1 (fun _ => rfl) (ix x * 12 + ix y) rfl (by omega) (by decide) dX6_addWay_102 ?_
                  refine lv_istore (lv' := [(6, .int (σ_109 32 (ix x * 12 + ix y))), (5, .int 1), (4, .int 1), (0, .ref (gad G 31)), (1, .int (nI (ix x))), (2, .int (nI (ix y))), (3, .int w)]) hx hb dX6_addWay_103 hl (by decide) rfl (fun ls hl => ?_)
                  refine lv_aload_n hx hb dX6_addWay_105 rfl (lv_at hl 3 rfl) ?_
                  refine rGet (v := .ref (gad G 32)) (C := RX6) (T := TX6) (N := 26) hx hb fx hown hts hin hw 31 (hF.1 31 (by decide)) rfl rfl 2 (by decide) (hts (.fieldLink RX6 13 "LeaguewheelModel" "length" "[I") (by decide +kernel)) (fun _ h9 => h9) rfl dX6_addWay_106 ?_
                  refine lv_bipush (v := 12) hx hb dX6_addWay_109 (by decide) ?_
                  refine lv_iload_n hx hb dX6_addWay_111 rfl (lv_at hl 4 rfl) ?_
                  refine lv_rep1 (x := 12) (y := nI 12) rfl ?_
                  refine lv_imul hx hb dX6_addWay_112 ?_
                  refine lv_rep0 (x := ((nI 12) * (nI (ix x)))) (y := nI (12 * (ix x))) (pk_mul _ _) ?_
                  refine lv_iload_n hx hb dX6_addWay_113 rfl (lv_at hl 5 rfl) ?_
                  refine lv_iadd hx hb dX6_addWay_114 ?_
                  refine lv_rep0 (x := ((nI (12 * (ix x))) + (nI (ix y)))) (y := nI ((12 * (ix x)) + (ix y))) (nI_add _ _) ?_
                  refine lv_iload_n hx hb dX6_addWay_115 rfl (lv_at hl 6 rfl) ?_
                  refine lv_rep1 (x := (nI ((12 * (ix x)) + (ix y)))) (y := nI (ix x * 12 + ix y)) (by rw [Nat.mul_comm 12]) ?_
                  refine rAst (x := w) hx hb fx hw 32 (hF.1 32 (by decide)) hF.2.1 (fun _ => rfl) (ix x * 12 + ix y) rfl (by omega) (by decide) dX6_addWay_116 (fun H locs hw => ?_)
                  obtain ⟨σ_111, eσ_111⟩ : ∃ w9, w9 = upA σ_109 32 (upd (σ_109 32) (ix x * 12 + ix y) w) := ⟨_, rfl⟩
                  rw [← eσ_111] at hw
                  refine lv_iload hx hb dX6_addWay_117 (lv_at hl 0 rfl) ?_
                  refine lv_if_ne (tgt := 126) hx hb dX6_addWay_119 (by decide) (fun c_112 => ?_) (fun c_112 => ?_)
                  · skip
                    refine lv_iload hx hb dX6_addWay_126 (lv_at hl 0 rfl) ?_
                    subst eσ_111
                    subst eσ_109
                    exact rRetI hx hb hr hw (by exact Or.inl ⟨by simp [c_4, c_49, c_97], by unfold rgtB; rw [show (decide (ix x < ix y) || (decide (ix y = 0) && decide (0 < ix x))) = true by simp only [Bool.or_eq_true, Bool.and_eq_true, decide_eq_true_eq]; omega]; rw [Bool.true_and]; assumption, by simp; omega, by first | (rw [if_pos (by simpa [thr, upA_n, upA_s, upA_upA, upA_self, upd_self, upd_upd, pk_us, bI] using c_112)]) | (rw [if_neg (by simpa [thr, upA_n, upA_s, upA_upA, upA_self, upd_self, upd_upd, pk_us, bI] using c_112)]; simp [thr, upA_n, upA_s, upA_upA, upA_self, upd_self, upd_upd, pk_us, bI]), by simp [thr, upA_n, upA_s, upA_upA, upA_self, upd_self, upd_upd, pk_us, bI]⟩) hlocks dX6_addWay_128
                  · skip
                    refine lv_iconst (v := (-1)) hx hb dX6_addWay_122 (by decide) ?_
                    refine lv_goto (tgt := 128) hx hb dX6_addWay_123 (by decide) ?_
                    subst eσ_111
                    subst eσ_109
                    exact rRetI hx hb hr hw (by exact Or.inl ⟨by simp [c_4, c_49, c_97], by unfold rgtB; rw [show (decide (ix x < ix y) || (decide (ix y = 0) && decide (0 < ix x))) = true by simp only [Bool.or_eq_true, Bool.and_eq_true, decide_eq_true_eq]; omega]; rw [Bool.true_and]; assumption, by simp; omega, by first | (rw [if_pos (by simpa [thr, upA_n, upA_s, upA_upA, upA_self, upd_self, upd_upd, pk_us, bI] using c_112)]) | (rw [if_neg (by simpa [thr, upA_n, upA_s, upA_upA, upA_self, upd_self, upd_upd, pk_us, bI] using c_112)]; simp [thr, upA_n, upA_s, upA_upA, upA_self, upd_self, upd_upd, pk_us, bI]), by simp [thr, upA_n, upA_s, upA_upA, upA_self, upd_self, upd_upd, pk_us, bI]⟩) hlocks dX6_addWay_128
                · skip
                  exact absurd c_110 (by decide)
              · skip
                have c_106 : 0 < sd := n0_lef (by omega) c_106
                refine lv_iconst (v := 3) hx hb dX6_addWay_79 (by decide) ?_
                refine lv_goto (tgt := 84) hx hb dX6_addWay_80 (by decide) ?_
                refine lv_rep0 (x := 3) (y := nI 3) rfl ?_
                refine rCallI (C := RX6) (As := [.int (nI 3)]) (rest := []) ⟨hx, hb, hml, hown, hts⟩ fx hw (kX6_fails l G hG hF σ 3 (by omega)) (cwV 1 hts gX6_addWay_X6_fails rfl rfl rfl (by decide +kernel) ⟨Nat.le_of_ble_eq_true rfl, Nat.le_of_ble_eq_true rfl⟩) (hF.1 31 (by decide)) rfl rfl rfl rfl hl.1 rfl (Nat.le_of_ble_eq_true rfl) dX6_addWay_84 ⟨Nat.zero_le _, Nat.zero_le _⟩ ?_
                intro r_114 σ_115 H locs p_113 hw
                obtain ⟨er_114, eσ_115⟩ := p_113
                have er_114 := er_114.symm; subst er_114
                refine lv_b_eq (tgt := 92) hx hb dX6_addWay_87 (by decide) (fun c_116 => ?_) (fun c_116 => ?_)
                · skip
                  exact absurd c_116 (by decide)
                · skip
                  refine lv_iconst (v := 0) hx hb dX6_addWay_90 (by decide) ?_
                  subst eσ_115
                  exact rRetI hx hb hr hw (by first | exact Or.inr (Or.inl ⟨by simp [c_4, c_49, c_97], rfl⟩) | exact Or.inr (Or.inr (Or.inl ⟨by simp [c_4, c_49, c_97], by unfold rgtB; first | (rw [c_106]; exact Bool.and_false _) | (rw [show (decide (ix x < ix y) || (decide (ix y = 0) && decide (0 < ix x))) = false by simp; omega]; rfl), rfl⟩)) | exact Or.inr (Or.inr (Or.inr ⟨by simp [c_4, c_49, c_97], by unfold rgtB; rw [show (decide (ix x < ix y) || (decide (ix y = 0) && decide (0 < ix x))) = true by simp only [Bool.or_eq_true, Bool.and_eq_true, decide_eq_true_eq]; omega]; rw [Bool.true_and]; assumption, by simp; omega, rfl⟩))) hlocks dX6_addWay_91
            · skip
              exact absurd c_105 (by decide)
          · skip
            exact absurd c_104 (by decide)
      · skip
        have c_93 : ¬ (ix x) < (ix y) := fun h9 => c_93 ((nI_ltI (by omega) (by omega)).mpr h9)
        refine lv_iload_n hx hb dX6_addWay_28 rfl (lv_at hl 3 rfl) ?_
        refine lv_if_ne (tgt := 50) hx hb dX6_addWay_29 (by decide) (fun c_117 => ?_) (fun c_117 => ?_)
        · skip
          have c_117 : ¬ (ix y) = 0 := n0_net (by omega) c_117
          refine lv_iconst (v := 0) hx hb dX6_addWay_50 (by decide) ?_
          refine lv_istore (lv' := [(5, .int 0), (4, .int 1), (0, .ref (gad G 31)), (1, .int (nI (ix x))), (2, .int (nI (ix y))), (3, .int w)]) hx hb dX6_addWay_51 hl (by decide) rfl (fun ls hl => ?_)
          refine lv_aload_n hx hb dX6_addWay_53 rfl (lv_at hl 2 rfl) ?_
          refine lv_iload hx hb dX6_addWay_54 (lv_at hl 1 rfl) ?_
          refine lv_if_ne (tgt := 63) hx hb dX6_addWay_56 (by decide) (fun c_118 => ?_) (fun c_118 => ?_)
          · skip
            refine lv_iload hx hb dX6_addWay_63 (lv_at hl 0 rfl) ?_
            refine lv_if_ne (tgt := 72) hx hb dX6_addWay_65 (by decide) (fun c_119 => ?_) (fun c_119 => ?_)
            · skip
              exact absurd c_119 (by decide)
            · skip
              refine lv_iconst (v := 2) hx hb dX6_addWay_68 (by decide) ?_
              refine lv_goto (tgt := 84) hx hb dX6_addWay_69 (by decide) ?_
              refine lv_rep0 (x := 2) (y := nI 2) rfl ?_
              refine rCallI (C := RX6) (As := [.int (nI 2)]) (rest := []) ⟨hx, hb, hml, hown, hts⟩ fx hw (kX6_fails l G hG hF σ 2 (by omega)) (cwV 1 hts gX6_addWay_X6_fails rfl rfl rfl (by decide +kernel) ⟨Nat.le_of_ble_eq_true rfl, Nat.le_of_ble_eq_true rfl⟩) (hF.1 31 (by decide)) rfl rfl rfl rfl hl.1 rfl (Nat.le_of_ble_eq_true rfl) dX6_addWay_84 ⟨Nat.zero_le _, Nat.zero_le _⟩ ?_
              intro r_121 σ_122 H locs p_120 hw
              obtain ⟨er_121, eσ_122⟩ := p_120
              have er_121 := er_121.symm; subst er_121
              refine lv_b_eq (tgt := 92) hx hb dX6_addWay_87 (by decide) (fun c_123 => ?_) (fun c_123 => ?_)
              · skip
                exact absurd c_123 (by decide)
              · skip
                refine lv_iconst (v := 0) hx hb dX6_addWay_90 (by decide) ?_
                subst eσ_122
                exact rRetI hx hb hr hw (by first | exact Or.inr (Or.inl ⟨by simp [c_4, c_49], rfl⟩) | exact Or.inr (Or.inr (Or.inl ⟨by simp [c_4, c_49], by unfold rgtB; first | (rw [c_117]; exact Bool.and_false _) | (rw [show (decide (ix x < ix y) || (decide (ix y = 0) && decide (0 < ix x))) = false by simp; omega]; rfl), rfl⟩)) | exact Or.inr (Or.inr (Or.inr ⟨by simp [c_4, c_49], by unfold rgtB; rw [show (decide (ix x < ix y) || (decide (ix y = 0) && decide (0 < ix x))) = true by simp only [Bool.or_eq_true, Bool.and_eq_true, decide_eq_true_eq]; omega]; rw [Bool.true_and]; assumption, by simp; omega, rfl⟩))) hlocks dX6_addWay_91
          · skip
            exact absurd c_118 (by decide)
        · skip
          have c_117 : (ix y) = 0 := n0_nef (by omega) c_117
          refine lv_iload_n hx hb dX6_addWay_32 rfl (lv_at hl 2 rfl) ?_
          refine lv_if_le (tgt := 50) hx hb dX6_addWay_33 (by decide) (fun c_124 => ?_) (fun c_124 => ?_)
          · skip
            have c_124 : (ix x) = 0 := n0_let (by omega) c_124
            refine lv_iconst (v := 0) hx hb dX6_addWay_50 (by decide) ?_
            refine lv_istore (lv' := [(5, .int 0), (4, .int 1), (0, .ref (gad G 31)), (1, .int (nI (ix x))), (2, .int (nI (ix y))), (3, .int w)]) hx hb dX6_addWay_51 hl (by decide) rfl (fun ls hl => ?_)
            refine lv_aload_n hx hb dX6_addWay_53 rfl (lv_at hl 2 rfl) ?_
            refine lv_iload hx hb dX6_addWay_54 (lv_at hl 1 rfl) ?_
            refine lv_if_ne (tgt := 63) hx hb dX6_addWay_56 (by decide) (fun c_125 => ?_) (fun c_125 => ?_)
            · skip
              refine lv_iload hx hb dX6_addWay_63 (lv_at hl 0 rfl) ?_
              refine lv_if_ne (tgt := 72) hx hb dX6_addWay_65 (by decide) (fun c_126 => ?_) (fun c_126 => ?_)
              · skip
                exact absurd c_126 (by decide)
              · skip
                refine lv_iconst (v := 2) hx hb dX6_addWay_68 (by decide) ?_
                refine lv_goto (tgt := 84) hx hb dX6_addWay_69 (by decide) ?_
                refine lv_rep0 (x := 2) (y := nI 2) rfl ?_
                refine rCallI (C := RX6) (As := [.int (nI 2)]) (rest := []) ⟨hx, hb, hml, hown, hts⟩ fx hw (kX6_fails l G hG hF σ 2 (by omega)) (cwV 1 hts gX6_addWay_X6_fails rfl rfl rfl (by decide +kernel) ⟨Nat.le_of_ble_eq_true rfl, Nat.le_of_ble_eq_true rfl⟩) (hF.1 31 (by decide)) rfl rfl rfl rfl hl.1 rfl (Nat.le_of_ble_eq_true rfl) dX6_addWay_84 ⟨Nat.zero_le _, Nat.zero_le _⟩ ?_
                intro r_128 σ_129 H locs p_127 hw
                obtain ⟨er_128, eσ_129⟩ := p_127
                have er_128 := er_128.symm; subst er_128
                refine lv_b_eq (tgt := 92) hx hb dX6_addWay_87 (by decide) (fun c_130 => ?_) (fun c_130 => ?_)
                · skip
                  exact absurd c_130 (by decide)
                · skip
                  refine lv_iconst (v := 0) hx hb dX6_addWay_90 (by decide) ?_
                  subst eσ_129
                  exact rRetI hx hb hr hw (by first | exact Or.inr (Or.inl ⟨by simp [c_4, c_49], rfl⟩) | exact Or.inr (Or.inr (Or.inl ⟨by simp [c_4, c_49], by unfold rgtB; first | (rw [c_124]; exact Bool.and_false _) | (rw [show (decide (ix x < ix y) || (decide (ix y = 0) && decide (0 < ix x))) = false by simp; omega]; rfl), rfl⟩)) | exact Or.inr (Or.inr (Or.inr ⟨by simp [c_4, c_49], by unfold rgtB; rw [show (decide (ix x < ix y) || (decide (ix y = 0) && decide (0 < ix x))) = true by simp only [Bool.or_eq_true, Bool.and_eq_true, decide_eq_true_eq]; omega]; rw [Bool.true_and]; assumption, by simp; omega, rfl⟩))) hlocks dX6_addWay_91
            · skip
              exact absurd c_125 (by decide)
          · skip
            have c_124 : 0 < (ix x) := n0_lef (by omega) c_124
            refine lv_iload_n hx hb dX6_addWay_36 rfl (lv_at hl 4 rfl) ?_
            refine lv_iconst (v := 1) hx hb dX6_addWay_37 (by decide) ?_
            refine lv_bipush (v := 100) hx hb dX6_addWay_38 (by decide) ?_
            refine rCallS (As := [.int w, .int 1, .int 100]) (rest := []) ⟨hx, hb, hml, hown, hts⟩ fx hw (kX6_isIn l G hG hF σ w 1 100) (va_cwS 3 hts gX6_addWay_X6_isIn rfl rfl rfl (by decide +kernel) ⟨Nat.le_of_ble_eq_true rfl, Nat.le_of_ble_eq_true rfl⟩) rfl hl.1 rfl (Nat.le_of_ble_eq_true rfl) dX6_addWay_40 ⟨Nat.zero_le _, Nat.zero_le _⟩ ?_
            intro r_132 σ_133 H locs p_131 hw
            obtain ⟨er_132, eσ_133⟩ := p_131
            have er_132 := er_132.symm; subst er_132
            have eσ_133 := eσ_133.symm; subst eσ_133
            refine lv_b_eq (tgt := 50) hx hb dX6_addWay_43 (by decide) (fun c_134 => ?_) (fun c_134 => ?_)
            · skip
              refine lv_iconst (v := 0) hx hb dX6_addWay_50 (by decide) ?_
              refine lv_istore (lv' := [(5, .int 0), (4, .int 1), (0, .ref (gad G 31)), (1, .int (nI (ix x))), (2, .int (nI (ix y))), (3, .int w)]) hx hb dX6_addWay_51 hl (by decide) rfl (fun ls hl => ?_)
              refine lv_aload_n hx hb dX6_addWay_53 rfl (lv_at hl 2 rfl) ?_
              refine lv_iload hx hb dX6_addWay_54 (lv_at hl 1 rfl) ?_
              refine lv_if_ne (tgt := 63) hx hb dX6_addWay_56 (by decide) (fun c_135 => ?_) (fun c_135 => ?_)
              · skip
                refine lv_iload hx hb dX6_addWay_63 (lv_at hl 0 rfl) ?_
                refine lv_if_ne (tgt := 72) hx hb dX6_addWay_65 (by decide) (fun c_136 => ?_) (fun c_136 => ?_)
                · skip
                  exact absurd c_136 (by decide)
                · skip
                  refine lv_iconst (v := 2) hx hb dX6_addWay_68 (by decide) ?_
                  refine lv_goto (tgt := 84) hx hb dX6_addWay_69 (by decide) ?_
                  refine lv_rep0 (x := 2) (y := nI 2) rfl ?_
                  refine rCallI (C := RX6) (As := [.int (nI 2)]) (rest := []) ⟨hx, hb, hml, hown, hts⟩ fx hw (kX6_fails l G hG hF σ 2 (by omega)) (cwV 1 hts gX6_addWay_X6_fails rfl rfl rfl (by decide +kernel) ⟨Nat.le_of_ble_eq_true rfl, Nat.le_of_ble_eq_true rfl⟩) (hF.1 31 (by decide)) rfl rfl rfl rfl hl.1 rfl (Nat.le_of_ble_eq_true rfl) dX6_addWay_84 ⟨Nat.zero_le _, Nat.zero_le _⟩ ?_
                  intro r_138 σ_139 H locs p_137 hw
                  obtain ⟨er_138, eσ_139⟩ := p_137
                  have er_138 := er_138.symm; subst er_138
                  refine lv_b_eq (tgt := 92) hx hb dX6_addWay_87 (by decide) (fun c_140 => ?_) (fun c_140 => ?_)
                  · skip
                    exact absurd c_140 (by decide)
                  · skip
                    refine lv_iconst (v := 0) hx hb dX6_addWay_90 (by decide) ?_
                    subst eσ_139
                    exact rRetI hx hb hr hw (by first | exact Or.inr (Or.inl ⟨by simp [c_4, c_49, c_134], rfl⟩) | exact Or.inr (Or.inr (Or.inl ⟨by simp [c_4, c_49, c_134], by unfold rgtB; first | (rw [c_134]; exact Bool.and_false _) | (rw [show (decide (ix x < ix y) || (decide (ix y = 0) && decide (0 < ix x))) = false by simp; omega]; rfl), rfl⟩)) | exact Or.inr (Or.inr (Or.inr ⟨by simp [c_4, c_49, c_134], by unfold rgtB; rw [show (decide (ix x < ix y) || (decide (ix y = 0) && decide (0 < ix x))) = true by simp only [Bool.or_eq_true, Bool.and_eq_true, decide_eq_true_eq]; omega]; rw [Bool.true_and]; assumption, by simp; omega, rfl⟩))) hlocks dX6_addWay_91
              · skip
                exact absurd c_135 (by decide)
            · skip
              refine lv_iconst (v := 1) hx hb dX6_addWay_46 (by decide) ?_
              refine lv_goto (tgt := 51) hx hb dX6_addWay_47 (by decide) ?_
              refine lv_istore (lv' := [(5, .int 1), (4, .int 1), (0, .ref (gad G 31)), (1, .int (nI (ix x))), (2, .int (nI (ix y))), (3, .int w)]) hx hb dX6_addWay_51 hl (by decide) rfl (fun ls hl => ?_)
              refine lv_aload_n hx hb dX6_addWay_53 rfl (lv_at hl 2 rfl) ?_
              refine lv_iload hx hb dX6_addWay_54 (lv_at hl 1 rfl) ?_
              refine lv_if_ne (tgt := 63) hx hb dX6_addWay_56 (by decide) (fun c_141 => ?_) (fun c_141 => ?_)
              · skip
                refine lv_iload hx hb dX6_addWay_63 (lv_at hl 0 rfl) ?_
                refine lv_if_ne (tgt := 72) hx hb dX6_addWay_65 (by decide) (fun c_142 => ?_) (fun c_142 => ?_)
                · skip
                  refine lv_aload_n hx hb dX6_addWay_72 rfl (lv_at hl 2 rfl) ?_
                  refine rGet (v := .int (σ 31 6)) (C := RX6) (T := TX6) (N := 26) hx hb fx hown hts hin hw 31 (hF.1 31 (by decide)) rfl rfl 6 (by decide) (hts (.fieldLink RX6 67 "LeaguewheelModel" "started" "I") (by decide +kernel)) (fun _ h9 => h9) rfl dX6_addWay_73 ?_
                  refine lv_rep0 (x := (σ 31 6)) (y := nI sd) (by exact hms) ?_
                  refine lv_if_le (tgt := 83) hx hb dX6_addWay_76 (by decide) (fun c_143 => ?_) (fun c_143 => ?_)
                  · skip
                    have c_143 : sd = 0 := n0_let (by omega) c_143
                    refine lv_iconst (v := 0) hx hb dX6_addWay_83 (by decide) ?_
                    refine lv_rep0 (x := 0) (y := nI 0) rfl ?_
                    refine rCallI (C := RX6) (As := [.int (nI 0)]) (rest := []) ⟨hx, hb, hml, hown, hts⟩ fx hw (kX6_fails l G hG hF σ 0 (by omega)) (cwV 1 hts gX6_addWay_X6_fails rfl rfl rfl (by decide +kernel) ⟨Nat.le_of_ble_eq_true rfl, Nat.le_of_ble_eq_true rfl⟩) (hF.1 31 (by decide)) rfl rfl rfl rfl hl.1 rfl (Nat.le_of_ble_eq_true rfl) dX6_addWay_84 ⟨Nat.zero_le _, Nat.zero_le _⟩ ?_
                    intro r_145 σ_146 H locs p_144 hw
                    obtain ⟨er_145, eσ_146⟩ := p_144
                    have er_145 := er_145.symm; subst er_145
                    refine lv_b_eq (tgt := 92) hx hb dX6_addWay_87 (by decide) (fun c_147 => ?_) (fun c_147 => ?_)
                    · skip
                      refine lv_aload_n hx hb dX6_addWay_92 rfl (lv_at hl 2 rfl) ?_
                      refine rGet (v := .ref (gad G 32)) (C := RX6) (T := TX6) (N := 26) hx hb fx hown hts hin hw 31 (hF.1 31 (by decide)) rfl rfl 2 (by decide) (hts (.fieldLink RX6 13 "LeaguewheelModel" "length" "[I") (by decide +kernel)) (fun _ h9 => h9) rfl dX6_addWay_93 ?_
                      refine lv_bipush (v := 12) hx hb dX6_addWay_96 (by decide) ?_
                      refine lv_iload_n hx hb dX6_addWay_98 rfl (lv_at hl 3 rfl) ?_
                      refine lv_rep1 (x := 12) (y := nI 12) rfl ?_
                      refine lv_imul hx hb dX6_addWay_99 ?_
                      refine lv_rep0 (x := ((nI 12) * (nI (ix x)))) (y := nI (12 * (ix x))) (pk_mul _ _) ?_
                      refine lv_iload_n hx hb dX6_addWay_100 rfl (lv_at hl 4 rfl) ?_
                      refine lv_iadd hx hb dX6_addWay_101 ?_
                      refine lv_rep0 (x := ((nI (12 * (ix x))) + (nI (ix y)))) (y := nI ((12 * (ix x)) + (ix y))) (nI_add _ _) ?_
                      refine lv_rep0 (x := (nI ((12 * (ix x)) + (ix y)))) (y := nI (ix x * 12 + ix y)) (by rw [Nat.mul_comm 12]) ?_
                      refine rAld hx hb fx hw 32 (hF.1 32 (by decide)) hF.2.1 (fun _ => rfl) (ix x * 12 + ix y) rfl (by omega) (by decide) dX6_addWay_102 ?_
                      refine lv_istore (lv' := [(6, .int (σ_146 32 (ix x * 12 + ix y))), (5, .int 1), (4, .int 1), (0, .ref (gad G 31)), (1, .int (nI (ix x))), (2, .int (nI (ix y))), (3, .int w)]) hx hb dX6_addWay_103 hl (by decide) rfl (fun ls hl => ?_)
                      refine lv_aload_n hx hb dX6_addWay_105 rfl (lv_at hl 3 rfl) ?_
                      refine rGet (v := .ref (gad G 32)) (C := RX6) (T := TX6) (N := 26) hx hb fx hown hts hin hw 31 (hF.1 31 (by decide)) rfl rfl 2 (by decide) (hts (.fieldLink RX6 13 "LeaguewheelModel" "length" "[I") (by decide +kernel)) (fun _ h9 => h9) rfl dX6_addWay_106 ?_
                      refine lv_bipush (v := 12) hx hb dX6_addWay_109 (by decide) ?_
                      refine lv_iload_n hx hb dX6_addWay_111 rfl (lv_at hl 4 rfl) ?_
                      refine lv_rep1 (x := 12) (y := nI 12) rfl ?_
                      refine lv_imul hx hb dX6_addWay_112 ?_
                      refine lv_rep0 (x := ((nI 12) * (nI (ix x)))) (y := nI (12 * (ix x))) (pk_mul _ _) ?_
                      refine lv_iload_n hx hb dX6_addWay_113 rfl (lv_at hl 5 rfl) ?_
                      refine lv_iadd hx hb dX6_addWay_114 ?_
                      refine lv_rep0 (x := ((nI (12 * (ix x))) + (nI (ix y)))) (y := nI ((12 * (ix x)) + (ix y))) (nI_add _ _) ?_
                      refine lv_iload_n hx hb dX6_addWay_115 rfl (lv_at hl 6 rfl) ?_
                      refine lv_rep1 (x := (nI ((12 * (ix x)) + (ix y)))) (y := nI (ix x * 12 + ix y)) (by rw [Nat.mul_comm 12]) ?_
                      refine rAst (x := w) hx hb fx hw 32 (hF.1 32 (by decide)) hF.2.1 (fun _ => rfl) (ix x * 12 + ix y) rfl (by omega) (by decide) dX6_addWay_116 (fun H locs hw => ?_)
                      obtain ⟨σ_148, eσ_148⟩ : ∃ w9, w9 = upA σ_146 32 (upd (σ_146 32) (ix x * 12 + ix y) w) := ⟨_, rfl⟩
                      rw [← eσ_148] at hw
                      refine lv_iload hx hb dX6_addWay_117 (lv_at hl 0 rfl) ?_
                      refine lv_if_ne (tgt := 126) hx hb dX6_addWay_119 (by decide) (fun c_149 => ?_) (fun c_149 => ?_)
                      · skip
                        refine lv_iload hx hb dX6_addWay_126 (lv_at hl 0 rfl) ?_
                        subst eσ_148
                        subst eσ_146
                        exact rRetI hx hb hr hw (by exact Or.inl ⟨by simp [c_4, c_49, c_134], by unfold rgtB; rw [show (decide (ix x < ix y) || (decide (ix y = 0) && decide (0 < ix x))) = true by simp only [Bool.or_eq_true, Bool.and_eq_true, decide_eq_true_eq]; omega]; rw [Bool.true_and]; assumption, by simp; omega, by first | (rw [if_pos (by simpa [thr, upA_n, upA_s, upA_upA, upA_self, upd_self, upd_upd, pk_us, bI] using c_149)]) | (rw [if_neg (by simpa [thr, upA_n, upA_s, upA_upA, upA_self, upd_self, upd_upd, pk_us, bI] using c_149)]; simp [thr, upA_n, upA_s, upA_upA, upA_self, upd_self, upd_upd, pk_us, bI]), by simp [thr, upA_n, upA_s, upA_upA, upA_self, upd_self, upd_upd, pk_us, bI]⟩) hlocks dX6_addWay_128
                      · skip
                        refine lv_iconst (v := (-1)) hx hb dX6_addWay_122 (by decide) ?_
                        refine lv_goto (tgt := 128) hx hb dX6_addWay_123 (by decide) ?_
                        subst eσ_148
                        subst eσ_146
                        exact rRetI hx hb hr hw (by exact Or.inl ⟨by simp [c_4, c_49, c_134], by unfold rgtB; rw [show (decide (ix x < ix y) || (decide (ix y = 0) && decide (0 < ix x))) = true by simp only [Bool.or_eq_true, Bool.and_eq_true, decide_eq_true_eq]; omega]; rw [Bool.true_and]; assumption, by simp; omega, by first | (rw [if_pos (by simpa [thr, upA_n, upA_s, upA_upA, upA_self, upd_self, upd_upd, pk_us, bI] using c_149)]) | (rw [if_neg (by simpa [thr, upA_n, upA_s, upA_upA, upA_self, upd_self, upd_upd, pk_us, bI] using c_149)]; simp [thr, upA_n, upA_s, upA_upA, upA_self, upd_self, upd_upd, pk_us, bI]), by simp [thr, upA_n, upA_s, upA_upA, upA_self, upd_self, upd_upd, pk_us, bI]⟩) hlocks dX6_addWay_128
                    · skip
                      exact absurd c_147 (by decide)
                  · skip
                    have c_143 : 0 < sd := n0_lef (by omega) c_143
                    refine lv_iconst (v := 3) hx hb dX6_addWay_79 (by decide) ?_
                    refine lv_goto (tgt := 84) hx hb dX6_addWay_80 (by decide) ?_
                    refine lv_rep0 (x := 3) (y := nI 3) rfl ?_
                    refine rCallI (C := RX6) (As := [.int (nI 3)]) (rest := []) ⟨hx, hb, hml, hown, hts⟩ fx hw (kX6_fails l G hG hF σ 3 (by omega)) (cwV 1 hts gX6_addWay_X6_fails rfl rfl rfl (by decide +kernel) ⟨Nat.le_of_ble_eq_true rfl, Nat.le_of_ble_eq_true rfl⟩) (hF.1 31 (by decide)) rfl rfl rfl rfl hl.1 rfl (Nat.le_of_ble_eq_true rfl) dX6_addWay_84 ⟨Nat.zero_le _, Nat.zero_le _⟩ ?_
                    intro r_151 σ_152 H locs p_150 hw
                    obtain ⟨er_151, eσ_152⟩ := p_150
                    have er_151 := er_151.symm; subst er_151
                    refine lv_b_eq (tgt := 92) hx hb dX6_addWay_87 (by decide) (fun c_153 => ?_) (fun c_153 => ?_)
                    · skip
                      exact absurd c_153 (by decide)
                    · skip
                      refine lv_iconst (v := 0) hx hb dX6_addWay_90 (by decide) ?_
                      subst eσ_152
                      exact rRetI hx hb hr hw (by first | exact Or.inr (Or.inl ⟨by simp [c_4, c_49, c_134], rfl⟩) | exact Or.inr (Or.inr (Or.inl ⟨by simp [c_4, c_49, c_134], by unfold rgtB; first | (rw [c_143]; exact Bool.and_false _) | (rw [show (decide (ix x < ix y) || (decide (ix y = 0) && decide (0 < ix x))) = false by simp; omega]; rfl), rfl⟩)) | exact Or.inr (Or.inr (Or.inr ⟨by simp [c_4, c_49, c_134], by unfold rgtB; rw [show (decide (ix x < ix y) || (decide (ix y = 0) && decide (0 < ix x))) = true by simp only [Bool.or_eq_true, Bool.and_eq_true, decide_eq_true_eq]; omega]; rw [Bool.true_and]; assumption, by simp; omega, rfl⟩))) hlocks dX6_addWay_91
                · skip
                  exact absurd c_142 (by decide)
              · skip
                exact absurd c_141 (by decide)
