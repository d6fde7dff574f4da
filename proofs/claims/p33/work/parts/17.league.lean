def rmX5_checkGate : Room := ({ frames := 6, cells := 1, slots := 6, locals := 82 } : Room)
set_option maxHeartbeats 4000000 in
set_option maxRecDepth 100000 in
theorem kX5_checkGate (l : Launch) (hlt : l.stackTraces = false) (G : Gx) (hG : gOk G) (hF : Full G) (σ : St) (x : Int32) (g n e9 z : Nat) (b : Bool) (hIv9 : CIv σ g n b e9 z)  : CxV l yX5_checkGate wsX5_checkGate rmX5_checkGate G σ [.ref (gad G 0), .int x] (fun σ' => σ' = σ ∧ inB x g = true) (fun E => E = xIOB ∧ inB x g = false) := by
  refine bgX (cc := cX5_checkGate) (maxL := 2) (ret := none) (own := RX5) (by decide) rfl rfl hG (Nat.le_of_ble_eq_true rfl) rfl ?_
  intro p e s m args below meth c ls hout Bd hl
  obtain ⟨hx, hb, hr, hml, hts, hown, hlocks, fx, hw⟩ := Bd
  have hl : lv_has ls 2 [(0, .ref (gad G 0)), (1, .int x)] := hl
  have hin : ∀ w ∈ wsX50, w ∈ wsX5_checkGate := by decide +kernel
  obtain ⟨⟨hg, hg1, hg2⟩, ⟨hn, hn6⟩, hon, ⟨he, he8⟩, ⟨hz, hz5⟩, hrk, hcn, hrec⟩ := id hIv9
  refine lv_iload_n hx hb dX5_checkGate_0 rfl (lv_at hl 1 rfl) ?_
  refine lv_if_lt (tgt := 15) hx hb dX5_checkGate_1 (by decide) (fun c_1 => ?_) (fun c_1 => ?_)
  · skip
    exact rThrowW (ik := 241) (is := 271) (ic := 245) (cls := "java/lang/IndexOutOfBoundsException") (text := _) hx hb hlt hF.2.2.2.2 fx hw hown (by decide +kernel) (hts (.classLink RX5 241 "java/lang/IndexOutOfBoundsException") (by decide +kernel)) (hts (.initialized "java/lang/IndexOutOfBoundsException") (by decide +kernel)) (List.mem_of_getElem? (i := 2) rfl) (by decide +kernel) (at_IOB (fun w h => hts w (by revert w; decide +kernel))) gd_IOB (by rw [hml]; exact hl.1) dX5_checkGate_15 dX5_checkGate_18 dX5_checkGate_19 dX5_checkGate_22 dX5_checkGate_25 hout (Nat.le_of_ble_eq_true rfl) (Nat.le_of_ble_eq_true rfl) (Nat.le_of_ble_eq_true rfl) (Nat.le_of_ble_eq_true rfl) hlocks (by exact ⟨rfl, by first | exact inB_f1 c_1 | exact inB_f2 c_1⟩) (Nat.le_of_ble_eq_true rfl) (Nat.le_of_ble_eq_true rfl)
  · skip
    refine lv_iload_n hx hb dX5_checkGate_4 rfl (lv_at hl 1 rfl) ?_
    refine lv_aload_n hx hb dX5_checkGate_5 rfl (lv_at hl 0 rfl) ?_
    refine rGet (v := .ref (gad G 1)) (C := RX5) (T := TX5) (N := 10) hx hb fx hown hts hin hw 0 (hF.1 0 (by decide)) rfl rfl 0 (by decide) (hts (.fieldLink RX5 10 "Leaguewheel" "track" "LLeaguewheel$Track;") (by decide +kernel)) (fun _ h9 => h9) rfl dX5_checkGate_6 ?_
    refine rCallI (C := RX4) (As := []) (rest := [.int x]) ⟨hx, hb, hml, hown, hts⟩ fx hw (kX4_gateCount l G hG hF σ ) (cwV 0 hts gX5_checkGate_X4_gateCount rfl rfl rfl (by decide +kernel) ⟨Nat.le_of_ble_eq_true rfl, Nat.le_of_ble_eq_true rfl⟩) (hF.1 1 (by decide)) rfl rfl rfl rfl hl.1 rfl (Nat.le_of_ble_eq_true rfl) dX5_checkGate_9 ⟨Nat.zero_le _, Nat.zero_le _⟩ ?_
    intro r_3 σ_4 H locs p_2 hw
    obtain ⟨er_3, eσ_4⟩ := p_2
    have er_3 := er_3.symm; subst er_3
    have eσ_4 := eσ_4.symm; subst eσ_4
    refine lv_rep0 (x := (σ 1 2)) (y := nI g) (by exact hg) ?_
    refine lv_icmp_lt (tgt := 26) hx hb dX5_checkGate_12 (by decide) (fun c_5 => ?_) (fun c_5 => ?_)
    · skip
      exact vy_ret (rRetV hx hb hr hw (by exact ⟨rfl, inB_t c_1 c_5⟩) hlocks dX5_checkGate_26)
    · skip
      exact rThrowW (ik := 241) (is := 271) (ic := 245) (cls := "java/lang/IndexOutOfBoundsException") (text := _) hx hb hlt hF.2.2.2.2 fx hw hown (by decide +kernel) (hts (.classLink RX5 241 "java/lang/IndexOutOfBoundsException") (by decide +kernel)) (hts (.initialized "java/lang/IndexOutOfBoundsException") (by decide +kernel)) (List.mem_of_getElem? (i := 2) rfl) (by decide +kernel) (at_IOB (fun w h => hts w (by revert w; decide +kernel))) gd_IOB (by rw [hml]; exact hl.1) dX5_checkGate_15 dX5_checkGate_18 dX5_checkGate_19 dX5_checkGate_22 dX5_checkGate_25 hout (Nat.le_of_ble_eq_true rfl) (Nat.le_of_ble_eq_true rfl) (Nat.le_of_ble_eq_true rfl) (Nat.le_of_ble_eq_true rfl) hlocks (by exact ⟨rfl, by first | exact inB_f1 c_5 | exact inB_f2 c_5⟩) (Nat.le_of_ble_eq_true rfl) (Nat.le_of_ble_eq_true rfl)

def rmX5_checkKart : Room := ({ frames := 6, cells := 1, slots := 6, locals := 82 } : Room)
set_option maxHeartbeats 4000000 in
set_option maxRecDepth 100000 in
theorem kX5_checkKart (l : Launch) (hlt : l.stackTraces = false) (G : Gx) (hG : gOk G) (hF : Full G) (σ : St) (x : Int32) (g n e9 z : Nat) (b : Bool) (hIv9 : CIv σ g n b e9 z)  : CxV l yX5_checkKart wsX5_checkKart rmX5_checkKart G σ [.ref (gad G 0), .int x] (fun σ' => σ' = σ ∧ inB x n = true) (fun E => E = xIOB ∧ inB x n = false) := by
  refine bgX (cc := cX5_checkKart) (maxL := 2) (ret := none) (own := RX5) (by decide) rfl rfl hG (Nat.le_of_ble_eq_true rfl) rfl ?_
  intro p e s m args below meth c ls hout Bd hl
  obtain ⟨hx, hb, hr, hml, hts, hown, hlocks, fx, hw⟩ := Bd
  have hl : lv_has ls 2 [(0, .ref (gad G 0)), (1, .int x)] := hl
  have hin : ∀ w ∈ wsX50, w ∈ wsX5_checkKart := by decide +kernel
  obtain ⟨⟨hg, hg1, hg2⟩, ⟨hn, hn6⟩, hon, ⟨he, he8⟩, ⟨hz, hz5⟩, hrk, hcn, hrec⟩ := id hIv9
  refine lv_iload_n hx hb dX5_checkKart_0 rfl (lv_at hl 1 rfl) ?_
  refine lv_if_lt (tgt := 12) hx hb dX5_checkKart_1 (by decide) (fun c_1 => ?_) (fun c_1 => ?_)
  · skip
    exact rThrowW (ik := 241) (is := 273) (ic := 245) (cls := "java/lang/IndexOutOfBoundsException") (text := _) hx hb hlt hF.2.2.2.2 fx hw hown (by decide +kernel) (hts (.classLink RX5 241 "java/lang/IndexOutOfBoundsException") (by decide +kernel)) (hts (.initialized "java/lang/IndexOutOfBoundsException") (by decide +kernel)) (List.mem_of_getElem? (i := 13) rfl) (by decide +kernel) (at_IOB (fun w h => hts w (by revert w; decide +kernel))) gd_IOB (by rw [hml]; exact hl.1) dX5_checkKart_12 dX5_checkKart_15 dX5_checkKart_16 dX5_checkKart_19 dX5_checkKart_22 hout (Nat.le_of_ble_eq_true rfl) (Nat.le_of_ble_eq_true rfl) (Nat.le_of_ble_eq_true rfl) (Nat.le_of_ble_eq_true rfl) hlocks (by exact ⟨rfl, by first | exact inB_f1 c_1 | exact inB_f2 c_1⟩) (Nat.le_of_ble_eq_true rfl) (Nat.le_of_ble_eq_true rfl)
  · skip
    refine lv_iload_n hx hb dX5_checkKart_4 rfl (lv_at hl 1 rfl) ?_
    refine lv_aload_n hx hb dX5_checkKart_5 rfl (lv_at hl 0 rfl) ?_
    refine rGet (v := .int (σ 0 7)) (C := RX5) (T := TX5) (N := 10) hx hb fx hown hts hin hw 0 (hF.1 0 (by decide)) rfl rfl 7 (by decide) (hts (.fieldLink RX5 53 "Leaguewheel" "kartCount" "I") (by decide +kernel)) (fun _ h9 => h9) rfl dX5_checkKart_6 ?_
    refine lv_rep0 (x := (σ 0 7)) (y := nI n) (by exact hn) ?_
    refine lv_icmp_lt (tgt := 23) hx hb dX5_checkKart_9 (by decide) (fun c_2 => ?_) (fun c_2 => ?_)
    · skip
      exact vy_ret (rRetV hx hb hr hw (by exact ⟨rfl, inB_t c_1 c_2⟩) hlocks dX5_checkKart_23)
    · skip
      exact rThrowW (ik := 241) (is := 273) (ic := 245) (cls := "java/lang/IndexOutOfBoundsException") (text := _) hx hb hlt hF.2.2.2.2 fx hw hown (by decide +kernel) (hts (.classLink RX5 241 "java/lang/IndexOutOfBoundsException") (by decide +kernel)) (hts (.initialized "java/lang/IndexOutOfBoundsException") (by decide +kernel)) (List.mem_of_getElem? (i := 13) rfl) (by decide +kernel) (at_IOB (fun w h => hts w (by revert w; decide +kernel))) gd_IOB (by rw [hml]; exact hl.1) dX5_checkKart_12 dX5_checkKart_15 dX5_checkKart_16 dX5_checkKart_19 dX5_checkKart_22 hout (Nat.le_of_ble_eq_true rfl) (Nat.le_of_ble_eq_true rfl) (Nat.le_of_ble_eq_true rfl) (Nat.le_of_ble_eq_true rfl) hlocks (by exact ⟨rfl, by first | exact inB_f1 c_2 | exact inB_f2 c_2⟩) (Nat.le_of_ble_eq_true rfl) (Nat.le_of_ble_eq_true rfl)

def rmX5_checkTeam : Room := ({ frames := 6, cells := 1, slots := 6, locals := 82 } : Room)
set_option maxHeartbeats 4000000 in
set_option maxRecDepth 100000 in
theorem kX5_checkTeam (l : Launch) (hlt : l.stackTraces = false) (G : Gx) (hG : gOk G) (hF : Full G) (σ : St) (x : Int32)  : CxV l yX5_checkTeam wsX5_checkTeam rmX5_checkTeam G σ [.ref (gad G 0), .int x] (fun σ' => σ' = σ ∧ inB x 4 = true) (fun E => E = xIOB ∧ inB x 4 = false) := by
  refine bgX (cc := cX5_checkTeam) (maxL := 2) (ret := none) (own := RX5) (by decide) rfl rfl hG (Nat.le_of_ble_eq_true rfl) rfl ?_
  intro p e s m args below meth c ls hout Bd hl
  obtain ⟨hx, hb, hr, hml, hts, hown, hlocks, fx, hw⟩ := Bd
  have hl : lv_has ls 2 [(0, .ref (gad G 0)), (1, .int x)] := hl
  refine lv_iload_n hx hb dX5_checkTeam_0 rfl (lv_at hl 1 rfl) ?_
  refine lv_if_lt (tgt := 9) hx hb dX5_checkTeam_1 (by decide) (fun c_1 => ?_) (fun c_1 => ?_)
  · skip
    exact rThrowW (ik := 241) (is := 275) (ic := 245) (cls := "java/lang/IndexOutOfBoundsException") (text := _) hx hb hlt hF.2.2.2.2 fx hw hown (by decide +kernel) (hts (.classLink RX5 241 "java/lang/IndexOutOfBoundsException") (by decide +kernel)) (hts (.initialized "java/lang/IndexOutOfBoundsException") (by decide +kernel)) (List.mem_of_getElem? (i := 6) rfl) (by decide +kernel) (at_IOB (fun w h => hts w (by revert w; decide +kernel))) gd_IOB (by rw [hml]; exact hl.1) dX5_checkTeam_9 dX5_checkTeam_12 dX5_checkTeam_13 dX5_checkTeam_16 dX5_checkTeam_19 hout (Nat.le_of_ble_eq_true rfl) (Nat.le_of_ble_eq_true rfl) (Nat.le_of_ble_eq_true rfl) (Nat.le_of_ble_eq_true rfl) hlocks (by exact ⟨rfl, by first | exact inB_f1 c_1 | exact inB_f2 c_1⟩) (Nat.le_of_ble_eq_true rfl) (Nat.le_of_ble_eq_true rfl)
  · skip
    refine lv_iload_n hx hb dX5_checkTeam_4 rfl (lv_at hl 1 rfl) ?_
    refine lv_iconst (v := 4) hx hb dX5_checkTeam_5 (by decide) ?_
    refine lv_rep0 (x := 4) (y := (nI 4)) (by rfl) ?_
    refine lv_icmp_lt (tgt := 20) hx hb dX5_checkTeam_6 (by decide) (fun c_2 => ?_) (fun c_2 => ?_)
    · skip
      exact vy_ret (rRetV hx hb hr hw (by exact ⟨rfl, inB_t c_1 c_2⟩) hlocks dX5_checkTeam_20)
    · skip
      exact rThrowW (ik := 241) (is := 275) (ic := 245) (cls := "java/lang/IndexOutOfBoundsException") (text := _) hx hb hlt hF.2.2.2.2 fx hw hown (by decide +kernel) (hts (.classLink RX5 241 "java/lang/IndexOutOfBoundsException") (by decide +kernel)) (hts (.initialized "java/lang/IndexOutOfBoundsException") (by decide +kernel)) (List.mem_of_getElem? (i := 6) rfl) (by decide +kernel) (at_IOB (fun w h => hts w (by revert w; decide +kernel))) gd_IOB (by rw [hml]; exact hl.1) dX5_checkTeam_9 dX5_checkTeam_12 dX5_checkTeam_13 dX5_checkTeam_16 dX5_checkTeam_19 hout (Nat.le_of_ble_eq_true rfl) (Nat.le_of_ble_eq_true rfl) (Nat.le_of_ble_eq_true rfl) (Nat.le_of_ble_eq_true rfl) hlocks (by exact ⟨rfl, by first | exact inB_f1 c_2 | exact inB_f2 c_2⟩) (Nat.le_of_ble_eq_true rfl) (Nat.le_of_ble_eq_true rfl)

def rmX5_checkNeverStarted : Room := ({ frames := 6, cells := 1, slots := 6, locals := 82 } : Room)
set_option maxHeartbeats 4000000 in
set_option maxRecDepth 100000 in
theorem kX5_checkNeverStarted (l : Launch) (hlt : l.stackTraces = false) (G : Gx) (hG : gOk G) (hF : Full G) (σ : St) (g n e9 z : Nat) (b : Bool) (hIv9 : CIv σ g n b e9 z)  : CxV l yX5_checkNeverStarted wsX5_checkNeverStarted rmX5_checkNeverStarted G σ [.ref (gad G 0)] (fun σ' => σ' = σ ∧ nev b e9 = true) (fun E => E = xISE ∧ nev b e9 = false) := by
  refine bgX (cc := cX5_checkNeverStarted) (maxL := 1) (ret := none) (own := RX5) (by decide) rfl rfl hG (Nat.le_of_ble_eq_true rfl) rfl ?_
  intro p e s m args below meth c ls hout Bd hl
  obtain ⟨hx, hb, hr, hml, hts, hown, hlocks, fx, hw⟩ := Bd
  have hl : lv_has ls 1 [(0, .ref (gad G 0))] := hl
  have hin : ∀ w ∈ wsX50, w ∈ wsX5_checkNeverStarted := by decide +kernel
  obtain ⟨⟨hg, hg1, hg2⟩, ⟨hn, hn6⟩, hon, ⟨he, he8⟩, ⟨hz, hz5⟩, hrk, hcn, hrec⟩ := id hIv9
  refine lv_aload_n hx hb dX5_checkNeverStarted_0 rfl (lv_at hl 0 rfl) ?_
  refine rGet (v := .int (σ 0 8)) (C := RX5) (T := TX5) (N := 10) hx hb fx hown hts hin hw 0 (hF.1 0 (by decide)) rfl rfl 8 (by decide) (hts (.fieldLink RX5 57 "Leaguewheel" "raceIsOn" "Z") (by decide +kernel)) (fun _ h9 => h9) rfl dX5_checkNeverStarted_1 ?_
  refine lv_rep0 (x := (σ 0 8)) (y := (bI b)) (by exact hon) ?_
  refine lv_b_ne (tgt := 17) hx hb dX5_checkNeverStarted_4 (by decide) (fun c_1 => ?_) (fun c_1 => ?_)
  · skip
    exact rThrowW (ik := 71) (is := 277) (ic := 75) (cls := "java/lang/IllegalStateException") (text := _) hx hb hlt hF.2.2.2.2 fx hw hown (by decide +kernel) (hts (.classLink RX5 71 "java/lang/IllegalStateException") (by decide +kernel)) (hts (.initialized "java/lang/IllegalStateException") (by decide +kernel)) (List.mem_of_getElem? (i := 0) rfl) (by decide +kernel) (at_ISE (fun w h => hts w (by revert w; decide +kernel))) gd_ISE (by rw [hml]; exact hl.1) dX5_checkNeverStarted_17 dX5_checkNeverStarted_20 dX5_checkNeverStarted_21 dX5_checkNeverStarted_24 dX5_checkNeverStarted_27 hout (Nat.le_of_ble_eq_true rfl) (Nat.le_of_ble_eq_true rfl) (Nat.le_of_ble_eq_true rfl) (Nat.le_of_ble_eq_true rfl) hlocks (by exact ⟨rfl, by first | (simp [nev, c_1]; done) | (simp [nev, c_1]; omega)⟩) (Nat.le_of_ble_eq_true rfl) (Nat.le_of_ble_eq_true rfl)
  · skip
    refine lv_aload_n hx hb dX5_checkNeverStarted_7 rfl (lv_at hl 0 rfl) ?_
    refine rGet (v := .ref (gad G 27)) (C := RX5) (T := TX5) (N := 10) hx hb fx hown hts hin hw 0 (hF.1 0 (by decide)) rfl rfl 5 (by decide) (hts (.fieldLink RX5 45 "Leaguewheel" "cup" "LLeaguewheel$Cup;") (by decide +kernel)) (fun _ h9 => h9) rfl dX5_checkNeverStarted_8 ?_
    refine rCallI (C := RX0) (As := []) (rest := []) ⟨hx, hb, hml, hown, hts⟩ fx hw (kX0_endedRaces l G hG hF σ ) (cwV 0 hts gX5_checkNeverStarted_X0_endedRaces rfl rfl rfl (by decide +kernel) ⟨Nat.le_of_ble_eq_true rfl, Nat.le_of_ble_eq_true rfl⟩) (hF.1 27 (by decide)) rfl rfl rfl rfl hl.1 rfl (Nat.le_of_ble_eq_true rfl) dX5_checkNeverStarted_11 ⟨Nat.zero_le _, Nat.zero_le _⟩ ?_
    intro r_3 σ_4 H locs p_2 hw
    obtain ⟨er_3, eσ_4⟩ := p_2
    have er_3 := er_3.symm; subst er_3
    have eσ_4 := eσ_4.symm; subst eσ_4
    refine lv_rep0 (x := (σ 27 2)) (y := nI e9) (by exact he) ?_
    refine lv_if_le (tgt := 28) hx hb dX5_checkNeverStarted_14 (by decide) (fun c_5 => ?_) (fun c_5 => ?_)
    · skip
      have c_5 : e9 = 0 := n0_let (by omega) c_5
      exact vy_ret (rRetV hx hb hr hw (by exact ⟨rfl, by simp [nev, c_1, c_5]⟩) hlocks dX5_checkNeverStarted_28)
    · skip
      have c_5 : 0 < e9 := n0_lef (by omega) c_5
      exact rThrowW (ik := 71) (is := 277) (ic := 75) (cls := "java/lang/IllegalStateException") (text := _) hx hb hlt hF.2.2.2.2 fx hw hown (by decide +kernel) (hts (.classLink RX5 71 "java/lang/IllegalStateException") (by decide +kernel)) (hts (.initialized "java/lang/IllegalStateException") (by decide +kernel)) (List.mem_of_getElem? (i := 0) rfl) (by decide +kernel) (at_ISE (fun w h => hts w (by revert w; decide +kernel))) gd_ISE (by rw [hml]; exact hl.1) dX5_checkNeverStarted_17 dX5_checkNeverStarted_20 dX5_checkNeverStarted_21 dX5_checkNeverStarted_24 dX5_checkNeverStarted_27 hout (Nat.le_of_ble_eq_true rfl) (Nat.le_of_ble_eq_true rfl) (Nat.le_of_ble_eq_true rfl) (Nat.le_of_ble_eq_true rfl) hlocks (by exact ⟨rfl, by first | (simp [nev, c_1, c_5]; done) | (simp [nev, c_1, c_5]; omega)⟩) (Nat.le_of_ble_eq_true rfl) (Nat.le_of_ble_eq_true rfl)

def rmX5_checkRaceIsOn : Room := ({ frames := 6, cells := 1, slots := 6, locals := 82 } : Room)
set_option maxHeartbeats 4000000 in
set_option maxRecDepth 100000 in
theorem kX5_checkRaceIsOn (l : Launch) (hlt : l.stackTraces = false) (G : Gx) (hG : gOk G) (hF : Full G) (σ : St) (g n e9 z : Nat) (b : Bool) (hIv9 : CIv σ g n b e9 z)  : CxV l yX5_checkRaceIsOn wsX5_checkRaceIsOn rmX5_checkRaceIsOn G σ [.ref (gad G 0)] (fun σ' => σ' = σ ∧ b = true) (fun E => E = xISE ∧ b = false) := by
  refine bgX (cc := cX5_checkRaceIsOn) (maxL := 1) (ret := none) (own := RX5) (by decide) rfl rfl hG (Nat.le_of_ble_eq_true rfl) rfl ?_
  intro p e s m args below meth c ls hout Bd hl
  obtain ⟨hx, hb, hr, hml, hts, hown, hlocks, fx, hw⟩ := Bd
  have hl : lv_has ls 1 [(0, .ref (gad G 0))] := hl
  have hin : ∀ w ∈ wsX50, w ∈ wsX5_checkRaceIsOn := by decide +kernel
  obtain ⟨⟨hg, hg1, hg2⟩, ⟨hn, hn6⟩, hon, ⟨he, he8⟩, ⟨hz, hz5⟩, hrk, hcn, hrec⟩ := id hIv9
  refine lv_aload_n hx hb dX5_checkRaceIsOn_0 rfl (lv_at hl 0 rfl) ?_
  refine rGet (v := .int (σ 0 8)) (C := RX5) (T := TX5) (N := 10) hx hb fx hown hts hin hw 0 (hF.1 0 (by decide)) rfl rfl 8 (by decide) (hts (.fieldLink RX5 57 "Leaguewheel" "raceIsOn" "Z") (by decide +kernel)) (fun _ h9 => h9) rfl dX5_checkRaceIsOn_1 ?_
  refine lv_rep0 (x := (σ 0 8)) (y := (bI b)) (by exact hon) ?_
  refine lv_b_ne (tgt := 18) hx hb dX5_checkRaceIsOn_4 (by decide) (fun c_1 => ?_) (fun c_1 => ?_)
  · skip
    exact vy_ret (rRetV hx hb hr hw (by exact ⟨rfl, c_1⟩) hlocks dX5_checkRaceIsOn_18)
  · skip
    exact rThrowW (ik := 71) (is := 279) (ic := 75) (cls := "java/lang/IllegalStateException") (text := _) hx hb hlt hF.2.2.2.2 fx hw hown (by decide +kernel) (hts (.classLink RX5 71 "java/lang/IllegalStateException") (by decide +kernel)) (hts (.initialized "java/lang/IllegalStateException") (by decide +kernel)) (List.mem_of_getElem? (i := 14) rfl) (by decide +kernel) (at_ISE (fun w h => hts w (by revert w; decide +kernel))) gd_ISE (by rw [hml]; exact hl.1) dX5_checkRaceIsOn_7 dX5_checkRaceIsOn_10 dX5_checkRaceIsOn_11 dX5_checkRaceIsOn_14 dX5_checkRaceIsOn_17 hout (Nat.le_of_ble_eq_true rfl) (Nat.le_of_ble_eq_true rfl) (Nat.le_of_ble_eq_true rfl) (Nat.le_of_ble_eq_true rfl) hlocks (by exact ⟨rfl, c_1⟩) (Nat.le_of_ble_eq_true rfl) (Nat.le_of_ble_eq_true rfl)

def rmX5_checkStillRacing : Room := ({ frames := 7, cells := 1, slots := 6, locals := 102 } : Room)
set_option maxHeartbeats 4000000 in
set_option maxRecDepth 100000 in
theorem kX5_checkStillRacing (l : Launch) (hlt : l.stackTraces = false) (G : Gx) (hG : gOk G) (hF : Full G) (σ : St) (k : Nat) (hk : k < 6) (g n e9 z : Nat) (b : Bool) (hIv9 : CIv σ g n b e9 z)  : CxV l yX5_checkStillRacing wsX5_checkStillRacing rmX5_checkStillRacing G σ [.ref (gad G 0), .int (nI k)] (fun σ' => σ' = σ ∧ b = true ∧ finB σ 4 k = false) (fun E => E = xISE ∧ (b && !finB σ 4 k) = false) := by
  refine bgX (cc := cX5_checkStillRacing) (maxL := 2) (ret := none) (own := RX5) (by decide) rfl rfl hG (Nat.le_of_ble_eq_true rfl) rfl ?_
  intro p e s m args below meth c ls hout Bd hl
  obtain ⟨hx, hb, hr, hml, hts, hown, hlocks, fx, hw⟩ := Bd
  have hl : lv_has ls 2 [(0, .ref (gad G 0)), (1, .int (nI k))] := hl
  have hin : ∀ w ∈ wsX50, w ∈ wsX5_checkStillRacing := by decide +kernel
  obtain ⟨⟨hg, hg1, hg2⟩, ⟨hn, hn6⟩, hon, ⟨he, he8⟩, ⟨hz, hz5⟩, hrk, hcn, hrec⟩ := id hIv9
  refine lv_aload_n hx hb dX5_checkStillRacing_0 rfl (lv_at hl 0 rfl) ?_
  refine rCallXV (C := RX5) (As := []) (rest := []) ⟨hx, hb, hml, hown, hts⟩ fx hw (kX5_checkRaceIsOn l hlt G hG hF σ g n e9 z b hIv9) (cwV 0 hts gX5_checkStillRacing_X5_checkRaceIsOn rfl rfl rfl (by decide +kernel) ⟨Nat.le_of_ble_eq_true rfl, Nat.le_of_ble_eq_true rfl⟩) (hF.1 0 (by decide)) rfl rfl rfl rfl hl.1 rfl (Nat.le_of_ble_eq_true rfl) dX5_checkStillRacing_1 ⟨Nat.le_of_ble_eq_true rfl, Nat.le_of_ble_eq_true rfl⟩ (fun E ce q9 H locs hE hw h1 h2 h3 => ?_) ?_
  · skip
    exact rOut (by exact ⟨hE.1, by simp [hE.2]⟩) hw h1 h2 h3 hout hlocks (Nat.le_of_ble_eq_true rfl) (Nat.le_of_ble_eq_true rfl)
  intro σ_2 H locs p_1 hw
  obtain ⟨eσ_2, p_1_0⟩ := p_1
  have eσ_2 := eσ_2.symm; subst eσ_2
  refine lv_aload_n hx hb dX5_checkStillRacing_4 rfl (lv_at hl 0 rfl) ?_
  refine rGet (v := .ref (gad G 4)) (C := RX5) (T := TX5) (N := 10) hx hb fx hown hts hin hw 0 (hF.1 0 (by decide)) rfl rfl 1 (by decide) (hts (.fieldLink RX5 21 "Leaguewheel" "race" "LLeaguewheel$Race;") (by decide +kernel)) (fun _ h9 => h9) rfl dX5_checkStillRacing_5 ?_
  refine lv_iload_n hx hb dX5_checkStillRacing_8 rfl (lv_at hl 1 rfl) ?_
  refine rCallI (C := RX3) (As := [.int (nI k)]) (rest := []) ⟨hx, hb, hml, hown, hts⟩ fx hw (kX3_isFinished l G hG hF σ 4 (Or.inl rfl) k (by omega)) (cwV 1 hts gX5_checkStillRacing_X3_isFinished rfl rfl rfl (by decide +kernel) ⟨Nat.le_of_ble_eq_true rfl, Nat.le_of_ble_eq_true rfl⟩) (hF.1 4 (by decide)) rfl rfl rfl rfl hl.1 rfl (Nat.le_of_ble_eq_true rfl) dX5_checkStillRacing_9 ⟨Nat.zero_le _, Nat.zero_le _⟩ ?_
  intro r_4 σ_5 H locs p_3 hw
  obtain ⟨er_4, eσ_5⟩ := p_3
  have er_4 := er_4.symm; subst er_4
  have eσ_5 := eσ_5.symm; subst eσ_5
  refine lv_b_eq (tgt := 26) hx hb dX5_checkStillRacing_12 (by decide) (fun c_6 => ?_) (fun c_6 => ?_)
  · skip
    exact vy_ret (rRetV hx hb hr hw (by exact ⟨rfl, p_1_0, c_6⟩) hlocks dX5_checkStillRacing_26)
  · skip
    exact rThrowW (ik := 71) (is := 281) (ic := 75) (cls := "java/lang/IllegalStateException") (text := _) hx hb hlt hF.2.2.2.2 fx hw hown (by decide +kernel) (hts (.classLink RX5 71 "java/lang/IllegalStateException") (by decide +kernel)) (hts (.initialized "java/lang/IllegalStateException") (by decide +kernel)) (List.mem_of_getElem? (i := 15) rfl) (by decide +kernel) (at_ISE (fun w h => hts w (by revert w; decide +kernel))) gd_ISE (by rw [hml]; exact hl.1) dX5_checkStillRacing_15 dX5_checkStillRacing_18 dX5_checkStillRacing_19 dX5_checkStillRacing_22 dX5_checkStillRacing_25 hout (Nat.le_of_ble_eq_true rfl) (Nat.le_of_ble_eq_true rfl) (Nat.le_of_ble_eq_true rfl) (Nat.le_of_ble_eq_true rfl) hlocks (by exact ⟨rfl, by simp [c_6]⟩) (Nat.le_of_ble_eq_true rfl) (Nat.le_of_ble_eq_true rfl)

def rmX5_gates : Room := ({ frames := 1, cells := 0, slots := 0, locals := 20 } : Room)
set_option maxHeartbeats 4000000 in
set_option maxRecDepth 100000 in
theorem kX5_gates (l : Launch) (G : Gx) (hG : gOk G) (hF : Full G) (σ : St) (g n e9 z : Nat) (b : Bool) (hIv9 : CIv σ g n b e9 z)  : CtI l yX5_gates wsX5_gates rmX5_gates G σ [.ref (gad G 0)] (fun r σ' => r = nI g ∧ σ' = σ) := by
  refine bgMet (cc := cX5_gates) (maxL := 1) (ret := (some .int)) (own := RX5) (by decide) rfl rfl hG (Nat.le_of_ble_eq_true rfl) rfl ?_
  intro p e s m args below meth c ls Bd hl
  obtain ⟨hx, hb, hr, hml, hts, hown, hlocks, fx, hw⟩ := Bd
  have hl : lv_has ls 1 [(0, .ref (gad G 0))] := hl
  have hin : ∀ w ∈ wsX50, w ∈ wsX5_gates := by decide +kernel
  obtain ⟨⟨hg, hg1, hg2⟩, ⟨hn, hn6⟩, hon, ⟨he, he8⟩, ⟨hz, hz5⟩, hrk, hcn, hrec⟩ := id hIv9
  refine lv_aload_n hx hb dX5_gates_0 rfl (lv_at hl 0 rfl) ?_
  refine rGet (v := .ref (gad G 1)) (C := RX5) (T := TX5) (N := 10) hx hb fx hown hts hin hw 0 (hF.1 0 (by decide)) rfl rfl 0 (by decide) (hts (.fieldLink RX5 10 "Leaguewheel" "track" "LLeaguewheel$Track;") (by decide +kernel)) (fun _ h9 => h9) rfl dX5_gates_1 ?_
  refine rCallI (C := RX4) (As := []) (rest := []) ⟨hx, hb, hml, hown, hts⟩ fx hw (kX4_gateCount l G hG hF σ ) (cwV 0 hts gX5_gates_X4_gateCount rfl rfl rfl (by decide +kernel) ⟨Nat.le_of_ble_eq_true rfl, Nat.le_of_ble_eq_true rfl⟩) (hF.1 1 (by decide)) rfl rfl rfl rfl hl.1 rfl (Nat.le_of_ble_eq_true rfl) dX5_gates_4 ⟨Nat.zero_le _, Nat.zero_le _⟩ ?_
  intro r_2 σ_3 H locs p_1 hw
  obtain ⟨er_2, eσ_3⟩ := p_1
  have er_2 := er_2.symm; subst er_2
  have eσ_3 := eσ_3.symm; subst eσ_3
  refine lv_rep0 (x := (σ 1 2)) (y := nI g) (by exact hg) ?_
  exact rRetI hx hb hr hw (by exact ⟨by first | rfl | simp [bI, bI] | simp [bI, upA_n, upA_s, upA_upA, upA_self, upd_self, upd_upd, pk_us, bI], by first | rfl | simp [bI, upA_n, upA_s, upA_upA, upA_self, upd_self, upd_upd, pk_us, bI]⟩) hlocks dX5_gates_7

def rmX5_karts : Room := ({ frames := 0, cells := 0, slots := 0, locals := 0 } : Room)
set_option maxHeartbeats 4000000 in
set_option maxRecDepth 100000 in
theorem kX5_karts (l : Launch) (G : Gx) (hG : gOk G) (hF : Full G) (σ : St) (g n e9 z : Nat) (b : Bool) (hIv9 : CIv σ g n b e9 z)  : CtI l yX5_karts wsX5_karts rmX5_karts G σ [.ref (gad G 0)] (fun r σ' => r = nI n ∧ σ' = σ) := by
  refine bgMet (cc := cX5_karts) (maxL := 1) (ret := (some .int)) (own := RX5) (by decide) rfl rfl hG (Nat.le_of_ble_eq_true rfl) rfl ?_
  intro p e s m args below meth c ls Bd hl
  obtain ⟨hx, hb, hr, hml, hts, hown, hlocks, fx, hw⟩ := Bd
  have hl : lv_has ls 1 [(0, .ref (gad G 0))] := hl
  have hin : ∀ w ∈ wsX50, w ∈ wsX5_karts := by decide +kernel
  obtain ⟨⟨hg, hg1, hg2⟩, ⟨hn, hn6⟩, hon, ⟨he, he8⟩, ⟨hz, hz5⟩, hrk, hcn, hrec⟩ := id hIv9
  refine lv_aload_n hx hb dX5_karts_0 rfl (lv_at hl 0 rfl) ?_
  refine rGet (v := .int (σ 0 7)) (C := RX5) (T := TX5) (N := 10) hx hb fx hown hts hin hw 0 (hF.1 0 (by decide)) rfl rfl 7 (by decide) (hts (.fieldLink RX5 53 "Leaguewheel" "kartCount" "I") (by decide +kernel)) (fun _ h9 => h9) rfl dX5_karts_1 ?_
  refine lv_rep0 (x := (σ 0 7)) (y := nI n) (by exact hn) ?_
  exact rRetI hx hb hr hw (by exact ⟨by first | rfl | simp [bI, bI] | simp [bI, upA_n, upA_s, upA_upA, upA_self, upd_self, upd_upd, pk_us, bI], by first | rfl | simp [bI, upA_n, upA_s, upA_upA, upA_self, upd_self, upd_upd, pk_us, bI]⟩) hlocks dX5_karts_4

def rmX5_isOn : Room := ({ frames := 0, cells := 0, slots := 0, locals := 0 } : Room)
set_option maxHeartbeats 4000000 in
set_option maxRecDepth 100000 in
theorem kX5_isOn (l : Launch) (G : Gx) (hG : gOk G) (hF : Full G) (σ : St) (g n e9 z : Nat) (b : Bool) (hIv9 : CIv σ g n b e9 z)  : CtI l yX5_isOn wsX5_isOn rmX5_isOn G σ [.ref (gad G 0)] (fun r σ' => r = bI b ∧ σ' = σ) := by
  refine bgMet (cc := cX5_isOn) (maxL := 1) (ret := (some .boolean)) (own := RX5) (by decide) rfl rfl hG (Nat.le_of_ble_eq_true rfl) rfl ?_
  intro p e s m args below meth c ls Bd hl
  obtain ⟨hx, hb, hr, hml, hts, hown, hlocks, fx, hw⟩ := Bd
  have hl : lv_has ls 1 [(0, .ref (gad G 0))] := hl
  have hin : ∀ w ∈ wsX50, w ∈ wsX5_isOn := by decide +kernel
  obtain ⟨⟨hg, hg1, hg2⟩, ⟨hn, hn6⟩, hon, ⟨he, he8⟩, ⟨hz, hz5⟩, hrk, hcn, hrec⟩ := id hIv9
  refine lv_aload_n hx hb dX5_isOn_0 rfl (lv_at hl 0 rfl) ?_
  refine rGet (v := .int (σ 0 8)) (C := RX5) (T := TX5) (N := 10) hx hb fx hown hts hin hw 0 (hF.1 0 (by decide)) rfl rfl 8 (by decide) (hts (.fieldLink RX5 57 "Leaguewheel" "raceIsOn" "Z") (by decide +kernel)) (fun _ h9 => h9) rfl dX5_isOn_1 ?_
  refine lv_rep0 (x := (σ 0 8)) (y := (bI b)) (by exact hon) ?_
  exact rRetZ hx hb hr hw (nar_bI _) (by exact ⟨by first | rfl | simp [bI, bI] | simp [bI, upA_n, upA_s, upA_upA, upA_self, upd_self, upd_upd, pk_us, bI], by first | rfl | simp [bI, upA_n, upA_s, upA_upA, upA_self, upd_self, upd_upd, pk_us, bI]⟩) hlocks dX5_isOn_4

def rmX5_races : Room := ({ frames := 1, cells := 0, slots := 0, locals := 20 } : Room)
set_option maxHeartbeats 4000000 in
set_option maxRecDepth 100000 in
theorem kX5_races (l : Launch) (G : Gx) (hG : gOk G) (hF : Full G) (σ : St) (g n e9 z : Nat) (b : Bool) (hIv9 : CIv σ g n b e9 z)  : CtI l yX5_races wsX5_races rmX5_races G σ [.ref (gad G 0)] (fun r σ' => r = nI e9 ∧ σ' = σ) := by
  refine bgMet (cc := cX5_races) (maxL := 1) (ret := (some .int)) (own := RX5) (by decide) rfl rfl hG (Nat.le_of_ble_eq_true rfl) rfl ?_
  intro p e s m args below meth c ls Bd hl
  obtain ⟨hx, hb, hr, hml, hts, hown, hlocks, fx, hw⟩ := Bd
  have hl : lv_has ls 1 [(0, .ref (gad G 0))] := hl
  have hin : ∀ w ∈ wsX50, w ∈ wsX5_races := by decide +kernel
  obtain ⟨⟨hg, hg1, hg2⟩, ⟨hn, hn6⟩, hon, ⟨he, he8⟩, ⟨hz, hz5⟩, hrk, hcn, hrec⟩ := id hIv9
  refine lv_aload_n hx hb dX5_races_0 rfl (lv_at hl 0 rfl) ?_
  refine rGet (v := .ref (gad G 27)) (C := RX5) (T := TX5) (N := 10) hx hb fx hown hts hin hw 0 (hF.1 0 (by decide)) rfl rfl 5 (by decide) (hts (.fieldLink RX5 45 "Leaguewheel" "cup" "LLeaguewheel$Cup;") (by decide +kernel)) (fun _ h9 => h9) rfl dX5_races_1 ?_
  refine rCallI (C := RX0) (As := []) (rest := []) ⟨hx, hb, hml, hown, hts⟩ fx hw (kX0_endedRaces l G hG hF σ ) (cwV 0 hts gX5_races_X0_endedRaces rfl rfl rfl (by decide +kernel) ⟨Nat.le_of_ble_eq_true rfl, Nat.le_of_ble_eq_true rfl⟩) (hF.1 27 (by decide)) rfl rfl rfl rfl hl.1 rfl (Nat.le_of_ble_eq_true rfl) dX5_races_4 ⟨Nat.zero_le _, Nat.zero_le _⟩ ?_
  intro r_2 σ_3 H locs p_1 hw
  obtain ⟨er_2, eσ_3⟩ := p_1
  have er_2 := er_2.symm; subst er_2
  have eσ_3 := eσ_3.symm; subst eσ_3
  refine lv_rep0 (x := (σ 27 2)) (y := nI e9) (by exact he) ?_
  exact rRetI hx hb hr hw (by exact ⟨by first | rfl | simp [bI, bI] | simp [bI, upA_n, upA_s, upA_upA, upA_self, upd_self, upd_upd, pk_us, bI], by first | rfl | simp [bI, upA_n, upA_s, upA_upA, upA_self, upd_self, upd_upd, pk_us, bI]⟩) hlocks dX5_races_7

def rmX5_addGate : Room := ({ frames := 7, cells := 1, slots := 6, locals := 102 } : Room)
set_option maxHeartbeats 4000000 in
set_option maxRecDepth 100000 in
theorem kX5_addGate (l : Launch) (hlt : l.stackTraces = false) (G : Gx) (hG : gOk G) (hF : Full G) (σ : St) (b9 : Bool) (g n e9 z : Nat) (b : Bool) (hIv9 : CIv σ g n b e9 z)  : CxI l yX5_addGate wsX5_addGate rmX5_addGate G σ [.ref (gad G 0), .int (bI b9)] (fun r σ' => r = nI g ∧ σ' = stGate σ b9 g ∧ (nev b e9 && decide (g < 12)) = true) (fun E => E = xISE ∧ (nev b e9 && decide (g < 12)) = false) := by
  refine bgX (cc := cX5_addGate) (maxL := 2) (ret := (some .int)) (own := RX5) (by decide) rfl rfl hG (Nat.le_of_ble_eq_true rfl) rfl ?_
  intro p e s m args below meth c ls hout Bd hl
  obtain ⟨hx, hb, hr, hml, hts, hown, hlocks, fx, hw⟩ := Bd
  have hl : lv_has ls 2 [(0, .ref (gad G 0)), (1, .int (bI b9))] := hl
  have hin : ∀ w ∈ wsX50, w ∈ wsX5_addGate := by decide +kernel
  obtain ⟨⟨hg, hg1, hg2⟩, ⟨hn, hn6⟩, hon, ⟨he, he8⟩, ⟨hz, hz5⟩, hrk, hcn, hrec⟩ := id hIv9
  refine lv_aload_n hx hb dX5_addGate_0 rfl (lv_at hl 0 rfl) ?_
  refine rCallXV (C := RX5) (As := []) (rest := []) ⟨hx, hb, hml, hown, hts⟩ fx hw (kX5_checkNeverStarted l hlt G hG hF σ g n e9 z b hIv9) (cwV 0 hts gX5_addGate_X5_checkNeverStarted rfl rfl rfl (by decide +kernel) ⟨Nat.le_of_ble_eq_true rfl, Nat.le_of_ble_eq_true rfl⟩) (hF.1 0 (by decide)) rfl rfl rfl rfl hl.1 rfl (Nat.le_of_ble_eq_true rfl) dX5_addGate_1 ⟨Nat.le_of_ble_eq_true rfl, Nat.le_of_ble_eq_true rfl⟩ (fun E ce q9 H locs hE hw h1 h2 h3 => ?_) ?_
  · skip
    exact rOut (by exact ⟨hE.1, by simp [hE.2]⟩) hw h1 h2 h3 hout hlocks (Nat.le_of_ble_eq_true rfl) (Nat.le_of_ble_eq_true rfl)
  intro σ_2 H locs p_1 hw
  obtain ⟨eσ_2, p_1_0⟩ := p_1
  have eσ_2 := eσ_2.symm; subst eσ_2
  refine lv_aload_n hx hb dX5_addGate_4 rfl (lv_at hl 0 rfl) ?_
  refine rGet (v := .ref (gad G 1)) (C := RX5) (T := TX5) (N := 10) hx hb fx hown hts hin hw 0 (hF.1 0 (by decide)) rfl rfl 0 (by decide) (hts (.fieldLink RX5 10 "Leaguewheel" "track" "LLeaguewheel$Track;") (by decide +kernel)) (fun _ h9 => h9) rfl dX5_addGate_5 ?_
  refine rCallI (C := RX4) (As := []) (rest := []) ⟨hx, hb, hml, hown, hts⟩ fx hw (kX4_isFull l G hG hF σ ) (cwV 0 hts gX5_addGate_X4_isFull rfl rfl rfl (by decide +kernel) ⟨Nat.le_of_ble_eq_true rfl, Nat.le_of_ble_eq_true rfl⟩) (hF.1 1 (by decide)) rfl rfl rfl rfl hl.1 rfl (Nat.le_of_ble_eq_true rfl) dX5_addGate_8 ⟨Nat.zero_le _, Nat.zero_le _⟩ ?_
  intro r_4 σ_5 H locs p_3 hw
  obtain ⟨er_4, eσ_5⟩ := p_3
  have er_4 := er_4.symm; subst er_4
  have eσ_5 := eσ_5.symm; subst eσ_5
  refine lv_b_eq (tgt := 24) hx hb dX5_addGate_11 (by decide) (fun c_6 => ?_) (fun c_6 => ?_)
  · skip
    have hg12 : g < 12 := by have qz9 := c_6; simp only [Bool.not_eq_false', decide_eq_true_eq] at qz9; rw [hg] at qz9; exact (nI_ltI (by omega) (by decide)).mp qz9
    refine lv_aload_n hx hb dX5_addGate_24 rfl (lv_at hl 0 rfl) ?_
    refine rGet (v := .ref (gad G 1)) (C := RX5) (T := TX5) (N := 10) hx hb fx hown hts hin hw 0 (hF.1 0 (by decide)) rfl rfl 0 (by decide) (hts (.fieldLink RX5 10 "Leaguewheel" "track" "LLeaguewheel$Track;") (by decide +kernel)) (fun _ h9 => h9) rfl dX5_addGate_25 ?_
    refine lv_iload_n hx hb dX5_addGate_28 rfl (lv_at hl 1 rfl) ?_
    refine rCallI (C := RX4) (As := [.int (bI b9)]) (rest := []) ⟨hx, hb, hml, hown, hts⟩ fx hw (kX4_appendGate l G hG hF σ b9 g hg (by omega)) (cwV 1 hts gX5_addGate_X4_appendGate rfl rfl rfl (by decide +kernel) ⟨Nat.le_of_ble_eq_true rfl, Nat.le_of_ble_eq_true rfl⟩) (hF.1 1 (by decide)) rfl rfl rfl rfl hl.1 rfl (Nat.le_of_ble_eq_true rfl) dX5_addGate_29 ⟨Nat.zero_le _, Nat.zero_le _⟩ ?_
    intro r_8 σ_9 H locs p_7 hw
    obtain ⟨er_8, eσ_9⟩ := p_7
    have er_8 := er_8.symm; subst er_8
    subst eσ_9
    exact vy_ret (rRetI hx hb hr hw (by exact ⟨rfl, rfl, by simp [hg12, p_1_0, c_6]⟩) hlocks dX5_addGate_32)
  · skip
    have hg12 : ¬ g < 12 := by have qz9 := c_6; simp only [Bool.not_eq_true', decide_eq_false_iff_not] at qz9; rw [hg] at qz9; exact fun h9 => qz9 ((nI_ltI (by omega) (by decide)).mpr h9)
    exact rThrow (ik := 71) (is := 73) (ic := 75) (cls := "java/lang/IllegalStateException") (text := _) hx hb hlt hF.2.2.2.2 fx hw hown (by decide +kernel) (hts (.classLink RX5 71 "java/lang/IllegalStateException") (by decide +kernel)) (hts (.initialized "java/lang/IllegalStateException") (by decide +kernel)) (List.mem_of_getElem? (i := 1) rfl) (by decide +kernel) (at_ISE (fun w h => hts w (by revert w; decide +kernel))) gd_ISE (by rw [hml]; exact hl.1) dX5_addGate_14 dX5_addGate_17 dX5_addGate_18 dX5_addGate_20 dX5_addGate_23 hout (Nat.le_of_ble_eq_true rfl) (Nat.le_of_ble_eq_true rfl) (Nat.le_of_ble_eq_true rfl) (Nat.le_of_ble_eq_true rfl) hlocks (by exact ⟨rfl, by simp [hg12]⟩) (Nat.le_of_ble_eq_true rfl) (Nat.le_of_ble_eq_true rfl)

def rmX5_addWay : Room := ({ frames := 7, cells := 1, slots := 6, locals := 112 } : Room)
set_option maxHeartbeats 4000000 in
set_option maxRecDepth 100000 in
theorem kX5_addWay (l : Launch) (hlt : l.stackTraces = false) (G : Gx) (hG : gOk G) (hF : Full G) (σ : St) (x y w : Int32) (g n e9 z : Nat) (b : Bool) (hIv9 : CIv σ g n b e9 z)  : CxI l yX5_addWay wsX5_addWay rmX5_addWay G σ [.ref (gad G 0), .int x, .int y, .int w] (fun r σ' => r = (if σ 2 (ix x * 12 + ix y) = 0 then -1 else σ 2 (ix x * 12 + ix y)) ∧ σ' = wySt σ g (ix x) (ix y) w ∧ (inB x g && inB y g) = true ∧ rgtB x y w = true ∧ nev b e9 = true) (fun E => (E = xIOB ∧ (inB x g && inB y g) = false) ∨ (E = xIAE ∧ (inB x g && inB y g) = true ∧ rgtB x y w = false) ∨ (E = xISE ∧ (inB x g && inB y g) = true ∧ rgtB x y w = true ∧ nev b e9 = false)) := by
  refine bgX (cc := cX5_addWay) (maxL := 5) (ret := (some .int)) (own := RX5) (by decide) rfl rfl hG (Nat.le_of_ble_eq_true rfl) rfl ?_
  intro p e s m args below meth c ls hout Bd hl
  obtain ⟨hx, hb, hr, hml, hts, hown, hlocks, fx, hw⟩ := Bd
  have hl : lv_has ls 5 [(0, .ref (gad G 0)), (1, .int x), (2, .int y), (3, .int w)] := hl
  have hin : ∀ w ∈ wsX50, w ∈ wsX5_addWay := by decide +kernel
  obtain ⟨⟨hg, hg1, hg2⟩, ⟨hn, hn6⟩, hon, ⟨he, he8⟩, ⟨hz, hz5⟩, hrk, hcn, hrec⟩ := id hIv9
  refine lv_aload_n hx hb dX5_addWay_0 rfl (lv_at hl 0 rfl) ?_
  refine lv_iload_n hx hb dX5_addWay_1 rfl (lv_at hl 1 rfl) ?_
  refine rCallXV (C := RX5) (As := [.int x]) (rest := []) ⟨hx, hb, hml, hown, hts⟩ fx hw (kX5_checkGate l hlt G hG hF σ x g n e9 z b hIv9) (cwV 1 hts gX5_addWay_X5_checkGate rfl rfl rfl (by decide +kernel) ⟨Nat.le_of_ble_eq_true rfl, Nat.le_of_ble_eq_true rfl⟩) (hF.1 0 (by decide)) rfl rfl rfl rfl hl.1 rfl (Nat.le_of_ble_eq_true rfl) dX5_addWay_2 ⟨Nat.le_of_ble_eq_true rfl, Nat.le_of_ble_eq_true rfl⟩ (fun E ce q9 H locs hE hw h1 h2 h3 => ?_) ?_
  · skip
    exact rOut (by exact Or.inl ⟨hE.1, by simp [hE.2]⟩) hw h1 h2 h3 hout hlocks (Nat.le_of_ble_eq_true rfl) (Nat.le_of_ble_eq_true rfl)
  intro σ_2 H locs p_1 hw
  obtain ⟨eσ_2, p_1_0⟩ := p_1
  have eσ_2 := eσ_2.symm; subst eσ_2
  have hx9 := inB_ix (by omega) p_1_0
  have q_3 : x = (nI (ix x)) := by exact hx9.1
  have hl : lv_has ls 5 [(0, .ref (gad G 0)), (1, .int (nI (ix x))), (2, .int y), (3, .int w)] := (lv_c (lv_at hl 0 rfl) (lv_c (lv_atq hl 1 rfl q_3) (lv_c (lv_at hl 2 rfl) (lv_c (lv_at hl 3 rfl) (lv_c0 hl)))))
  refine lv_aload_n hx hb dX5_addWay_5 rfl (lv_at hl 0 rfl) ?_
  refine lv_iload_n hx hb dX5_addWay_6 rfl (lv_at hl 2 rfl) ?_
  refine rCallXV (C := RX5) (As := [.int y]) (rest := []) ⟨hx, hb, hml, hown, hts⟩ fx hw (kX5_checkGate l hlt G hG hF σ y g n e9 z b hIv9) (cwV 1 hts gX5_addWay_X5_checkGate rfl rfl rfl (by decide +kernel) ⟨Nat.le_of_ble_eq_true rfl, Nat.le_of_ble_eq_true rfl⟩) (hF.1 0 (by decide)) rfl rfl rfl rfl hl.1 rfl (Nat.le_of_ble_eq_true rfl) dX5_addWay_7 ⟨Nat.le_of_ble_eq_true rfl, Nat.le_of_ble_eq_true rfl⟩ (fun E ce q9 H locs hE hw h1 h2 h3 => ?_) ?_
  · skip
    exact rOut (by exact Or.inl ⟨hE.1, by simp [hE.2]⟩) hw h1 h2 h3 hout hlocks (Nat.le_of_ble_eq_true rfl) (Nat.le_of_ble_eq_true rfl)
  intro σ_5 H locs p_4 hw
  obtain ⟨eσ_5, p_4_0⟩ := p_4
  have eσ_5 := eσ_5.symm; subst eσ_5
  have hy9 := inB_ix (by omega) p_4_0
  have q_6 : y = (nI (ix y)) := by exact hy9.1
  have hl : lv_has ls 5 [(0, .ref (gad G 0)), (1, .int (nI (ix x))), (2, .int (nI (ix y))), (3, .int w)] := (lv_c (lv_at hl 0 rfl) (lv_c (lv_at hl 1 rfl) (lv_c (lv_atq hl 2 rfl q_6) (lv_c (lv_at hl 3 rfl) (lv_c0 hl)))))
  refine lv_iload_n hx hb dX5_addWay_10 rfl (lv_at hl 2 rfl) ?_
  have lab_47 : (decide (ix x < ix y) || (decide (ix y = 0) && decide (0 < ix x))) = true → ∀ (H : Heap) (locs : List Loc) (ls : Array Slot), Wd G s σ H locs → lv_has ls 5 [(0, .ref (gad G 0)), (1, .int (nI (ix x))), (2, .int (nI (ix y))), (3, .int w)] → W p l e rmX5_addWay s m args below meth c H locs 0 0 (vy_MQ below (va_Qi (fun r σ' => r = (if σ 2 (ix x * 12 + ix y) = 0 then -1 else σ 2 (ix x * 12 + ix y)) ∧ σ' = wySt σ g (ix x) (ix y) w ∧ (inB x g && inB y g) = true ∧ rgtB x y w = true ∧ nev b e9 = true) (BW G) (gA G)) (XW G σ (fun E => (E = xIOB ∧ (inB x g && inB y g) = false) ∨ (E = xIAE ∧ (inB x g && inB y g) = true ∧ rgtB x y w = false) ∨ (E = xISE ∧ (inB x g && inB y g) = true ∧ rgtB x y w = true ∧ nev b e9 = false))) args s 1 6 (gA G)) (F0 m 47 ls []) := by
    intro  h47_0 H locs ls hw hl
    refine lv_iload_n hx hb dX5_addWay_47 rfl (lv_at hl 3 rfl) ?_
    refine lv_iconst (v := 1) hx hb dX5_addWay_48 (by decide) ?_
    refine lv_icmp_lt (tgt := 58) hx hb dX5_addWay_49 (by decide) (fun c_7 => ?_) (fun c_7 => ?_)
    · skip
      exact rThrow (ik := 86) (is := 93) (ic := 90) (cls := "java/lang/IllegalArgumentException") (text := _) hx hb hlt hF.2.2.2.2 fx hw hown (by decide +kernel) (hts (.classLink RX5 86 "java/lang/IllegalArgumentException") (by decide +kernel)) (hts (.initialized "java/lang/IllegalArgumentException") (by decide +kernel)) (List.mem_of_getElem? (i := 5) rfl) (by decide +kernel) (at_IAE (fun w h => hts w (by revert w; decide +kernel))) gd_IAE (by rw [hml]; exact hl.1) dX5_addWay_58 dX5_addWay_61 dX5_addWay_62 dX5_addWay_64 dX5_addWay_67 hout (Nat.le_of_ble_eq_true rfl) (Nat.le_of_ble_eq_true rfl) (Nat.le_of_ble_eq_true rfl) (Nat.le_of_ble_eq_true rfl) hlocks (by exact Or.inr (Or.inl ⟨rfl, by simp [p_1_0, p_4_0], by unfold rgtB; rw [show inR w 1 100 = false by first | exact inR_f1 c_7 | exact inR_f2 c_7]; exact Bool.and_false _⟩)) (Nat.le_of_ble_eq_true rfl) (Nat.le_of_ble_eq_true rfl)
    · skip
      refine lv_iload_n hx hb dX5_addWay_52 rfl (lv_at hl 3 rfl) ?_
      refine lv_bipush (v := 100) hx hb dX5_addWay_53 (by decide) ?_
      refine lv_icmp_le (tgt := 68) hx hb dX5_addWay_55 (by decide) (fun c_8 => ?_) (fun c_8 => ?_)
      · skip
        refine lv_aload_n hx hb dX5_addWay_68 rfl (lv_at hl 0 rfl) ?_
        refine rCallXV (C := RX5) (As := []) (rest := []) ⟨hx, hb, hml, hown, hts⟩ fx hw (kX5_checkNeverStarted l hlt G hG hF σ g n e9 z b hIv9) (cwV 0 hts gX5_addWay_X5_checkNeverStarted rfl rfl rfl (by decide +kernel) ⟨Nat.le_of_ble_eq_true rfl, Nat.le_of_ble_eq_true rfl⟩) (hF.1 0 (by decide)) rfl rfl rfl rfl hl.1 rfl (Nat.le_of_ble_eq_true rfl) dX5_addWay_69 ⟨Nat.le_of_ble_eq_true rfl, Nat.le_of_ble_eq_true rfl⟩ (fun E ce q9 H locs hE hw h1 h2 h3 => ?_) ?_
        · skip
          exact rOut (by exact Or.inr (Or.inr ⟨hE.1, by simp [p_1_0, p_4_0], by unfold rgtB; rw [h47_0, inR_t c_7 c_8]; rfl, hE.2⟩)) hw h1 h2 h3 hout hlocks (Nat.le_of_ble_eq_true rfl) (Nat.le_of_ble_eq_true rfl)
        intro σ_10 H locs p_9 hw
        obtain ⟨eσ_10, p_9_0⟩ := p_9
        have eσ_10 := eσ_10.symm; subst eσ_10
        refine lv_aload_n hx hb dX5_addWay_72 rfl (lv_at hl 0 rfl) ?_
        refine rGet (v := .ref (gad G 1)) (C := RX5) (T := TX5) (N := 10) hx hb fx hown hts hin hw 0 (hF.1 0 (by decide)) rfl rfl 0 (by decide) (hts (.fieldLink RX5 10 "Leaguewheel" "track" "LLeaguewheel$Track;") (by decide +kernel)) (fun _ h9 => h9) rfl dX5_addWay_73 ?_
        refine lv_iload_n hx hb dX5_addWay_76 rfl (lv_at hl 1 rfl) ?_
        refine lv_iload_n hx hb dX5_addWay_77 rfl (lv_at hl 2 rfl) ?_
        refine rCallI (C := RX4) (As := [.int (nI (ix x)), .int (nI (ix y))]) (rest := []) ⟨hx, hb, hml, hown, hts⟩ fx hw (kX4_wayLength l G hG hF σ ((ix x)) ((ix y)) (by omega) (by omega)) (cwV 2 hts gX5_addWay_X4_wayLength rfl rfl rfl (by decide +kernel) ⟨Nat.le_of_ble_eq_true rfl, Nat.le_of_ble_eq_true rfl⟩) (hF.1 1 (by decide)) rfl rfl rfl rfl hl.1 rfl (Nat.le_of_ble_eq_true rfl) dX5_addWay_78 ⟨Nat.zero_le _, Nat.zero_le _⟩ ?_
        intro r_12 σ_13 H locs p_11 hw
        obtain ⟨er_12, eσ_13⟩ := p_11
        have er_12 := er_12.symm; subst er_12
        have eσ_13 := eσ_13.symm; subst eσ_13
        refine lv_istore (lv' := [(4, .int (σ 2 ((ix x) * 12 + (ix y)))), (0, .ref (gad G 0)), (1, .int (nI (ix x))), (2, .int (nI (ix y))), (3, .int w)]) hx hb dX5_addWay_81 hl (by decide) rfl (fun ls hl => ?_)
        refine lv_aload_n hx hb dX5_addWay_83 rfl (lv_at hl 1 rfl) ?_
        refine rGet (v := .ref (gad G 1)) (C := RX5) (T := TX5) (N := 10) hx hb fx hown hts hin hw 0 (hF.1 0 (by decide)) rfl rfl 0 (by decide) (hts (.fieldLink RX5 10 "Leaguewheel" "track" "LLeaguewheel$Track;") (by decide +kernel)) (fun _ h9 => h9) rfl dX5_addWay_84 ?_
        refine lv_iload_n hx hb dX5_addWay_87 rfl (lv_at hl 2 rfl) ?_
        refine lv_iload_n hx hb dX5_addWay_88 rfl (lv_at hl 3 rfl) ?_
        refine lv_iload_n hx hb dX5_addWay_89 rfl (lv_at hl 4 rfl) ?_
        refine rCallV (C := RX4) (As := [.int (nI (ix x)), .int (nI (ix y)), .int w]) (rest := []) ⟨hx, hb, hml, hown, hts⟩ fx hw (kX4_layWay l G hG hF σ ((ix x)) ((ix y)) (by omega) (by omega) w g hg (by omega)) (cwV 3 hts gX5_addWay_X4_layWay rfl rfl rfl (by decide +kernel) ⟨Nat.le_of_ble_eq_true rfl, Nat.le_of_ble_eq_true rfl⟩) (hF.1 1 (by decide)) rfl rfl rfl rfl hl.1 rfl (Nat.le_of_ble_eq_true rfl) dX5_addWay_90 ⟨Nat.zero_le _, Nat.zero_le _⟩ ?_
        intro σ_15 H locs p_14 hw
        have eσ_15 := p_14
        refine lv_iload hx hb dX5_addWay_93 (lv_at hl 0 rfl) ?_
        refine lv_if_ne (tgt := 102) hx hb dX5_addWay_95 (by decide) (fun c_16 => ?_) (fun c_16 => ?_)
        · skip
          refine lv_iload hx hb dX5_addWay_102 (lv_at hl 0 rfl) ?_
          subst eσ_15
          exact vy_ret (rRetI hx hb hr hw (by exact ⟨by simp [c_16], rfl, by simp [p_1_0, p_4_0], by unfold rgtB; rw [h47_0, inR_t c_7 c_8]; rfl, p_9_0⟩) hlocks dX5_addWay_104)
        · skip
          refine lv_iconst (v := (-1)) hx hb dX5_addWay_98 (by decide) ?_
          refine lv_goto (tgt := 104) hx hb dX5_addWay_99 (by decide) ?_
          subst eσ_15
          exact vy_ret (rRetI hx hb hr hw (by exact ⟨by simp [c_16], rfl, by simp [p_1_0, p_4_0], by unfold rgtB; rw [h47_0, inR_t c_7 c_8]; rfl, p_9_0⟩) hlocks dX5_addWay_104)
      · skip
        exact rThrow (ik := 86) (is := 93) (ic := 90) (cls := "java/lang/IllegalArgumentException") (text := _) hx hb hlt hF.2.2.2.2 fx hw hown (by decide +kernel) (hts (.classLink RX5 86 "java/lang/IllegalArgumentException") (by decide +kernel)) (hts (.initialized "java/lang/IllegalArgumentException") (by decide +kernel)) (List.mem_of_getElem? (i := 5) rfl) (by decide +kernel) (at_IAE (fun w h => hts w (by revert w; decide +kernel))) gd_IAE (by rw [hml]; exact hl.1) dX5_addWay_58 dX5_addWay_61 dX5_addWay_62 dX5_addWay_64 dX5_addWay_67 hout (Nat.le_of_ble_eq_true rfl) (Nat.le_of_ble_eq_true rfl) (Nat.le_of_ble_eq_true rfl) (Nat.le_of_ble_eq_true rfl) hlocks (by exact Or.inr (Or.inl ⟨rfl, by simp [p_1_0, p_4_0], by unfold rgtB; rw [show inR w 1 100 = false by first | exact inR_f1 c_8 | exact inR_f2 c_8]; exact Bool.and_false _⟩)) (Nat.le_of_ble_eq_true rfl) (Nat.le_of_ble_eq_true rfl)
  refine lv_iload_n hx hb dX5_addWay_11 rfl (lv_at hl 1 rfl) ?_
  refine lv_icmp_gt (tgt := 29) hx hb dX5_addWay_12 (by decide) (fun c_17 => ?_) (fun c_17 => ?_)
  · skip
    have c_17 : (ix x) < (ix y) := (nI_ltI (by omega) (by omega)).mp c_17
    refine lv_iload_n hx hb dX5_addWay_29 rfl (lv_at hl 1 rfl) ?_
    refine lv_if_ne (tgt := 47) hx hb dX5_addWay_30 (by decide) (fun c_18 => ?_) (fun c_18 => ?_)
    · skip
      have c_18 : ¬ (ix x) = 0 := n0_net (by omega) c_18
      exact lab_47  (by simp only [Bool.or_eq_true, Bool.and_eq_true, decide_eq_true_eq]; omega) _ _ _ hw (lv_c (lv_at hl 0 rfl) (lv_c (lv_at hl 1 rfl) (lv_c (lv_at hl 2 rfl) (lv_c (lv_at hl 3 rfl) (lv_c0 hl)))))
    · skip
      have c_18 : (ix x) = 0 := n0_nef (by omega) c_18
      refine lv_iload_n hx hb dX5_addWay_33 rfl (lv_at hl 2 rfl) ?_
      refine lv_if_ne (tgt := 47) hx hb dX5_addWay_34 (by decide) (fun c_19 => ?_) (fun c_19 => ?_)
      · skip
        have c_19 : ¬ (ix y) = 0 := n0_net (by omega) c_19
        exact lab_47  (by simp only [Bool.or_eq_true, Bool.and_eq_true, decide_eq_true_eq]; omega) _ _ _ hw (lv_c (lv_at hl 0 rfl) (lv_c (lv_at hl 1 rfl) (lv_c (lv_at hl 2 rfl) (lv_c (lv_at hl 3 rfl) (lv_c0 hl)))))
      · skip
        have c_19 : (ix y) = 0 := n0_nef (by omega) c_19
        exact rThrow (ik := 86) (is := 91) (ic := 90) (cls := "java/lang/IllegalArgumentException") (text := _) hx hb hlt hF.2.2.2.2 fx hw hown (by decide +kernel) (hts (.classLink RX5 86 "java/lang/IllegalArgumentException") (by decide +kernel)) (hts (.initialized "java/lang/IllegalArgumentException") (by decide +kernel)) (List.mem_of_getElem? (i := 4) rfl) (by decide +kernel) (at_IAE (fun w h => hts w (by revert w; decide +kernel))) gd_IAE (by rw [hml]; exact hl.1) dX5_addWay_37 dX5_addWay_40 dX5_addWay_41 dX5_addWay_43 dX5_addWay_46 hout (Nat.le_of_ble_eq_true rfl) (Nat.le_of_ble_eq_true rfl) (Nat.le_of_ble_eq_true rfl) (Nat.le_of_ble_eq_true rfl) hlocks (by exact Or.inr (Or.inl ⟨rfl, by simp [p_1_0, p_4_0], by unfold rgtB; rw [decide_eq_false (show ¬ ix x < ix y by omega), decide_eq_false (show ¬ 0 < ix x by omega), Bool.and_false]; rfl⟩)) (Nat.le_of_ble_eq_true rfl) (Nat.le_of_ble_eq_true rfl)
  · skip
    have c_17 : ¬ (ix x) < (ix y) := fun h9 => c_17 ((nI_ltI (by omega) (by omega)).mpr h9)
    refine lv_iload_n hx hb dX5_addWay_15 rfl (lv_at hl 2 rfl) ?_
    refine lv_if_eq (tgt := 29) hx hb dX5_addWay_16 (by decide) (fun c_20 => ?_) (fun c_20 => ?_)
    · skip
      have c_20 : (ix y) = 0 := n0_eqt (by omega) c_20
      refine lv_iload_n hx hb dX5_addWay_29 rfl (lv_at hl 1 rfl) ?_
      refine lv_if_ne (tgt := 47) hx hb dX5_addWay_30 (by decide) (fun c_21 => ?_) (fun c_21 => ?_)
      · skip
        have c_21 : ¬ (ix x) = 0 := n0_net (by omega) c_21
        exact lab_47  (by simp only [Bool.or_eq_true, Bool.and_eq_true, decide_eq_true_eq]; omega) _ _ _ hw (lv_c (lv_at hl 0 rfl) (lv_c (lv_at hl 1 rfl) (lv_c (lv_at hl 2 rfl) (lv_c (lv_at hl 3 rfl) (lv_c0 hl)))))
      · skip
        have c_21 : (ix x) = 0 := n0_nef (by omega) c_21
        refine lv_iload_n hx hb dX5_addWay_33 rfl (lv_at hl 2 rfl) ?_
        refine lv_if_ne (tgt := 47) hx hb dX5_addWay_34 (by decide) (fun c_22 => ?_) (fun c_22 => ?_)
        · skip
          have c_22 : ¬ (ix y) = 0 := n0_net (by omega) c_22
          exact lab_47  (by simp only [Bool.or_eq_true, Bool.and_eq_true, decide_eq_true_eq]; omega) _ _ _ hw (lv_c (lv_at hl 0 rfl) (lv_c (lv_at hl 1 rfl) (lv_c (lv_at hl 2 rfl) (lv_c (lv_at hl 3 rfl) (lv_c0 hl)))))
        · skip
          have c_22 : (ix y) = 0 := n0_nef (by omega) c_22
          exact rThrow (ik := 86) (is := 91) (ic := 90) (cls := "java/lang/IllegalArgumentException") (text := _) hx hb hlt hF.2.2.2.2 fx hw hown (by decide +kernel) (hts (.classLink RX5 86 "java/lang/IllegalArgumentException") (by decide +kernel)) (hts (.initialized "java/lang/IllegalArgumentException") (by decide +kernel)) (List.mem_of_getElem? (i := 4) rfl) (by decide +kernel) (at_IAE (fun w h => hts w (by revert w; decide +kernel))) gd_IAE (by rw [hml]; exact hl.1) dX5_addWay_37 dX5_addWay_40 dX5_addWay_41 dX5_addWay_43 dX5_addWay_46 hout (Nat.le_of_ble_eq_true rfl) (Nat.le_of_ble_eq_true rfl) (Nat.le_of_ble_eq_true rfl) (Nat.le_of_ble_eq_true rfl) hlocks (by exact Or.inr (Or.inl ⟨rfl, by simp [p_1_0, p_4_0], by unfold rgtB; rw [decide_eq_false (show ¬ ix x < ix y by omega), decide_eq_false (show ¬ 0 < ix x by omega), Bool.and_false]; rfl⟩)) (Nat.le_of_ble_eq_true rfl) (Nat.le_of_ble_eq_true rfl)
    · skip
      have c_20 : ¬ (ix y) = 0 := n0_eqf (by omega) c_20
      exact rThrow (ik := 86) (is := 88) (ic := 90) (cls := "java/lang/IllegalArgumentException") (text := _) hx hb hlt hF.2.2.2.2 fx hw hown (by decide +kernel) (hts (.classLink RX5 86 "java/lang/IllegalArgumentException") (by decide +kernel)) (hts (.initialized "java/lang/IllegalArgumentException") (by decide +kernel)) (List.mem_of_getElem? (i := 3) rfl) (by decide +kernel) (at_IAE (fun w h => hts w (by revert w; decide +kernel))) gd_IAE (by rw [hml]; exact hl.1) dX5_addWay_19 dX5_addWay_22 dX5_addWay_23 dX5_addWay_25 dX5_addWay_28 hout (Nat.le_of_ble_eq_true rfl) (Nat.le_of_ble_eq_true rfl) (Nat.le_of_ble_eq_true rfl) (Nat.le_of_ble_eq_true rfl) hlocks (by exact Or.inr (Or.inl ⟨rfl, by simp [p_1_0, p_4_0], by unfold rgtB; rw [decide_eq_false (show ¬ ix x < ix y by omega), decide_eq_false (show ¬ ix y = 0 by omega)]; rfl⟩)) (Nat.le_of_ble_eq_true rfl) (Nat.le_of_ble_eq_true rfl)

def rmX5_addKart : Room := ({ frames := 7, cells := 1, slots := 6, locals := 103 } : Room)
set_option maxHeartbeats 4000000 in
set_option maxRecDepth 100000 in
theorem kX5_addKart (l : Launch) (hlt : l.stackTraces = false) (G : Gx) (hG : gOk G) (hF : Full G) (σ : St) (x : Int32) (g n e9 z : Nat) (b : Bool) (hIv9 : CIv σ g n b e9 z)  : CxI l yX5_addKart wsX5_addKart rmX5_addKart G σ [.ref (gad G 0), .int x] (fun r σ' => r = nI n ∧ σ' = ktSt σ n x ∧ inB x 4 = true ∧ (nev b e9 && decide (n < 6)) = true) (fun E => (E = xIOB ∧ inB x 4 = false) ∨ (E = xISE ∧ inB x 4 = true ∧ (nev b e9 && decide (n < 6)) = false)) := by
  refine bgX (cc := cX5_addKart) (maxL := 3) (ret := (some .int)) (own := RX5) (by decide) rfl rfl hG (Nat.le_of_ble_eq_true rfl) rfl ?_
  intro p e s m args below meth c ls hout Bd hl
  obtain ⟨hx, hb, hr, hml, hts, hown, hlocks, fx, hw⟩ := Bd
  have hl : lv_has ls 3 [(0, .ref (gad G 0)), (1, .int x)] := hl
  have hin : ∀ w ∈ wsX50, w ∈ wsX5_addKart := by decide +kernel
  obtain ⟨⟨hg, hg1, hg2⟩, ⟨hn, hn6⟩, hon, ⟨he, he8⟩, ⟨hz, hz5⟩, hrk, hcn, hrec⟩ := id hIv9
  refine lv_aload_n hx hb dX5_addKart_0 rfl (lv_at hl 0 rfl) ?_
  refine lv_iload_n hx hb dX5_addKart_1 rfl (lv_at hl 1 rfl) ?_
  refine rCallXV (C := RX5) (As := [.int x]) (rest := []) ⟨hx, hb, hml, hown, hts⟩ fx hw (kX5_checkTeam l hlt G hG hF σ x) (cwV 1 hts gX5_addKart_X5_checkTeam rfl rfl rfl (by decide +kernel) ⟨Nat.le_of_ble_eq_true rfl, Nat.le_of_ble_eq_true rfl⟩) (hF.1 0 (by decide)) rfl rfl rfl rfl hl.1 rfl (Nat.le_of_ble_eq_true rfl) dX5_addKart_2 ⟨Nat.le_of_ble_eq_true rfl, Nat.le_of_ble_eq_true rfl⟩ (fun E ce q9 H locs hE hw h1 h2 h3 => ?_) ?_
  · skip
    exact rOut (by exact Or.inl hE) hw h1 h2 h3 hout hlocks (Nat.le_of_ble_eq_true rfl) (Nat.le_of_ble_eq_true rfl)
  intro σ_2 H locs p_1 hw
  obtain ⟨eσ_2, p_1_0⟩ := p_1
  have eσ_2 := eσ_2.symm; subst eσ_2
  refine lv_aload_n hx hb dX5_addKart_5 rfl (lv_at hl 0 rfl) ?_
  refine rCallXV (C := RX5) (As := []) (rest := []) ⟨hx, hb, hml, hown, hts⟩ fx hw (kX5_checkNeverStarted l hlt G hG hF σ g n e9 z b hIv9) (cwV 0 hts gX5_addKart_X5_checkNeverStarted rfl rfl rfl (by decide +kernel) ⟨Nat.le_of_ble_eq_true rfl, Nat.le_of_ble_eq_true rfl⟩) (hF.1 0 (by decide)) rfl rfl rfl rfl hl.1 rfl (Nat.le_of_ble_eq_true rfl) dX5_addKart_6 ⟨Nat.le_of_ble_eq_true rfl, Nat.le_of_ble_eq_true rfl⟩ (fun E ce q9 H locs hE hw h1 h2 h3 => ?_) ?_
  · skip
    exact rOut (by exact Or.inr ⟨hE.1, p_1_0, by simp [hE.2]⟩) hw h1 h2 h3 hout hlocks (Nat.le_of_ble_eq_true rfl) (Nat.le_of_ble_eq_true rfl)
  intro σ_4 H locs p_3 hw
  obtain ⟨eσ_4, p_3_0⟩ := p_3
  have eσ_4 := eσ_4.symm; subst eσ_4
  refine lv_aload_n hx hb dX5_addKart_9 rfl (lv_at hl 0 rfl) ?_
  refine rGet (v := .int (σ 0 7)) (C := RX5) (T := TX5) (N := 10) hx hb fx hown hts hin hw 0 (hF.1 0 (by decide)) rfl rfl 7 (by decide) (hts (.fieldLink RX5 53 "Leaguewheel" "kartCount" "I") (by decide +kernel)) (fun _ h9 => h9) rfl dX5_addKart_10 ?_
  refine lv_rep0 (x := (σ 0 7)) (y := nI n) (by exact hn) ?_
  refine lv_bipush (v := 6) hx hb dX5_addKart_13 (by decide) ?_
  refine lv_rep0 (x := 6) (y := nI 6) rfl ?_
  refine lv_icmp_lt (tgt := 28) hx hb dX5_addKart_15 (by decide) (fun c_5 => ?_) (fun c_5 => ?_)
  · skip
    have c_5 : n < 6 := (nI_ltI (by omega) (by omega)).mp c_5
    refine lv_aload_n hx hb dX5_addKart_28 rfl (lv_at hl 0 rfl) ?_
    refine rGet (v := .int (σ 0 7)) (C := RX5) (T := TX5) (N := 10) hx hb fx hown hts hin hw 0 (hF.1 0 (by decide)) rfl rfl 7 (by decide) (hts (.fieldLink RX5 53 "Leaguewheel" "kartCount" "I") (by decide +kernel)) (fun _ h9 => h9) rfl dX5_addKart_29 ?_
    refine lv_rep0 (x := (σ 0 7)) (y := nI n) (by exact hn) ?_
    refine lv_istore_n (lv' := [(2, .int (nI n)), (0, .ref (gad G 0)), (1, .int x)]) hx hb dX5_addKart_32 rfl hl (by decide) rfl (fun ls hl => ?_)
    refine lv_aload_n hx hb dX5_addKart_33 rfl (lv_at hl 1 rfl) ?_
    refine rGet (v := .ref (gad G 30)) (C := RX5) (T := TX5) (N := 10) hx hb fx hown hts hin hw 0 (hF.1 0 (by decide)) rfl rfl 6 (by decide) (hts (.fieldLink RX5 49 "Leaguewheel" "teams" "[I") (by decide +kernel)) (fun _ h9 => h9) rfl dX5_addKart_34 ?_
    refine lv_iload_n hx hb dX5_addKart_37 rfl (lv_at hl 0 rfl) ?_
    refine lv_iload_n hx hb dX5_addKart_38 rfl (lv_at hl 2 rfl) ?_
    refine rAst (x := x) hx hb fx hw 30 (hF.1 30 (by decide)) hF.2.1 (fun _ => rfl) n rfl (by omega) (by decide) dX5_addKart_39 (fun H locs hw => ?_)
    obtain ⟨σ_6, eσ_6⟩ : ∃ w9, w9 = upA σ 30 (upd (σ 30) n x) := ⟨_, rfl⟩
    rw [← eσ_6] at hw
    refine lv_aload_n hx hb dX5_addKart_40 rfl (lv_at hl 1 rfl) ?_
    refine lv_dup hx hb dX5_addKart_41 rfl ?_
    refine rGet (v := .int (σ_6 0 7)) (C := RX5) (T := TX5) (N := 10) hx hb fx hown hts hin hw 0 (hF.1 0 (by decide)) rfl rfl 7 (by decide) (hts (.fieldLink RX5 53 "Leaguewheel" "kartCount" "I") (by decide +kernel)) (fun _ h9 => h9) rfl dX5_addKart_42 ?_
    refine lv_rep0 (x := (σ_6 0 7)) (y := nI n) (by subst_vars; rw [upA_n (by decide)]; exact hn) ?_
    refine lv_iconst (v := 1) hx hb dX5_addKart_45 (by decide) ?_
    refine lv_rep0 (x := 1) (y := nI 1) rfl ?_
    refine lv_iadd hx hb dX5_addKart_46 ?_
    refine lv_rep0 (x := ((nI n) + (nI 1))) (y := nI (n + 1)) (nI_add _ _) ?_
    refine rPut (v := (nI (n + 1))) (ty := .int) (C := RX5) (T := TX5) (N := 10) hx hb fx hown hts hin tyX5 tyX5_ok nmX5 hw 0 (hF.1 0 (by decide)) rfl rfl 7 (by decide) (hts (.fieldLink RX5 53 "Leaguewheel" "kartCount" "I") (by decide +kernel)) (fun _ h9 => h9) rfl (by decide +kernel) rfl rfl (Nat.le_of_ble_eq_true rfl) rfl dX5_addKart_47 (fun H locs hw => ?_)
    obtain ⟨σ_7, eσ_7⟩ : ∃ w9, w9 = upA σ_6 0 (upd (σ_6 0) 7 (nI (n + 1))) := ⟨_, rfl⟩
    rw [← eσ_7] at hw
    refine lv_iload_n hx hb dX5_addKart_50 rfl (lv_at hl 0 rfl) ?_
    subst eσ_7
    subst eσ_6
    exact vy_ret (rRetI hx hb hr hw (by exact ⟨rfl, by simp [ktSt, upA_n, upA_s, upA_upA, upA_self, upd_self, upd_upd, pk_us, bI], p_1_0, by simp [p_3_0]; omega⟩) hlocks dX5_addKart_51)
  · skip
    have c_5 : ¬ n < 6 := fun h9 => c_5 ((nI_ltI (by omega) (by omega)).mpr h9)
    exact rThrow (ik := 71) (is := 106) (ic := 75) (cls := "java/lang/IllegalStateException") (text := _) hx hb hlt hF.2.2.2.2 fx hw hown (by decide +kernel) (hts (.classLink RX5 71 "java/lang/IllegalStateException") (by decide +kernel)) (hts (.initialized "java/lang/IllegalStateException") (by decide +kernel)) (List.mem_of_getElem? (i := 7) rfl) (by decide +kernel) (at_ISE (fun w h => hts w (by revert w; decide +kernel))) gd_ISE (by rw [hml]; exact hl.1) dX5_addKart_18 dX5_addKart_21 dX5_addKart_22 dX5_addKart_24 dX5_addKart_27 hout (Nat.le_of_ble_eq_true rfl) (Nat.le_of_ble_eq_true rfl) (Nat.le_of_ble_eq_true rfl) (Nat.le_of_ble_eq_true rfl) hlocks (by exact Or.inr ⟨rfl, p_1_0, by simp; omega⟩) (Nat.le_of_ble_eq_true rfl) (Nat.le_of_ble_eq_true rfl)

def rmX5_rest : Room := ({ frames := 7, cells := 1, slots := 6, locals := 103 } : Room)
set_option maxHeartbeats 4000000 in
set_option maxRecDepth 100000 in
theorem kX5_rest (l : Launch) (hlt : l.stackTraces = false) (G : Gx) (hG : gOk G) (hF : Full G) (σ : St) (x : Int32) (g n e9 z : Nat) (b : Bool) (hIv9 : CIv σ g n b e9 z)  : CxI l yX5_rest wsX5_rest rmX5_rest G σ [.ref (gad G 0), .int x] (fun r σ' => r = σ 3 (ix x) ∧ σ' = σ ∧ inB x g = true) (fun E => E = xIOB ∧ inB x g = false) := by
  refine bgX (cc := cX5_rest) (maxL := 2) (ret := (some .int)) (own := RX5) (by decide) rfl rfl hG (Nat.le_of_ble_eq_true rfl) rfl ?_
  intro p e s m args below meth c ls hout Bd hl
  obtain ⟨hx, hb, hr, hml, hts, hown, hlocks, fx, hw⟩ := Bd
  have hl : lv_has ls 2 [(0, .ref (gad G 0)), (1, .int x)] := hl
  have hin : ∀ w ∈ wsX50, w ∈ wsX5_rest := by decide +kernel
  obtain ⟨⟨hg, hg1, hg2⟩, ⟨hn, hn6⟩, hon, ⟨he, he8⟩, ⟨hz, hz5⟩, hrk, hcn, hrec⟩ := id hIv9
  refine lv_aload_n hx hb dX5_rest_0 rfl (lv_at hl 0 rfl) ?_
  refine lv_iload_n hx hb dX5_rest_1 rfl (lv_at hl 1 rfl) ?_
  refine rCallXV (C := RX5) (As := [.int x]) (rest := []) ⟨hx, hb, hml, hown, hts⟩ fx hw (kX5_checkGate l hlt G hG hF σ x g n e9 z b hIv9) (cwV 1 hts gX5_rest_X5_checkGate rfl rfl rfl (by decide +kernel) ⟨Nat.le_of_ble_eq_true rfl, Nat.le_of_ble_eq_true rfl⟩) (hF.1 0 (by decide)) rfl rfl rfl rfl hl.1 rfl (Nat.le_of_ble_eq_true rfl) dX5_rest_2 ⟨Nat.le_of_ble_eq_true rfl, Nat.le_of_ble_eq_true rfl⟩ (fun E ce q9 H locs hE hw h1 h2 h3 => ?_) ?_
  · skip
    exact rOut (by exact hE) hw h1 h2 h3 hout hlocks (Nat.le_of_ble_eq_true rfl) (Nat.le_of_ble_eq_true rfl)
  intro σ_2 H locs p_1 hw
  obtain ⟨eσ_2, p_1_0⟩ := p_1
  have eσ_2 := eσ_2.symm; subst eσ_2
  have hx9 := inB_ix (by omega) p_1_0
  have q_3 : x = (nI (ix x)) := by exact hx9.1
  have hl : lv_has ls 2 [(0, .ref (gad G 0)), (1, .int (nI (ix x)))] := (lv_c (lv_at hl 0 rfl) (lv_c (lv_atq hl 1 rfl q_3) (lv_c0 hl)))
  refine lv_aload_n hx hb dX5_rest_5 rfl (lv_at hl 0 rfl) ?_
  refine rGet (v := .ref (gad G 1)) (C := RX5) (T := TX5) (N := 10) hx hb fx hown hts hin hw 0 (hF.1 0 (by decide)) rfl rfl 0 (by decide) (hts (.fieldLink RX5 10 "Leaguewheel" "track" "LLeaguewheel$Track;") (by decide +kernel)) (fun _ h9 => h9) rfl dX5_rest_6 ?_
  refine lv_iload_n hx hb dX5_rest_9 rfl (lv_at hl 1 rfl) ?_
  refine rCallI (C := RX4) (As := [.int (nI (ix x))]) (rest := []) ⟨hx, hb, hml, hown, hts⟩ fx hw (kX4_restOf l G hG hF σ ((ix x)) (by omega)) (cwV 1 hts gX5_rest_X4_restOf rfl rfl rfl (by decide +kernel) ⟨Nat.le_of_ble_eq_true rfl, Nat.le_of_ble_eq_true rfl⟩) (hF.1 1 (by decide)) rfl rfl rfl rfl hl.1 rfl (Nat.le_of_ble_eq_true rfl) dX5_rest_10 ⟨Nat.zero_le _, Nat.zero_le _⟩ ?_
  intro r_5 σ_6 H locs p_4 hw
  obtain ⟨er_5, eσ_6⟩ := p_4
  have er_5 := er_5.symm; subst er_5
  have eσ_6 := eσ_6.symm; subst eσ_6
  exact vy_ret (rRetI hx hb hr hw (by exact ⟨rfl, rfl, p_1_0⟩) hlocks dX5_rest_13)

def rmX5_start : Room := ({ frames := 6, cells := 1, slots := 6, locals := 87 } : Room)
set_option maxHeartbeats 4000000 in
set_option maxRecDepth 100000 in
theorem kX5_start (l : Launch) (hlt : l.stackTraces = false) (G : Gx) (hG : gOk G) (hF : Full G) (σ : St) (x : Int32) (g n e9 z : Nat) (b : Bool) (hIv9 : CIv σ g n b e9 z)  : CxI l yX5_start wsX5_start rmX5_start G σ [.ref (gad G 0), .int x] (fun r σ' => r = nI e9 ∧ σ' = srSt σ n x ∧ inR x 1 9 = true ∧ (!b && decide (e9 < 8) && decide (0 < n) && !deadB (σ 2) g) = true) (fun E => (E = xIAE ∧ inR x 1 9 = false) ∨ (E = xISE ∧ inR x 1 9 = true ∧ (!b && decide (e9 < 8) && decide (0 < n) && !deadB (σ 2) g) = false)) := by
  refine bgX (cc := cX5_start) (maxL := 2) (ret := (some .int)) (own := RX5) (by decide) rfl rfl hG (Nat.le_of_ble_eq_true rfl) rfl ?_
  intro p e s m args below meth c ls hout Bd hl
  obtain ⟨hx, hb, hr, hml, hts, hown, hlocks, fx, hw⟩ := Bd
  have hl : lv_has ls 2 [(0, .ref (gad G 0)), (1, .int x)] := hl
  have hin : ∀ w ∈ wsX50, w ∈ wsX5_start := by decide +kernel
  obtain ⟨⟨hg, hg1, hg2⟩, ⟨hn, hn6⟩, hon, ⟨he, he8⟩, ⟨hz, hz5⟩, hrk, hcn, hrec⟩ := id hIv9
  refine lv_iload_n hx hb dX5_start_0 rfl (lv_at hl 1 rfl) ?_
  refine lv_iconst (v := 1) hx hb dX5_start_1 (by decide) ?_
  refine lv_icmp_lt (tgt := 11) hx hb dX5_start_2 (by decide) (fun c_1 => ?_) (fun c_1 => ?_)
  · skip
    exact rThrow (ik := 86) (is := 116) (ic := 90) (cls := "java/lang/IllegalArgumentException") (text := _) hx hb hlt hF.2.2.2.2 fx hw hown (by decide +kernel) (hts (.classLink RX5 86 "java/lang/IllegalArgumentException") (by decide +kernel)) (hts (.initialized "java/lang/IllegalArgumentException") (by decide +kernel)) (List.mem_of_getElem? (i := 8) rfl) (by decide +kernel) (at_IAE (fun w h => hts w (by revert w; decide +kernel))) gd_IAE (by rw [hml]; exact hl.1) dX5_start_11 dX5_start_14 dX5_start_15 dX5_start_17 dX5_start_20 hout (Nat.le_of_ble_eq_true rfl) (Nat.le_of_ble_eq_true rfl) (Nat.le_of_ble_eq_true rfl) (Nat.le_of_ble_eq_true rfl) hlocks (by exact Or.inl ⟨rfl, by first | exact inR_f1 c_1 | exact inR_f2 c_1⟩) (Nat.le_of_ble_eq_true rfl) (Nat.le_of_ble_eq_true rfl)
  · skip
    refine lv_iload_n hx hb dX5_start_5 rfl (lv_at hl 1 rfl) ?_
    refine lv_bipush (v := 9) hx hb dX5_start_6 (by decide) ?_
    refine lv_icmp_le (tgt := 21) hx hb dX5_start_8 (by decide) (fun c_2 => ?_) (fun c_2 => ?_)
    · skip
      refine lv_aload_n hx hb dX5_start_21 rfl (lv_at hl 0 rfl) ?_
      refine rGet (v := .int (σ 0 8)) (C := RX5) (T := TX5) (N := 10) hx hb fx hown hts hin hw 0 (hF.1 0 (by decide)) rfl rfl 8 (by decide) (hts (.fieldLink RX5 57 "Leaguewheel" "raceIsOn" "Z") (by decide +kernel)) (fun _ h9 => h9) rfl dX5_start_22 ?_
      refine lv_rep0 (x := (σ 0 8)) (y := (bI b)) (by exact hon) ?_
      refine lv_b_eq (tgt := 38) hx hb dX5_start_25 (by decide) (fun c_3 => ?_) (fun c_3 => ?_)
      · skip
        refine lv_aload_n hx hb dX5_start_38 rfl (lv_at hl 0 rfl) ?_
        refine rGet (v := .ref (gad G 27)) (C := RX5) (T := TX5) (N := 10) hx hb fx hown hts hin hw 0 (hF.1 0 (by decide)) rfl rfl 5 (by decide) (hts (.fieldLink RX5 45 "Leaguewheel" "cup" "LLeaguewheel$Cup;") (by decide +kernel)) (fun _ h9 => h9) rfl dX5_start_39 ?_
        refine rCallI (C := RX0) (As := []) (rest := []) ⟨hx, hb, hml, hown, hts⟩ fx hw (kX0_endedRaces l G hG hF σ ) (cwV 0 hts gX5_start_X0_endedRaces rfl rfl rfl (by decide +kernel) ⟨Nat.le_of_ble_eq_true rfl, Nat.le_of_ble_eq_true rfl⟩) (hF.1 27 (by decide)) rfl rfl rfl rfl hl.1 rfl (Nat.le_of_ble_eq_true rfl) dX5_start_42 ⟨Nat.zero_le _, Nat.zero_le _⟩ ?_
        intro r_5 σ_6 H locs p_4 hw
        obtain ⟨er_5, eσ_6⟩ := p_4
        have er_5 := er_5.symm; subst er_5
        have eσ_6 := eσ_6.symm; subst eσ_6
        refine lv_rep0 (x := (σ 27 2)) (y := nI e9) (by exact he) ?_
        refine lv_bipush (v := 8) hx hb dX5_start_45 (by decide) ?_
        refine lv_rep0 (x := 8) (y := nI 8) rfl ?_
        refine lv_icmp_lt (tgt := 60) hx hb dX5_start_47 (by decide) (fun c_7 => ?_) (fun c_7 => ?_)
        · skip
          have c_7 : e9 < 8 := (nI_ltI (by omega) (by omega)).mp c_7
          refine lv_aload_n hx hb dX5_start_60 rfl (lv_at hl 0 rfl) ?_
          refine rGet (v := .int (σ 0 7)) (C := RX5) (T := TX5) (N := 10) hx hb fx hown hts hin hw 0 (hF.1 0 (by decide)) rfl rfl 7 (by decide) (hts (.fieldLink RX5 53 "Leaguewheel" "kartCount" "I") (by decide +kernel)) (fun _ h9 => h9) rfl dX5_start_61 ?_
          refine lv_rep0 (x := (σ 0 7)) (y := nI n) (by exact hn) ?_
          refine lv_if_ne (tgt := 77) hx hb dX5_start_64 (by decide) (fun c_8 => ?_) (fun c_8 => ?_)
          · skip
            have c_8 : ¬ n = 0 := n0_net (by omega) c_8
            refine lv_aload_n hx hb dX5_start_77 rfl (lv_at hl 0 rfl) ?_
            refine rGet (v := .ref (gad G 1)) (C := RX5) (T := TX5) (N := 10) hx hb fx hown hts hin hw 0 (hF.1 0 (by decide)) rfl rfl 0 (by decide) (hts (.fieldLink RX5 10 "Leaguewheel" "track" "LLeaguewheel$Track;") (by decide +kernel)) (fun _ h9 => h9) rfl dX5_start_78 ?_
            refine rCallI (C := RX4) (As := []) (rest := []) ⟨hx, hb, hml, hown, hts⟩ fx hw (kX4_hasDeadEnd l G hG hF σ g hg (by omega)) (cwV 0 hts gX5_start_X4_hasDeadEnd rfl rfl rfl (by decide +kernel) ⟨Nat.le_of_ble_eq_true rfl, Nat.le_of_ble_eq_true rfl⟩) (hF.1 1 (by decide)) rfl rfl rfl rfl hl.1 rfl (Nat.le_of_ble_eq_true rfl) dX5_start_81 ⟨Nat.zero_le _, Nat.zero_le _⟩ ?_
            intro r_10 σ_11 H locs p_9 hw
            obtain ⟨er_10, eσ_11⟩ := p_9
            have er_10 := er_10.symm; subst er_10
            have eσ_11 := eσ_11.symm; subst eσ_11
            refine lv_b_eq (tgt := 97) hx hb dX5_start_84 (by decide) (fun c_12 => ?_) (fun c_12 => ?_)
            · skip
              refine lv_aload_n hx hb dX5_start_97 rfl (lv_at hl 0 rfl) ?_
              refine rGet (v := .ref (gad G 4)) (C := RX5) (T := TX5) (N := 10) hx hb fx hown hts hin hw 0 (hF.1 0 (by decide)) rfl rfl 1 (by decide) (hts (.fieldLink RX5 21 "Leaguewheel" "race" "LLeaguewheel$Race;") (by decide +kernel)) (fun _ h9 => h9) rfl dX5_start_98 ?_
              refine lv_aload_n hx hb dX5_start_101 rfl (lv_at hl 0 rfl) ?_
              refine rGet (v := .int (σ 0 7)) (C := RX5) (T := TX5) (N := 10) hx hb fx hown hts hin hw 0 (hF.1 0 (by decide)) rfl rfl 7 (by decide) (hts (.fieldLink RX5 53 "Leaguewheel" "kartCount" "I") (by decide +kernel)) (fun _ h9 => h9) rfl dX5_start_102 ?_
              refine lv_rep0 (x := (σ 0 7)) (y := nI n) (by exact hn) ?_
              refine lv_iload_n hx hb dX5_start_105 rfl (lv_at hl 1 rfl) ?_
              refine rCallV (C := RX3) (As := [.int (nI n), .int x]) (rest := []) ⟨hx, hb, hml, hown, hts⟩ fx hw (kX3_begin l G hG hF σ 4 (Or.inl rfl) ((nI n)) x) (cwV 2 hts gX5_start_X3_begin rfl rfl rfl (by decide +kernel) ⟨Nat.le_of_ble_eq_true rfl, Nat.le_of_ble_eq_true rfl⟩) (hF.1 4 (by decide)) rfl rfl rfl rfl hl.1 rfl (Nat.le_of_ble_eq_true rfl) dX5_start_106 ⟨Nat.zero_le _, Nat.zero_le _⟩ ?_
              intro σ_14 H locs p_13 hw
              have eσ_14 := p_13
              refine lv_aload_n hx hb dX5_start_109 rfl (lv_at hl 0 rfl) ?_
              refine rGet (v := .ref (gad G 20)) (C := RX5) (T := TX5) (N := 10) hx hb fx hown hts hin hw 0 (hF.1 0 (by decide)) rfl rfl 3 (by decide) (hts (.fieldLink RX5 31 "Leaguewheel" "passings" "LLeaguewheel$Passings;") (by decide +kernel)) (fun _ h9 => h9) rfl dX5_start_110 ?_
              refine rCallV (C := RX2) (As := []) (rest := []) ⟨hx, hb, hml, hown, hts⟩ fx hw (kX2_clear l G hG hF σ_14 ) (cwV 0 hts gX5_start_X2_clear rfl rfl rfl (by decide +kernel) ⟨Nat.le_of_ble_eq_true rfl, Nat.le_of_ble_eq_true rfl⟩) (hF.1 20 (by decide)) rfl rfl rfl rfl hl.1 rfl (Nat.le_of_ble_eq_true rfl) dX5_start_113 ⟨Nat.zero_le _, Nat.zero_le _⟩ ?_
              intro σ_16 H locs p_15 hw
              have eσ_16 := p_15
              refine lv_aload_n hx hb dX5_start_116 rfl (lv_at hl 0 rfl) ?_
              refine rGet (v := .ref (gad G 23)) (C := RX5) (T := TX5) (N := 10) hx hb fx hown hts hin hw 0 (hF.1 0 (by decide)) rfl rfl 4 (by decide) (hts (.fieldLink RX5 38 "Leaguewheel" "items" "LLeaguewheel$Items;") (by decide +kernel)) (fun _ h9 => h9) rfl dX5_start_117 ?_
              refine rCallV (C := RX1) (As := []) (rest := []) ⟨hx, hb, hml, hown, hts⟩ fx hw (kX1_clear l G hG (ItG_of hF) σ_16 ) (cwV 0 hts gX5_start_X1_clear rfl rfl rfl (by decide +kernel) ⟨Nat.le_of_ble_eq_true rfl, Nat.le_of_ble_eq_true rfl⟩) (hF.1 23 (by decide)) rfl rfl rfl rfl hl.1 rfl (Nat.le_of_ble_eq_true rfl) dX5_start_120 ⟨Nat.zero_le _, Nat.zero_le _⟩ ?_
              intro σ_18 H locs p_17 hw
              have eσ_18 := p_17
              refine lv_aload_n hx hb dX5_start_123 rfl (lv_at hl 0 rfl) ?_
              refine lv_iconst (v := 1) hx hb dX5_start_124 (by decide) ?_
              refine rPut (v := 1) (ty := .boolean) (C := RX5) (T := TX5) (N := 10) hx hb fx hown hts hin tyX5 tyX5_ok nmX5 hw 0 (hF.1 0 (by decide)) rfl rfl 8 (by decide) (hts (.fieldLink RX5 57 "Leaguewheel" "raceIsOn" "Z") (by decide +kernel)) (fun _ h9 => h9) rfl (by decide +kernel) (by decide) rfl (Nat.le_of_ble_eq_true rfl) rfl dX5_start_125 (fun H locs hw => ?_)
              obtain ⟨σ_19, eσ_19⟩ : ∃ w9, w9 = upA σ_18 0 (upd (σ_18 0) 8 1) := ⟨_, rfl⟩
              rw [← eσ_19] at hw
              refine lv_aload_n hx hb dX5_start_128 rfl (lv_at hl 0 rfl) ?_
              refine rGet (v := .ref (gad G 27)) (C := RX5) (T := TX5) (N := 10) hx hb fx hown hts hin hw 0 (hF.1 0 (by decide)) rfl rfl 5 (by decide) (hts (.fieldLink RX5 45 "Leaguewheel" "cup" "LLeaguewheel$Cup;") (by decide +kernel)) (fun _ h9 => h9) rfl dX5_start_129 ?_
              refine rCallI (C := RX0) (As := []) (rest := []) ⟨hx, hb, hml, hown, hts⟩ fx hw (kX0_endedRaces l G hG hF σ_19 ) (cwV 0 hts gX5_start_X0_endedRaces rfl rfl rfl (by decide +kernel) ⟨Nat.le_of_ble_eq_true rfl, Nat.le_of_ble_eq_true rfl⟩) (hF.1 27 (by decide)) rfl rfl rfl rfl hl.1 rfl (Nat.le_of_ble_eq_true rfl) dX5_start_132 ⟨Nat.zero_le _, Nat.zero_le _⟩ ?_
              intro r_21 σ_22 H locs p_20 hw
              obtain ⟨er_21, eσ_22⟩ := p_20
              have er_21 := er_21.symm; subst er_21
              have eσ_22 := eσ_22.symm; subst eσ_22
              refine lv_rep0 (x := (σ_19 27 2)) (y := nI e9) (by subst_vars; rw [upA_n (by decide), clS_o (by decide) (by decide) (by decide), upA_n (by decide), bgS_o (by decide)]; exact he) ?_
              subst eσ_19
              subst eσ_18
              subst eσ_16
              subst eσ_14
              exact vy_ret (rRetI hx hb hr hw (by exact ⟨rfl, by simp [srSt, srS0], inR_t c_1 c_2, by simp [c_3, c_12]; omega⟩) hlocks dX5_start_135)
            · skip
              exact rThrow (ik := 71) (is := 130) (ic := 75) (cls := "java/lang/IllegalStateException") (text := _) hx hb hlt hF.2.2.2.2 fx hw hown (by decide +kernel) (hts (.classLink RX5 71 "java/lang/IllegalStateException") (by decide +kernel)) (hts (.initialized "java/lang/IllegalStateException") (by decide +kernel)) (List.mem_of_getElem? (i := 12) rfl) (by decide +kernel) (at_ISE (fun w h => hts w (by revert w; decide +kernel))) gd_ISE (by rw [hml]; exact hl.1) dX5_start_87 dX5_start_90 dX5_start_91 dX5_start_93 dX5_start_96 hout (Nat.le_of_ble_eq_true rfl) (Nat.le_of_ble_eq_true rfl) (Nat.le_of_ble_eq_true rfl) (Nat.le_of_ble_eq_true rfl) hlocks (by exact Or.inr ⟨rfl, inR_t c_1 c_2, by simp [c_12]⟩) (Nat.le_of_ble_eq_true rfl) (Nat.le_of_ble_eq_true rfl)
          · skip
            have c_8 : n = 0 := n0_nef (by omega) c_8
            exact rThrow (ik := 71) (is := 125) (ic := 75) (cls := "java/lang/IllegalStateException") (text := _) hx hb hlt hF.2.2.2.2 fx hw hown (by decide +kernel) (hts (.classLink RX5 71 "java/lang/IllegalStateException") (by decide +kernel)) (hts (.initialized "java/lang/IllegalStateException") (by decide +kernel)) (List.mem_of_getElem? (i := 11) rfl) (by decide +kernel) (at_ISE (fun w h => hts w (by revert w; decide +kernel))) gd_ISE (by rw [hml]; exact hl.1) dX5_start_67 dX5_start_70 dX5_start_71 dX5_start_73 dX5_start_76 hout (Nat.le_of_ble_eq_true rfl) (Nat.le_of_ble_eq_true rfl) (Nat.le_of_ble_eq_true rfl) (Nat.le_of_ble_eq_true rfl) hlocks (by exact Or.inr ⟨rfl, inR_t c_1 c_2, by simp; omega⟩) (Nat.le_of_ble_eq_true rfl) (Nat.le_of_ble_eq_true rfl)
        · skip
          have c_7 : ¬ e9 < 8 := fun h9 => c_7 ((nI_ltI (by omega) (by omega)).mpr h9)
          exact rThrow (ik := 71) (is := 123) (ic := 75) (cls := "java/lang/IllegalStateException") (text := _) hx hb hlt hF.2.2.2.2 fx hw hown (by decide +kernel) (hts (.classLink RX5 71 "java/lang/IllegalStateException") (by decide +kernel)) (hts (.initialized "java/lang/IllegalStateException") (by decide +kernel)) (List.mem_of_getElem? (i := 10) rfl) (by decide +kernel) (at_ISE (fun w h => hts w (by revert w; decide +kernel))) gd_ISE (by rw [hml]; exact hl.1) dX5_start_50 dX5_start_53 dX5_start_54 dX5_start_56 dX5_start_59 hout (Nat.le_of_ble_eq_true rfl) (Nat.le_of_ble_eq_true rfl) (Nat.le_of_ble_eq_true rfl) (Nat.le_of_ble_eq_true rfl) hlocks (by exact Or.inr ⟨rfl, inR_t c_1 c_2, by simp; omega⟩) (Nat.le_of_ble_eq_true rfl) (Nat.le_of_ble_eq_true rfl)
      · skip
        exact rThrow (ik := 71) (is := 118) (ic := 75) (cls := "java/lang/IllegalStateException") (text := _) hx hb hlt hF.2.2.2.2 fx hw hown (by decide +kernel) (hts (.classLink RX5 71 "java/lang/IllegalStateException") (by decide +kernel)) (hts (.initialized "java/lang/IllegalStateException") (by decide +kernel)) (List.mem_of_getElem? (i := 9) rfl) (by decide +kernel) (at_ISE (fun w h => hts w (by revert w; decide +kernel))) gd_ISE (by rw [hml]; exact hl.1) dX5_start_28 dX5_start_31 dX5_start_32 dX5_start_34 dX5_start_37 hout (Nat.le_of_ble_eq_true rfl) (Nat.le_of_ble_eq_true rfl) (Nat.le_of_ble_eq_true rfl) (Nat.le_of_ble_eq_true rfl) hlocks (by exact Or.inr ⟨rfl, inR_t c_1 c_2, by simp [c_3]⟩) (Nat.le_of_ble_eq_true rfl) (Nat.le_of_ble_eq_true rfl)
    · skip
      exact rThrow (ik := 86) (is := 116) (ic := 90) (cls := "java/lang/IllegalArgumentException") (text := _) hx hb hlt hF.2.2.2.2 fx hw hown (by decide +kernel) (hts (.classLink RX5 86 "java/lang/IllegalArgumentException") (by decide +kernel)) (hts (.initialized "java/lang/IllegalArgumentException") (by decide +kernel)) (List.mem_of_getElem? (i := 8) rfl) (by decide +kernel) (at_IAE (fun w h => hts w (by revert w; decide +kernel))) gd_IAE (by rw [hml]; exact hl.1) dX5_start_11 dX5_start_14 dX5_start_15 dX5_start_17 dX5_start_20 hout (Nat.le_of_ble_eq_true rfl) (Nat.le_of_ble_eq_true rfl) (Nat.le_of_ble_eq_true rfl) (Nat.le_of_ble_eq_true rfl) hlocks (by exact Or.inl ⟨rfl, by first | exact inR_f1 c_2 | exact inR_f2 c_2⟩) (Nat.le_of_ble_eq_true rfl) (Nat.le_of_ble_eq_true rfl)

def rmX5_pass : Room := ({ frames := 8, cells := 1, slots := 6, locals := 123 } : Room)
set_option maxHeartbeats 4000000 in
set_option maxRecDepth 100000 in
theorem kX5_pass (l : Launch) (hlt : l.stackTraces = false) (G : Gx) (hG : gOk G) (hF : Full G) (σ : St) (x y : Int32) (g n e9 z : Nat) (b : Bool) (hIv9 : CIv σ g n b e9 z)  : CxI l yX5_pass wsX5_pass rmX5_pass G σ [.ref (gad G 0), .int x, .int y] (fun r σ' => r = mvR (noSt σ z (ix x) (ix y)) 4 (ix x) (ix y) ∧ σ' = mvS (noSt σ z (ix x) (ix y)) 4 (ix x) (ix y) ∧ (inB x n && inB y g) = true ∧ canP σ b z (ix x) (ix y) = true) (fun E => (E = xIOB ∧ (inB x n && inB y g) = false) ∨ (E = xISE ∧ (inB x n && inB y g) = true ∧ canP σ b z (ix x) (ix y) = false)) := by
  refine bgX (cc := cX5_pass) (maxL := 3) (ret := (some .int)) (own := RX5) (by decide) rfl rfl hG (Nat.le_of_ble_eq_true rfl) rfl ?_
  intro p e s m args below meth c ls hout Bd hl
  obtain ⟨hx, hb, hr, hml, hts, hown, hlocks, fx, hw⟩ := Bd
  have hl : lv_has ls 3 [(0, .ref (gad G 0)), (1, .int x), (2, .int y)] := hl
  have hin : ∀ w ∈ wsX50, w ∈ wsX5_pass := by decide +kernel
  obtain ⟨⟨hg, hg1, hg2⟩, ⟨hn, hn6⟩, hon, ⟨he, he8⟩, ⟨hz, hz5⟩, hrk, hcn, hrec⟩ := id hIv9
  refine lv_aload_n hx hb dX5_pass_0 rfl (lv_at hl 0 rfl) ?_
  refine lv_iload_n hx hb dX5_pass_1 rfl (lv_at hl 1 rfl) ?_
  refine rCallXV (C := RX5) (As := [.int x]) (rest := []) ⟨hx, hb, hml, hown, hts⟩ fx hw (kX5_checkKart l hlt G hG hF σ x g n e9 z b hIv9) (cwV 1 hts gX5_pass_X5_checkKart rfl rfl rfl (by decide +kernel) ⟨Nat.le_of_ble_eq_true rfl, Nat.le_of_ble_eq_true rfl⟩) (hF.1 0 (by decide)) rfl rfl rfl rfl hl.1 rfl (Nat.le_of_ble_eq_true rfl) dX5_pass_2 ⟨Nat.le_of_ble_eq_true rfl, Nat.le_of_ble_eq_true rfl⟩ (fun E ce q9 H locs hE hw h1 h2 h3 => ?_) ?_
  · skip
    exact rOut (by exact Or.inl ⟨hE.1, by simp [hE.2]⟩) hw h1 h2 h3 hout hlocks (Nat.le_of_ble_eq_true rfl) (Nat.le_of_ble_eq_true rfl)
  intro σ_2 H locs p_1 hw
  obtain ⟨eσ_2, p_1_0⟩ := p_1
  have eσ_2 := eσ_2.symm; subst eσ_2
  have hx9 := inB_ix (by omega) p_1_0
  have q_3 : x = (nI (ix x)) := by exact hx9.1
  have hl : lv_has ls 3 [(0, .ref (gad G 0)), (1, .int (nI (ix x))), (2, .int y)] := (lv_c (lv_at hl 0 rfl) (lv_c (lv_atq hl 1 rfl q_3) (lv_c (lv_at hl 2 rfl) (lv_c0 hl))))
  refine lv_aload_n hx hb dX5_pass_5 rfl (lv_at hl 0 rfl) ?_
  refine lv_iload_n hx hb dX5_pass_6 rfl (lv_at hl 2 rfl) ?_
  refine rCallXV (C := RX5) (As := [.int y]) (rest := []) ⟨hx, hb, hml, hown, hts⟩ fx hw (kX5_checkGate l hlt G hG hF σ y g n e9 z b hIv9) (cwV 1 hts gX5_pass_X5_checkGate rfl rfl rfl (by decide +kernel) ⟨Nat.le_of_ble_eq_true rfl, Nat.le_of_ble_eq_true rfl⟩) (hF.1 0 (by decide)) rfl rfl rfl rfl hl.1 rfl (Nat.le_of_ble_eq_true rfl) dX5_pass_7 ⟨Nat.le_of_ble_eq_true rfl, Nat.le_of_ble_eq_true rfl⟩ (fun E ce q9 H locs hE hw h1 h2 h3 => ?_) ?_
  · skip
    exact rOut (by exact Or.inl ⟨hE.1, by simp [hE.2]⟩) hw h1 h2 h3 hout hlocks (Nat.le_of_ble_eq_true rfl) (Nat.le_of_ble_eq_true rfl)
  intro σ_5 H locs p_4 hw
  obtain ⟨eσ_5, p_4_0⟩ := p_4
  have eσ_5 := eσ_5.symm; subst eσ_5
  have hy9 := inB_ix (by omega) p_4_0
  have q_6 : y = (nI (ix y)) := by exact hy9.1
  have hl : lv_has ls 3 [(0, .ref (gad G 0)), (1, .int (nI (ix x))), (2, .int (nI (ix y)))] := (lv_c (lv_at hl 0 rfl) (lv_c (lv_at hl 1 rfl) (lv_c (lv_atq hl 2 rfl q_6) (lv_c0 hl))))
  refine lv_aload_n hx hb dX5_pass_10 rfl (lv_at hl 0 rfl) ?_
  refine lv_iload_n hx hb dX5_pass_11 rfl (lv_at hl 1 rfl) ?_
  refine rCallXV (C := RX5) (As := [.int (nI (ix x))]) (rest := []) ⟨hx, hb, hml, hown, hts⟩ fx hw (kX5_checkStillRacing l hlt G hG hF σ ((ix x)) (by omega) g n e9 z b hIv9) (cwV 1 hts gX5_pass_X5_checkStillRacing rfl rfl rfl (by decide +kernel) ⟨Nat.le_of_ble_eq_true rfl, Nat.le_of_ble_eq_true rfl⟩) (hF.1 0 (by decide)) rfl rfl rfl rfl hl.1 rfl (Nat.le_of_ble_eq_true rfl) dX5_pass_12 ⟨Nat.le_of_ble_eq_true rfl, Nat.le_of_ble_eq_true rfl⟩ (fun E ce q9 H locs hE hw h1 h2 h3 => ?_) ?_
  · skip
    exact rOut (by exact Or.inr ⟨hE.1, by simp [p_1_0, p_4_0], by unfold canP; rw [hE.2]; rfl⟩) hw h1 h2 h3 hout hlocks (Nat.le_of_ble_eq_true rfl) (Nat.le_of_ble_eq_true rfl)
  intro σ_8 H locs p_7 hw
  obtain ⟨eσ_8, p_7_0, p_7_1⟩ := p_7
  have eσ_8 := eσ_8.symm; subst eσ_8
  refine lv_aload_n hx hb dX5_pass_15 rfl (lv_at hl 0 rfl) ?_
  refine rGet (v := .ref (gad G 23)) (C := RX5) (T := TX5) (N := 10) hx hb fx hown hts hin hw 0 (hF.1 0 (by decide)) rfl rfl 4 (by decide) (hts (.fieldLink RX5 38 "Leaguewheel" "items" "LLeaguewheel$Items;") (by decide +kernel)) (fun _ h9 => h9) rfl dX5_pass_16 ?_
  refine lv_iload_n hx hb dX5_pass_19 rfl (lv_at hl 1 rfl) ?_
  refine lv_aload_n hx hb dX5_pass_20 rfl (lv_at hl 0 rfl) ?_
  refine rGet (v := .int (σ 0 9)) (C := RX5) (T := TX5) (N := 10) hx hb fx hown hts hin hw 0 (hF.1 0 (by decide)) rfl rfl 9 (by decide) (hts (.fieldLink RX5 61 "Leaguewheel" "tick" "I") (by decide +kernel)) (fun _ h9 => h9) rfl dX5_pass_21 ?_
  refine rCallI (C := RX1) (As := [.int (nI (ix x)), .int (σ 0 9)]) (rest := []) ⟨hx, hb, hml, hown, hts⟩ fx hw (kX1_ticksStunned l G hG hF σ ((ix x)) (by omega) ((σ 0 9))) (cwV 2 hts gX5_pass_X1_ticksStunned rfl rfl rfl (by decide +kernel) ⟨Nat.le_of_ble_eq_true rfl, Nat.le_of_ble_eq_true rfl⟩) (hF.1 23 (by decide)) rfl rfl rfl rfl hl.1 rfl (Nat.le_of_ble_eq_true rfl) dX5_pass_24 ⟨Nat.zero_le _, Nat.zero_le _⟩ ?_
  intro r_10 σ_11 H locs p_9 hw
  obtain ⟨er_10, eσ_11⟩ := p_9
  have er_10 := er_10.symm; subst er_10
  have eσ_11 := eσ_11.symm; subst eσ_11
  refine lv_rep0 (x := (if σ 26 (ix x) - (σ 0 9) < 0 then 0 else σ 26 (ix x) - (σ 0 9))) (y := (stuA σ (ix x))) (by rfl) ?_
  refine lv_if_le (tgt := 40) hx hb dX5_pass_27 (by decide) (fun c_12 => ?_) (fun c_12 => ?_)
  · skip
    refine lv_aload_n hx hb dX5_pass_40 rfl (lv_at hl 0 rfl) ?_
    refine rGet (v := .ref (gad G 1)) (C := RX5) (T := TX5) (N := 10) hx hb fx hown hts hin hw 0 (hF.1 0 (by decide)) rfl rfl 0 (by decide) (hts (.fieldLink RX5 10 "Leaguewheel" "track" "LLeaguewheel$Track;") (by decide +kernel)) (fun _ h9 => h9) rfl dX5_pass_41 ?_
    refine lv_aload_n hx hb dX5_pass_44 rfl (lv_at hl 0 rfl) ?_
    refine rGet (v := .ref (gad G 4)) (C := RX5) (T := TX5) (N := 10) hx hb fx hown hts hin hw 0 (hF.1 0 (by decide)) rfl rfl 1 (by decide) (hts (.fieldLink RX5 21 "Leaguewheel" "race" "LLeaguewheel$Race;") (by decide +kernel)) (fun _ h9 => h9) rfl dX5_pass_45 ?_
    refine lv_iload_n hx hb dX5_pass_48 rfl (lv_at hl 1 rfl) ?_
    refine rCallI (C := RX3) (As := [.int (nI (ix x))]) (rest := [.ref (gad G 1)]) ⟨hx, hb, hml, hown, hts⟩ fx hw (kX3_gateAt l G hG hF σ 4 (Or.inl rfl) ((ix x)) (by omega)) (cwV 1 hts gX5_pass_X3_gateAt rfl rfl rfl (by decide +kernel) ⟨Nat.le_of_ble_eq_true rfl, Nat.le_of_ble_eq_true rfl⟩) (hF.1 4 (by decide)) rfl rfl rfl rfl hl.1 rfl (Nat.le_of_ble_eq_true rfl) dX5_pass_49 ⟨Nat.zero_le _, Nat.zero_le _⟩ ?_
    intro r_14 σ_15 H locs p_13 hw
    obtain ⟨er_14, eσ_15⟩ := p_13
    have er_14 := er_14.symm; subst er_14
    have eσ_15 := eσ_15.symm; subst eσ_15
    refine lv_rep0 (x := (σ (4 + 1) (ix x))) (y := nI (gN σ 4 (ix x))) (by exact (hrk (ix x) (by omega)).1) ?_
    have hgk := (hrk (ix x) (by omega)).2
    refine lv_iload_n hx hb dX5_pass_52 rfl (lv_at hl 2 rfl) ?_
    refine rCallI (C := RX4) (As := [.int (nI (gN σ 4 (ix x))), .int (nI (ix y))]) (rest := []) ⟨hx, hb, hml, hown, hts⟩ fx hw (kX4_joins l G hG hF σ ((gN σ 4 (ix x))) ((ix y)) (by omega) (by omega)) (cwV 2 hts gX5_pass_X4_joins rfl rfl rfl (by decide +kernel) ⟨Nat.le_of_ble_eq_true rfl, Nat.le_of_ble_eq_true rfl⟩) (hF.1 1 (by decide)) rfl rfl rfl rfl hl.1 rfl (Nat.le_of_ble_eq_true rfl) dX5_pass_53 ⟨Nat.zero_le _, Nat.zero_le _⟩ ?_
    intro r_17 σ_18 H locs p_16 hw
    obtain ⟨er_17, eσ_18⟩ := p_16
    have er_17 := er_17.symm; subst er_17
    have eσ_18 := eσ_18.symm; subst eσ_18
    refine lv_b_ne (tgt := 69) hx hb dX5_pass_56 (by decide) (fun c_19 => ?_) (fun c_19 => ?_)
    · skip
      refine lv_aload_n hx hb dX5_pass_69 rfl (lv_at hl 0 rfl) ?_
      refine rGet (v := .ref (gad G 20)) (C := RX5) (T := TX5) (N := 10) hx hb fx hown hts hin hw 0 (hF.1 0 (by decide)) rfl rfl 3 (by decide) (hts (.fieldLink RX5 31 "Leaguewheel" "passings" "LLeaguewheel$Passings;") (by decide +kernel)) (fun _ h9 => h9) rfl dX5_pass_70 ?_
      refine rCallI (C := RX2) (As := []) (rest := []) ⟨hx, hb, hml, hown, hts⟩ fx hw (kX2_isFull l G hG hF σ ) (cwV 0 hts gX5_pass_X2_isFull rfl rfl rfl (by decide +kernel) ⟨Nat.le_of_ble_eq_true rfl, Nat.le_of_ble_eq_true rfl⟩) (hF.1 20 (by decide)) rfl rfl rfl rfl hl.1 rfl (Nat.le_of_ble_eq_true rfl) dX5_pass_73 ⟨Nat.zero_le _, Nat.zero_le _⟩ ?_
      intro r_21 σ_22 H locs p_20 hw
      obtain ⟨er_21, eσ_22⟩ := p_20
      have er_21 := er_21.symm; subst er_21
      have eσ_22 := eσ_22.symm; subst eσ_22
      refine lv_b_eq (tgt := 89) hx hb dX5_pass_76 (by decide) (fun c_23 => ?_) (fun c_23 => ?_)
      · skip
        have hz9 : z < 512 := by have qz9 := c_23; simp only [Bool.not_eq_false', decide_eq_true_eq] at qz9; rw [hz] at qz9; exact (nI_ltI (by omega) (by decide)).mp qz9
        refine lv_aload_n hx hb dX5_pass_89 rfl (lv_at hl 0 rfl) ?_
        refine rGet (v := .ref (gad G 20)) (C := RX5) (T := TX5) (N := 10) hx hb fx hown hts hin hw 0 (hF.1 0 (by decide)) rfl rfl 3 (by decide) (hts (.fieldLink RX5 31 "Leaguewheel" "passings" "LLeaguewheel$Passings;") (by decide +kernel)) (fun _ h9 => h9) rfl dX5_pass_90 ?_
        refine lv_iload_n hx hb dX5_pass_93 rfl (lv_at hl 1 rfl) ?_
        refine lv_iload_n hx hb dX5_pass_94 rfl (lv_at hl 2 rfl) ?_
        refine rCallV (C := RX2) (As := [.int (nI (ix x)), .int (nI (ix y))]) (rest := []) ⟨hx, hb, hml, hown, hts⟩ fx hw (kX2_note l G hG hF σ z hz (by omega) ((nI (ix x))) ((nI (ix y)))) (cwV 2 hts gX5_pass_X2_note rfl rfl rfl (by decide +kernel) ⟨Nat.le_of_ble_eq_true rfl, Nat.le_of_ble_eq_true rfl⟩) (hF.1 20 (by decide)) rfl rfl rfl rfl hl.1 rfl (Nat.le_of_ble_eq_true rfl) dX5_pass_95 ⟨Nat.zero_le _, Nat.zero_le _⟩ ?_
        intro σ_25 H locs p_24 hw
        have eσ_25 := p_24
        refine lv_aload_n hx hb dX5_pass_98 rfl (lv_at hl 0 rfl) ?_
        refine rGet (v := .ref (gad G 4)) (C := RX5) (T := TX5) (N := 10) hx hb fx hown hts hin hw 0 (hF.1 0 (by decide)) rfl rfl 1 (by decide) (hts (.fieldLink RX5 21 "Leaguewheel" "race" "LLeaguewheel$Race;") (by decide +kernel)) (fun _ h9 => h9) rfl dX5_pass_99 ?_
        refine lv_iload_n hx hb dX5_pass_102 rfl (lv_at hl 1 rfl) ?_
        refine lv_iload_n hx hb dX5_pass_103 rfl (lv_at hl 2 rfl) ?_
        refine rCallI (C := RX3) (As := [.int (nI (ix x)), .int (nI (ix y))]) (rest := []) ⟨hx, hb, hml, hown, hts⟩ fx hw (kX3_move l G hG hF σ_25 4 (Or.inl rfl) ((ix x)) (by omega) ((ix y)) (by omega) (by subst_vars; exact rOk_of (by rw [upA_n (by decide), upA_n (by decide), upA_n (by decide)]) hrk)) (cwV 2 hts gX5_pass_X3_move rfl rfl rfl (by decide +kernel) ⟨Nat.le_of_ble_eq_true rfl, Nat.le_of_ble_eq_true rfl⟩) (hF.1 4 (by decide)) rfl rfl rfl rfl hl.1 rfl (Nat.le_of_ble_eq_true rfl) dX5_pass_104 ⟨Nat.zero_le _, Nat.zero_le _⟩ ?_
        intro r_27 σ_28 H locs p_26 hw
        obtain ⟨er_27, eσ_28⟩ := p_26
        have er_27 := er_27.symm; subst er_27
        subst eσ_28
        subst eσ_25
        exact vy_ret (rRetI hx hb hr hw (by exact ⟨rfl, rfl, by simp [p_1_0, p_4_0], by unfold canP wayB; rw [c_19]; simp [p_7_0, p_7_1, c_12, hz9]⟩) hlocks dX5_pass_107)
      · skip
        have hz9 : ¬ z < 512 := by have qz9 := c_23; simp only [Bool.not_eq_true', decide_eq_false_iff_not] at qz9; rw [hz] at qz9; exact fun h9 => qz9 ((nI_ltI (by omega) (by decide)).mpr h9)
        exact rThrow (ik := 71) (is := 161) (ic := 75) (cls := "java/lang/IllegalStateException") (text := _) hx hb hlt hF.2.2.2.2 fx hw hown (by decide +kernel) (hts (.classLink RX5 71 "java/lang/IllegalStateException") (by decide +kernel)) (hts (.initialized "java/lang/IllegalStateException") (by decide +kernel)) (List.mem_of_getElem? (i := 18) rfl) (by decide +kernel) (at_ISE (fun w h => hts w (by revert w; decide +kernel))) gd_ISE (by rw [hml]; exact hl.1) dX5_pass_79 dX5_pass_82 dX5_pass_83 dX5_pass_85 dX5_pass_88 hout (Nat.le_of_ble_eq_true rfl) (Nat.le_of_ble_eq_true rfl) (Nat.le_of_ble_eq_true rfl) (Nat.le_of_ble_eq_true rfl) hlocks (by exact Or.inr ⟨rfl, by simp [p_1_0, p_4_0], by simp [canP, hz9]⟩) (Nat.le_of_ble_eq_true rfl) (Nat.le_of_ble_eq_true rfl)
    · skip
      exact rThrow (ik := 71) (is := 158) (ic := 75) (cls := "java/lang/IllegalStateException") (text := _) hx hb hlt hF.2.2.2.2 fx hw hown (by decide +kernel) (hts (.classLink RX5 71 "java/lang/IllegalStateException") (by decide +kernel)) (hts (.initialized "java/lang/IllegalStateException") (by decide +kernel)) (List.mem_of_getElem? (i := 17) rfl) (by decide +kernel) (at_ISE (fun w h => hts w (by revert w; decide +kernel))) gd_ISE (by rw [hml]; exact hl.1) dX5_pass_59 dX5_pass_62 dX5_pass_63 dX5_pass_65 dX5_pass_68 hout (Nat.le_of_ble_eq_true rfl) (Nat.le_of_ble_eq_true rfl) (Nat.le_of_ble_eq_true rfl) (Nat.le_of_ble_eq_true rfl) hlocks (by exact Or.inr ⟨rfl, by simp [p_1_0, p_4_0], by unfold canP wayB; rw [c_19]; simp⟩) (Nat.le_of_ble_eq_true rfl) (Nat.le_of_ble_eq_true rfl)
  · skip
    exact rThrow (ik := 71) (is := 149) (ic := 75) (cls := "java/lang/IllegalStateException") (text := _) hx hb hlt hF.2.2.2.2 fx hw hown (by decide +kernel) (hts (.classLink RX5 71 "java/lang/IllegalStateException") (by decide +kernel)) (hts (.initialized "java/lang/IllegalStateException") (by decide +kernel)) (List.mem_of_getElem? (i := 16) rfl) (by decide +kernel) (at_ISE (fun w h => hts w (by revert w; decide +kernel))) gd_ISE (by rw [hml]; exact hl.1) dX5_pass_30 dX5_pass_33 dX5_pass_34 dX5_pass_36 dX5_pass_39 hout (Nat.le_of_ble_eq_true rfl) (Nat.le_of_ble_eq_true rfl) (Nat.le_of_ble_eq_true rfl) (Nat.le_of_ble_eq_true rfl) hlocks (by exact Or.inr ⟨rfl, by simp [p_1_0, p_4_0], by simp [canP, c_12]⟩) (Nat.le_of_ble_eq_true rfl) (Nat.le_of_ble_eq_true rfl)

def rmX5_idle : Room := ({ frames := 6, cells := 1, slots := 6, locals := 82 } : Room)
set_option maxHeartbeats 4000000 in
set_option maxRecDepth 100000 in
theorem kX5_idle (l : Launch) (hlt : l.stackTraces = false) (G : Gx) (hG : gOk G) (hF : Full G) (σ : St) (x : Int32) (g n e9 z : Nat) (b : Bool) (hIv9 : CIv σ g n b e9 z)  : CxI l yX5_idle wsX5_idle rmX5_idle G σ [.ref (gad G 0), .int x] (fun r σ' => r = σ 0 9 + x ∧ σ' = upA σ 0 (upd (σ 0) 9 (σ 0 9 + x)) ∧ inR x 1 100 = true) (fun E => E = xIAE ∧ inR x 1 100 = false) := by
  refine bgX (cc := cX5_idle) (maxL := 2) (ret := (some .int)) (own := RX5) (by decide) rfl rfl hG (Nat.le_of_ble_eq_true rfl) rfl ?_
  intro p e s m args below meth c ls hout Bd hl
  obtain ⟨hx, hb, hr, hml, hts, hown, hlocks, fx, hw⟩ := Bd
  have hl : lv_has ls 2 [(0, .ref (gad G 0)), (1, .int x)] := hl
  have hin : ∀ w ∈ wsX50, w ∈ wsX5_idle := by decide +kernel
  obtain ⟨⟨hg, hg1, hg2⟩, ⟨hn, hn6⟩, hon, ⟨he, he8⟩, ⟨hz, hz5⟩, hrk, hcn, hrec⟩ := id hIv9
  refine lv_iload_n hx hb dX5_idle_0 rfl (lv_at hl 1 rfl) ?_
  refine lv_iconst (v := 1) hx hb dX5_idle_1 (by decide) ?_
  refine lv_icmp_lt (tgt := 11) hx hb dX5_idle_2 (by decide) (fun c_1 => ?_) (fun c_1 => ?_)
  · skip
    exact rThrow (ik := 86) (is := 169) (ic := 90) (cls := "java/lang/IllegalArgumentException") (text := _) hx hb hlt hF.2.2.2.2 fx hw hown (by decide +kernel) (hts (.classLink RX5 86 "java/lang/IllegalArgumentException") (by decide +kernel)) (hts (.initialized "java/lang/IllegalArgumentException") (by decide +kernel)) (List.mem_of_getElem? (i := 19) rfl) (by decide +kernel) (at_IAE (fun w h => hts w (by revert w; decide +kernel))) gd_IAE (by rw [hml]; exact hl.1) dX5_idle_11 dX5_idle_14 dX5_idle_15 dX5_idle_17 dX5_idle_20 hout (Nat.le_of_ble_eq_true rfl) (Nat.le_of_ble_eq_true rfl) (Nat.le_of_ble_eq_true rfl) (Nat.le_of_ble_eq_true rfl) hlocks (by exact ⟨rfl, by first | exact inR_f1 c_1 | exact inR_f2 c_1⟩) (Nat.le_of_ble_eq_true rfl) (Nat.le_of_ble_eq_true rfl)
  · skip
    refine lv_iload_n hx hb dX5_idle_5 rfl (lv_at hl 1 rfl) ?_
    refine lv_bipush (v := 100) hx hb dX5_idle_6 (by decide) ?_
    refine lv_icmp_le (tgt := 21) hx hb dX5_idle_8 (by decide) (fun c_2 => ?_) (fun c_2 => ?_)
    · skip
      refine lv_aload_n hx hb dX5_idle_21 rfl (lv_at hl 0 rfl) ?_
      refine lv_dup hx hb dX5_idle_22 rfl ?_
      refine rGet (v := .int (σ 0 9)) (C := RX5) (T := TX5) (N := 10) hx hb fx hown hts hin hw 0 (hF.1 0 (by decide)) rfl rfl 9 (by decide) (hts (.fieldLink RX5 61 "Leaguewheel" "tick" "I") (by decide +kernel)) (fun _ h9 => h9) rfl dX5_idle_23 ?_
      refine lv_iload_n hx hb dX5_idle_26 rfl (lv_at hl 1 rfl) ?_
      refine lv_iadd hx hb dX5_idle_27 ?_
      refine rPut (v := ((σ 0 9) + x)) (ty := .int) (C := RX5) (T := TX5) (N := 10) hx hb fx hown hts hin tyX5 tyX5_ok nmX5 hw 0 (hF.1 0 (by decide)) rfl rfl 9 (by decide) (hts (.fieldLink RX5 61 "Leaguewheel" "tick" "I") (by decide +kernel)) (fun _ h9 => h9) rfl (by decide +kernel) rfl rfl (Nat.le_of_ble_eq_true rfl) rfl dX5_idle_28 (fun H locs hw => ?_)
      obtain ⟨σ_3, eσ_3⟩ : ∃ w9, w9 = upA σ 0 (upd (σ 0) 9 ((σ 0 9) + x)) := ⟨_, rfl⟩
      rw [← eσ_3] at hw
      refine lv_aload_n hx hb dX5_idle_31 rfl (lv_at hl 0 rfl) ?_
      refine rGet (v := .int (σ_3 0 9)) (C := RX5) (T := TX5) (N := 10) hx hb fx hown hts hin hw 0 (hF.1 0 (by decide)) rfl rfl 9 (by decide) (hts (.fieldLink RX5 61 "Leaguewheel" "tick" "I") (by decide +kernel)) (fun _ h9 => h9) rfl dX5_idle_32 ?_
      subst eσ_3
      exact vy_ret (rRetI hx hb hr hw (by exact ⟨by simp [upA_n, upA_s, upA_upA, upA_self, upd_self, upd_upd, pk_us, bI], rfl, inR_t c_1 c_2⟩) hlocks dX5_idle_35)
    · skip
      exact rThrow (ik := 86) (is := 169) (ic := 90) (cls := "java/lang/IllegalArgumentException") (text := _) hx hb hlt hF.2.2.2.2 fx hw hown (by decide +kernel) (hts (.classLink RX5 86 "java/lang/IllegalArgumentException") (by decide +kernel)) (hts (.initialized "java/lang/IllegalArgumentException") (by decide +kernel)) (List.mem_of_getElem? (i := 19) rfl) (by decide +kernel) (at_IAE (fun w h => hts w (by revert w; decide +kernel))) gd_IAE (by rw [hml]; exact hl.1) dX5_idle_11 dX5_idle_14 dX5_idle_15 dX5_idle_17 dX5_idle_20 hout (Nat.le_of_ble_eq_true rfl) (Nat.le_of_ble_eq_true rfl) (Nat.le_of_ble_eq_true rfl) (Nat.le_of_ble_eq_true rfl) hlocks (by exact ⟨rfl, by first | exact inR_f1 c_2 | exact inR_f2 c_2⟩) (Nat.le_of_ble_eq_true rfl) (Nat.le_of_ble_eq_true rfl)

def rmX5_gateOf : Room := ({ frames := 7, cells := 1, slots := 6, locals := 103 } : Room)
set_option maxHeartbeats 4000000 in
set_option maxRecDepth 100000 in
theorem kX5_gateOf (l : Launch) (hlt : l.stackTraces = false) (G : Gx) (hG : gOk G) (hF : Full G) (σ : St) (x : Int32) (g n e9 z : Nat) (b : Bool) (hIv9 : CIv σ g n b e9 z)  : CxI l yX5_gateOf wsX5_gateOf rmX5_gateOf G σ [.ref (gad G 0), .int x] (fun r σ' => r = (σ (4 + 1) (ix x)) ∧ σ' = σ ∧ inB x n = true ∧ b = true) (fun E => (E = xIOB ∧ inB x n = false) ∨ (E = xISE ∧ inB x n = true ∧ b = false)) := by
  refine bgX (cc := cX5_gateOf) (maxL := 2) (ret := (some .int)) (own := RX5) (by decide) rfl rfl hG (Nat.le_of_ble_eq_true rfl) rfl ?_
  intro p e s m args below meth c ls hout Bd hl
  obtain ⟨hx, hb, hr, hml, hts, hown, hlocks, fx, hw⟩ := Bd
  have hl : lv_has ls 2 [(0, .ref (gad G 0)), (1, .int x)] := hl
  have hin : ∀ w ∈ wsX50, w ∈ wsX5_gateOf := by decide +kernel
  obtain ⟨⟨hg, hg1, hg2⟩, ⟨hn, hn6⟩, hon, ⟨he, he8⟩, ⟨hz, hz5⟩, hrk, hcn, hrec⟩ := id hIv9
  refine lv_aload_n hx hb dX5_gateOf_0 rfl (lv_at hl 0 rfl) ?_
  refine lv_iload_n hx hb dX5_gateOf_1 rfl (lv_at hl 1 rfl) ?_
  refine rCallXV (C := RX5) (As := [.int x]) (rest := []) ⟨hx, hb, hml, hown, hts⟩ fx hw (kX5_checkKart l hlt G hG hF σ x g n e9 z b hIv9) (cwV 1 hts gX5_gateOf_X5_checkKart rfl rfl rfl (by decide +kernel) ⟨Nat.le_of_ble_eq_true rfl, Nat.le_of_ble_eq_true rfl⟩) (hF.1 0 (by decide)) rfl rfl rfl rfl hl.1 rfl (Nat.le_of_ble_eq_true rfl) dX5_gateOf_2 ⟨Nat.le_of_ble_eq_true rfl, Nat.le_of_ble_eq_true rfl⟩ (fun E ce q9 H locs hE hw h1 h2 h3 => ?_) ?_
  · skip
    exact rOut (by exact Or.inl hE) hw h1 h2 h3 hout hlocks (Nat.le_of_ble_eq_true rfl) (Nat.le_of_ble_eq_true rfl)
  intro σ_2 H locs p_1 hw
  obtain ⟨eσ_2, p_1_0⟩ := p_1
  have eσ_2 := eσ_2.symm; subst eσ_2
  have hx9 := inB_ix (by omega) p_1_0
  have q_3 : x = (nI (ix x)) := by exact hx9.1
  have hl : lv_has ls 2 [(0, .ref (gad G 0)), (1, .int (nI (ix x)))] := (lv_c (lv_at hl 0 rfl) (lv_c (lv_atq hl 1 rfl q_3) (lv_c0 hl)))
  refine lv_aload_n hx hb dX5_gateOf_5 rfl (lv_at hl 0 rfl) ?_
  refine rCallXV (C := RX5) (As := []) (rest := []) ⟨hx, hb, hml, hown, hts⟩ fx hw (kX5_checkRaceIsOn l hlt G hG hF σ g n e9 z b hIv9) (cwV 0 hts gX5_gateOf_X5_checkRaceIsOn rfl rfl rfl (by decide +kernel) ⟨Nat.le_of_ble_eq_true rfl, Nat.le_of_ble_eq_true rfl⟩) (hF.1 0 (by decide)) rfl rfl rfl rfl hl.1 rfl (Nat.le_of_ble_eq_true rfl) dX5_gateOf_6 ⟨Nat.le_of_ble_eq_true rfl, Nat.le_of_ble_eq_true rfl⟩ (fun E ce q9 H locs hE hw h1 h2 h3 => ?_) ?_
  · skip
    exact rOut (by exact Or.inr ⟨hE.1, p_1_0, hE.2⟩) hw h1 h2 h3 hout hlocks (Nat.le_of_ble_eq_true rfl) (Nat.le_of_ble_eq_true rfl)
  intro σ_5 H locs p_4 hw
  obtain ⟨eσ_5, p_4_0⟩ := p_4
  have eσ_5 := eσ_5.symm; subst eσ_5
  refine lv_aload_n hx hb dX5_gateOf_9 rfl (lv_at hl 0 rfl) ?_
  refine rGet (v := .ref (gad G 4)) (C := RX5) (T := TX5) (N := 10) hx hb fx hown hts hin hw 0 (hF.1 0 (by decide)) rfl rfl 1 (by decide) (hts (.fieldLink RX5 21 "Leaguewheel" "race" "LLeaguewheel$Race;") (by decide +kernel)) (fun _ h9 => h9) rfl dX5_gateOf_10 ?_
  refine lv_iload_n hx hb dX5_gateOf_13 rfl (lv_at hl 1 rfl) ?_
  refine rCallI (C := RX3) (As := [.int (nI (ix x))]) (rest := []) ⟨hx, hb, hml, hown, hts⟩ fx hw (kX3_gateAt l G hG hF σ 4 (Or.inl rfl) ((ix x)) (by omega)) (cwV 1 hts gX5_gateOf_X3_gateAt rfl rfl rfl (by decide +kernel) ⟨Nat.le_of_ble_eq_true rfl, Nat.le_of_ble_eq_true rfl⟩) (hF.1 4 (by decide)) rfl rfl rfl rfl hl.1 rfl (Nat.le_of_ble_eq_true rfl) dX5_gateOf_14 ⟨Nat.zero_le _, Nat.zero_le _⟩ ?_
  intro r_7 σ_8 H locs p_6 hw
  obtain ⟨er_7, eσ_8⟩ := p_6
  have er_7 := er_7.symm; subst er_7
  have eσ_8 := eσ_8.symm; subst eσ_8
  exact vy_ret (rRetI hx hb hr hw (by exact ⟨rfl, rfl, p_1_0, p_4_0⟩) hlocks dX5_gateOf_17)

def rmX5_lapsOf : Room := ({ frames := 7, cells := 1, slots := 6, locals := 103 } : Room)
set_option maxHeartbeats 4000000 in
set_option maxRecDepth 100000 in
theorem kX5_lapsOf (l : Launch) (hlt : l.stackTraces = false) (G : Gx) (hG : gOk G) (hF : Full G) (σ : St) (x : Int32) (g n e9 z : Nat) (b : Bool) (hIv9 : CIv σ g n b e9 z)  : CxI l yX5_lapsOf wsX5_lapsOf rmX5_lapsOf G σ [.ref (gad G 0), .int x] (fun r σ' => r = (netA σ 4 (ix x)) ∧ σ' = σ ∧ inB x n = true ∧ b = true) (fun E => (E = xIOB ∧ inB x n = false) ∨ (E = xISE ∧ inB x n = true ∧ b = false)) := by
  refine bgX (cc := cX5_lapsOf) (maxL := 2) (ret := (some .int)) (own := RX5) (by decide) rfl rfl hG (Nat.le_of_ble_eq_true rfl) rfl ?_
  intro p e s m args below meth c ls hout Bd hl
  obtain ⟨hx, hb, hr, hml, hts, hown, hlocks, fx, hw⟩ := Bd
  have hl : lv_has ls 2 [(0, .ref (gad G 0)), (1, .int x)] := hl
  have hin : ∀ w ∈ wsX50, w ∈ wsX5_lapsOf := by decide +kernel
  obtain ⟨⟨hg, hg1, hg2⟩, ⟨hn, hn6⟩, hon, ⟨he, he8⟩, ⟨hz, hz5⟩, hrk, hcn, hrec⟩ := id hIv9
  refine lv_aload_n hx hb dX5_lapsOf_0 rfl (lv_at hl 0 rfl) ?_
  refine lv_iload_n hx hb dX5_lapsOf_1 rfl (lv_at hl 1 rfl) ?_
  refine rCallXV (C := RX5) (As := [.int x]) (rest := []) ⟨hx, hb, hml, hown, hts⟩ fx hw (kX5_checkKart l hlt G hG hF σ x g n e9 z b hIv9) (cwV 1 hts gX5_lapsOf_X5_checkKart rfl rfl rfl (by decide +kernel) ⟨Nat.le_of_ble_eq_true rfl, Nat.le_of_ble_eq_true rfl⟩) (hF.1 0 (by decide)) rfl rfl rfl rfl hl.1 rfl (Nat.le_of_ble_eq_true rfl) dX5_lapsOf_2 ⟨Nat.le_of_ble_eq_true rfl, Nat.le_of_ble_eq_true rfl⟩ (fun E ce q9 H locs hE hw h1 h2 h3 => ?_) ?_
  · skip
    exact rOut (by exact Or.inl hE) hw h1 h2 h3 hout hlocks (Nat.le_of_ble_eq_true rfl) (Nat.le_of_ble_eq_true rfl)
  intro σ_2 H locs p_1 hw
  obtain ⟨eσ_2, p_1_0⟩ := p_1
  have eσ_2 := eσ_2.symm; subst eσ_2
  have hx9 := inB_ix (by omega) p_1_0
  have q_3 : x = (nI (ix x)) := by exact hx9.1
  have hl : lv_has ls 2 [(0, .ref (gad G 0)), (1, .int (nI (ix x)))] := (lv_c (lv_at hl 0 rfl) (lv_c (lv_atq hl 1 rfl q_3) (lv_c0 hl)))
  refine lv_aload_n hx hb dX5_lapsOf_5 rfl (lv_at hl 0 rfl) ?_
  refine rCallXV (C := RX5) (As := []) (rest := []) ⟨hx, hb, hml, hown, hts⟩ fx hw (kX5_checkRaceIsOn l hlt G hG hF σ g n e9 z b hIv9) (cwV 0 hts gX5_lapsOf_X5_checkRaceIsOn rfl rfl rfl (by decide +kernel) ⟨Nat.le_of_ble_eq_true rfl, Nat.le_of_ble_eq_true rfl⟩) (hF.1 0 (by decide)) rfl rfl rfl rfl hl.1 rfl (Nat.le_of_ble_eq_true rfl) dX5_lapsOf_6 ⟨Nat.le_of_ble_eq_true rfl, Nat.le_of_ble_eq_true rfl⟩ (fun E ce q9 H locs hE hw h1 h2 h3 => ?_) ?_
  · skip
    exact rOut (by exact Or.inr ⟨hE.1, p_1_0, hE.2⟩) hw h1 h2 h3 hout hlocks (Nat.le_of_ble_eq_true rfl) (Nat.le_of_ble_eq_true rfl)
  intro σ_5 H locs p_4 hw
  obtain ⟨eσ_5, p_4_0⟩ := p_4
  have eσ_5 := eσ_5.symm; subst eσ_5
  refine lv_aload_n hx hb dX5_lapsOf_9 rfl (lv_at hl 0 rfl) ?_
  refine rGet (v := .ref (gad G 4)) (C := RX5) (T := TX5) (N := 10) hx hb fx hown hts hin hw 0 (hF.1 0 (by decide)) rfl rfl 1 (by decide) (hts (.fieldLink RX5 21 "Leaguewheel" "race" "LLeaguewheel$Race;") (by decide +kernel)) (fun _ h9 => h9) rfl dX5_lapsOf_10 ?_
  refine lv_iload_n hx hb dX5_lapsOf_13 rfl (lv_at hl 1 rfl) ?_
  refine rCallI (C := RX3) (As := [.int (nI (ix x))]) (rest := []) ⟨hx, hb, hml, hown, hts⟩ fx hw (kX3_netLaps l G hG hF σ 4 (Or.inl rfl) ((ix x)) (by omega)) (cwV 1 hts gX5_lapsOf_X3_netLaps rfl rfl rfl (by decide +kernel) ⟨Nat.le_of_ble_eq_true rfl, Nat.le_of_ble_eq_true rfl⟩) (hF.1 4 (by decide)) rfl rfl rfl rfl hl.1 rfl (Nat.le_of_ble_eq_true rfl) dX5_lapsOf_14 ⟨Nat.zero_le _, Nat.zero_le _⟩ ?_
  intro r_7 σ_8 H locs p_6 hw
  obtain ⟨er_7, eσ_8⟩ := p_6
  have er_7 := er_7.symm; subst er_7
  have eσ_8 := eσ_8.symm; subst eσ_8
  exact vy_ret (rRetI hx hb hr hw (by exact ⟨rfl, rfl, p_1_0, p_4_0⟩) hlocks dX5_lapsOf_17)

def rmX5_missing : Room := ({ frames := 7, cells := 1, slots := 6, locals := 103 } : Room)
set_option maxHeartbeats 4000000 in
set_option maxRecDepth 100000 in
theorem kX5_missing (l : Launch) (hlt : l.stackTraces = false) (G : Gx) (hG : gOk G) (hF : Full G) (σ : St) (x : Int32) (g n e9 z : Nat) (b : Bool) (hIv9 : CIv σ g n b e9 z)  : CxI l yX5_missing wsX5_missing rmX5_missing G σ [.ref (gad G 0), .int x] (fun r σ' => r = (misA σ 4 (ix x)) ∧ σ' = σ ∧ inB x n = true ∧ b = true) (fun E => (E = xIOB ∧ inB x n = false) ∨ (E = xISE ∧ inB x n = true ∧ b = false)) := by
  refine bgX (cc := cX5_missing) (maxL := 2) (ret := (some .int)) (own := RX5) (by decide) rfl rfl hG (Nat.le_of_ble_eq_true rfl) rfl ?_
  intro p e s m args below meth c ls hout Bd hl
  obtain ⟨hx, hb, hr, hml, hts, hown, hlocks, fx, hw⟩ := Bd
  have hl : lv_has ls 2 [(0, .ref (gad G 0)), (1, .int x)] := hl
  have hin : ∀ w ∈ wsX50, w ∈ wsX5_missing := by decide +kernel
  obtain ⟨⟨hg, hg1, hg2⟩, ⟨hn, hn6⟩, hon, ⟨he, he8⟩, ⟨hz, hz5⟩, hrk, hcn, hrec⟩ := id hIv9
  refine lv_aload_n hx hb dX5_missing_0 rfl (lv_at hl 0 rfl) ?_
  refine lv_iload_n hx hb dX5_missing_1 rfl (lv_at hl 1 rfl) ?_
  refine rCallXV (C := RX5) (As := [.int x]) (rest := []) ⟨hx, hb, hml, hown, hts⟩ fx hw (kX5_checkKart l hlt G hG hF σ x g n e9 z b hIv9) (cwV 1 hts gX5_missing_X5_checkKart rfl rfl rfl (by decide +kernel) ⟨Nat.le_of_ble_eq_true rfl, Nat.le_of_ble_eq_true rfl⟩) (hF.1 0 (by decide)) rfl rfl rfl rfl hl.1 rfl (Nat.le_of_ble_eq_true rfl) dX5_missing_2 ⟨Nat.le_of_ble_eq_true rfl, Nat.le_of_ble_eq_true rfl⟩ (fun E ce q9 H locs hE hw h1 h2 h3 => ?_) ?_
  · skip
    exact rOut (by exact Or.inl hE) hw h1 h2 h3 hout hlocks (Nat.le_of_ble_eq_true rfl) (Nat.le_of_ble_eq_true rfl)
  intro σ_2 H locs p_1 hw
  obtain ⟨eσ_2, p_1_0⟩ := p_1
  have eσ_2 := eσ_2.symm; subst eσ_2
  have hx9 := inB_ix (by omega) p_1_0
  have q_3 : x = (nI (ix x)) := by exact hx9.1
  have hl : lv_has ls 2 [(0, .ref (gad G 0)), (1, .int (nI (ix x)))] := (lv_c (lv_at hl 0 rfl) (lv_c (lv_atq hl 1 rfl q_3) (lv_c0 hl)))
  refine lv_aload_n hx hb dX5_missing_5 rfl (lv_at hl 0 rfl) ?_
  refine rCallXV (C := RX5) (As := []) (rest := []) ⟨hx, hb, hml, hown, hts⟩ fx hw (kX5_checkRaceIsOn l hlt G hG hF σ g n e9 z b hIv9) (cwV 0 hts gX5_missing_X5_checkRaceIsOn rfl rfl rfl (by decide +kernel) ⟨Nat.le_of_ble_eq_true rfl, Nat.le_of_ble_eq_true rfl⟩) (hF.1 0 (by decide)) rfl rfl rfl rfl hl.1 rfl (Nat.le_of_ble_eq_true rfl) dX5_missing_6 ⟨Nat.le_of_ble_eq_true rfl, Nat.le_of_ble_eq_true rfl⟩ (fun E ce q9 H locs hE hw h1 h2 h3 => ?_) ?_
  · skip
    exact rOut (by exact Or.inr ⟨hE.1, p_1_0, hE.2⟩) hw h1 h2 h3 hout hlocks (Nat.le_of_ble_eq_true rfl) (Nat.le_of_ble_eq_true rfl)
  intro σ_5 H locs p_4 hw
  obtain ⟨eσ_5, p_4_0⟩ := p_4
  have eσ_5 := eσ_5.symm; subst eσ_5
  refine lv_aload_n hx hb dX5_missing_9 rfl (lv_at hl 0 rfl) ?_
  refine rGet (v := .ref (gad G 4)) (C := RX5) (T := TX5) (N := 10) hx hb fx hown hts hin hw 0 (hF.1 0 (by decide)) rfl rfl 1 (by decide) (hts (.fieldLink RX5 21 "Leaguewheel" "race" "LLeaguewheel$Race;") (by decide +kernel)) (fun _ h9 => h9) rfl dX5_missing_10 ?_
  refine lv_iload_n hx hb dX5_missing_13 rfl (lv_at hl 1 rfl) ?_
  refine rCallI (C := RX3) (As := [.int (nI (ix x))]) (rest := []) ⟨hx, hb, hml, hown, hts⟩ fx hw (kX3_missingGates l G hG hF σ 4 (Or.inl rfl) ((ix x)) (by omega)) (cwV 1 hts gX5_missing_X3_missingGates rfl rfl rfl (by decide +kernel) ⟨Nat.le_of_ble_eq_true rfl, Nat.le_of_ble_eq_true rfl⟩) (hF.1 4 (by decide)) rfl rfl rfl rfl hl.1 rfl (Nat.le_of_ble_eq_true rfl) dX5_missing_14 ⟨Nat.zero_le _, Nat.zero_le _⟩ ?_
  intro r_7 σ_8 H locs p_6 hw
  obtain ⟨er_7, eσ_8⟩ := p_6
  have er_7 := er_7.symm; subst er_7
  have eσ_8 := eσ_8.symm; subst eσ_8
  exact vy_ret (rRetI hx hb hr hw (by exact ⟨rfl, rfl, p_1_0, p_4_0⟩) hlocks dX5_missing_17)

def rmX5_rank : Room := ({ frames := 7, cells := 1, slots := 6, locals := 103 } : Room)
set_option maxHeartbeats 4000000 in
set_option maxRecDepth 100000 in
theorem kX5_rank (l : Launch) (hlt : l.stackTraces = false) (G : Gx) (hG : gOk G) (hF : Full G) (σ : St) (x : Int32) (g n e9 z : Nat) (b : Bool) (hIv9 : CIv σ g n b e9 z)  : CxI l yX5_rank wsX5_rank rmX5_rank G σ [.ref (gad G 0), .int x] (fun r σ' => r = (nI (rkA σ n (ix x))) ∧ σ' = σ ∧ inB x n = true ∧ b = true) (fun E => (E = xIOB ∧ inB x n = false) ∨ (E = xISE ∧ inB x n = true ∧ b = false)) := by
  refine bgX (cc := cX5_rank) (maxL := 2) (ret := (some .int)) (own := RX5) (by decide) rfl rfl hG (Nat.le_of_ble_eq_true rfl) rfl ?_
  intro p e s m args below meth c ls hout Bd hl
  obtain ⟨hx, hb, hr, hml, hts, hown, hlocks, fx, hw⟩ := Bd
  have hl : lv_has ls 2 [(0, .ref (gad G 0)), (1, .int x)] := hl
  have hin : ∀ w ∈ wsX50, w ∈ wsX5_rank := by decide +kernel
  obtain ⟨⟨hg, hg1, hg2⟩, ⟨hn, hn6⟩, hon, ⟨he, he8⟩, ⟨hz, hz5⟩, hrk, hcn, hrec⟩ := id hIv9
  refine lv_aload_n hx hb dX5_rank_0 rfl (lv_at hl 0 rfl) ?_
  refine lv_iload_n hx hb dX5_rank_1 rfl (lv_at hl 1 rfl) ?_
  refine rCallXV (C := RX5) (As := [.int x]) (rest := []) ⟨hx, hb, hml, hown, hts⟩ fx hw (kX5_checkKart l hlt G hG hF σ x g n e9 z b hIv9) (cwV 1 hts gX5_rank_X5_checkKart rfl rfl rfl (by decide +kernel) ⟨Nat.le_of_ble_eq_true rfl, Nat.le_of_ble_eq_true rfl⟩) (hF.1 0 (by decide)) rfl rfl rfl rfl hl.1 rfl (Nat.le_of_ble_eq_true rfl) dX5_rank_2 ⟨Nat.le_of_ble_eq_true rfl, Nat.le_of_ble_eq_true rfl⟩ (fun E ce q9 H locs hE hw h1 h2 h3 => ?_) ?_
  · skip
    exact rOut (by exact Or.inl hE) hw h1 h2 h3 hout hlocks (Nat.le_of_ble_eq_true rfl) (Nat.le_of_ble_eq_true rfl)
  intro σ_2 H locs p_1 hw
  obtain ⟨eσ_2, p_1_0⟩ := p_1
  have eσ_2 := eσ_2.symm; subst eσ_2
  have hx9 := inB_ix (by omega) p_1_0
  have q_3 : x = (nI (ix x)) := by exact hx9.1
  have hl : lv_has ls 2 [(0, .ref (gad G 0)), (1, .int (nI (ix x)))] := (lv_c (lv_at hl 0 rfl) (lv_c (lv_atq hl 1 rfl q_3) (lv_c0 hl)))
  refine lv_aload_n hx hb dX5_rank_5 rfl (lv_at hl 0 rfl) ?_
  refine rCallXV (C := RX5) (As := []) (rest := []) ⟨hx, hb, hml, hown, hts⟩ fx hw (kX5_checkRaceIsOn l hlt G hG hF σ g n e9 z b hIv9) (cwV 0 hts gX5_rank_X5_checkRaceIsOn rfl rfl rfl (by decide +kernel) ⟨Nat.le_of_ble_eq_true rfl, Nat.le_of_ble_eq_true rfl⟩) (hF.1 0 (by decide)) rfl rfl rfl rfl hl.1 rfl (Nat.le_of_ble_eq_true rfl) dX5_rank_6 ⟨Nat.le_of_ble_eq_true rfl, Nat.le_of_ble_eq_true rfl⟩ (fun E ce q9 H locs hE hw h1 h2 h3 => ?_) ?_
  · skip
    exact rOut (by exact Or.inr ⟨hE.1, p_1_0, hE.2⟩) hw h1 h2 h3 hout hlocks (Nat.le_of_ble_eq_true rfl) (Nat.le_of_ble_eq_true rfl)
  intro σ_5 H locs p_4 hw
  obtain ⟨eσ_5, p_4_0⟩ := p_4
  have eσ_5 := eσ_5.symm; subst eσ_5
  refine lv_aload_n hx hb dX5_rank_9 rfl (lv_at hl 0 rfl) ?_
  refine rGet (v := .ref (gad G 4)) (C := RX5) (T := TX5) (N := 10) hx hb fx hown hts hin hw 0 (hF.1 0 (by decide)) rfl rfl 1 (by decide) (hts (.fieldLink RX5 21 "Leaguewheel" "race" "LLeaguewheel$Race;") (by decide +kernel)) (fun _ h9 => h9) rfl dX5_rank_10 ?_
  refine lv_iload_n hx hb dX5_rank_13 rfl (lv_at hl 1 rfl) ?_
  refine rCallI (C := RX3) (As := [.int (nI (ix x))]) (rest := []) ⟨hx, hb, hml, hown, hts⟩ fx hw (kX3_countAhead l G hG hF σ 4 (Or.inl rfl) ((ix x)) (by omega) n (hcn p_4_0).1 (by omega) hrk) (cwV 1 hts gX5_rank_X3_countAhead rfl rfl rfl (by decide +kernel) ⟨Nat.le_of_ble_eq_true rfl, Nat.le_of_ble_eq_true rfl⟩) (hF.1 4 (by decide)) rfl rfl rfl rfl hl.1 rfl (Nat.le_of_ble_eq_true rfl) dX5_rank_14 ⟨Nat.zero_le _, Nat.zero_le _⟩ ?_
  intro r_7 σ_8 H locs p_6 hw
  obtain ⟨er_7, eσ_8⟩ := p_6
  have er_7 := er_7.symm; subst er_7
  have eσ_8 := eσ_8.symm; subst eσ_8
  exact vy_ret (rRetI hx hb hr hw (by exact ⟨rfl, rfl, p_1_0, p_4_0⟩) hlocks dX5_rank_17)

def rmX5_catchUp : Room := ({ frames := 7, cells := 1, slots := 6, locals := 103 } : Room)
set_option maxHeartbeats 4000000 in
set_option maxRecDepth 100000 in
theorem kX5_catchUp (l : Launch) (hlt : l.stackTraces = false) (G : Gx) (hG : gOk G) (hF : Full G) (σ : St) (x : Int32) (g n e9 z : Nat) (b : Bool) (hIv9 : CIv σ g n b e9 z)  : CxI l yX5_catchUp wsX5_catchUp rmX5_catchUp G σ [.ref (gad G 0), .int x] (fun r σ' => r = (if 25 < (if ldrA σ 4 n (ix x) n < 0 then 0 else ldrA σ 4 n (ix x) n) / 10 then 25 else (if ldrA σ 4 n (ix x) n < 0 then 0 else ldrA σ 4 n (ix x) n) / 10) ∧ σ' = σ ∧ inB x n = true ∧ b = true) (fun E => (E = xIOB ∧ inB x n = false) ∨ (E = xISE ∧ inB x n = true ∧ b = false)) := by
  refine bgX (cc := cX5_catchUp) (maxL := 2) (ret := (some .int)) (own := RX5) (by decide) rfl rfl hG (Nat.le_of_ble_eq_true rfl) rfl ?_
  intro p e s m args below meth c ls hout Bd hl
  obtain ⟨hx, hb, hr, hml, hts, hown, hlocks, fx, hw⟩ := Bd
  have hl : lv_has ls 2 [(0, .ref (gad G 0)), (1, .int x)] := hl
  have hin : ∀ w ∈ wsX50, w ∈ wsX5_catchUp := by decide +kernel
  obtain ⟨⟨hg, hg1, hg2⟩, ⟨hn, hn6⟩, hon, ⟨he, he8⟩, ⟨hz, hz5⟩, hrk, hcn, hrec⟩ := id hIv9
  refine lv_aload_n hx hb dX5_catchUp_0 rfl (lv_at hl 0 rfl) ?_
  refine lv_iload_n hx hb dX5_catchUp_1 rfl (lv_at hl 1 rfl) ?_
  refine rCallXV (C := RX5) (As := [.int x]) (rest := []) ⟨hx, hb, hml, hown, hts⟩ fx hw (kX5_checkKart l hlt G hG hF σ x g n e9 z b hIv9) (cwV 1 hts gX5_catchUp_X5_checkKart rfl rfl rfl (by decide +kernel) ⟨Nat.le_of_ble_eq_true rfl, Nat.le_of_ble_eq_true rfl⟩) (hF.1 0 (by decide)) rfl rfl rfl rfl hl.1 rfl (Nat.le_of_ble_eq_true rfl) dX5_catchUp_2 ⟨Nat.le_of_ble_eq_true rfl, Nat.le_of_ble_eq_true rfl⟩ (fun E ce q9 H locs hE hw h1 h2 h3 => ?_) ?_
  · skip
    exact rOut (by exact Or.inl hE) hw h1 h2 h3 hout hlocks (Nat.le_of_ble_eq_true rfl) (Nat.le_of_ble_eq_true rfl)
  intro σ_2 H locs p_1 hw
  obtain ⟨eσ_2, p_1_0⟩ := p_1
  have eσ_2 := eσ_2.symm; subst eσ_2
  have hx9 := inB_ix (by omega) p_1_0
  have q_3 : x = (nI (ix x)) := by exact hx9.1
  have hl : lv_has ls 2 [(0, .ref (gad G 0)), (1, .int (nI (ix x)))] := (lv_c (lv_at hl 0 rfl) (lv_c (lv_atq hl 1 rfl q_3) (lv_c0 hl)))
  refine lv_aload_n hx hb dX5_catchUp_5 rfl (lv_at hl 0 rfl) ?_
  refine rCallXV (C := RX5) (As := []) (rest := []) ⟨hx, hb, hml, hown, hts⟩ fx hw (kX5_checkRaceIsOn l hlt G hG hF σ g n e9 z b hIv9) (cwV 0 hts gX5_catchUp_X5_checkRaceIsOn rfl rfl rfl (by decide +kernel) ⟨Nat.le_of_ble_eq_true rfl, Nat.le_of_ble_eq_true rfl⟩) (hF.1 0 (by decide)) rfl rfl rfl rfl hl.1 rfl (Nat.le_of_ble_eq_true rfl) dX5_catchUp_6 ⟨Nat.le_of_ble_eq_true rfl, Nat.le_of_ble_eq_true rfl⟩ (fun E ce q9 H locs hE hw h1 h2 h3 => ?_) ?_
  · skip
    exact rOut (by exact Or.inr ⟨hE.1, p_1_0, hE.2⟩) hw h1 h2 h3 hout hlocks (Nat.le_of_ble_eq_true rfl) (Nat.le_of_ble_eq_true rfl)
  intro σ_5 H locs p_4 hw
  obtain ⟨eσ_5, p_4_0⟩ := p_4
  have eσ_5 := eσ_5.symm; subst eσ_5
  refine lv_aload_n hx hb dX5_catchUp_9 rfl (lv_at hl 0 rfl) ?_
  refine rGet (v := .ref (gad G 4)) (C := RX5) (T := TX5) (N := 10) hx hb fx hown hts hin hw 0 (hF.1 0 (by decide)) rfl rfl 1 (by decide) (hts (.fieldLink RX5 21 "Leaguewheel" "race" "LLeaguewheel$Race;") (by decide +kernel)) (fun _ h9 => h9) rfl dX5_catchUp_10 ?_
  refine lv_iload_n hx hb dX5_catchUp_13 rfl (lv_at hl 1 rfl) ?_
  refine rCallI (C := RX3) (As := [.int (nI (ix x))]) (rest := []) ⟨hx, hb, hml, hown, hts⟩ fx hw (kX3_leadOver l G hG hF σ 4 (Or.inl rfl) ((ix x)) (by omega) n (hcn p_4_0).1 (by omega) hrk) (cwV 1 hts gX5_catchUp_X3_leadOver rfl rfl rfl (by decide +kernel) ⟨Nat.le_of_ble_eq_true rfl, Nat.le_of_ble_eq_true rfl⟩) (hF.1 4 (by decide)) rfl rfl rfl rfl hl.1 rfl (Nat.le_of_ble_eq_true rfl) dX5_catchUp_14 ⟨Nat.zero_le _, Nat.zero_le _⟩ ?_
  intro r_7 σ_8 H locs p_6 hw
  obtain ⟨er_7, eσ_8⟩ := p_6
  have er_7 := er_7.symm; subst er_7
  have eσ_8 := eσ_8.symm; subst eσ_8
  refine lv_bipush (v := 10) hx hb dX5_catchUp_17 (by decide) ?_
  refine lv_idiv hx hb dX5_catchUp_19 (by decide) ?_
  refine lv_bipush (v := 25) hx hb dX5_catchUp_20 (by decide) ?_
  refine va_mmin hx hb (by rw [hml]; exact hl.1.symm) hown (hts (.methodLink RX5 199 Lib.Math.min.name) (by decide +kernel)) (hts (.static Lib.Math.min.name) (by decide +kernel)) (hts (.initialized "java/lang/Math") (by decide +kernel)) (hts (.code Lib.Math.min.name Lib.Math.min.code 2 (some .int)) (by decide +kernel)) (Nat.le_of_ble_eq_true rfl) (Nat.le_of_ble_eq_true rfl) (Nat.zero_le _) (Nat.zero_le _) dX5_catchUp_22 ?_
  exact vy_ret (rRetI hx hb hr hw (by exact ⟨rfl, rfl, p_1_0, p_4_0⟩) hlocks dX5_catchUp_25)

def rmX5_rankByRecord : Room := ({ frames := 7, cells := 1, slots := 6, locals := 103 } : Room)
set_option maxHeartbeats 4000000 in
set_option maxRecDepth 100000 in
theorem kX5_rankByRecord (l : Launch) (hlt : l.stackTraces = false) (G : Gx) (hG : gOk G) (hF : Full G) (σ : St) (x : Int32) (g n e9 z : Nat) (b : Bool) (hIv9 : CIv σ g n b e9 z)  : CxI l yX5_rankByRecord wsX5_rankByRecord rmX5_rankByRecord G σ [.ref (gad G 0), .int x] (fun r σ' => r = rrA (ordA (ahB (rbS σ z) 12) (rbS σ z 18) n) (rbS σ z 19) n (ix x) ∧ σ' = (upA (upA (rbS σ z) 18 (ordA (ahB (rbS σ z) 12) (rbS σ z 18) n)) 19 (rrA (ordA (ahB (rbS σ z) 12) (rbS σ z 18) n) (rbS σ z 19) n)) ∧ inB x n = true ∧ b = true) (fun E => (E = xIOB ∧ inB x n = false) ∨ (E = xISE ∧ inB x n = true ∧ b = false)) := by
  refine bgX (cc := cX5_rankByRecord) (maxL := 3) (ret := (some .int)) (own := RX5) (by decide) rfl rfl hG (Nat.le_of_ble_eq_true rfl) rfl ?_
  intro p e s m args below meth c ls hout Bd hl
  obtain ⟨hx, hb, hr, hml, hts, hown, hlocks, fx, hw⟩ := Bd
  have hl : lv_has ls 3 [(0, .ref (gad G 0)), (1, .int x)] := hl
  have hin : ∀ w ∈ wsX50, w ∈ wsX5_rankByRecord := by decide +kernel
  obtain ⟨⟨hg, hg1, hg2⟩, ⟨hn, hn6⟩, hon, ⟨he, he8⟩, ⟨hz, hz5⟩, hrk, hcn, hrec⟩ := id hIv9
  refine lv_aload_n hx hb dX5_rankByRecord_0 rfl (lv_at hl 0 rfl) ?_
  refine lv_iload_n hx hb dX5_rankByRecord_1 rfl (lv_at hl 1 rfl) ?_
  refine rCallXV (C := RX5) (As := [.int x]) (rest := []) ⟨hx, hb, hml, hown, hts⟩ fx hw (kX5_checkKart l hlt G hG hF σ x g n e9 z b hIv9) (cwV 1 hts gX5_rankByRecord_X5_checkKart rfl rfl rfl (by decide +kernel) ⟨Nat.le_of_ble_eq_true rfl, Nat.le_of_ble_eq_true rfl⟩) (hF.1 0 (by decide)) rfl rfl rfl rfl hl.1 rfl (Nat.le_of_ble_eq_true rfl) dX5_rankByRecord_2 ⟨Nat.le_of_ble_eq_true rfl, Nat.le_of_ble_eq_true rfl⟩ (fun E ce q9 H locs hE hw h1 h2 h3 => ?_) ?_
  · skip
    exact rOut (by exact Or.inl hE) hw h1 h2 h3 hout hlocks (Nat.le_of_ble_eq_true rfl) (Nat.le_of_ble_eq_true rfl)
  intro σ_2 H locs p_1 hw
  obtain ⟨eσ_2, p_1_0⟩ := p_1
  have eσ_2 := eσ_2.symm; subst eσ_2
  have hx9 := inB_ix (by omega) p_1_0
  have q_3 : x = (nI (ix x)) := by exact hx9.1
  have hl : lv_has ls 3 [(0, .ref (gad G 0)), (1, .int (nI (ix x)))] := (lv_c (lv_at hl 0 rfl) (lv_c (lv_atq hl 1 rfl q_3) (lv_c0 hl)))
  refine lv_aload_n hx hb dX5_rankByRecord_5 rfl (lv_at hl 0 rfl) ?_
  refine rCallXV (C := RX5) (As := []) (rest := []) ⟨hx, hb, hml, hown, hts⟩ fx hw (kX5_checkRaceIsOn l hlt G hG hF σ g n e9 z b hIv9) (cwV 0 hts gX5_rankByRecord_X5_checkRaceIsOn rfl rfl rfl (by decide +kernel) ⟨Nat.le_of_ble_eq_true rfl, Nat.le_of_ble_eq_true rfl⟩) (hF.1 0 (by decide)) rfl rfl rfl rfl hl.1 rfl (Nat.le_of_ble_eq_true rfl) dX5_rankByRecord_6 ⟨Nat.le_of_ble_eq_true rfl, Nat.le_of_ble_eq_true rfl⟩ (fun E ce q9 H locs hE hw h1 h2 h3 => ?_) ?_
  · skip
    exact rOut (by exact Or.inr ⟨hE.1, p_1_0, hE.2⟩) hw h1 h2 h3 hout hlocks (Nat.le_of_ble_eq_true rfl) (Nat.le_of_ble_eq_true rfl)
  intro σ_5 H locs p_4 hw
  obtain ⟨eσ_5, p_4_0⟩ := p_4
  have eσ_5 := eσ_5.symm; subst eσ_5
  refine lv_aload_n hx hb dX5_rankByRecord_9 rfl (lv_at hl 0 rfl) ?_
  refine rGet (v := .ref (gad G 12)) (C := RX5) (T := TX5) (N := 10) hx hb fx hown hts hin hw 0 (hF.1 0 (by decide)) rfl rfl 2 (by decide) (hts (.fieldLink RX5 25 "Leaguewheel" "retold" "LLeaguewheel$Race;") (by decide +kernel)) (fun _ h9 => h9) rfl dX5_rankByRecord_10 ?_
  refine lv_aload_n hx hb dX5_rankByRecord_13 rfl (lv_at hl 0 rfl) ?_
  refine rGet (v := .int (σ 0 7)) (C := RX5) (T := TX5) (N := 10) hx hb fx hown hts hin hw 0 (hF.1 0 (by decide)) rfl rfl 7 (by decide) (hts (.fieldLink RX5 53 "Leaguewheel" "kartCount" "I") (by decide +kernel)) (fun _ h9 => h9) rfl dX5_rankByRecord_14 ?_
  refine lv_aload_n hx hb dX5_rankByRecord_17 rfl (lv_at hl 0 rfl) ?_
  refine rGet (v := .ref (gad G 4)) (C := RX5) (T := TX5) (N := 10) hx hb fx hown hts hin hw 0 (hF.1 0 (by decide)) rfl rfl 1 (by decide) (hts (.fieldLink RX5 21 "Leaguewheel" "race" "LLeaguewheel$Race;") (by decide +kernel)) (fun _ h9 => h9) rfl dX5_rankByRecord_18 ?_
  refine rCallI (C := RX3) (As := []) (rest := [.int (σ 0 7), .ref (gad G 12)]) ⟨hx, hb, hml, hown, hts⟩ fx hw (kX3_lapGoal l G hG hF σ 4 (Or.inl rfl)) (cwV 0 hts gX5_rankByRecord_X3_lapGoal rfl rfl rfl (by decide +kernel) ⟨Nat.le_of_ble_eq_true rfl, Nat.le_of_ble_eq_true rfl⟩) (hF.1 4 (by decide)) rfl rfl rfl rfl hl.1 rfl (Nat.le_of_ble_eq_true rfl) dX5_rankByRecord_21 ⟨Nat.zero_le _, Nat.zero_le _⟩ ?_
  intro r_7 σ_8 H locs p_6 hw
  obtain ⟨er_7, eσ_8⟩ := p_6
  have er_7 := er_7.symm; subst er_7
  have eσ_8 := eσ_8.symm; subst eσ_8
  refine rCallV (C := RX3) (As := [.int (σ 0 7), .int (σ 4 9)]) (rest := []) ⟨hx, hb, hml, hown, hts⟩ fx hw (kX3_begin l G hG hF σ 12 (Or.inr rfl) ((σ 0 7)) ((σ 4 9))) (cwV 2 hts gX5_rankByRecord_X3_begin rfl rfl rfl (by decide +kernel) ⟨Nat.le_of_ble_eq_true rfl, Nat.le_of_ble_eq_true rfl⟩) (hF.1 12 (by decide)) rfl rfl rfl rfl hl.1 rfl (Nat.le_of_ble_eq_true rfl) dX5_rankByRecord_24 ⟨Nat.zero_le _, Nat.zero_le _⟩ ?_
  intro σ_10 H locs p_9 hw
  have eσ_10 := p_9
  refine lv_iconst (v := 0) hx hb dX5_rankByRecord_27 (by decide) ?_
  refine lv_istore_n (lv' := [(2, .int 0), (0, .ref (gad G 0)), (1, .int (nI (ix x)))]) hx hb dX5_rankByRecord_28 rfl hl (by decide) rfl (fun ls hl => ?_)
  have lab_29 : ∀ (n9 : Nat), ∀ (i : Nat), z - i < n9 → i ≤ z → ∀ (H : Heap) (locs : List Loc) (ls : Array Slot), Wd G s (rbS σ i) H locs → lv_has ls 3 [(0, .ref (gad G 0)), (1, .int (nI (ix x))), (2, .int (nI i))] → W p l e rmX5_rankByRecord s m args below meth c H locs 0 0 (vy_MQ below (va_Qi (fun r σ' => r = rrA (ordA (ahB (rbS σ z) 12) (rbS σ z 18) n) (rbS σ z 19) n (ix x) ∧ σ' = (upA (upA (rbS σ z) 18 (ordA (ahB (rbS σ z) 12) (rbS σ z 18) n)) 19 (rrA (ordA (ahB (rbS σ z) 12) (rbS σ z 18) n) (rbS σ z 19) n)) ∧ inB x n = true ∧ b = true) (BW G) (gA G)) (XW G σ (fun E => (E = xIOB ∧ inB x n = false) ∨ (E = xISE ∧ inB x n = true ∧ b = false))) args s 1 6 (gA G)) (F0 m 29 ls []) := by
    intro n9
    induction n9 with
    | zero => intro i hn9; exact absurd hn9 (Nat.not_lt_zero _)
    | succ n9 ih29 =>
      intro i hn9 h29_0 H locs ls hw hl
      obtain ⟨σ_11, eσ_11⟩ : ∃ w9, w9 = rbS σ i := ⟨_, rfl⟩
      rw [← eσ_11] at hw
      refine lv_iload_n hx hb dX5_rankByRecord_29 rfl (lv_at hl 2 rfl) ?_
      refine lv_aload_n hx hb dX5_rankByRecord_30 rfl (lv_at hl 0 rfl) ?_
      refine rGet (v := .ref (gad G 20)) (C := RX5) (T := TX5) (N := 10) hx hb fx hown hts hin hw 0 (hF.1 0 (by decide)) rfl rfl 3 (by decide) (hts (.fieldLink RX5 31 "Leaguewheel" "passings" "LLeaguewheel$Passings;") (by decide +kernel)) (fun _ h9 => h9) rfl dX5_rankByRecord_31 ?_
      refine rCallI (C := RX2) (As := []) (rest := [.int (nI i)]) ⟨hx, hb, hml, hown, hts⟩ fx hw (kX2_count l G hG hF σ_11 ) (cwV 0 hts gX5_rankByRecord_X2_count rfl rfl rfl (by decide +kernel) ⟨Nat.le_of_ble_eq_true rfl, Nat.le_of_ble_eq_true rfl⟩) (hF.1 20 (by decide)) rfl rfl rfl rfl hl.1 rfl (Nat.le_of_ble_eq_true rfl) dX5_rankByRecord_34 ⟨Nat.zero_le _, Nat.zero_le _⟩ ?_
      intro r_13 σ_14 H locs p_12 hw
      obtain ⟨er_13, eσ_14⟩ := p_12
      have er_13 := er_13.symm; subst er_13
      have eσ_14 := eσ_14.symm; subst eσ_14
      refine lv_rep0 (x := (σ_11 20 2)) (y := nI z) (by subst_vars; rw [rbS_o (by decide)]; exact hz) ?_
      refine lv_icmp_ge (tgt := 70) hx hb dX5_rankByRecord_37 (by decide) (fun c_15 => ?_) (fun c_15 => ?_)
      · skip
        have c_15 : z ≤ i := (nI_leI (by omega) (by omega)).mp c_15
        refine lv_aload_n hx hb dX5_rankByRecord_70 rfl (lv_at hl 0 rfl) ?_
        refine rGet (v := .ref (gad G 12)) (C := RX5) (T := TX5) (N := 10) hx hb fx hown hts hin hw 0 (hF.1 0 (by decide)) rfl rfl 2 (by decide) (hts (.fieldLink RX5 25 "Leaguewheel" "retold" "LLeaguewheel$Race;") (by decide +kernel)) (fun _ h9 => h9) rfl dX5_rankByRecord_71 ?_
        refine lv_iload_n hx hb dX5_rankByRecord_74 rfl (lv_at hl 1 rfl) ?_
        refine rCallI (C := RX3) (As := [.int (nI (ix x))]) (rest := []) ⟨hx, hb, hml, hown, hts⟩ fx hw (kX3_sortedRank l G hG hF σ_11 12 (Or.inr rfl) ((ix x)) n (by subst_vars; rw [rbS_B]; exact hn) (by omega) (by subst_vars; exact rOk_rb i (fun j9 hj9 => (hrec j9 (by omega)).2.2)) (by omega)) (cwV 1 hts gX5_rankByRecord_X3_sortedRank rfl rfl rfl (by decide +kernel) ⟨Nat.le_of_ble_eq_true rfl, Nat.le_of_ble_eq_true rfl⟩) (hF.1 12 (by decide)) rfl rfl rfl rfl hl.1 rfl (Nat.le_of_ble_eq_true rfl) dX5_rankByRecord_75 ⟨Nat.zero_le _, Nat.zero_le _⟩ ?_
        intro r_17 σ_18 H locs p_16 hw
        obtain ⟨er_17, eσ_18⟩ := p_16
        have er_17 := er_17.symm; subst er_17
        subst eσ_18
        subst eσ_11
        exact vy_ret (rRetI hx hb hr hw (by rw [show z = i by omega]; exact ⟨rfl, rfl, p_1_0, p_4_0⟩) hlocks dX5_rankByRecord_78)
      · skip
        have c_15 : ¬ z ≤ i := fun h9 => c_15 ((nI_leI (by omega) (by omega)).mpr h9)
        have hri := hrec i (by omega)
        refine lv_aload_n hx hb dX5_rankByRecord_40 rfl (lv_at hl 0 rfl) ?_
        refine rGet (v := .ref (gad G 12)) (C := RX5) (T := TX5) (N := 10) hx hb fx hown hts hin hw 0 (hF.1 0 (by decide)) rfl rfl 2 (by decide) (hts (.fieldLink RX5 25 "Leaguewheel" "retold" "LLeaguewheel$Race;") (by decide +kernel)) (fun _ h9 => h9) rfl dX5_rankByRecord_41 ?_
        refine lv_aload_n hx hb dX5_rankByRecord_44 rfl (lv_at hl 0 rfl) ?_
        refine rGet (v := .ref (gad G 20)) (C := RX5) (T := TX5) (N := 10) hx hb fx hown hts hin hw 0 (hF.1 0 (by decide)) rfl rfl 3 (by decide) (hts (.fieldLink RX5 31 "Leaguewheel" "passings" "LLeaguewheel$Passings;") (by decide +kernel)) (fun _ h9 => h9) rfl dX5_rankByRecord_45 ?_
        refine lv_iload_n hx hb dX5_rankByRecord_48 rfl (lv_at hl 2 rfl) ?_
        refine rCallI (C := RX2) (As := [.int (nI i)]) (rest := [.ref (gad G 12)]) ⟨hx, hb, hml, hown, hts⟩ fx hw (kX2_kartAt l G hG hF σ_11 i (by omega)) (cwV 1 hts gX5_rankByRecord_X2_kartAt rfl rfl rfl (by decide +kernel) ⟨Nat.le_of_ble_eq_true rfl, Nat.le_of_ble_eq_true rfl⟩) (hF.1 20 (by decide)) rfl rfl rfl rfl hl.1 rfl (Nat.le_of_ble_eq_true rfl) dX5_rankByRecord_49 ⟨Nat.zero_le _, Nat.zero_le _⟩ ?_
        intro r_20 σ_21 H locs p_19 hw
        obtain ⟨er_20, eσ_21⟩ := p_19
        have er_20 := er_20.symm; subst er_20
        have eσ_21 := eσ_21.symm; subst eσ_21
        refine lv_rep0 (x := (σ_11 21 i)) (y := nI (ix (σ 21 i))) (by subst_vars; rw [rbS_o (by decide)]; exact (hrec i (by omega)).1.1) ?_
        refine lv_aload_n hx hb dX5_rankByRecord_52 rfl (lv_at hl 0 rfl) ?_
        refine rGet (v := .ref (gad G 20)) (C := RX5) (T := TX5) (N := 10) hx hb fx hown hts hin hw 0 (hF.1 0 (by decide)) rfl rfl 3 (by decide) (hts (.fieldLink RX5 31 "Leaguewheel" "passings" "LLeaguewheel$Passings;") (by decide +kernel)) (fun _ h9 => h9) rfl dX5_rankByRecord_53 ?_
        refine lv_iload_n hx hb dX5_rankByRecord_56 rfl (lv_at hl 2 rfl) ?_
        refine rCallI (C := RX2) (As := [.int (nI i)]) (rest := [.int (nI (ix (σ 21 i))), .ref (gad G 12)]) ⟨hx, hb, hml, hown, hts⟩ fx hw (kX2_gateAt l G hG hF σ_11 i (by omega)) (cwV 1 hts gX5_rankByRecord_X2_gateAt rfl rfl rfl (by decide +kernel) ⟨Nat.le_of_ble_eq_true rfl, Nat.le_of_ble_eq_true rfl⟩) (hF.1 20 (by decide)) rfl rfl rfl rfl hl.1 rfl (Nat.le_of_ble_eq_true rfl) dX5_rankByRecord_57 ⟨Nat.zero_le _, Nat.zero_le _⟩ ?_
        intro r_23 σ_24 H locs p_22 hw
        obtain ⟨er_23, eσ_24⟩ := p_22
        have er_23 := er_23.symm; subst er_23
        have eσ_24 := eσ_24.symm; subst eσ_24
        refine lv_rep0 (x := (σ_11 22 i)) (y := nI (ix (σ 22 i))) (by subst_vars; rw [rbS_o (by decide)]; exact (hrec i (by omega)).2.1) ?_
        refine rCallI (C := RX3) (As := [.int (nI (ix (σ 21 i))), .int (nI (ix (σ 22 i)))]) (rest := []) ⟨hx, hb, hml, hown, hts⟩ fx hw (kX3_move l G hG hF σ_11 12 (Or.inr rfl) ((ix (σ 21 i))) (by omega) ((ix (σ 22 i))) (by omega) (by subst_vars; exact rOk_rb i (fun j9 hj9 => (hrec j9 (by omega)).2.2))) (cwV 2 hts gX5_rankByRecord_X3_move rfl rfl rfl (by decide +kernel) ⟨Nat.le_of_ble_eq_true rfl, Nat.le_of_ble_eq_true rfl⟩) (hF.1 12 (by decide)) rfl rfl rfl rfl hl.1 rfl (Nat.le_of_ble_eq_true rfl) dX5_rankByRecord_60 ⟨Nat.zero_le _, Nat.zero_le _⟩ ?_
        intro r_26 σ_27 H locs p_25 hw
        obtain ⟨er_26, eσ_27⟩ := p_25
        have er_26 := er_26.symm; subst er_26
        refine lv_pop hx hb dX5_rankByRecord_63 rfl ?_
        refine lv_iinc (v := (nI (i + 1))) (lv' := [(2, .int (nI (i + 1))), (0, .ref (gad G 0)), (1, .int (nI (ix x)))]) hx hb dX5_rankByRecord_64 hl (k := 2) rfl (nI_1 _) (by decide) rfl (fun ls hl => ?_)
        refine lv_goto (tgt := 29) hx hb dX5_rankByRecord_67 (by decide) ?_
        have q_28 : σ_27 = rbS σ (i + 1) := by subst eσ_27 eσ_11; rfl
        rw [q_28] at hw
        exact ih29 (i + 1) (by omega) (by omega) _ _ _ hw (lv_c (lv_at hl 1 rfl) (lv_c (lv_at hl 2 rfl) (lv_c (lv_at hl 0 rfl) (lv_c0 hl))))
  have q_29 : 0 = (nI 0) := by first | rfl | (simp)
  have q_30 : σ_10 = rbS σ 0 := by subst eσ_10; rfl
  rw [q_30] at hw
  exact lab_29 (z - 0 + 1) 0 (by omega) (by omega) _ _ _ hw (lv_c (lv_at hl 1 rfl) (lv_c (lv_at hl 2 rfl) (lv_c (lv_atq hl 0 rfl q_29) (lv_c0 hl))))

def rmX5_setDraw : Room := ({ frames := 1, cells := 0, slots := 0, locals := 21 } : Room)
set_option maxHeartbeats 4000000 in
set_option maxRecDepth 100000 in
theorem kX5_setDraw (l : Launch) (G : Gx) (hG : gOk G) (hF : Full G) (σ : St) (x : Int32) (g n e9 z : Nat) (b : Bool) (hIv9 : CIv σ g n b e9 z)  : CtV l yX5_setDraw wsX5_setDraw rmX5_setDraw G σ [.ref (gad G 0), .int x] (fun σ' => σ' = upA σ 23 (upd (σ 23) 3 x)) := by
  refine bgMet (cc := cX5_setDraw) (maxL := 2) (ret := none) (own := RX5) (by decide) rfl rfl hG (Nat.le_of_ble_eq_true rfl) rfl ?_
  intro p e s m args below meth c ls Bd hl
  obtain ⟨hx, hb, hr, hml, hts, hown, hlocks, fx, hw⟩ := Bd
  have hl : lv_has ls 2 [(0, .ref (gad G 0)), (1, .int x)] := hl
  have hin : ∀ w ∈ wsX50, w ∈ wsX5_setDraw := by decide +kernel
  obtain ⟨⟨hg, hg1, hg2⟩, ⟨hn, hn6⟩, hon, ⟨he, he8⟩, ⟨hz, hz5⟩, hrk, hcn, hrec⟩ := id hIv9
  refine lv_aload_n hx hb dX5_setDraw_0 rfl (lv_at hl 0 rfl) ?_
  refine rGet (v := .ref (gad G 23)) (C := RX5) (T := TX5) (N := 10) hx hb fx hown hts hin hw 0 (hF.1 0 (by decide)) rfl rfl 4 (by decide) (hts (.fieldLink RX5 38 "Leaguewheel" "items" "LLeaguewheel$Items;") (by decide +kernel)) (fun _ h9 => h9) rfl dX5_setDraw_1 ?_
  refine lv_iload_n hx hb dX5_setDraw_4 rfl (lv_at hl 1 rfl) ?_
  refine rCallV (C := RX1) (As := [.int x]) (rest := []) ⟨hx, hb, hml, hown, hts⟩ fx hw (kX1_setNumber l G hG hF σ x) (cwV 1 hts gX5_setDraw_X1_setNumber rfl rfl rfl (by decide +kernel) ⟨Nat.le_of_ble_eq_true rfl, Nat.le_of_ble_eq_true rfl⟩) (hF.1 23 (by decide)) rfl rfl rfl rfl hl.1 rfl (Nat.le_of_ble_eq_true rfl) dX5_setDraw_5 ⟨Nat.zero_le _, Nat.zero_le _⟩ ?_
  intro σ_2 H locs p_1 hw
  have eσ_2 := p_1
  subst eσ_2
  exact rRetV hx hb hr hw (by first | rfl | simp [bI, upA_n, upA_s, upA_upA, upA_self, upd_self, upd_upd, pk_us, bI]) hlocks dX5_setDraw_8

def rmX5_draw : Room := ({ frames := 8, cells := 1, slots := 6, locals := 123 } : Room)
set_option maxHeartbeats 4000000 in
set_option maxRecDepth 100000 in
theorem kX5_draw (l : Launch) (hlt : l.stackTraces = false) (G : Gx) (hG : gOk G) (hF : Full G) (σ : St) (x : Int32) (g n e9 z : Nat) (b : Bool) (hIv9 : CIv σ g n b e9 z)  : CxI l yX5_draw wsX5_draw rmX5_draw G σ [.ref (gad G 0), .int x] (fun r σ' => r = (itA (rkA σ n (ix x)) (dD (nxA (σ 23 3)))) ∧ σ' = (upA (upA σ 23 (upd (σ 23) 3 (nxA (σ 23 3)))) 24 (upd (σ 24) (ix x) (itA (rkA σ n (ix x)) (dD (nxA (σ 23 3)))))) ∧ inB x n = true ∧ (b && !finB σ 4 (ix x) && decide (σ 24 (ix x) = -1)) = true) (fun E => (E = xIOB ∧ inB x n = false) ∨ (E = xISE ∧ inB x n = true ∧ (b && !finB σ 4 (ix x) && decide (σ 24 (ix x) = -1)) = false)) := by
  refine bgX (cc := cX5_draw) (maxL := 2) (ret := (some .int)) (own := RX5) (by decide) rfl rfl hG (Nat.le_of_ble_eq_true rfl) rfl ?_
  intro p e s m args below meth c ls hout Bd hl
  obtain ⟨hx, hb, hr, hml, hts, hown, hlocks, fx, hw⟩ := Bd
  have hl : lv_has ls 2 [(0, .ref (gad G 0)), (1, .int x)] := hl
  have hin : ∀ w ∈ wsX50, w ∈ wsX5_draw := by decide +kernel
  obtain ⟨⟨hg, hg1, hg2⟩, ⟨hn, hn6⟩, hon, ⟨he, he8⟩, ⟨hz, hz5⟩, hrk, hcn, hrec⟩ := id hIv9
  refine lv_aload_n hx hb dX5_draw_0 rfl (lv_at hl 0 rfl) ?_
  refine lv_iload_n hx hb dX5_draw_1 rfl (lv_at hl 1 rfl) ?_
  refine rCallXV (C := RX5) (As := [.int x]) (rest := []) ⟨hx, hb, hml, hown, hts⟩ fx hw (kX5_checkKart l hlt G hG hF σ x g n e9 z b hIv9) (cwV 1 hts gX5_draw_X5_checkKart rfl rfl rfl (by decide +kernel) ⟨Nat.le_of_ble_eq_true rfl, Nat.le_of_ble_eq_true rfl⟩) (hF.1 0 (by decide)) rfl rfl rfl rfl hl.1 rfl (Nat.le_of_ble_eq_true rfl) dX5_draw_2 ⟨Nat.le_of_ble_eq_true rfl, Nat.le_of_ble_eq_true rfl⟩ (fun E ce q9 H locs hE hw h1 h2 h3 => ?_) ?_
  · skip
    exact rOut (by exact Or.inl hE) hw h1 h2 h3 hout hlocks (Nat.le_of_ble_eq_true rfl) (Nat.le_of_ble_eq_true rfl)
  intro σ_2 H locs p_1 hw
  obtain ⟨eσ_2, p_1_0⟩ := p_1
  have eσ_2 := eσ_2.symm; subst eσ_2
  have hx9 := inB_ix (by omega) p_1_0
  have q_3 : x = (nI (ix x)) := by exact hx9.1
  have hl : lv_has ls 2 [(0, .ref (gad G 0)), (1, .int (nI (ix x)))] := (lv_c (lv_at hl 0 rfl) (lv_c (lv_atq hl 1 rfl q_3) (lv_c0 hl)))
  refine lv_aload_n hx hb dX5_draw_5 rfl (lv_at hl 0 rfl) ?_
  refine lv_iload_n hx hb dX5_draw_6 rfl (lv_at hl 1 rfl) ?_
  refine rCallXV (C := RX5) (As := [.int (nI (ix x))]) (rest := []) ⟨hx, hb, hml, hown, hts⟩ fx hw (kX5_checkStillRacing l hlt G hG hF σ ((ix x)) (by omega) g n e9 z b hIv9) (cwV 1 hts gX5_draw_X5_checkStillRacing rfl rfl rfl (by decide +kernel) ⟨Nat.le_of_ble_eq_true rfl, Nat.le_of_ble_eq_true rfl⟩) (hF.1 0 (by decide)) rfl rfl rfl rfl hl.1 rfl (Nat.le_of_ble_eq_true rfl) dX5_draw_7 ⟨Nat.le_of_ble_eq_true rfl, Nat.le_of_ble_eq_true rfl⟩ (fun E ce q9 H locs hE hw h1 h2 h3 => ?_) ?_
  · skip
    exact rOut (by exact Or.inr ⟨hE.1, p_1_0, by rw [hE.2]; rfl⟩) hw h1 h2 h3 hout hlocks (Nat.le_of_ble_eq_true rfl) (Nat.le_of_ble_eq_true rfl)
  intro σ_5 H locs p_4 hw
  obtain ⟨eσ_5, p_4_0, p_4_1⟩ := p_4
  have eσ_5 := eσ_5.symm; subst eσ_5
  refine lv_aload_n hx hb dX5_draw_10 rfl (lv_at hl 0 rfl) ?_
  refine rGet (v := .ref (gad G 23)) (C := RX5) (T := TX5) (N := 10) hx hb fx hown hts hin hw 0 (hF.1 0 (by decide)) rfl rfl 4 (by decide) (hts (.fieldLink RX5 38 "Leaguewheel" "items" "LLeaguewheel$Items;") (by decide +kernel)) (fun _ h9 => h9) rfl dX5_draw_11 ?_
  refine lv_iload_n hx hb dX5_draw_14 rfl (lv_at hl 1 rfl) ?_
  refine rCallI (C := RX1) (As := [.int (nI (ix x))]) (rest := []) ⟨hx, hb, hml, hown, hts⟩ fx hw (kX1_heldBy l G hG hF σ ((ix x)) (by omega)) (cwV 1 hts gX5_draw_X1_heldBy rfl rfl rfl (by decide +kernel) ⟨Nat.le_of_ble_eq_true rfl, Nat.le_of_ble_eq_true rfl⟩) (hF.1 23 (by decide)) rfl rfl rfl rfl hl.1 rfl (Nat.le_of_ble_eq_true rfl) dX5_draw_15 ⟨Nat.zero_le _, Nat.zero_le _⟩ ?_
  intro r_7 σ_8 H locs p_6 hw
  obtain ⟨er_7, eσ_8⟩ := p_6
  have er_7 := er_7.symm; subst er_7
  have eσ_8 := eσ_8.symm; subst eσ_8
  refine lv_iconst (v := (-1)) hx hb dX5_draw_18 (by decide) ?_
  refine lv_icmp_eq (tgt := 32) hx hb dX5_draw_19 (by decide) (fun c_9 => ?_) (fun c_9 => ?_)
  · skip
    refine lv_aload_n hx hb dX5_draw_32 rfl (lv_at hl 0 rfl) ?_
    refine rGet (v := .ref (gad G 23)) (C := RX5) (T := TX5) (N := 10) hx hb fx hown hts hin hw 0 (hF.1 0 (by decide)) rfl rfl 4 (by decide) (hts (.fieldLink RX5 38 "Leaguewheel" "items" "LLeaguewheel$Items;") (by decide +kernel)) (fun _ h9 => h9) rfl dX5_draw_33 ?_
    refine lv_iload_n hx hb dX5_draw_36 rfl (lv_at hl 1 rfl) ?_
    refine lv_aload_n hx hb dX5_draw_37 rfl (lv_at hl 0 rfl) ?_
    refine rGet (v := .ref (gad G 4)) (C := RX5) (T := TX5) (N := 10) hx hb fx hown hts hin hw 0 (hF.1 0 (by decide)) rfl rfl 1 (by decide) (hts (.fieldLink RX5 21 "Leaguewheel" "race" "LLeaguewheel$Race;") (by decide +kernel)) (fun _ h9 => h9) rfl dX5_draw_38 ?_
    refine lv_iload_n hx hb dX5_draw_41 rfl (lv_at hl 1 rfl) ?_
    refine rCallI (C := RX3) (As := [.int (nI (ix x))]) (rest := [.int (nI (ix x)), .ref (gad G 23)]) ⟨hx, hb, hml, hown, hts⟩ fx hw (kX3_countAhead l G hG hF σ 4 (Or.inl rfl) ((ix x)) (by omega) n (hcn p_4_0).1 (by omega) hrk) (cwV 1 hts gX5_draw_X3_countAhead rfl rfl rfl (by decide +kernel) ⟨Nat.le_of_ble_eq_true rfl, Nat.le_of_ble_eq_true rfl⟩) (hF.1 4 (by decide)) rfl rfl rfl rfl hl.1 rfl (Nat.le_of_ble_eq_true rfl) dX5_draw_42 ⟨Nat.zero_le _, Nat.zero_le _⟩ ?_
    intro r_11 σ_12 H locs p_10 hw
    obtain ⟨er_11, eσ_12⟩ := p_10
    have er_11 := er_11.symm; subst er_11
    have eσ_12 := eσ_12.symm; subst eσ_12
    have hr9 : cntA (fun a => ahB σ 4 a (ix x)) n < n := rkA_lt (by omega)
    refine rCallI (C := RX1) (As := [.int (nI (ix x)), .int (nI (cntA (fun a => ahB σ 4 a (ix x)) n))]) (rest := []) ⟨hx, hb, hml, hown, hts⟩ fx hw (kX1_drawFor l G hG hF σ ((ix x)) (by omega) ((cntA (fun a => ahB σ 4 a (ix x)) n)) (by omega)) (cwV 2 hts gX5_draw_X1_drawFor rfl rfl rfl (by decide +kernel) ⟨Nat.le_of_ble_eq_true rfl, Nat.le_of_ble_eq_true rfl⟩) (hF.1 23 (by decide)) rfl rfl rfl rfl hl.1 rfl (Nat.le_of_ble_eq_true rfl) dX5_draw_45 ⟨Nat.zero_le _, Nat.zero_le _⟩ ?_
    intro r_14 σ_15 H locs p_13 hw
    obtain ⟨er_14, eσ_15⟩ := p_13
    have er_14 := er_14.symm; subst er_14
    subst eσ_15
    exact vy_ret (rRetI hx hb hr hw (by exact ⟨rfl, rfl, p_1_0, by simp [p_4_0, p_4_1, c_9]⟩) hlocks dX5_draw_48)
  · skip
    exact rThrow (ik := 71) (is := 210) (ic := 75) (cls := "java/lang/IllegalStateException") (text := _) hx hb hlt hF.2.2.2.2 fx hw hown (by decide +kernel) (hts (.classLink RX5 71 "java/lang/IllegalStateException") (by decide +kernel)) (hts (.initialized "java/lang/IllegalStateException") (by decide +kernel)) (List.mem_of_getElem? (i := 20) rfl) (by decide +kernel) (at_ISE (fun w h => hts w (by revert w; decide +kernel))) gd_ISE (by rw [hml]; exact hl.1) dX5_draw_22 dX5_draw_25 dX5_draw_26 dX5_draw_28 dX5_draw_31 hout (Nat.le_of_ble_eq_true rfl) (Nat.le_of_ble_eq_true rfl) (Nat.le_of_ble_eq_true rfl) (Nat.le_of_ble_eq_true rfl) hlocks (by exact Or.inr ⟨rfl, p_1_0, by simp [c_9]⟩) (Nat.le_of_ble_eq_true rfl) (Nat.le_of_ble_eq_true rfl)

def rmX5_itemOf : Room := ({ frames := 7, cells := 1, slots := 6, locals := 103 } : Room)
set_option maxHeartbeats 4000000 in
set_option maxRecDepth 100000 in
theorem kX5_itemOf (l : Launch) (hlt : l.stackTraces = false) (G : Gx) (hG : gOk G) (hF : Full G) (σ : St) (x : Int32) (g n e9 z : Nat) (b : Bool) (hIv9 : CIv σ g n b e9 z)  : CxI l yX5_itemOf wsX5_itemOf rmX5_itemOf G σ [.ref (gad G 0), .int x] (fun r σ' => r = (if b = true then σ 24 (ix x) else -1) ∧ σ' = σ ∧ inB x n = true) (fun E => E = xIOB ∧ inB x n = false) := by
  refine bgX (cc := cX5_itemOf) (maxL := 2) (ret := (some .int)) (own := RX5) (by decide) rfl rfl hG (Nat.le_of_ble_eq_true rfl) rfl ?_
  intro p e s m args below meth c ls hout Bd hl
  obtain ⟨hx, hb, hr, hml, hts, hown, hlocks, fx, hw⟩ := Bd
  have hl : lv_has ls 2 [(0, .ref (gad G 0)), (1, .int x)] := hl
  have hin : ∀ w ∈ wsX50, w ∈ wsX5_itemOf := by decide +kernel
  obtain ⟨⟨hg, hg1, hg2⟩, ⟨hn, hn6⟩, hon, ⟨he, he8⟩, ⟨hz, hz5⟩, hrk, hcn, hrec⟩ := id hIv9
  refine lv_aload_n hx hb dX5_itemOf_0 rfl (lv_at hl 0 rfl) ?_
  refine lv_iload_n hx hb dX5_itemOf_1 rfl (lv_at hl 1 rfl) ?_
  refine rCallXV (C := RX5) (As := [.int x]) (rest := []) ⟨hx, hb, hml, hown, hts⟩ fx hw (kX5_checkKart l hlt G hG hF σ x g n e9 z b hIv9) (cwV 1 hts gX5_itemOf_X5_checkKart rfl rfl rfl (by decide +kernel) ⟨Nat.le_of_ble_eq_true rfl, Nat.le_of_ble_eq_true rfl⟩) (hF.1 0 (by decide)) rfl rfl rfl rfl hl.1 rfl (Nat.le_of_ble_eq_true rfl) dX5_itemOf_2 ⟨Nat.le_of_ble_eq_true rfl, Nat.le_of_ble_eq_true rfl⟩ (fun E ce q9 H locs hE hw h1 h2 h3 => ?_) ?_
  · skip
    exact rOut (by exact hE) hw h1 h2 h3 hout hlocks (Nat.le_of_ble_eq_true rfl) (Nat.le_of_ble_eq_true rfl)
  intro σ_2 H locs p_1 hw
  obtain ⟨eσ_2, p_1_0⟩ := p_1
  have eσ_2 := eσ_2.symm; subst eσ_2
  have hx9 := inB_ix (by omega) p_1_0
  have q_3 : x = (nI (ix x)) := by exact hx9.1
  have hl : lv_has ls 2 [(0, .ref (gad G 0)), (1, .int (nI (ix x)))] := (lv_c (lv_at hl 0 rfl) (lv_c (lv_atq hl 1 rfl q_3) (lv_c0 hl)))
  refine lv_aload_n hx hb dX5_itemOf_5 rfl (lv_at hl 0 rfl) ?_
  refine rGet (v := .int (σ 0 8)) (C := RX5) (T := TX5) (N := 10) hx hb fx hown hts hin hw 0 (hF.1 0 (by decide)) rfl rfl 8 (by decide) (hts (.fieldLink RX5 57 "Leaguewheel" "raceIsOn" "Z") (by decide +kernel)) (fun _ h9 => h9) rfl dX5_itemOf_6 ?_
  refine lv_rep0 (x := (σ 0 8)) (y := (bI b)) (by exact hon) ?_
  refine lv_b_eq (tgt := 23) hx hb dX5_itemOf_9 (by decide) (fun c_4 => ?_) (fun c_4 => ?_)
  · skip
    refine lv_iconst (v := (-1)) hx hb dX5_itemOf_23 (by decide) ?_
    exact vy_ret (rRetI hx hb hr hw (by exact ⟨by simp [c_4], rfl, p_1_0⟩) hlocks dX5_itemOf_24)
  · skip
    refine lv_aload_n hx hb dX5_itemOf_12 rfl (lv_at hl 0 rfl) ?_
    refine rGet (v := .ref (gad G 23)) (C := RX5) (T := TX5) (N := 10) hx hb fx hown hts hin hw 0 (hF.1 0 (by decide)) rfl rfl 4 (by decide) (hts (.fieldLink RX5 38 "Leaguewheel" "items" "LLeaguewheel$Items;") (by decide +kernel)) (fun _ h9 => h9) rfl dX5_itemOf_13 ?_
    refine lv_iload_n hx hb dX5_itemOf_16 rfl (lv_at hl 1 rfl) ?_
    refine rCallI (C := RX1) (As := [.int (nI (ix x))]) (rest := []) ⟨hx, hb, hml, hown, hts⟩ fx hw (kX1_heldBy l G hG hF σ ((ix x)) (by omega)) (cwV 1 hts gX5_itemOf_X1_heldBy rfl rfl rfl (by decide +kernel) ⟨Nat.le_of_ble_eq_true rfl, Nat.le_of_ble_eq_true rfl⟩) (hF.1 23 (by decide)) rfl rfl rfl rfl hl.1 rfl (Nat.le_of_ble_eq_true rfl) dX5_itemOf_17 ⟨Nat.zero_le _, Nat.zero_le _⟩ ?_
    intro r_6 σ_7 H locs p_5 hw
    obtain ⟨er_6, eσ_7⟩ := p_5
    have er_6 := er_6.symm; subst er_6
    have eσ_7 := eσ_7.symm; subst eσ_7
    refine lv_goto (tgt := 24) hx hb dX5_itemOf_20 (by decide) ?_
    exact vy_ret (rRetI hx hb hr hw (by exact ⟨by simp [c_4], rfl, p_1_0⟩) hlocks dX5_itemOf_24)

def rmX5_stunned : Room := ({ frames := 7, cells := 1, slots := 6, locals := 103 } : Room)
set_option maxHeartbeats 4000000 in
set_option maxRecDepth 100000 in
theorem kX5_stunned (l : Launch) (hlt : l.stackTraces = false) (G : Gx) (hG : gOk G) (hF : Full G) (σ : St) (x : Int32) (g n e9 z : Nat) (b : Bool) (hIv9 : CIv σ g n b e9 z)  : CxI l yX5_stunned wsX5_stunned rmX5_stunned G σ [.ref (gad G 0), .int x] (fun r σ' => r = (if b = true then stuA σ (ix x) else 0) ∧ σ' = σ ∧ inB x n = true) (fun E => E = xIOB ∧ inB x n = false) := by
  refine bgX (cc := cX5_stunned) (maxL := 2) (ret := (some .int)) (own := RX5) (by decide) rfl rfl hG (Nat.le_of_ble_eq_true rfl) rfl ?_
  intro p e s m args below meth c ls hout Bd hl
  obtain ⟨hx, hb, hr, hml, hts, hown, hlocks, fx, hw⟩ := Bd
  have hl : lv_has ls 2 [(0, .ref (gad G 0)), (1, .int x)] := hl
  have hin : ∀ w ∈ wsX50, w ∈ wsX5_stunned := by decide +kernel
  obtain ⟨⟨hg, hg1, hg2⟩, ⟨hn, hn6⟩, hon, ⟨he, he8⟩, ⟨hz, hz5⟩, hrk, hcn, hrec⟩ := id hIv9
  refine lv_aload_n hx hb dX5_stunned_0 rfl (lv_at hl 0 rfl) ?_
  refine lv_iload_n hx hb dX5_stunned_1 rfl (lv_at hl 1 rfl) ?_
  refine rCallXV (C := RX5) (As := [.int x]) (rest := []) ⟨hx, hb, hml, hown, hts⟩ fx hw (kX5_checkKart l hlt G hG hF σ x g n e9 z b hIv9) (cwV 1 hts gX5_stunned_X5_checkKart rfl rfl rfl (by decide +kernel) ⟨Nat.le_of_ble_eq_true rfl, Nat.le_of_ble_eq_true rfl⟩) (hF.1 0 (by decide)) rfl rfl rfl rfl hl.1 rfl (Nat.le_of_ble_eq_true rfl) dX5_stunned_2 ⟨Nat.le_of_ble_eq_true rfl, Nat.le_of_ble_eq_true rfl⟩ (fun E ce q9 H locs hE hw h1 h2 h3 => ?_) ?_
  · skip
    exact rOut (by exact hE) hw h1 h2 h3 hout hlocks (Nat.le_of_ble_eq_true rfl) (Nat.le_of_ble_eq_true rfl)
  intro σ_2 H locs p_1 hw
  obtain ⟨eσ_2, p_1_0⟩ := p_1
  have eσ_2 := eσ_2.symm; subst eσ_2
  have hx9 := inB_ix (by omega) p_1_0
  have q_3 : x = (nI (ix x)) := by exact hx9.1
  have hl : lv_has ls 2 [(0, .ref (gad G 0)), (1, .int (nI (ix x)))] := (lv_c (lv_at hl 0 rfl) (lv_c (lv_atq hl 1 rfl q_3) (lv_c0 hl)))
  refine lv_aload_n hx hb dX5_stunned_5 rfl (lv_at hl 0 rfl) ?_
  refine rGet (v := .int (σ 0 8)) (C := RX5) (T := TX5) (N := 10) hx hb fx hown hts hin hw 0 (hF.1 0 (by decide)) rfl rfl 8 (by decide) (hts (.fieldLink RX5 57 "Leaguewheel" "raceIsOn" "Z") (by decide +kernel)) (fun _ h9 => h9) rfl dX5_stunned_6 ?_
  refine lv_rep0 (x := (σ 0 8)) (y := (bI b)) (by exact hon) ?_
  refine lv_b_eq (tgt := 27) hx hb dX5_stunned_9 (by decide) (fun c_4 => ?_) (fun c_4 => ?_)
  · skip
    refine lv_iconst (v := 0) hx hb dX5_stunned_27 (by decide) ?_
    exact vy_ret (rRetI hx hb hr hw (by exact ⟨by rw [c_4]; rfl, rfl, p_1_0⟩) hlocks dX5_stunned_28)
  · skip
    refine lv_aload_n hx hb dX5_stunned_12 rfl (lv_at hl 0 rfl) ?_
    refine rGet (v := .ref (gad G 23)) (C := RX5) (T := TX5) (N := 10) hx hb fx hown hts hin hw 0 (hF.1 0 (by decide)) rfl rfl 4 (by decide) (hts (.fieldLink RX5 38 "Leaguewheel" "items" "LLeaguewheel$Items;") (by decide +kernel)) (fun _ h9 => h9) rfl dX5_stunned_13 ?_
    refine lv_iload_n hx hb dX5_stunned_16 rfl (lv_at hl 1 rfl) ?_
    refine lv_aload_n hx hb dX5_stunned_17 rfl (lv_at hl 0 rfl) ?_
    refine rGet (v := .int (σ 0 9)) (C := RX5) (T := TX5) (N := 10) hx hb fx hown hts hin hw 0 (hF.1 0 (by decide)) rfl rfl 9 (by decide) (hts (.fieldLink RX5 61 "Leaguewheel" "tick" "I") (by decide +kernel)) (fun _ h9 => h9) rfl dX5_stunned_18 ?_
    refine rCallI (C := RX1) (As := [.int (nI (ix x)), .int (σ 0 9)]) (rest := []) ⟨hx, hb, hml, hown, hts⟩ fx hw (kX1_ticksStunned l G hG hF σ ((ix x)) (by omega) ((σ 0 9))) (cwV 2 hts gX5_stunned_X1_ticksStunned rfl rfl rfl (by decide +kernel) ⟨Nat.le_of_ble_eq_true rfl, Nat.le_of_ble_eq_true rfl⟩) (hF.1 23 (by decide)) rfl rfl rfl rfl hl.1 rfl (Nat.le_of_ble_eq_true rfl) dX5_stunned_21 ⟨Nat.zero_le _, Nat.zero_le _⟩ ?_
    intro r_6 σ_7 H locs p_5 hw
    obtain ⟨er_6, eσ_7⟩ := p_5
    have er_6 := er_6.symm; subst er_6
    have eσ_7 := eσ_7.symm; subst eσ_7
    refine lv_goto (tgt := 28) hx hb dX5_stunned_24 (by decide) ?_
    exact vy_ret (rRetI hx hb hr hw (by exact ⟨by rw [c_4]; rfl, rfl, p_1_0⟩) hlocks dX5_stunned_28)

def rmX5_place : Room := ({ frames := 7, cells := 1, slots := 6, locals := 103 } : Room)
set_option maxHeartbeats 4000000 in
set_option maxRecDepth 100000 in
theorem kX5_place (l : Launch) (hlt : l.stackTraces = false) (G : Gx) (hG : gOk G) (hF : Full G) (σ : St) (x y : Int32) (g n e9 z : Nat) (b : Bool) (hIv9 : CIv σ g n b e9 z)  : CxI l yX5_place wsX5_place rmX5_place G σ [.ref (gad G 0), .int x, .int y] (fun r σ' => r = σ 28 (ix x * 6 + ix y) ∧ σ' = σ ∧ (inB x e9 && inB y n) = true) (fun E => E = xIOB ∧ (inB x e9 && inB y n) = false) := by
  refine bgX (cc := cX5_place) (maxL := 3) (ret := (some .int)) (own := RX5) (by decide) rfl rfl hG (Nat.le_of_ble_eq_true rfl) rfl ?_
  intro p e s m args below meth c ls hout Bd hl
  obtain ⟨hx, hb, hr, hml, hts, hown, hlocks, fx, hw⟩ := Bd
  have hl : lv_has ls 3 [(0, .ref (gad G 0)), (1, .int x), (2, .int y)] := hl
  have hin : ∀ w ∈ wsX50, w ∈ wsX5_place := by decide +kernel
  obtain ⟨⟨hg, hg1, hg2⟩, ⟨hn, hn6⟩, hon, ⟨he, he8⟩, ⟨hz, hz5⟩, hrk, hcn, hrec⟩ := id hIv9
  refine lv_iload_n hx hb dX5_place_0 rfl (lv_at hl 1 rfl) ?_
  refine lv_if_lt (tgt := 15) hx hb dX5_place_1 (by decide) (fun c_1 => ?_) (fun c_1 => ?_)
  · skip
    exact rThrow (ik := 241) (is := 243) (ic := 245) (cls := "java/lang/IndexOutOfBoundsException") (text := _) hx hb hlt hF.2.2.2.2 fx hw hown (by decide +kernel) (hts (.classLink RX5 241 "java/lang/IndexOutOfBoundsException") (by decide +kernel)) (hts (.initialized "java/lang/IndexOutOfBoundsException") (by decide +kernel)) (List.mem_of_getElem? (i := 22) rfl) (by decide +kernel) (at_IOB (fun w h => hts w (by revert w; decide +kernel))) gd_IOB (by rw [hml]; exact hl.1) dX5_place_15 dX5_place_18 dX5_place_19 dX5_place_21 dX5_place_24 hout (Nat.le_of_ble_eq_true rfl) (Nat.le_of_ble_eq_true rfl) (Nat.le_of_ble_eq_true rfl) (Nat.le_of_ble_eq_true rfl) hlocks (by exact ⟨rfl, by first | (rw [inB_f1 c_1]; rfl) | (rw [inB_f2 c_1]; rfl)⟩) (Nat.le_of_ble_eq_true rfl) (Nat.le_of_ble_eq_true rfl)
  · skip
    refine lv_iload_n hx hb dX5_place_4 rfl (lv_at hl 1 rfl) ?_
    refine lv_aload_n hx hb dX5_place_5 rfl (lv_at hl 0 rfl) ?_
    refine rGet (v := .ref (gad G 27)) (C := RX5) (T := TX5) (N := 10) hx hb fx hown hts hin hw 0 (hF.1 0 (by decide)) rfl rfl 5 (by decide) (hts (.fieldLink RX5 45 "Leaguewheel" "cup" "LLeaguewheel$Cup;") (by decide +kernel)) (fun _ h9 => h9) rfl dX5_place_6 ?_
    refine rCallI (C := RX0) (As := []) (rest := [.int x]) ⟨hx, hb, hml, hown, hts⟩ fx hw (kX0_endedRaces l G hG hF σ ) (cwV 0 hts gX5_place_X0_endedRaces rfl rfl rfl (by decide +kernel) ⟨Nat.le_of_ble_eq_true rfl, Nat.le_of_ble_eq_true rfl⟩) (hF.1 27 (by decide)) rfl rfl rfl rfl hl.1 rfl (Nat.le_of_ble_eq_true rfl) dX5_place_9 ⟨Nat.zero_le _, Nat.zero_le _⟩ ?_
    intro r_3 σ_4 H locs p_2 hw
    obtain ⟨er_3, eσ_4⟩ := p_2
    have er_3 := er_3.symm; subst er_3
    have eσ_4 := eσ_4.symm; subst eσ_4
    refine lv_rep0 (x := (σ 27 2)) (y := nI e9) (by exact he) ?_
    refine lv_icmp_lt (tgt := 25) hx hb dX5_place_12 (by decide) (fun c_5 => ?_) (fun c_5 => ?_)
    · skip
      refine lv_aload_n hx hb dX5_place_25 rfl (lv_at hl 0 rfl) ?_
      refine lv_iload_n hx hb dX5_place_26 rfl (lv_at hl 2 rfl) ?_
      refine rCallXV (C := RX5) (As := [.int y]) (rest := []) ⟨hx, hb, hml, hown, hts⟩ fx hw (kX5_checkKart l hlt G hG hF σ y g n e9 z b hIv9) (cwV 1 hts gX5_place_X5_checkKart rfl rfl rfl (by decide +kernel) ⟨Nat.le_of_ble_eq_true rfl, Nat.le_of_ble_eq_true rfl⟩) (hF.1 0 (by decide)) rfl rfl rfl rfl hl.1 rfl (Nat.le_of_ble_eq_true rfl) dX5_place_27 ⟨Nat.le_of_ble_eq_true rfl, Nat.le_of_ble_eq_true rfl⟩ (fun E ce q9 H locs hE hw h1 h2 h3 => ?_) ?_
      · skip
        exact rOut (by exact ⟨hE.1, by rw [hE.2]; exact Bool.and_false _⟩) hw h1 h2 h3 hout hlocks (Nat.le_of_ble_eq_true rfl) (Nat.le_of_ble_eq_true rfl)
      intro σ_7 H locs p_6 hw
      obtain ⟨eσ_7, p_6_0⟩ := p_6
      have eσ_7 := eσ_7.symm; subst eσ_7
      have hx9 := inB_ix (by omega) (inB_t c_1 c_5)
      have q_8 : x = (nI (ix x)) := by exact hx9.1
      have hl : lv_has ls 3 [(0, .ref (gad G 0)), (1, .int (nI (ix x))), (2, .int y)] := (lv_c (lv_at hl 0 rfl) (lv_c (lv_atq hl 1 rfl q_8) (lv_c (lv_at hl 2 rfl) (lv_c0 hl))))
      have hy9 := inB_ix (by omega) p_6_0
      have q_9 : y = (nI (ix y)) := by exact hy9.1
      have hl : lv_has ls 3 [(0, .ref (gad G 0)), (1, .int (nI (ix x))), (2, .int (nI (ix y)))] := (lv_c (lv_at hl 0 rfl) (lv_c (lv_at hl 1 rfl) (lv_c (lv_atq hl 2 rfl q_9) (lv_c0 hl))))
      refine lv_aload_n hx hb dX5_place_30 rfl (lv_at hl 0 rfl) ?_
      refine rGet (v := .ref (gad G 27)) (C := RX5) (T := TX5) (N := 10) hx hb fx hown hts hin hw 0 (hF.1 0 (by decide)) rfl rfl 5 (by decide) (hts (.fieldLink RX5 45 "Leaguewheel" "cup" "LLeaguewheel$Cup;") (by decide +kernel)) (fun _ h9 => h9) rfl dX5_place_31 ?_
      refine lv_iload_n hx hb dX5_place_34 rfl (lv_at hl 1 rfl) ?_
      refine lv_iload_n hx hb dX5_place_35 rfl (lv_at hl 2 rfl) ?_
      refine rCallI (C := RX0) (As := [.int (nI (ix x)), .int (nI (ix y))]) (rest := []) ⟨hx, hb, hml, hown, hts⟩ fx hw (kX0_placeIn l G hG hF σ ((ix x)) (by omega) ((ix y)) (by omega)) (cwV 2 hts gX5_place_X0_placeIn rfl rfl rfl (by decide +kernel) ⟨Nat.le_of_ble_eq_true rfl, Nat.le_of_ble_eq_true rfl⟩) (hF.1 27 (by decide)) rfl rfl rfl rfl hl.1 rfl (Nat.le_of_ble_eq_true rfl) dX5_place_36 ⟨Nat.zero_le _, Nat.zero_le _⟩ ?_
      intro r_11 σ_12 H locs p_10 hw
      obtain ⟨er_11, eσ_12⟩ := p_10
      have er_11 := er_11.symm; subst er_11
      have eσ_12 := eσ_12.symm; subst eσ_12
      exact vy_ret (rRetI hx hb hr hw (by exact ⟨rfl, rfl, by rw [inB_t c_1 c_5, p_6_0]; rfl⟩) hlocks dX5_place_39)
    · skip
      exact rThrow (ik := 241) (is := 243) (ic := 245) (cls := "java/lang/IndexOutOfBoundsException") (text := _) hx hb hlt hF.2.2.2.2 fx hw hown (by decide +kernel) (hts (.classLink RX5 241 "java/lang/IndexOutOfBoundsException") (by decide +kernel)) (hts (.initialized "java/lang/IndexOutOfBoundsException") (by decide +kernel)) (List.mem_of_getElem? (i := 22) rfl) (by decide +kernel) (at_IOB (fun w h => hts w (by revert w; decide +kernel))) gd_IOB (by rw [hml]; exact hl.1) dX5_place_15 dX5_place_18 dX5_place_19 dX5_place_21 dX5_place_24 hout (Nat.le_of_ble_eq_true rfl) (Nat.le_of_ble_eq_true rfl) (Nat.le_of_ble_eq_true rfl) (Nat.le_of_ble_eq_true rfl) hlocks (by exact ⟨rfl, by first | (rw [inB_f1 c_5]; rfl) | (rw [inB_f2 c_5]; rfl)⟩) (Nat.le_of_ble_eq_true rfl) (Nat.le_of_ble_eq_true rfl)

def rmX5_setDropped : Room := ({ frames := 6, cells := 1, slots := 6, locals := 82 } : Room)
set_option maxHeartbeats 4000000 in
set_option maxRecDepth 100000 in
theorem kX5_setDropped (l : Launch) (hlt : l.stackTraces = false) (G : Gx) (hG : gOk G) (hF : Full G) (σ : St) (x : Int32) (g n e9 z : Nat) (b : Bool) (hIv9 : CIv σ g n b e9 z)  : CxI l yX5_setDropped wsX5_setDropped rmX5_setDropped G σ [.ref (gad G 0), .int x] (fun r σ' => r = σ 27 3 ∧ σ' = upA σ 27 (upd (σ 27) 3 x) ∧ inR x 0 3 = true) (fun E => E = xIAE ∧ inR x 0 3 = false) := by
  refine bgX (cc := cX5_setDropped) (maxL := 2) (ret := (some .int)) (own := RX5) (by decide) rfl rfl hG (Nat.le_of_ble_eq_true rfl) rfl ?_
  intro p e s m args below meth c ls hout Bd hl
  obtain ⟨hx, hb, hr, hml, hts, hown, hlocks, fx, hw⟩ := Bd
  have hl : lv_has ls 2 [(0, .ref (gad G 0)), (1, .int x)] := hl
  have hin : ∀ w ∈ wsX50, w ∈ wsX5_setDropped := by decide +kernel
  obtain ⟨⟨hg, hg1, hg2⟩, ⟨hn, hn6⟩, hon, ⟨he, he8⟩, ⟨hz, hz5⟩, hrk, hcn, hrec⟩ := id hIv9
  refine lv_iload_n hx hb dX5_setDropped_0 rfl (lv_at hl 1 rfl) ?_
  refine lv_if_lt (tgt := 9) hx hb dX5_setDropped_1 (by decide) (fun c_1 => ?_) (fun c_1 => ?_)
  · skip
    exact rThrow (ik := 86) (is := 249) (ic := 90) (cls := "java/lang/IllegalArgumentException") (text := _) hx hb hlt hF.2.2.2.2 fx hw hown (by decide +kernel) (hts (.classLink RX5 86 "java/lang/IllegalArgumentException") (by decide +kernel)) (hts (.initialized "java/lang/IllegalArgumentException") (by decide +kernel)) (List.mem_of_getElem? (i := 23) rfl) (by decide +kernel) (at_IAE (fun w h => hts w (by revert w; decide +kernel))) gd_IAE (by rw [hml]; exact hl.1) dX5_setDropped_9 dX5_setDropped_12 dX5_setDropped_13 dX5_setDropped_15 dX5_setDropped_18 hout (Nat.le_of_ble_eq_true rfl) (Nat.le_of_ble_eq_true rfl) (Nat.le_of_ble_eq_true rfl) (Nat.le_of_ble_eq_true rfl) hlocks (by exact ⟨rfl, by first | exact inR_f1 c_1 | exact inR_f2 c_1⟩) (Nat.le_of_ble_eq_true rfl) (Nat.le_of_ble_eq_true rfl)
  · skip
    refine lv_iload_n hx hb dX5_setDropped_4 rfl (lv_at hl 1 rfl) ?_
    refine lv_iconst (v := 3) hx hb dX5_setDropped_5 (by decide) ?_
    refine lv_icmp_le (tgt := 19) hx hb dX5_setDropped_6 (by decide) (fun c_2 => ?_) (fun c_2 => ?_)
    · skip
      refine lv_aload_n hx hb dX5_setDropped_19 rfl (lv_at hl 0 rfl) ?_
      refine rGet (v := .ref (gad G 27)) (C := RX5) (T := TX5) (N := 10) hx hb fx hown hts hin hw 0 (hF.1 0 (by decide)) rfl rfl 5 (by decide) (hts (.fieldLink RX5 45 "Leaguewheel" "cup" "LLeaguewheel$Cup;") (by decide +kernel)) (fun _ h9 => h9) rfl dX5_setDropped_20 ?_
      refine lv_iload_n hx hb dX5_setDropped_23 rfl (lv_at hl 1 rfl) ?_
      refine rCallI (C := RX0) (As := [.int x]) (rest := []) ⟨hx, hb, hml, hown, hts⟩ fx hw (kX0_changeDropped l G hG hF σ x) (cwV 1 hts gX5_setDropped_X0_changeDropped rfl rfl rfl (by decide +kernel) ⟨Nat.le_of_ble_eq_true rfl, Nat.le_of_ble_eq_true rfl⟩) (hF.1 27 (by decide)) rfl rfl rfl rfl hl.1 rfl (Nat.le_of_ble_eq_true rfl) dX5_setDropped_24 ⟨Nat.zero_le _, Nat.zero_le _⟩ ?_
      intro r_4 σ_5 H locs p_3 hw
      obtain ⟨er_4, eσ_5⟩ := p_3
      have er_4 := er_4.symm; subst er_4
      subst eσ_5
      exact vy_ret (rRetI hx hb hr hw (by exact ⟨rfl, rfl, inR_t c_1 c_2⟩) hlocks dX5_setDropped_27)
    · skip
      exact rThrow (ik := 86) (is := 249) (ic := 90) (cls := "java/lang/IllegalArgumentException") (text := _) hx hb hlt hF.2.2.2.2 fx hw hown (by decide +kernel) (hts (.classLink RX5 86 "java/lang/IllegalArgumentException") (by decide +kernel)) (hts (.initialized "java/lang/IllegalArgumentException") (by decide +kernel)) (List.mem_of_getElem? (i := 23) rfl) (by decide +kernel) (at_IAE (fun w h => hts w (by revert w; decide +kernel))) gd_IAE (by rw [hml]; exact hl.1) dX5_setDropped_9 dX5_setDropped_12 dX5_setDropped_13 dX5_setDropped_15 dX5_setDropped_18 hout (Nat.le_of_ble_eq_true rfl) (Nat.le_of_ble_eq_true rfl) (Nat.le_of_ble_eq_true rfl) (Nat.le_of_ble_eq_true rfl) hlocks (by exact ⟨rfl, by first | exact inR_f1 c_2 | exact inR_f2 c_2⟩) (Nat.le_of_ble_eq_true rfl) (Nat.le_of_ble_eq_true rfl)

def rmX5_points : Room := ({ frames := 7, cells := 1, slots := 6, locals := 103 } : Room)
set_option maxHeartbeats 4000000 in
set_option maxRecDepth 100000 in
theorem kX5_points (l : Launch) (hlt : l.stackTraces = false) (G : Gx) (hG : gOk G) (hF : Full G) (σ : St) (x : Int32) (g n e9 z : Nat) (b : Bool) (hIv9 : CIv σ g n b e9 z)  : CxI l yX5_points wsX5_points rmX5_points G σ [.ref (gad G 0), .int x] (fun r σ' => r = sumA (σ 29) (σ 27 3) (ix x) e9 e9 ∧ σ' = σ ∧ inB x n = true) (fun E => E = xIOB ∧ inB x n = false) := by
  refine bgX (cc := cX5_points) (maxL := 2) (ret := (some .int)) (own := RX5) (by decide) rfl rfl hG (Nat.le_of_ble_eq_true rfl) rfl ?_
  intro p e s m args below meth c ls hout Bd hl
  obtain ⟨hx, hb, hr, hml, hts, hown, hlocks, fx, hw⟩ := Bd
  have hl : lv_has ls 2 [(0, .ref (gad G 0)), (1, .int x)] := hl
  have hin : ∀ w ∈ wsX50, w ∈ wsX5_points := by decide +kernel
  obtain ⟨⟨hg, hg1, hg2⟩, ⟨hn, hn6⟩, hon, ⟨he, he8⟩, ⟨hz, hz5⟩, hrk, hcn, hrec⟩ := id hIv9
  refine lv_aload_n hx hb dX5_points_0 rfl (lv_at hl 0 rfl) ?_
  refine lv_iload_n hx hb dX5_points_1 rfl (lv_at hl 1 rfl) ?_
  refine rCallXV (C := RX5) (As := [.int x]) (rest := []) ⟨hx, hb, hml, hown, hts⟩ fx hw (kX5_checkKart l hlt G hG hF σ x g n e9 z b hIv9) (cwV 1 hts gX5_points_X5_checkKart rfl rfl rfl (by decide +kernel) ⟨Nat.le_of_ble_eq_true rfl, Nat.le_of_ble_eq_true rfl⟩) (hF.1 0 (by decide)) rfl rfl rfl rfl hl.1 rfl (Nat.le_of_ble_eq_true rfl) dX5_points_2 ⟨Nat.le_of_ble_eq_true rfl, Nat.le_of_ble_eq_true rfl⟩ (fun E ce q9 H locs hE hw h1 h2 h3 => ?_) ?_
  · skip
    exact rOut (by exact hE) hw h1 h2 h3 hout hlocks (Nat.le_of_ble_eq_true rfl) (Nat.le_of_ble_eq_true rfl)
  intro σ_2 H locs p_1 hw
  obtain ⟨eσ_2, p_1_0⟩ := p_1
  have eσ_2 := eσ_2.symm; subst eσ_2
  have hx9 := inB_ix (by omega) p_1_0
  have q_3 : x = (nI (ix x)) := by exact hx9.1
  have hl : lv_has ls 2 [(0, .ref (gad G 0)), (1, .int (nI (ix x)))] := (lv_c (lv_at hl 0 rfl) (lv_c (lv_atq hl 1 rfl q_3) (lv_c0 hl)))
  refine lv_aload_n hx hb dX5_points_5 rfl (lv_at hl 0 rfl) ?_
  refine rGet (v := .ref (gad G 27)) (C := RX5) (T := TX5) (N := 10) hx hb fx hown hts hin hw 0 (hF.1 0 (by decide)) rfl rfl 5 (by decide) (hts (.fieldLink RX5 45 "Leaguewheel" "cup" "LLeaguewheel$Cup;") (by decide +kernel)) (fun _ h9 => h9) rfl dX5_points_6 ?_
  refine lv_iload_n hx hb dX5_points_9 rfl (lv_at hl 1 rfl) ?_
  refine rCallI (C := RX0) (As := [.int (nI (ix x))]) (rest := []) ⟨hx, hb, hml, hown, hts⟩ fx hw (kX0_pointsOf l G hG hF σ ((ix x)) (by omega) e9 he (by omega)) (cwV 1 hts gX5_points_X0_pointsOf rfl rfl rfl (by decide +kernel) ⟨Nat.le_of_ble_eq_true rfl, Nat.le_of_ble_eq_true rfl⟩) (hF.1 27 (by decide)) rfl rfl rfl rfl hl.1 rfl (Nat.le_of_ble_eq_true rfl) dX5_points_10 ⟨Nat.zero_le _, Nat.zero_le _⟩ ?_
  intro r_5 σ_6 H locs p_4 hw
  obtain ⟨er_5, eσ_6⟩ := p_4
  have er_5 := er_5.symm; subst er_5
  have eσ_6 := eσ_6.symm; subst eσ_6
  exact vy_ret (rRetI hx hb hr hw (by exact ⟨rfl, rfl, p_1_0⟩) hlocks dX5_points_13)

def rmX5_teamPoints : Room := ({ frames := 7, cells := 1, slots := 6, locals := 103 } : Room)
set_option maxHeartbeats 4000000 in
set_option maxRecDepth 100000 in
theorem kX5_teamPoints (l : Launch) (hlt : l.stackTraces = false) (G : Gx) (hG : gOk G) (hF : Full G) (σ : St) (x : Int32) (g n e9 z : Nat) (b : Bool) (hIv9 : CIv σ g n b e9 z)  : CxI l yX5_teamPoints wsX5_teamPoints rmX5_teamPoints G σ [.ref (gad G 0), .int x] (fun r σ' => r = tpA σ x e9 n ∧ σ' = σ ∧ inB x 4 = true) (fun E => E = xIOB ∧ inB x 4 = false) := by
  refine bgX (cc := cX5_teamPoints) (maxL := 4) (ret := (some .int)) (own := RX5) (by decide) rfl rfl hG (Nat.le_of_ble_eq_true rfl) rfl ?_
  intro p e s m args below meth c ls hout Bd hl
  obtain ⟨hx, hb, hr, hml, hts, hown, hlocks, fx, hw⟩ := Bd
  have hl : lv_has ls 4 [(0, .ref (gad G 0)), (1, .int x)] := hl
  have hin : ∀ w ∈ wsX50, w ∈ wsX5_teamPoints := by decide +kernel
  obtain ⟨⟨hg, hg1, hg2⟩, ⟨hn, hn6⟩, hon, ⟨he, he8⟩, ⟨hz, hz5⟩, hrk, hcn, hrec⟩ := id hIv9
  refine lv_aload_n hx hb dX5_teamPoints_0 rfl (lv_at hl 0 rfl) ?_
  refine lv_iload_n hx hb dX5_teamPoints_1 rfl (lv_at hl 1 rfl) ?_
  refine rCallXV (C := RX5) (As := [.int x]) (rest := []) ⟨hx, hb, hml, hown, hts⟩ fx hw (kX5_checkTeam l hlt G hG hF σ x) (cwV 1 hts gX5_teamPoints_X5_checkTeam rfl rfl rfl (by decide +kernel) ⟨Nat.le_of_ble_eq_true rfl, Nat.le_of_ble_eq_true rfl⟩) (hF.1 0 (by decide)) rfl rfl rfl rfl hl.1 rfl (Nat.le_of_ble_eq_true rfl) dX5_teamPoints_2 ⟨Nat.le_of_ble_eq_true rfl, Nat.le_of_ble_eq_true rfl⟩ (fun E ce q9 H locs hE hw h1 h2 h3 => ?_) ?_
  · skip
    exact rOut (by exact hE) hw h1 h2 h3 hout hlocks (Nat.le_of_ble_eq_true rfl) (Nat.le_of_ble_eq_true rfl)
  intro σ_2 H locs p_1 hw
  obtain ⟨eσ_2, p_1_0⟩ := p_1
  have eσ_2 := eσ_2.symm; subst eσ_2
  refine lv_iconst (v := 0) hx hb dX5_teamPoints_5 (by decide) ?_
  refine lv_istore_n (lv' := [(2, .int 0), (0, .ref (gad G 0)), (1, .int x)]) hx hb dX5_teamPoints_6 rfl hl (by decide) rfl (fun ls hl => ?_)
  refine lv_iconst (v := 0) hx hb dX5_teamPoints_7 (by decide) ?_
  refine lv_istore_n (lv' := [(3, .int 0), (2, .int 0), (0, .ref (gad G 0)), (1, .int x)]) hx hb dX5_teamPoints_8 rfl hl (by decide) rfl (fun ls hl => ?_)
  have lab_9 : ∀ (n9 : Nat), ∀ (i : Nat), n - i < n9 → i ≤ n → ∀ (H : Heap) (locs : List Loc) (ls : Array Slot), Wd G s σ H locs → lv_has ls 4 [(0, .ref (gad G 0)), (1, .int x), (2, .int (tpA σ x e9 i)), (3, .int (nI i))] → W p l e rmX5_teamPoints s m args below meth c H locs 0 0 (vy_MQ below (va_Qi (fun r σ' => r = tpA σ x e9 n ∧ σ' = σ ∧ inB x 4 = true) (BW G) (gA G)) (XW G σ (fun E => E = xIOB ∧ inB x 4 = false)) args s 1 6 (gA G)) (F0 m 9 ls []) := by
    intro n9
    induction n9 with
    | zero => intro i hn9; exact absurd hn9 (Nat.not_lt_zero _)
    | succ n9 ih9 =>
      intro i hn9 h9_0 H locs ls hw hl
      refine lv_iload_n hx hb dX5_teamPoints_9 rfl (lv_at hl 3 rfl) ?_
      refine lv_aload_n hx hb dX5_teamPoints_10 rfl (lv_at hl 0 rfl) ?_
      refine rGet (v := .int (σ 0 7)) (C := RX5) (T := TX5) (N := 10) hx hb fx hown hts hin hw 0 (hF.1 0 (by decide)) rfl rfl 7 (by decide) (hts (.fieldLink RX5 53 "Leaguewheel" "kartCount" "I") (by decide +kernel)) (fun _ h9 => h9) rfl dX5_teamPoints_11 ?_
      refine lv_rep0 (x := (σ 0 7)) (y := nI n) (by exact hn) ?_
      refine lv_icmp_ge (tgt := 44) hx hb dX5_teamPoints_14 (by decide) (fun c_3 => ?_) (fun c_3 => ?_)
      · skip
        have c_3 : n ≤ i := (nI_leI (by omega) (by omega)).mp c_3
        refine lv_iload_n hx hb dX5_teamPoints_44 rfl (lv_at hl 2 rfl) ?_
        exact vy_ret (rRetI hx hb hr hw (by exact ⟨by rw [show i = n by omega], rfl, p_1_0⟩) hlocks dX5_teamPoints_45)
      · skip
        have c_3 : ¬ n ≤ i := fun h9 => c_3 ((nI_leI (by omega) (by omega)).mpr h9)
        refine lv_aload_n hx hb dX5_teamPoints_17 rfl (lv_at hl 0 rfl) ?_
        refine rGet (v := .ref (gad G 30)) (C := RX5) (T := TX5) (N := 10) hx hb fx hown hts hin hw 0 (hF.1 0 (by decide)) rfl rfl 6 (by decide) (hts (.fieldLink RX5 49 "Leaguewheel" "teams" "[I") (by decide +kernel)) (fun _ h9 => h9) rfl dX5_teamPoints_18 ?_
        refine lv_iload_n hx hb dX5_teamPoints_21 rfl (lv_at hl 3 rfl) ?_
        refine rAld hx hb fx hw 30 (hF.1 30 (by decide)) hF.2.1 (fun _ => rfl) i rfl (by omega) (by decide) dX5_teamPoints_22 ?_
        refine lv_iload_n hx hb dX5_teamPoints_23 rfl (lv_at hl 1 rfl) ?_
        refine lv_icmp_ne (tgt := 38) hx hb dX5_teamPoints_24 (by decide) (fun c_4 => ?_) (fun c_4 => ?_)
        · skip
          refine lv_iinc (v := (nI (i + 1))) (lv' := [(3, .int (nI (i + 1))), (0, .ref (gad G 0)), (1, .int x), (2, .int (tpA σ x e9 i))]) hx hb dX5_teamPoints_38 hl (k := 3) rfl (nI_1 _) (by decide) rfl (fun ls hl => ?_)
          refine lv_goto (tgt := 9) hx hb dX5_teamPoints_41 (by decide) ?_
          have q_5 : (tpA σ x e9 i) = (tpA σ x e9 (i + 1)) := by first | rfl | (simp [tpA, p_1_0, c_3, c_4])
          exact ih9 (i + 1) (by omega) (by omega) _ _ _ hw (lv_c (lv_at hl 1 rfl) (lv_c (lv_at hl 2 rfl) (lv_c (lv_atq hl 3 rfl q_5) (lv_c (lv_at hl 0 rfl) (lv_c0 hl)))))
        · skip
          refine lv_iload_n hx hb dX5_teamPoints_27 rfl (lv_at hl 2 rfl) ?_
          refine lv_aload_n hx hb dX5_teamPoints_28 rfl (lv_at hl 0 rfl) ?_
          refine rGet (v := .ref (gad G 27)) (C := RX5) (T := TX5) (N := 10) hx hb fx hown hts hin hw 0 (hF.1 0 (by decide)) rfl rfl 5 (by decide) (hts (.fieldLink RX5 45 "Leaguewheel" "cup" "LLeaguewheel$Cup;") (by decide +kernel)) (fun _ h9 => h9) rfl dX5_teamPoints_29 ?_
          refine lv_iload_n hx hb dX5_teamPoints_32 rfl (lv_at hl 3 rfl) ?_
          refine rCallI (C := RX0) (As := [.int (nI i)]) (rest := [.int (tpA σ x e9 i)]) ⟨hx, hb, hml, hown, hts⟩ fx hw (kX0_pointsOf l G hG hF σ i (by omega) e9 he (by omega)) (cwV 1 hts gX5_teamPoints_X0_pointsOf rfl rfl rfl (by decide +kernel) ⟨Nat.le_of_ble_eq_true rfl, Nat.le_of_ble_eq_true rfl⟩) (hF.1 27 (by decide)) rfl rfl rfl rfl hl.1 rfl (Nat.le_of_ble_eq_true rfl) dX5_teamPoints_33 ⟨Nat.zero_le _, Nat.zero_le _⟩ ?_
          intro r_7 σ_8 H locs p_6 hw
          obtain ⟨er_7, eσ_8⟩ := p_6
          have er_7 := er_7.symm; subst er_7
          have eσ_8 := eσ_8.symm; subst eσ_8
          refine lv_iadd hx hb dX5_teamPoints_36 ?_
          refine lv_istore_n (lv' := [(2, .int ((tpA σ x e9 i) + (sumA (σ 29) (σ 27 3) i e9 e9))), (0, .ref (gad G 0)), (1, .int x), (3, .int (nI i))]) hx hb dX5_teamPoints_37 rfl hl (by decide) rfl (fun ls hl => ?_)
          refine lv_iinc (v := (nI (i + 1))) (lv' := [(3, .int (nI (i + 1))), (2, .int ((tpA σ x e9 i) + (sumA (σ 29) (σ 27 3) i e9 e9))), (0, .ref (gad G 0)), (1, .int x)]) hx hb dX5_teamPoints_38 hl (k := 3) rfl (nI_1 _) (by decide) rfl (fun ls hl => ?_)
          refine lv_goto (tgt := 9) hx hb dX5_teamPoints_41 (by decide) ?_
          have q_9 : ((tpA σ x e9 i) + (sumA (σ 29) (σ 27 3) i e9 e9)) = (tpA σ x e9 (i + 1)) := by first | rfl | (simp [tpA, p_1_0, c_3, c_4])
          exact ih9 (i + 1) (by omega) (by omega) _ _ _ hw (lv_c (lv_at hl 2 rfl) (lv_c (lv_at hl 3 rfl) (lv_c (lv_atq hl 1 rfl q_9) (lv_c (lv_at hl 0 rfl) (lv_c0 hl)))))
  have q_10 : 0 = (tpA σ x e9 0) := by first | rfl | (simp [tpA, p_1_0])
  have q_11 : 0 = (nI 0) := by first | rfl | (simp [tpA, p_1_0])
  exact lab_9 (n - 0 + 1) 0 (by omega) (by omega) _ _ _ hw (lv_c (lv_at hl 2 rfl) (lv_c (lv_at hl 3 rfl) (lv_c (lv_atq hl 1 rfl q_10) (lv_c (lv_atq hl 0 rfl q_11) (lv_c0 hl)))))

def rmX5_standing : Room := ({ frames := 7, cells := 1, slots := 6, locals := 103 } : Room)
set_option maxHeartbeats 4000000 in
set_option maxRecDepth 100000 in
theorem kX5_standing (l : Launch) (hlt : l.stackTraces = false) (G : Gx) (hG : gOk G) (hF : Full G) (σ : St) (x : Int32) (g n e9 z : Nat) (b : Bool) (hIv9 : CIv σ g n b e9 z)  : CxI l yX5_standing wsX5_standing rmX5_standing G σ [.ref (gad G 0), .int x] (fun r σ' => r = nI (cntA (fun o => stB (σ 28) (σ 29) (σ 27 3) e9 o (ix x)) n) ∧ σ' = σ ∧ inB x n = true) (fun E => E = xIOB ∧ inB x n = false) := by
  refine bgX (cc := cX5_standing) (maxL := 2) (ret := (some .int)) (own := RX5) (by decide) rfl rfl hG (Nat.le_of_ble_eq_true rfl) rfl ?_
  intro p e s m args below meth c ls hout Bd hl
  obtain ⟨hx, hb, hr, hml, hts, hown, hlocks, fx, hw⟩ := Bd
  have hl : lv_has ls 2 [(0, .ref (gad G 0)), (1, .int x)] := hl
  have hin : ∀ w ∈ wsX50, w ∈ wsX5_standing := by decide +kernel
  obtain ⟨⟨hg, hg1, hg2⟩, ⟨hn, hn6⟩, hon, ⟨he, he8⟩, ⟨hz, hz5⟩, hrk, hcn, hrec⟩ := id hIv9
  refine lv_aload_n hx hb dX5_standing_0 rfl (lv_at hl 0 rfl) ?_
  refine lv_iload_n hx hb dX5_standing_1 rfl (lv_at hl 1 rfl) ?_
  refine rCallXV (C := RX5) (As := [.int x]) (rest := []) ⟨hx, hb, hml, hown, hts⟩ fx hw (kX5_checkKart l hlt G hG hF σ x g n e9 z b hIv9) (cwV 1 hts gX5_standing_X5_checkKart rfl rfl rfl (by decide +kernel) ⟨Nat.le_of_ble_eq_true rfl, Nat.le_of_ble_eq_true rfl⟩) (hF.1 0 (by decide)) rfl rfl rfl rfl hl.1 rfl (Nat.le_of_ble_eq_true rfl) dX5_standing_2 ⟨Nat.le_of_ble_eq_true rfl, Nat.le_of_ble_eq_true rfl⟩ (fun E ce q9 H locs hE hw h1 h2 h3 => ?_) ?_
  · skip
    exact rOut (by exact hE) hw h1 h2 h3 hout hlocks (Nat.le_of_ble_eq_true rfl) (Nat.le_of_ble_eq_true rfl)
  intro σ_2 H locs p_1 hw
  obtain ⟨eσ_2, p_1_0⟩ := p_1
  have eσ_2 := eσ_2.symm; subst eσ_2
  have hx9 := inB_ix (by omega) p_1_0
  have q_3 : x = (nI (ix x)) := by exact hx9.1
  have hl : lv_has ls 2 [(0, .ref (gad G 0)), (1, .int (nI (ix x)))] := (lv_c (lv_at hl 0 rfl) (lv_c (lv_atq hl 1 rfl q_3) (lv_c0 hl)))
  refine lv_aload_n hx hb dX5_standing_5 rfl (lv_at hl 0 rfl) ?_
  refine rGet (v := .ref (gad G 27)) (C := RX5) (T := TX5) (N := 10) hx hb fx hown hts hin hw 0 (hF.1 0 (by decide)) rfl rfl 5 (by decide) (hts (.fieldLink RX5 45 "Leaguewheel" "cup" "LLeaguewheel$Cup;") (by decide +kernel)) (fun _ h9 => h9) rfl dX5_standing_6 ?_
  refine lv_iload_n hx hb dX5_standing_9 rfl (lv_at hl 1 rfl) ?_
  refine lv_aload_n hx hb dX5_standing_10 rfl (lv_at hl 0 rfl) ?_
  refine rGet (v := .int (σ 0 7)) (C := RX5) (T := TX5) (N := 10) hx hb fx hown hts hin hw 0 (hF.1 0 (by decide)) rfl rfl 7 (by decide) (hts (.fieldLink RX5 53 "Leaguewheel" "kartCount" "I") (by decide +kernel)) (fun _ h9 => h9) rfl dX5_standing_11 ?_
  refine lv_rep0 (x := (σ 0 7)) (y := nI n) (by exact hn) ?_
  refine rCallI (C := RX0) (As := [.int (nI (ix x)), .int (nI n)]) (rest := []) ⟨hx, hb, hml, hown, hts⟩ fx hw (kX0_countBefore l G hG hF σ ((ix x)) (by omega) n (by omega) e9 he (by omega)) (cwV 2 hts gX5_standing_X0_countBefore rfl rfl rfl (by decide +kernel) ⟨Nat.le_of_ble_eq_true rfl, Nat.le_of_ble_eq_true rfl⟩) (hF.1 27 (by decide)) rfl rfl rfl rfl hl.1 rfl (Nat.le_of_ble_eq_true rfl) dX5_standing_14 ⟨Nat.zero_le _, Nat.zero_le _⟩ ?_
  intro r_5 σ_6 H locs p_4 hw
  obtain ⟨er_5, eσ_6⟩ := p_4
  have er_5 := er_5.symm; subst er_5
  have eσ_6 := eσ_6.symm; subst eσ_6
  exact vy_ret (rRetI hx hb hr hw (by exact ⟨rfl, rfl, p_1_0⟩) hlocks dX5_standing_17)

def rmX5_textLength : Room := ({ frames := 0, cells := 0, slots := 0, locals := 0 } : Room)
set_option maxHeartbeats 4000000 in
set_option maxRecDepth 100000 in
theorem kX5_textLength (l : Launch) (G : Gx) (hG : gOk G) (hF : Full G) (σ : St) (g n e9 z : Nat) (b : Bool) (hIv9 : CIv σ g n b e9 z)  : CtI l yX5_textLength wsX5_textLength rmX5_textLength G σ [.ref (gad G 0)] (fun r σ' => r = nI (if n = 0 then 0 else 2 * n - 1) ∧ σ' = σ) := by
  refine bgMet (cc := cX5_textLength) (maxL := 1) (ret := (some .int)) (own := RX5) (by decide) rfl rfl hG (Nat.le_of_ble_eq_true rfl) rfl ?_
  intro p e s m args below meth c ls Bd hl
  obtain ⟨hx, hb, hr, hml, hts, hown, hlocks, fx, hw⟩ := Bd
  have hl : lv_has ls 1 [(0, .ref (gad G 0))] := hl
  have hin : ∀ w ∈ wsX50, w ∈ wsX5_textLength := by decide +kernel
  obtain ⟨⟨hg, hg1, hg2⟩, ⟨hn, hn6⟩, hon, ⟨he, he8⟩, ⟨hz, hz5⟩, hrk, hcn, hrec⟩ := id hIv9
  refine lv_aload_n hx hb dX5_textLength_0 rfl (lv_at hl 0 rfl) ?_
  refine rGet (v := .int (σ 0 7)) (C := RX5) (T := TX5) (N := 10) hx hb fx hown hts hin hw 0 (hF.1 0 (by decide)) rfl rfl 7 (by decide) (hts (.fieldLink RX5 53 "Leaguewheel" "kartCount" "I") (by decide +kernel)) (fun _ h9 => h9) rfl dX5_textLength_1 ?_
  refine lv_rep0 (x := (σ 0 7)) (y := nI n) (by exact hn) ?_
  refine lv_if_ne (tgt := 11) hx hb dX5_textLength_4 (by decide) (fun c_1 => ?_) (fun c_1 => ?_)
  · skip
    have c_1 : ¬ n = 0 := n0_net (by omega) c_1
    refine lv_iconst (v := 2) hx hb dX5_textLength_11 (by decide) ?_
    refine lv_aload_n hx hb dX5_textLength_12 rfl (lv_at hl 0 rfl) ?_
    refine rGet (v := .int (σ 0 7)) (C := RX5) (T := TX5) (N := 10) hx hb fx hown hts hin hw 0 (hF.1 0 (by decide)) rfl rfl 7 (by decide) (hts (.fieldLink RX5 53 "Leaguewheel" "kartCount" "I") (by decide +kernel)) (fun _ h9 => h9) rfl dX5_textLength_13 ?_
    refine lv_rep0 (x := (σ 0 7)) (y := nI n) (by exact hn) ?_
    refine lv_rep1 (x := 2) (y := nI 2) rfl ?_
    refine lv_imul hx hb dX5_textLength_16 ?_
    refine lv_rep0 (x := ((nI 2) * (nI n))) (y := nI (2 * n)) (pk_mul _ _) ?_
    refine lv_iconst (v := 1) hx hb dX5_textLength_17 (by decide) ?_
    refine lv_rep0 (x := 1) (y := nI 1) rfl ?_
    refine lv_isub hx hb dX5_textLength_18 ?_
    refine lv_rep0 (x := ((nI (2 * n)) - (nI 1))) (y := nI ((2 * n) - 1)) (pk_sub (by omega)) ?_
    exact rRetI hx hb hr hw (by exact ⟨by first | (rw [if_pos c_1]; rfl) | rw [if_neg c_1], rfl⟩) hlocks dX5_textLength_19
  · skip
    have c_1 : n = 0 := n0_nef (by omega) c_1
    refine lv_iconst (v := 0) hx hb dX5_textLength_7 (by decide) ?_
    refine lv_goto (tgt := 19) hx hb dX5_textLength_8 (by decide) ?_
    exact rRetI hx hb hr hw (by exact ⟨by first | (rw [if_pos c_1]; rfl) | rw [if_neg c_1], rfl⟩) hlocks dX5_textLength_19
