def rmX6_addKart : Room := ({ frames := 1, cells := 0, slots := 0, locals := 22 } : Room)
set_option maxHeartbeats 4000000 in
set_option maxRecDepth 100000 in
theorem kX6_addKart (l : Launch) (G : Gx) (hG : gOk G) (hF : Full G) (σ : St) (x : Int32) (g n sd e9 z : Nat) (b : Bool) (hMv : MIv σ g n sd b e9 z)  : CtI l yX6_addKart wsX6_addKart rmX6_addKart G σ [.ref (gad G 31), .int x] (fun r σ' => (inR x 0 3 = true ∧ (decide (sd = 0) && decide (n < 6)) = true ∧ r = nI n ∧ σ' = upA (upA (thr σ 0) 34 (upd (σ 34) n x)) 31 (upd (upd (σ 31) 25 0) 4 (nI (n + 1)))) ∨ (inR x 0 3 = false ∧ σ' = thr σ 1) ∨ (inR x 0 3 = true ∧ (decide (sd = 0) && decide (n < 6)) = false ∧ σ' = thr σ 2)) := by
  refine bgMet (cc := cX6_addKart) (maxL := 2) (ret := (some .int)) (own := RX6) (by decide) rfl rfl hG (Nat.le_of_ble_eq_true rfl) rfl ?_
  intro p e s m args below meth c ls Bd hl
  obtain ⟨hx, hb, hr, hml, hts, hown, hlocks, fx, hw⟩ := Bd
  have hl : lv_has ls 2 [(0, .ref (gad G 31)), (1, .int x)] := hl
  have hin : ∀ w ∈ wsX60, w ∈ wsX6_addKart := by decide +kernel
  obtain ⟨⟨hmg, hmg1, hmg2⟩, ⟨hmn, hmn6⟩, ⟨hms, hms8⟩, ⟨hme, hme8⟩, hmo, ⟨hmz, hmz5⟩, hgm, hme9⟩ := id hMv
  refine lv_aload_n hx hb dX6_addKart_0 rfl (lv_at hl 0 rfl) ?_
  refine lv_iload_n hx hb dX6_addKart_1 rfl (lv_at hl 1 rfl) ?_
  refine lv_iconst (v := 0) hx hb dX6_addKart_2 (by decide) ?_
  refine lv_iconst (v := 3) hx hb dX6_addKart_3 (by decide) ?_
  refine rCallS (As := [.int x, .int 0, .int 3]) (rest := [.ref (gad G 31)]) ⟨hx, hb, hml, hown, hts⟩ fx hw (kX6_isIn l G hG hF σ x 0 3) (va_cwS 3 hts gX6_addKart_X6_isIn rfl rfl rfl (by decide +kernel) ⟨Nat.le_of_ble_eq_true rfl, Nat.le_of_ble_eq_true rfl⟩) rfl hl.1 rfl (Nat.le_of_ble_eq_true rfl) dX6_addKart_4 ⟨Nat.zero_le _, Nat.zero_le _⟩ ?_
  intro r_2 σ_3 H locs p_1 hw
  obtain ⟨er_2, eσ_3⟩ := p_1
  have er_2 := er_2.symm; subst er_2
  have eσ_3 := eσ_3.symm; subst eσ_3
  refine lv_b_ne (tgt := 14) hx hb dX6_addKart_7 (by decide) (fun c_4 => ?_) (fun c_4 => ?_)
  · skip
    refine lv_aload_n hx hb dX6_addKart_14 rfl (lv_at hl 0 rfl) ?_
    refine rGet (v := .int (σ 31 6)) (C := RX6) (T := TX6) (N := 26) hx hb fx hown hts hin hw 31 (hF.1 31 (by decide)) rfl rfl 6 (by decide) (hts (.fieldLink RX6 67 "LeaguewheelModel" "started" "I") (by decide +kernel)) (fun _ h9 => h9) rfl dX6_addKart_15 ?_
    refine lv_rep0 (x := (σ 31 6)) (y := nI sd) (by exact hms) ?_
    refine lv_if_gt (tgt := 30) hx hb dX6_addKart_18 (by decide) (fun c_5 => ?_) (fun c_5 => ?_)
    · skip
      have c_5 : 0 < sd := n0_gtt (by omega) c_5
      refine lv_iconst (v := 2) hx hb dX6_addKart_30 (by decide) ?_
      refine lv_goto (tgt := 35) hx hb dX6_addKart_31 (by decide) ?_
      refine lv_rep0 (x := 2) (y := nI 2) rfl ?_
      refine rCallI (C := RX6) (As := [.int (nI 2)]) (rest := []) ⟨hx, hb, hml, hown, hts⟩ fx hw (kX6_fails l G hG hF σ 2 (by omega)) (cwV 1 hts gX6_addKart_X6_fails rfl rfl rfl (by decide +kernel) ⟨Nat.le_of_ble_eq_true rfl, Nat.le_of_ble_eq_true rfl⟩) (hF.1 31 (by decide)) rfl rfl rfl rfl hl.1 rfl (Nat.le_of_ble_eq_true rfl) dX6_addKart_35 ⟨Nat.zero_le _, Nat.zero_le _⟩ ?_
      intro r_7 σ_8 H locs p_6 hw
      obtain ⟨er_7, eσ_8⟩ := p_6
      have er_7 := er_7.symm; subst er_7
      refine lv_b_eq (tgt := 43) hx hb dX6_addKart_38 (by decide) (fun c_9 => ?_) (fun c_9 => ?_)
      · skip
        exact absurd c_9 (by decide)
      · skip
        refine lv_iconst (v := 0) hx hb dX6_addKart_41 (by decide) ?_
        subst eσ_8
        exact rRetI hx hb hr hw (by first | exact Or.inr (Or.inl ⟨by (first | assumption | (simp [c_4]; done) | (simp [c_4, c_5]; done) | (simp [c_4, c_5]; omega)), by rfl⟩) | exact Or.inr (Or.inr ⟨by (first | assumption | (simp [c_4]; done) | (simp [c_4, c_5]; done) | (simp [c_4, c_5]; omega)), by (first | assumption | (simp [c_4]; done) | (simp [c_4, c_5]; done) | (simp [c_4, c_5]; omega)), by rfl⟩)) hlocks dX6_addKart_42
    · skip
      have c_5 : sd = 0 := n0_gtf (by omega) c_5
      refine lv_aload_n hx hb dX6_addKart_21 rfl (lv_at hl 0 rfl) ?_
      refine rGet (v := .int (σ 31 4)) (C := RX6) (T := TX6) (N := 26) hx hb fx hown hts hin hw 31 (hF.1 31 (by decide)) rfl rfl 4 (by decide) (hts (.fieldLink RX6 64 "LeaguewheelModel" "karts" "I") (by decide +kernel)) (fun _ h9 => h9) rfl dX6_addKart_22 ?_
      refine lv_rep0 (x := (σ 31 4)) (y := nI n) (by exact hmn) ?_
      refine lv_bipush (v := 6) hx hb dX6_addKart_25 (by decide) ?_
      refine lv_rep0 (x := 6) (y := nI 6) rfl ?_
      refine lv_icmp_ne (tgt := 34) hx hb dX6_addKart_27 (by decide) (fun c_10 => ?_) (fun c_10 => ?_)
      · skip
        have c_10 : ¬ n = 6 := fun h9 => c_10 ((nI_eq (by omega) (by omega)).mpr h9)
        refine lv_iconst (v := 0) hx hb dX6_addKart_34 (by decide) ?_
        refine lv_rep0 (x := 0) (y := nI 0) rfl ?_
        refine rCallI (C := RX6) (As := [.int (nI 0)]) (rest := []) ⟨hx, hb, hml, hown, hts⟩ fx hw (kX6_fails l G hG hF σ 0 (by omega)) (cwV 1 hts gX6_addKart_X6_fails rfl rfl rfl (by decide +kernel) ⟨Nat.le_of_ble_eq_true rfl, Nat.le_of_ble_eq_true rfl⟩) (hF.1 31 (by decide)) rfl rfl rfl rfl hl.1 rfl (Nat.le_of_ble_eq_true rfl) dX6_addKart_35 ⟨Nat.zero_le _, Nat.zero_le _⟩ ?_
        intro r_12 σ_13 H locs p_11 hw
        obtain ⟨er_12, eσ_13⟩ := p_11
        have er_12 := er_12.symm; subst er_12
        refine lv_b_eq (tgt := 43) hx hb dX6_addKart_38 (by decide) (fun c_14 => ?_) (fun c_14 => ?_)
        · skip
          refine lv_aload_n hx hb dX6_addKart_43 rfl (lv_at hl 0 rfl) ?_
          refine rGet (v := .ref (gad G 34)) (C := RX6) (T := TX6) (N := 26) hx hb fx hown hts hin hw 31 (hF.1 31 (by decide)) rfl rfl 5 (by decide) (hts (.fieldLink RX6 20 "LeaguewheelModel" "team" "[I") (by decide +kernel)) (fun _ h9 => h9) rfl dX6_addKart_44 ?_
          refine lv_aload_n hx hb dX6_addKart_47 rfl (lv_at hl 0 rfl) ?_
          refine rGet (v := .int (σ_13 31 4)) (C := RX6) (T := TX6) (N := 26) hx hb fx hown hts hin hw 31 (hF.1 31 (by decide)) rfl rfl 4 (by decide) (hts (.fieldLink RX6 64 "LeaguewheelModel" "karts" "I") (by decide +kernel)) (fun _ h9 => h9) rfl dX6_addKart_48 ?_
          refine lv_rep0 (x := (σ_13 31 4)) (y := nI n) (by subst_vars; exact hmn) ?_
          refine lv_iload_n hx hb dX6_addKart_51 rfl (lv_at hl 1 rfl) ?_
          refine rAst (x := x) hx hb fx hw 34 (hF.1 34 (by decide)) hF.2.1 (fun _ => rfl) n rfl (by omega) (by decide) dX6_addKart_52 (fun H locs hw => ?_)
          obtain ⟨σ_15, eσ_15⟩ : ∃ w9, w9 = upA σ_13 34 (upd (σ_13 34) n x) := ⟨_, rfl⟩
          rw [← eσ_15] at hw
          refine lv_aload_n hx hb dX6_addKart_53 rfl (lv_at hl 0 rfl) ?_
          refine lv_dup hx hb dX6_addKart_54 rfl ?_
          refine rGet (v := .int (σ_15 31 4)) (C := RX6) (T := TX6) (N := 26) hx hb fx hown hts hin hw 31 (hF.1 31 (by decide)) rfl rfl 4 (by decide) (hts (.fieldLink RX6 64 "LeaguewheelModel" "karts" "I") (by decide +kernel)) (fun _ h9 => h9) rfl dX6_addKart_55 ?_
          refine lv_rep0 (x := (σ_15 31 4)) (y := nI n) (by subst_vars; exact hmn) ?_
          refine lv_iconst (v := 1) hx hb dX6_addKart_58 (by decide) ?_
          refine lv_rep0 (x := 1) (y := nI 1) rfl ?_
          refine lv_iadd hx hb dX6_addKart_59 ?_
          refine lv_rep0 (x := ((nI n) + (nI 1))) (y := nI (n + 1)) (nI_add _ _) ?_
          refine rPut (v := (nI (n + 1))) (ty := .int) (C := RX6) (T := TX6) (N := 26) hx hb fx hown hts hin tyX6 tyX6_ok nmX6 hw 31 (hF.1 31 (by decide)) rfl rfl 4 (by decide) (hts (.fieldLink RX6 64 "LeaguewheelModel" "karts" "I") (by decide +kernel)) (fun _ h9 => h9) rfl (by decide +kernel) rfl rfl (Nat.le_of_ble_eq_true rfl) rfl dX6_addKart_60 (fun H locs hw => ?_)
          obtain ⟨σ_16, eσ_16⟩ : ∃ w9, w9 = upA σ_15 31 (upd (σ_15 31) 4 (nI (n + 1))) := ⟨_, rfl⟩
          rw [← eσ_16] at hw
          refine lv_aload_n hx hb dX6_addKart_63 rfl (lv_at hl 0 rfl) ?_
          refine rGet (v := .int (σ_16 31 4)) (C := RX6) (T := TX6) (N := 26) hx hb fx hown hts hin hw 31 (hF.1 31 (by decide)) rfl rfl 4 (by decide) (hts (.fieldLink RX6 64 "LeaguewheelModel" "karts" "I") (by decide +kernel)) (fun _ h9 => h9) rfl dX6_addKart_64 ?_
          refine lv_rep0 (x := (σ_16 31 4)) (y := nI (n + 1)) (by subst_vars; simp [upA_n, upA_s, upA_upA, upA_self, upd_self, upd_upd, pk_us, bI]) ?_
          refine lv_iconst (v := 1) hx hb dX6_addKart_67 (by decide) ?_
          refine lv_rep0 (x := 1) (y := nI 1) rfl ?_
          refine lv_isub hx hb dX6_addKart_68 ?_
          refine lv_rep0 (x := ((nI (n + 1)) - (nI 1))) (y := nI ((n + 1) - 1)) (pk_sub (by omega)) ?_
          subst eσ_16
          subst eσ_15
          subst eσ_13
          exact rRetI hx hb hr hw (by exact Or.inl ⟨by (first | assumption | (simp [c_4]; done) | (simp [c_4, c_5, c_10]; done) | (simp [c_4, c_5, c_10]; omega)), by (first | assumption | (simp [c_4]; done) | (simp [c_4, c_5, c_10]; done) | (simp [c_4, c_5, c_10]; omega)), by rfl, by simp [thr, upA_n, upA_s, upA_upA, upA_self, upd_self, upd_upd, pk_us, bI]; try rfl⟩) hlocks dX6_addKart_69
        · skip
          exact absurd c_14 (by decide)
      · skip
        have c_10 : n = 6 := (nI_eq (by omega) (by omega)).mp c_10
        refine lv_iconst (v := 2) hx hb dX6_addKart_30 (by decide) ?_
        refine lv_goto (tgt := 35) hx hb dX6_addKart_31 (by decide) ?_
        refine lv_rep0 (x := 2) (y := nI 2) rfl ?_
        refine rCallI (C := RX6) (As := [.int (nI 2)]) (rest := []) ⟨hx, hb, hml, hown, hts⟩ fx hw (kX6_fails l G hG hF σ 2 (by omega)) (cwV 1 hts gX6_addKart_X6_fails rfl rfl rfl (by decide +kernel) ⟨Nat.le_of_ble_eq_true rfl, Nat.le_of_ble_eq_true rfl⟩) (hF.1 31 (by decide)) rfl rfl rfl rfl hl.1 rfl (Nat.le_of_ble_eq_true rfl) dX6_addKart_35 ⟨Nat.zero_le _, Nat.zero_le _⟩ ?_
        intro r_18 σ_19 H locs p_17 hw
        obtain ⟨er_18, eσ_19⟩ := p_17
        have er_18 := er_18.symm; subst er_18
        refine lv_b_eq (tgt := 43) hx hb dX6_addKart_38 (by decide) (fun c_20 => ?_) (fun c_20 => ?_)
        · skip
          exact absurd c_20 (by decide)
        · skip
          refine lv_iconst (v := 0) hx hb dX6_addKart_41 (by decide) ?_
          subst eσ_19
          exact rRetI hx hb hr hw (by first | exact Or.inr (Or.inl ⟨by (first | assumption | (simp [c_4]; done) | (simp [c_4, c_5, c_10]; done) | (simp [c_4, c_5, c_10]; omega)), by rfl⟩) | exact Or.inr (Or.inr ⟨by (first | assumption | (simp [c_4]; done) | (simp [c_4, c_5, c_10]; done) | (simp [c_4, c_5, c_10]; omega)), by (first | assumption | (simp [c_4]; done) | (simp [c_4, c_5, c_10]; done) | (simp [c_4, c_5, c_10]; omega)), by rfl⟩)) hlocks dX6_addKart_42
  · skip
    refine lv_iconst (v := 1) hx hb dX6_addKart_10 (by decide) ?_
    refine lv_goto (tgt := 35) hx hb dX6_addKart_11 (by decide) ?_
    refine lv_rep0 (x := 1) (y := nI 1) rfl ?_
    refine rCallI (C := RX6) (As := [.int (nI 1)]) (rest := []) ⟨hx, hb, hml, hown, hts⟩ fx hw (kX6_fails l G hG hF σ 1 (by omega)) (cwV 1 hts gX6_addKart_X6_fails rfl rfl rfl (by decide +kernel) ⟨Nat.le_of_ble_eq_true rfl, Nat.le_of_ble_eq_true rfl⟩) (hF.1 31 (by decide)) rfl rfl rfl rfl hl.1 rfl (Nat.le_of_ble_eq_true rfl) dX6_addKart_35 ⟨Nat.zero_le _, Nat.zero_le _⟩ ?_
    intro r_22 σ_23 H locs p_21 hw
    obtain ⟨er_22, eσ_23⟩ := p_21
    have er_22 := er_22.symm; subst er_22
    refine lv_b_eq (tgt := 43) hx hb dX6_addKart_38 (by decide) (fun c_24 => ?_) (fun c_24 => ?_)
    · skip
      exact absurd c_24 (by decide)
    · skip
      refine lv_iconst (v := 0) hx hb dX6_addKart_41 (by decide) ?_
      subst eσ_23
      exact rRetI hx hb hr hw (by first | exact Or.inr (Or.inl ⟨by (first | assumption | (simp [c_4]; done) | (simp [c_4]; done) | (simp [c_4]; omega)), by rfl⟩) | exact Or.inr (Or.inr ⟨by (first | assumption | (simp [c_4]; done) | (simp [c_4]; done) | (simp [c_4]; omega)), by (first | assumption | (simp [c_4]; done) | (simp [c_4]; done) | (simp [c_4]; omega)), by rfl⟩)) hlocks dX6_addKart_42

def rmX6_rest : Room := ({ frames := 2, cells := 0, slots := 0, locals := 43 } : Room)
set_option maxHeartbeats 4000000 in
set_option maxRecDepth 100000 in
theorem kX6_rest (l : Launch) (G : Gx) (hG : gOk G) (hF : Full G) (σ : St) (x : Int32) (g n sd e9 z : Nat) (b : Bool) (hMv : MIv σ g n sd b e9 z)  : CtI l yX6_rest wsX6_rest rmX6_rest G σ [.ref (gad G 31), .int x] (fun r σ' => (inB x g = true ∧ r = moA (σ 32) (σ 33) g g (ix x) ∧ σ' = upA (thr σ 0) 33 (moA (σ 32) (σ 33) g g)) ∨ (inB x g = false ∧ σ' = thr σ 1)) := by
  refine bgMet (cc := cX6_rest) (maxL := 2) (ret := (some .int)) (own := RX6) (by decide) rfl rfl hG (Nat.le_of_ble_eq_true rfl) rfl ?_
  intro p e s m args below meth c ls Bd hl
  obtain ⟨hx, hb, hr, hml, hts, hown, hlocks, fx, hw⟩ := Bd
  have hl : lv_has ls 2 [(0, .ref (gad G 31)), (1, .int x)] := hl
  have hin : ∀ w ∈ wsX60, w ∈ wsX6_rest := by decide +kernel
  obtain ⟨⟨hmg, hmg1, hmg2⟩, ⟨hmn, hmn6⟩, ⟨hms, hms8⟩, ⟨hme, hme8⟩, hmo, ⟨hmz, hmz5⟩, hgm, hme9⟩ := id hMv
  refine lv_aload_n hx hb dX6_rest_0 rfl (lv_at hl 0 rfl) ?_
  refine lv_aload_n hx hb dX6_rest_1 rfl (lv_at hl 0 rfl) ?_
  refine lv_iload_n hx hb dX6_rest_2 rfl (lv_at hl 1 rfl) ?_
  refine rCallI (C := RX6) (As := [.int x]) (rest := [.ref (gad G 31)]) ⟨hx, hb, hml, hown, hts⟩ fx hw (kX6_isGate l G hG hF σ x g (by subst_vars; exact hmg) (by omega)) (cwV 1 hts gX6_rest_X6_isGate rfl rfl rfl (by decide +kernel) ⟨Nat.le_of_ble_eq_true rfl, Nat.le_of_ble_eq_true rfl⟩) (hF.1 31 (by decide)) rfl rfl rfl rfl hl.1 rfl (Nat.le_of_ble_eq_true rfl) dX6_rest_3 ⟨Nat.zero_le _, Nat.zero_le _⟩ ?_
  intro r_2 σ_3 H locs p_1 hw
  obtain ⟨er_2, eσ_3⟩ := p_1
  have er_2 := er_2.symm; subst er_2
  have eσ_3 := eσ_3.symm; subst eσ_3
  refine lv_b_eq (tgt := 13) hx hb dX6_rest_6 (by decide) (fun c_4 => ?_) (fun c_4 => ?_)
  · skip
    refine lv_iconst (v := 1) hx hb dX6_rest_13 (by decide) ?_
    refine lv_rep0 (x := 1) (y := nI 1) rfl ?_
    refine rCallI (C := RX6) (As := [.int (nI 1)]) (rest := []) ⟨hx, hb, hml, hown, hts⟩ fx hw (kX6_fails l G hG hF σ 1 (by omega)) (cwV 1 hts gX6_rest_X6_fails rfl rfl rfl (by decide +kernel) ⟨Nat.le_of_ble_eq_true rfl, Nat.le_of_ble_eq_true rfl⟩) (hF.1 31 (by decide)) rfl rfl rfl rfl hl.1 rfl (Nat.le_of_ble_eq_true rfl) dX6_rest_14 ⟨Nat.zero_le _, Nat.zero_le _⟩ ?_
    intro r_6 σ_7 H locs p_5 hw
    obtain ⟨er_6, eσ_7⟩ := p_5
    have er_6 := er_6.symm; subst er_6
    refine lv_b_eq (tgt := 22) hx hb dX6_rest_17 (by decide) (fun c_8 => ?_) (fun c_8 => ?_)
    · skip
      exact absurd c_8 (by decide)
    · skip
      refine lv_iconst (v := 0) hx hb dX6_rest_20 (by decide) ?_
      subst eσ_7
      exact rRetI hx hb hr hw (by first | exact Or.inr ⟨by (first | assumption | (simp [c_4]; done) | (simp [c_4]; done) | (simp [c_4]; omega)), by rfl⟩) hlocks dX6_rest_21
  · skip
    refine lv_iconst (v := 0) hx hb dX6_rest_9 (by decide) ?_
    refine lv_goto (tgt := 14) hx hb dX6_rest_10 (by decide) ?_
    refine lv_rep0 (x := 0) (y := nI 0) rfl ?_
    refine rCallI (C := RX6) (As := [.int (nI 0)]) (rest := []) ⟨hx, hb, hml, hown, hts⟩ fx hw (kX6_fails l G hG hF σ 0 (by omega)) (cwV 1 hts gX6_rest_X6_fails rfl rfl rfl (by decide +kernel) ⟨Nat.le_of_ble_eq_true rfl, Nat.le_of_ble_eq_true rfl⟩) (hF.1 31 (by decide)) rfl rfl rfl rfl hl.1 rfl (Nat.le_of_ble_eq_true rfl) dX6_rest_14 ⟨Nat.zero_le _, Nat.zero_le _⟩ ?_
    intro r_10 σ_11 H locs p_9 hw
    obtain ⟨er_10, eσ_11⟩ := p_9
    have er_10 := er_10.symm; subst er_10
    refine lv_b_eq (tgt := 22) hx hb dX6_rest_17 (by decide) (fun c_12 => ?_) (fun c_12 => ?_)
    · skip
      have hx9 := inB_ix (by omega) c_4
      have q_13 : x = (nI (ix x)) := by exact hx9.1
      have hl : lv_has ls 2 [(0, .ref (gad G 31)), (1, .int (nI (ix x)))] := (lv_c (lv_at hl 0 rfl) (lv_c (lv_atq hl 1 rfl q_13) (lv_c0 hl)))
      refine lv_aload_n hx hb dX6_rest_22 rfl (lv_at hl 0 rfl) ?_
      refine rCallV (C := RX6) (As := []) (rest := []) ⟨hx, hb, hml, hown, hts⟩ fx hw (kX6_finds l G hG hF σ_11 g (by subst_vars; exact hmg) (by omega)) (cwV 0 hts gX6_rest_X6_finds rfl rfl rfl (by decide +kernel) ⟨Nat.le_of_ble_eq_true rfl, Nat.le_of_ble_eq_true rfl⟩) (hF.1 31 (by decide)) rfl rfl rfl rfl hl.1 rfl (Nat.le_of_ble_eq_true rfl) dX6_rest_23 ⟨Nat.zero_le _, Nat.zero_le _⟩ ?_
      intro σ_15 H locs p_14 hw
      have eσ_15 := p_14
      refine lv_aload_n hx hb dX6_rest_26 rfl (lv_at hl 0 rfl) ?_
      refine rGet (v := .ref (gad G 33)) (C := RX6) (T := TX6) (N := 26) hx hb fx hown hts hin hw 31 (hF.1 31 (by decide)) rfl rfl 3 (by decide) (hts (.fieldLink RX6 17 "LeaguewheelModel" "rest" "[I") (by decide +kernel)) (fun _ h9 => h9) rfl dX6_rest_27 ?_
      refine lv_iload_n hx hb dX6_rest_30 rfl (lv_at hl 1 rfl) ?_
      refine rAld hx hb fx hw 33 (hF.1 33 (by decide)) hF.2.1 (fun _ => rfl) (ix x) rfl (by omega) (by decide) dX6_rest_31 ?_
      subst eσ_15
      subst eσ_11
      exact rRetI hx hb hr hw (by exact Or.inl ⟨by (first | assumption | (simp [c_4]; done) | (simp [c_4]; done) | (simp [c_4]; omega)), by simp [thr, upA_n, upA_s, upA_upA, upA_self, upd_self, upd_upd, pk_us, bI], by simp [thr, upA_n, upA_s, upA_upA, upA_self, upd_self, upd_upd, pk_us, bI]⟩) hlocks dX6_rest_32
    · skip
      exact absurd c_12 (by decide)

def rmX6_start : Room := ({ frames := 2, cells := 0, slots := 0, locals := 47 } : Room)
set_option maxHeartbeats 4000000 in
set_option maxRecDepth 100000 in
theorem kX6_start (l : Launch) (G : Gx) (hG : gOk G) (hF : Full G) (σ : St) (x : Int32) (g n sd e9 z : Nat) (b : Bool) (hMv : MIv σ g n sd b e9 z)  : CtI l yX6_start wsX6_start rmX6_start G σ [.ref (gad G 31), .int x] (fun r σ' => (inR x 1 9 = true ∧ (!b && decide (sd < 8) && decide (0 < n) && trkB σ g) = true ∧ r = nI sd ∧ σ' = mbS (msS0 (thr (mtS σ g n sd b) 0) sd x) 6) ∨ (inR x 1 9 = false ∧ σ' = thr (mtS σ g n sd b) 1) ∨ (inR x 1 9 = true ∧ (!b && decide (sd < 8) && decide (0 < n) && trkB σ g) = false ∧ σ' = thr (mtS σ g n sd b) 2)) := by
  refine bgMet (cc := cX6_start) (maxL := 4) (ret := (some .int)) (own := RX6) (by decide) rfl rfl hG (Nat.le_of_ble_eq_true rfl) rfl ?_
  intro p e s m args below meth c ls Bd hl
  obtain ⟨hx, hb, hr, hml, hts, hown, hlocks, fx, hw⟩ := Bd
  have hl : lv_has ls 4 [(0, .ref (gad G 31)), (1, .int x)] := hl
  have hin : ∀ w ∈ wsX60, w ∈ wsX6_start := by decide +kernel
  obtain ⟨⟨hmg, hmg1, hmg2⟩, ⟨hmn, hmn6⟩, ⟨hms, hms8⟩, ⟨hme, hme8⟩, hmo, ⟨hmz, hmz5⟩, hgm, hme9⟩ := id hMv
  refine lv_aload_n hx hb dX6_start_0 rfl (lv_at hl 0 rfl) ?_
  refine rGet (v := .int (σ 31 8)) (C := RX6) (T := TX6) (N := 26) hx hb fx hown hts hin hw 31 (hF.1 31 (by decide)) rfl rfl 8 (by decide) (hts (.fieldLink RX6 87 "LeaguewheelModel" "isOn" "Z") (by decide +kernel)) (fun _ h9 => h9) rfl dX6_start_1 ?_
  refine lv_rep0 (x := (σ 31 8)) (y := (bI b)) (by exact hmo) ?_
  refine lv_b_ne (tgt := 34) hx hb dX6_start_4 (by decide) (fun c_1 => ?_) (fun c_1 => ?_)
  · skip
    refine lv_iconst (v := 0) hx hb dX6_start_34 (by decide) ?_
    refine lv_istore_n (lv' := [(2, .int 0), (0, .ref (gad G 31)), (1, .int x)]) hx hb dX6_start_35 rfl hl (by decide) rfl (fun ls hl => ?_)
    refine lv_aload_n hx hb dX6_start_36 rfl (lv_at hl 1 rfl) ?_
    refine lv_iload_n hx hb dX6_start_37 rfl (lv_at hl 2 rfl) ?_
    refine lv_iconst (v := 1) hx hb dX6_start_38 (by decide) ?_
    refine lv_bipush (v := 9) hx hb dX6_start_39 (by decide) ?_
    refine rCallS (As := [.int x, .int 1, .int 9]) (rest := [.ref (gad G 31)]) ⟨hx, hb, hml, hown, hts⟩ fx hw (kX6_isIn l G hG hF σ x 1 9) (va_cwS 3 hts gX6_start_X6_isIn rfl rfl rfl (by decide +kernel) ⟨Nat.le_of_ble_eq_true rfl, Nat.le_of_ble_eq_true rfl⟩) rfl hl.1 rfl (Nat.le_of_ble_eq_true rfl) dX6_start_41 ⟨Nat.zero_le _, Nat.zero_le _⟩ ?_
    intro r_3 σ_4 H locs p_2 hw
    obtain ⟨er_3, eσ_4⟩ := p_2
    have er_3 := er_3.symm; subst er_3
    have eσ_4 := eσ_4.symm; subst eσ_4
    refine lv_b_ne (tgt := 51) hx hb dX6_start_44 (by decide) (fun c_5 => ?_) (fun c_5 => ?_)
    · skip
      refine lv_iload_n hx hb dX6_start_51 rfl (lv_at hl 0 rfl) ?_
      refine lv_if_eq (tgt := 59) hx hb dX6_start_52 (by decide) (fun c_6 => ?_) (fun c_6 => ?_)
      · skip
        refine lv_iconst (v := 2) hx hb dX6_start_59 (by decide) ?_
        refine lv_rep0 (x := 2) (y := nI 2) rfl ?_
        refine rCallI (C := RX6) (As := [.int (nI 2)]) (rest := []) ⟨hx, hb, hml, hown, hts⟩ fx hw (kX6_fails l G hG hF σ 2 (by omega)) (cwV 1 hts gX6_start_X6_fails rfl rfl rfl (by decide +kernel) ⟨Nat.le_of_ble_eq_true rfl, Nat.le_of_ble_eq_true rfl⟩) (hF.1 31 (by decide)) rfl rfl rfl rfl hl.1 rfl (Nat.le_of_ble_eq_true rfl) dX6_start_60 ⟨Nat.zero_le _, Nat.zero_le _⟩ ?_
        intro r_8 σ_9 H locs p_7 hw
        obtain ⟨er_8, eσ_9⟩ := p_7
        have er_8 := er_8.symm; subst er_8
        refine lv_b_eq (tgt := 68) hx hb dX6_start_63 (by decide) (fun c_10 => ?_) (fun c_10 => ?_)
        · skip
          exact absurd c_10 (by decide)
        · skip
          refine lv_iconst (v := 0) hx hb dX6_start_66 (by decide) ?_
          subst eσ_9
          exact rRetI hx hb hr hw (by first | exact Or.inr (Or.inl ⟨by (first | assumption | (simp [c_1, c_5]; done) | (simp [c_1, c_5]; done) | (simp [c_1, c_5]; omega)), by first | exact congrArg (fun w9 => thr w9 _) (mtS_b c_1).symm | exact congrArg (fun w9 => thr w9 _) (mtS_8 (by assumption)).symm | exact congrArg (fun w9 => thr w9 _) (mtS_0 (by assumption)).symm | exact congrArg (fun w9 => thr w9 _) (mtS_t (by assumption) (by omega) (by omega)).symm⟩) | exact Or.inr (Or.inr ⟨by (first | assumption | (simp [c_1, c_5]; done) | (simp [c_1, c_5]; done) | (simp [c_1, c_5]; omega)), by (first | assumption | (simp [c_1, c_5]; done) | (simp [c_1, c_5]; done) | (simp [c_1, c_5]; omega)), by first | exact congrArg (fun w9 => thr w9 _) (mtS_b c_1).symm | exact congrArg (fun w9 => thr w9 _) (mtS_8 (by assumption)).symm | exact congrArg (fun w9 => thr w9 _) (mtS_0 (by assumption)).symm | exact congrArg (fun w9 => thr w9 _) (mtS_t (by assumption) (by omega) (by omega)).symm⟩)) hlocks dX6_start_67
      · skip
        exact absurd c_6 (by decide)
    · skip
      refine lv_iconst (v := 1) hx hb dX6_start_47 (by decide) ?_
      refine lv_goto (tgt := 60) hx hb dX6_start_48 (by decide) ?_
      refine lv_rep0 (x := 1) (y := nI 1) rfl ?_
      refine rCallI (C := RX6) (As := [.int (nI 1)]) (rest := []) ⟨hx, hb, hml, hown, hts⟩ fx hw (kX6_fails l G hG hF σ 1 (by omega)) (cwV 1 hts gX6_start_X6_fails rfl rfl rfl (by decide +kernel) ⟨Nat.le_of_ble_eq_true rfl, Nat.le_of_ble_eq_true rfl⟩) (hF.1 31 (by decide)) rfl rfl rfl rfl hl.1 rfl (Nat.le_of_ble_eq_true rfl) dX6_start_60 ⟨Nat.zero_le _, Nat.zero_le _⟩ ?_
      intro r_12 σ_13 H locs p_11 hw
      obtain ⟨er_12, eσ_13⟩ := p_11
      have er_12 := er_12.symm; subst er_12
      refine lv_b_eq (tgt := 68) hx hb dX6_start_63 (by decide) (fun c_14 => ?_) (fun c_14 => ?_)
      · skip
        exact absurd c_14 (by decide)
      · skip
        refine lv_iconst (v := 0) hx hb dX6_start_66 (by decide) ?_
        subst eσ_13
        exact rRetI hx hb hr hw (by first | exact Or.inr (Or.inl ⟨by (first | assumption | (simp [c_1, c_5]; done) | (simp [c_1, c_5]; done) | (simp [c_1, c_5]; omega)), by first | exact congrArg (fun w9 => thr w9 _) (mtS_b c_1).symm | exact congrArg (fun w9 => thr w9 _) (mtS_8 (by assumption)).symm | exact congrArg (fun w9 => thr w9 _) (mtS_0 (by assumption)).symm | exact congrArg (fun w9 => thr w9 _) (mtS_t (by assumption) (by omega) (by omega)).symm⟩) | exact Or.inr (Or.inr ⟨by (first | assumption | (simp [c_1, c_5]; done) | (simp [c_1, c_5]; done) | (simp [c_1, c_5]; omega)), by (first | assumption | (simp [c_1, c_5]; done) | (simp [c_1, c_5]; done) | (simp [c_1, c_5]; omega)), by first | exact congrArg (fun w9 => thr w9 _) (mtS_b c_1).symm | exact congrArg (fun w9 => thr w9 _) (mtS_8 (by assumption)).symm | exact congrArg (fun w9 => thr w9 _) (mtS_0 (by assumption)).symm | exact congrArg (fun w9 => thr w9 _) (mtS_t (by assumption) (by omega) (by omega)).symm⟩)) hlocks dX6_start_67
  · skip
    refine lv_aload_n hx hb dX6_start_7 rfl (lv_at hl 0 rfl) ?_
    refine rGet (v := .int (σ 31 6)) (C := RX6) (T := TX6) (N := 26) hx hb fx hown hts hin hw 31 (hF.1 31 (by decide)) rfl rfl 6 (by decide) (hts (.fieldLink RX6 67 "LeaguewheelModel" "started" "I") (by decide +kernel)) (fun _ h9 => h9) rfl dX6_start_8 ?_
    refine lv_rep0 (x := (σ 31 6)) (y := nI sd) (by exact hms) ?_
    refine lv_bipush (v := 8) hx hb dX6_start_11 (by decide) ?_
    refine lv_rep0 (x := 8) (y := nI 8) rfl ?_
    refine lv_icmp_ge (tgt := 34) hx hb dX6_start_13 (by decide) (fun c_15 => ?_) (fun c_15 => ?_)
    · skip
      have c_15 : 8 ≤ sd := (nI_leI (by omega) (by omega)).mp c_15
      refine lv_iconst (v := 0) hx hb dX6_start_34 (by decide) ?_
      refine lv_istore_n (lv' := [(2, .int 0), (0, .ref (gad G 31)), (1, .int x)]) hx hb dX6_start_35 rfl hl (by decide) rfl (fun ls hl => ?_)
      refine lv_aload_n hx hb dX6_start_36 rfl (lv_at hl 1 rfl) ?_
      refine lv_iload_n hx hb dX6_start_37 rfl (lv_at hl 2 rfl) ?_
      refine lv_iconst (v := 1) hx hb dX6_start_38 (by decide) ?_
      refine lv_bipush (v := 9) hx hb dX6_start_39 (by decide) ?_
      refine rCallS (As := [.int x, .int 1, .int 9]) (rest := [.ref (gad G 31)]) ⟨hx, hb, hml, hown, hts⟩ fx hw (kX6_isIn l G hG hF σ x 1 9) (va_cwS 3 hts gX6_start_X6_isIn rfl rfl rfl (by decide +kernel) ⟨Nat.le_of_ble_eq_true rfl, Nat.le_of_ble_eq_true rfl⟩) rfl hl.1 rfl (Nat.le_of_ble_eq_true rfl) dX6_start_41 ⟨Nat.zero_le _, Nat.zero_le _⟩ ?_
      intro r_17 σ_18 H locs p_16 hw
      obtain ⟨er_17, eσ_18⟩ := p_16
      have er_17 := er_17.symm; subst er_17
      have eσ_18 := eσ_18.symm; subst eσ_18
      refine lv_b_ne (tgt := 51) hx hb dX6_start_44 (by decide) (fun c_19 => ?_) (fun c_19 => ?_)
      · skip
        refine lv_iload_n hx hb dX6_start_51 rfl (lv_at hl 0 rfl) ?_
        refine lv_if_eq (tgt := 59) hx hb dX6_start_52 (by decide) (fun c_20 => ?_) (fun c_20 => ?_)
        · skip
          refine lv_iconst (v := 2) hx hb dX6_start_59 (by decide) ?_
          refine lv_rep0 (x := 2) (y := nI 2) rfl ?_
          refine rCallI (C := RX6) (As := [.int (nI 2)]) (rest := []) ⟨hx, hb, hml, hown, hts⟩ fx hw (kX6_fails l G hG hF σ 2 (by omega)) (cwV 1 hts gX6_start_X6_fails rfl rfl rfl (by decide +kernel) ⟨Nat.le_of_ble_eq_true rfl, Nat.le_of_ble_eq_true rfl⟩) (hF.1 31 (by decide)) rfl rfl rfl rfl hl.1 rfl (Nat.le_of_ble_eq_true rfl) dX6_start_60 ⟨Nat.zero_le _, Nat.zero_le _⟩ ?_
          intro r_22 σ_23 H locs p_21 hw
          obtain ⟨er_22, eσ_23⟩ := p_21
          have er_22 := er_22.symm; subst er_22
          refine lv_b_eq (tgt := 68) hx hb dX6_start_63 (by decide) (fun c_24 => ?_) (fun c_24 => ?_)
          · skip
            exact absurd c_24 (by decide)
          · skip
            refine lv_iconst (v := 0) hx hb dX6_start_66 (by decide) ?_
            subst eσ_23
            exact rRetI hx hb hr hw (by first | exact Or.inr (Or.inl ⟨by (first | assumption | (simp [c_1, c_19]; done) | (simp [c_1, c_15, c_19]; done) | (simp [c_1, c_15, c_19]; omega)), by first | exact congrArg (fun w9 => thr w9 _) (mtS_b c_1).symm | exact congrArg (fun w9 => thr w9 _) (mtS_8 (by assumption)).symm | exact congrArg (fun w9 => thr w9 _) (mtS_0 (by assumption)).symm | exact congrArg (fun w9 => thr w9 _) (mtS_t (by assumption) (by omega) (by omega)).symm⟩) | exact Or.inr (Or.inr ⟨by (first | assumption | (simp [c_1, c_19]; done) | (simp [c_1, c_15, c_19]; done) | (simp [c_1, c_15, c_19]; omega)), by (first | assumption | (simp [c_1, c_19]; done) | (simp [c_1, c_15, c_19]; done) | (simp [c_1, c_15, c_19]; omega)), by first | exact congrArg (fun w9 => thr w9 _) (mtS_b c_1).symm | exact congrArg (fun w9 => thr w9 _) (mtS_8 (by assumption)).symm | exact congrArg (fun w9 => thr w9 _) (mtS_0 (by assumption)).symm | exact congrArg (fun w9 => thr w9 _) (mtS_t (by assumption) (by omega) (by omega)).symm⟩)) hlocks dX6_start_67
        · skip
          exact absurd c_20 (by decide)
      · skip
        refine lv_iconst (v := 1) hx hb dX6_start_47 (by decide) ?_
        refine lv_goto (tgt := 60) hx hb dX6_start_48 (by decide) ?_
        refine lv_rep0 (x := 1) (y := nI 1) rfl ?_
        refine rCallI (C := RX6) (As := [.int (nI 1)]) (rest := []) ⟨hx, hb, hml, hown, hts⟩ fx hw (kX6_fails l G hG hF σ 1 (by omega)) (cwV 1 hts gX6_start_X6_fails rfl rfl rfl (by decide +kernel) ⟨Nat.le_of_ble_eq_true rfl, Nat.le_of_ble_eq_true rfl⟩) (hF.1 31 (by decide)) rfl rfl rfl rfl hl.1 rfl (Nat.le_of_ble_eq_true rfl) dX6_start_60 ⟨Nat.zero_le _, Nat.zero_le _⟩ ?_
        intro r_26 σ_27 H locs p_25 hw
        obtain ⟨er_26, eσ_27⟩ := p_25
        have er_26 := er_26.symm; subst er_26
        refine lv_b_eq (tgt := 68) hx hb dX6_start_63 (by decide) (fun c_28 => ?_) (fun c_28 => ?_)
        · skip
          exact absurd c_28 (by decide)
        · skip
          refine lv_iconst (v := 0) hx hb dX6_start_66 (by decide) ?_
          subst eσ_27
          exact rRetI hx hb hr hw (by first | exact Or.inr (Or.inl ⟨by (first | assumption | (simp [c_1, c_19]; done) | (simp [c_1, c_15, c_19]; done) | (simp [c_1, c_15, c_19]; omega)), by first | exact congrArg (fun w9 => thr w9 _) (mtS_b c_1).symm | exact congrArg (fun w9 => thr w9 _) (mtS_8 (by assumption)).symm | exact congrArg (fun w9 => thr w9 _) (mtS_0 (by assumption)).symm | exact congrArg (fun w9 => thr w9 _) (mtS_t (by assumption) (by omega) (by omega)).symm⟩) | exact Or.inr (Or.inr ⟨by (first | assumption | (simp [c_1, c_19]; done) | (simp [c_1, c_15, c_19]; done) | (simp [c_1, c_15, c_19]; omega)), by (first | assumption | (simp [c_1, c_19]; done) | (simp [c_1, c_15, c_19]; done) | (simp [c_1, c_15, c_19]; omega)), by first | exact congrArg (fun w9 => thr w9 _) (mtS_b c_1).symm | exact congrArg (fun w9 => thr w9 _) (mtS_8 (by assumption)).symm | exact congrArg (fun w9 => thr w9 _) (mtS_0 (by assumption)).symm | exact congrArg (fun w9 => thr w9 _) (mtS_t (by assumption) (by omega) (by omega)).symm⟩)) hlocks dX6_start_67
    · skip
      have c_15 : ¬ 8 ≤ sd := fun h9 => c_15 ((nI_leI (by omega) (by omega)).mpr h9)
      refine lv_aload_n hx hb dX6_start_16 rfl (lv_at hl 0 rfl) ?_
      refine rGet (v := .int (σ 31 4)) (C := RX6) (T := TX6) (N := 26) hx hb fx hown hts hin hw 31 (hF.1 31 (by decide)) rfl rfl 4 (by decide) (hts (.fieldLink RX6 64 "LeaguewheelModel" "karts" "I") (by decide +kernel)) (fun _ h9 => h9) rfl dX6_start_17 ?_
      refine lv_rep0 (x := (σ 31 4)) (y := nI n) (by exact hmn) ?_
      refine lv_if_le (tgt := 34) hx hb dX6_start_20 (by decide) (fun c_29 => ?_) (fun c_29 => ?_)
      · skip
        have c_29 : n = 0 := n0_let (by omega) c_29
        refine lv_iconst (v := 0) hx hb dX6_start_34 (by decide) ?_
        refine lv_istore_n (lv' := [(2, .int 0), (0, .ref (gad G 31)), (1, .int x)]) hx hb dX6_start_35 rfl hl (by decide) rfl (fun ls hl => ?_)
        refine lv_aload_n hx hb dX6_start_36 rfl (lv_at hl 1 rfl) ?_
        refine lv_iload_n hx hb dX6_start_37 rfl (lv_at hl 2 rfl) ?_
        refine lv_iconst (v := 1) hx hb dX6_start_38 (by decide) ?_
        refine lv_bipush (v := 9) hx hb dX6_start_39 (by decide) ?_
        refine rCallS (As := [.int x, .int 1, .int 9]) (rest := [.ref (gad G 31)]) ⟨hx, hb, hml, hown, hts⟩ fx hw (kX6_isIn l G hG hF σ x 1 9) (va_cwS 3 hts gX6_start_X6_isIn rfl rfl rfl (by decide +kernel) ⟨Nat.le_of_ble_eq_true rfl, Nat.le_of_ble_eq_true rfl⟩) rfl hl.1 rfl (Nat.le_of_ble_eq_true rfl) dX6_start_41 ⟨Nat.zero_le _, Nat.zero_le _⟩ ?_
        intro r_31 σ_32 H locs p_30 hw
        obtain ⟨er_31, eσ_32⟩ := p_30
        have er_31 := er_31.symm; subst er_31
        have eσ_32 := eσ_32.symm; subst eσ_32
        refine lv_b_ne (tgt := 51) hx hb dX6_start_44 (by decide) (fun c_33 => ?_) (fun c_33 => ?_)
        · skip
          refine lv_iload_n hx hb dX6_start_51 rfl (lv_at hl 0 rfl) ?_
          refine lv_if_eq (tgt := 59) hx hb dX6_start_52 (by decide) (fun c_34 => ?_) (fun c_34 => ?_)
          · skip
            refine lv_iconst (v := 2) hx hb dX6_start_59 (by decide) ?_
            refine lv_rep0 (x := 2) (y := nI 2) rfl ?_
            refine rCallI (C := RX6) (As := [.int (nI 2)]) (rest := []) ⟨hx, hb, hml, hown, hts⟩ fx hw (kX6_fails l G hG hF σ 2 (by omega)) (cwV 1 hts gX6_start_X6_fails rfl rfl rfl (by decide +kernel) ⟨Nat.le_of_ble_eq_true rfl, Nat.le_of_ble_eq_true rfl⟩) (hF.1 31 (by decide)) rfl rfl rfl rfl hl.1 rfl (Nat.le_of_ble_eq_true rfl) dX6_start_60 ⟨Nat.zero_le _, Nat.zero_le _⟩ ?_
            intro r_36 σ_37 H locs p_35 hw
            obtain ⟨er_36, eσ_37⟩ := p_35
            have er_36 := er_36.symm; subst er_36
            refine lv_b_eq (tgt := 68) hx hb dX6_start_63 (by decide) (fun c_38 => ?_) (fun c_38 => ?_)
            · skip
              exact absurd c_38 (by decide)
            · skip
              refine lv_iconst (v := 0) hx hb dX6_start_66 (by decide) ?_
              subst eσ_37
              exact rRetI hx hb hr hw (by first | exact Or.inr (Or.inl ⟨by (first | assumption | (simp [c_1, c_33]; done) | (simp [c_1, c_15, c_29, c_33]; done) | (simp [c_1, c_15, c_29, c_33]; omega)), by first | exact congrArg (fun w9 => thr w9 _) (mtS_b c_1).symm | exact congrArg (fun w9 => thr w9 _) (mtS_8 (by assumption)).symm | exact congrArg (fun w9 => thr w9 _) (mtS_0 (by assumption)).symm | exact congrArg (fun w9 => thr w9 _) (mtS_t (by assumption) (by omega) (by omega)).symm⟩) | exact Or.inr (Or.inr ⟨by (first | assumption | (simp [c_1, c_33]; done) | (simp [c_1, c_15, c_29, c_33]; done) | (simp [c_1, c_15, c_29, c_33]; omega)), by (first | assumption | (simp [c_1, c_33]; done) | (simp [c_1, c_15, c_29, c_33]; done) | (simp [c_1, c_15, c_29, c_33]; omega)), by first | exact congrArg (fun w9 => thr w9 _) (mtS_b c_1).symm | exact congrArg (fun w9 => thr w9 _) (mtS_8 (by assumption)).symm | exact congrArg (fun w9 => thr w9 _) (mtS_0 (by assumption)).symm | exact congrArg (fun w9 => thr w9 _) (mtS_t (by assumption) (by omega) (by omega)).symm⟩)) hlocks dX6_start_67
          · skip
            exact absurd c_34 (by decide)
        · skip
          refine lv_iconst (v := 1) hx hb dX6_start_47 (by decide) ?_
          refine lv_goto (tgt := 60) hx hb dX6_start_48 (by decide) ?_
          refine lv_rep0 (x := 1) (y := nI 1) rfl ?_
          refine rCallI (C := RX6) (As := [.int (nI 1)]) (rest := []) ⟨hx, hb, hml, hown, hts⟩ fx hw (kX6_fails l G hG hF σ 1 (by omega)) (cwV 1 hts gX6_start_X6_fails rfl rfl rfl (by decide +kernel) ⟨Nat.le_of_ble_eq_true rfl, Nat.le_of_ble_eq_true rfl⟩) (hF.1 31 (by decide)) rfl rfl rfl rfl hl.1 rfl (Nat.le_of_ble_eq_true rfl) dX6_start_60 ⟨Nat.zero_le _, Nat.zero_le _⟩ ?_
          intro r_40 σ_41 H locs p_39 hw
          obtain ⟨er_40, eσ_41⟩ := p_39
          have er_40 := er_40.symm; subst er_40
          refine lv_b_eq (tgt := 68) hx hb dX6_start_63 (by decide) (fun c_42 => ?_) (fun c_42 => ?_)
          · skip
            exact absurd c_42 (by decide)
          · skip
            refine lv_iconst (v := 0) hx hb dX6_start_66 (by decide) ?_
            subst eσ_41
            exact rRetI hx hb hr hw (by first | exact Or.inr (Or.inl ⟨by (first | assumption | (simp [c_1, c_33]; done) | (simp [c_1, c_15, c_29, c_33]; done) | (simp [c_1, c_15, c_29, c_33]; omega)), by first | exact congrArg (fun w9 => thr w9 _) (mtS_b c_1).symm | exact congrArg (fun w9 => thr w9 _) (mtS_8 (by assumption)).symm | exact congrArg (fun w9 => thr w9 _) (mtS_0 (by assumption)).symm | exact congrArg (fun w9 => thr w9 _) (mtS_t (by assumption) (by omega) (by omega)).symm⟩) | exact Or.inr (Or.inr ⟨by (first | assumption | (simp [c_1, c_33]; done) | (simp [c_1, c_15, c_29, c_33]; done) | (simp [c_1, c_15, c_29, c_33]; omega)), by (first | assumption | (simp [c_1, c_33]; done) | (simp [c_1, c_15, c_29, c_33]; done) | (simp [c_1, c_15, c_29, c_33]; omega)), by first | exact congrArg (fun w9 => thr w9 _) (mtS_b c_1).symm | exact congrArg (fun w9 => thr w9 _) (mtS_8 (by assumption)).symm | exact congrArg (fun w9 => thr w9 _) (mtS_0 (by assumption)).symm | exact congrArg (fun w9 => thr w9 _) (mtS_t (by assumption) (by omega) (by omega)).symm⟩)) hlocks dX6_start_67
      · skip
        have c_29 : 0 < n := n0_lef (by omega) c_29
        refine lv_aload_n hx hb dX6_start_23 rfl (lv_at hl 0 rfl) ?_
        refine rCallI (C := RX6) (As := []) (rest := []) ⟨hx, hb, hml, hown, hts⟩ fx hw (kX6_isTrack l G hG hF σ g (by subst_vars; exact hmg) (by omega)) (cwV 0 hts gX6_start_X6_isTrack rfl rfl rfl (by decide +kernel) ⟨Nat.le_of_ble_eq_true rfl, Nat.le_of_ble_eq_true rfl⟩) (hF.1 31 (by decide)) rfl rfl rfl rfl hl.1 rfl (Nat.le_of_ble_eq_true rfl) dX6_start_24 ⟨Nat.zero_le _, Nat.zero_le _⟩ ?_
        intro r_44 σ_45 H locs p_43 hw
        obtain ⟨er_44, eσ_45⟩ := p_43
        have er_44 := er_44.symm; subst er_44
        refine lv_b_eq (tgt := 34) hx hb dX6_start_27 (by decide) (fun c_46 => ?_) (fun c_46 => ?_)
        · skip
          refine lv_iconst (v := 0) hx hb dX6_start_34 (by decide) ?_
          refine lv_istore_n (lv' := [(2, .int 0), (0, .ref (gad G 31)), (1, .int x)]) hx hb dX6_start_35 rfl hl (by decide) rfl (fun ls hl => ?_)
          refine lv_aload_n hx hb dX6_start_36 rfl (lv_at hl 1 rfl) ?_
          refine lv_iload_n hx hb dX6_start_37 rfl (lv_at hl 2 rfl) ?_
          refine lv_iconst (v := 1) hx hb dX6_start_38 (by decide) ?_
          refine lv_bipush (v := 9) hx hb dX6_start_39 (by decide) ?_
          refine rCallS (As := [.int x, .int 1, .int 9]) (rest := [.ref (gad G 31)]) ⟨hx, hb, hml, hown, hts⟩ fx hw (kX6_isIn l G hG hF σ_45 x 1 9) (va_cwS 3 hts gX6_start_X6_isIn rfl rfl rfl (by decide +kernel) ⟨Nat.le_of_ble_eq_true rfl, Nat.le_of_ble_eq_true rfl⟩) rfl hl.1 rfl (Nat.le_of_ble_eq_true rfl) dX6_start_41 ⟨Nat.zero_le _, Nat.zero_le _⟩ ?_
          intro r_48 σ_49 H locs p_47 hw
          obtain ⟨er_48, eσ_49⟩ := p_47
          have er_48 := er_48.symm; subst er_48
          have eσ_49 := eσ_49.symm; subst eσ_49
          refine lv_b_ne (tgt := 51) hx hb dX6_start_44 (by decide) (fun c_50 => ?_) (fun c_50 => ?_)
          · skip
            refine lv_iload_n hx hb dX6_start_51 rfl (lv_at hl 0 rfl) ?_
            refine lv_if_eq (tgt := 59) hx hb dX6_start_52 (by decide) (fun c_51 => ?_) (fun c_51 => ?_)
            · skip
              refine lv_iconst (v := 2) hx hb dX6_start_59 (by decide) ?_
              refine lv_rep0 (x := 2) (y := nI 2) rfl ?_
              refine rCallI (C := RX6) (As := [.int (nI 2)]) (rest := []) ⟨hx, hb, hml, hown, hts⟩ fx hw (kX6_fails l G hG hF σ_45 2 (by omega)) (cwV 1 hts gX6_start_X6_fails rfl rfl rfl (by decide +kernel) ⟨Nat.le_of_ble_eq_true rfl, Nat.le_of_ble_eq_true rfl⟩) (hF.1 31 (by decide)) rfl rfl rfl rfl hl.1 rfl (Nat.le_of_ble_eq_true rfl) dX6_start_60 ⟨Nat.zero_le _, Nat.zero_le _⟩ ?_
              intro r_53 σ_54 H locs p_52 hw
              obtain ⟨er_53, eσ_54⟩ := p_52
              have er_53 := er_53.symm; subst er_53
              refine lv_b_eq (tgt := 68) hx hb dX6_start_63 (by decide) (fun c_55 => ?_) (fun c_55 => ?_)
              · skip
                exact absurd c_55 (by decide)
              · skip
                refine lv_iconst (v := 0) hx hb dX6_start_66 (by decide) ?_
                subst eσ_54
                subst eσ_45
                exact rRetI hx hb hr hw (by first | exact Or.inr (Or.inl ⟨by (first | assumption | (simp [c_1, c_46, c_50]; done) | (simp [c_1, c_15, c_29, c_46, c_50]; done) | (simp [c_1, c_15, c_29, c_46, c_50]; omega)), by first | exact congrArg (fun w9 => thr w9 _) (mtS_b c_1).symm | exact congrArg (fun w9 => thr w9 _) (mtS_8 (by assumption)).symm | exact congrArg (fun w9 => thr w9 _) (mtS_0 (by assumption)).symm | exact congrArg (fun w9 => thr w9 _) (mtS_t (by assumption) (by omega) (by omega)).symm⟩) | exact Or.inr (Or.inr ⟨by (first | assumption | (simp [c_1, c_46, c_50]; done) | (simp [c_1, c_15, c_29, c_46, c_50]; done) | (simp [c_1, c_15, c_29, c_46, c_50]; omega)), by (first | assumption | (simp [c_1, c_46, c_50]; done) | (simp [c_1, c_15, c_29, c_46, c_50]; done) | (simp [c_1, c_15, c_29, c_46, c_50]; omega)), by first | exact congrArg (fun w9 => thr w9 _) (mtS_b c_1).symm | exact congrArg (fun w9 => thr w9 _) (mtS_8 (by assumption)).symm | exact congrArg (fun w9 => thr w9 _) (mtS_0 (by assumption)).symm | exact congrArg (fun w9 => thr w9 _) (mtS_t (by assumption) (by omega) (by omega)).symm⟩)) hlocks dX6_start_67
            · skip
              exact absurd c_51 (by decide)
          · skip
            refine lv_iconst (v := 1) hx hb dX6_start_47 (by decide) ?_
            refine lv_goto (tgt := 60) hx hb dX6_start_48 (by decide) ?_
            refine lv_rep0 (x := 1) (y := nI 1) rfl ?_
            refine rCallI (C := RX6) (As := [.int (nI 1)]) (rest := []) ⟨hx, hb, hml, hown, hts⟩ fx hw (kX6_fails l G hG hF σ_45 1 (by omega)) (cwV 1 hts gX6_start_X6_fails rfl rfl rfl (by decide +kernel) ⟨Nat.le_of_ble_eq_true rfl, Nat.le_of_ble_eq_true rfl⟩) (hF.1 31 (by decide)) rfl rfl rfl rfl hl.1 rfl (Nat.le_of_ble_eq_true rfl) dX6_start_60 ⟨Nat.zero_le _, Nat.zero_le _⟩ ?_
            intro r_57 σ_58 H locs p_56 hw
            obtain ⟨er_57, eσ_58⟩ := p_56
            have er_57 := er_57.symm; subst er_57
            refine lv_b_eq (tgt := 68) hx hb dX6_start_63 (by decide) (fun c_59 => ?_) (fun c_59 => ?_)
            · skip
              exact absurd c_59 (by decide)
            · skip
              refine lv_iconst (v := 0) hx hb dX6_start_66 (by decide) ?_
              subst eσ_58
              subst eσ_45
              exact rRetI hx hb hr hw (by first | exact Or.inr (Or.inl ⟨by (first | assumption | (simp [c_1, c_46, c_50]; done) | (simp [c_1, c_15, c_29, c_46, c_50]; done) | (simp [c_1, c_15, c_29, c_46, c_50]; omega)), by first | exact congrArg (fun w9 => thr w9 _) (mtS_b c_1).symm | exact congrArg (fun w9 => thr w9 _) (mtS_8 (by assumption)).symm | exact congrArg (fun w9 => thr w9 _) (mtS_0 (by assumption)).symm | exact congrArg (fun w9 => thr w9 _) (mtS_t (by assumption) (by omega) (by omega)).symm⟩) | exact Or.inr (Or.inr ⟨by (first | assumption | (simp [c_1, c_46, c_50]; done) | (simp [c_1, c_15, c_29, c_46, c_50]; done) | (simp [c_1, c_15, c_29, c_46, c_50]; omega)), by (first | assumption | (simp [c_1, c_46, c_50]; done) | (simp [c_1, c_15, c_29, c_46, c_50]; done) | (simp [c_1, c_15, c_29, c_46, c_50]; omega)), by first | exact congrArg (fun w9 => thr w9 _) (mtS_b c_1).symm | exact congrArg (fun w9 => thr w9 _) (mtS_8 (by assumption)).symm | exact congrArg (fun w9 => thr w9 _) (mtS_0 (by assumption)).symm | exact congrArg (fun w9 => thr w9 _) (mtS_t (by assumption) (by omega) (by omega)).symm⟩)) hlocks dX6_start_67
        · skip
          refine lv_iconst (v := 1) hx hb dX6_start_30 (by decide) ?_
          refine lv_goto (tgt := 35) hx hb dX6_start_31 (by decide) ?_
          refine lv_istore_n (lv' := [(2, .int 1), (0, .ref (gad G 31)), (1, .int x)]) hx hb dX6_start_35 rfl hl (by decide) rfl (fun ls hl => ?_)
          refine lv_aload_n hx hb dX6_start_36 rfl (lv_at hl 1 rfl) ?_
          refine lv_iload_n hx hb dX6_start_37 rfl (lv_at hl 2 rfl) ?_
          refine lv_iconst (v := 1) hx hb dX6_start_38 (by decide) ?_
          refine lv_bipush (v := 9) hx hb dX6_start_39 (by decide) ?_
          refine rCallS (As := [.int x, .int 1, .int 9]) (rest := [.ref (gad G 31)]) ⟨hx, hb, hml, hown, hts⟩ fx hw (kX6_isIn l G hG hF σ_45 x 1 9) (va_cwS 3 hts gX6_start_X6_isIn rfl rfl rfl (by decide +kernel) ⟨Nat.le_of_ble_eq_true rfl, Nat.le_of_ble_eq_true rfl⟩) rfl hl.1 rfl (Nat.le_of_ble_eq_true rfl) dX6_start_41 ⟨Nat.zero_le _, Nat.zero_le _⟩ ?_
          intro r_61 σ_62 H locs p_60 hw
          obtain ⟨er_61, eσ_62⟩ := p_60
          have er_61 := er_61.symm; subst er_61
          have eσ_62 := eσ_62.symm; subst eσ_62
          refine lv_b_ne (tgt := 51) hx hb dX6_start_44 (by decide) (fun c_63 => ?_) (fun c_63 => ?_)
          · skip
            refine lv_iload_n hx hb dX6_start_51 rfl (lv_at hl 0 rfl) ?_
            refine lv_if_eq (tgt := 59) hx hb dX6_start_52 (by decide) (fun c_64 => ?_) (fun c_64 => ?_)
            · skip
              exact absurd c_64 (by decide)
            · skip
              refine lv_iconst (v := 0) hx hb dX6_start_55 (by decide) ?_
              refine lv_goto (tgt := 60) hx hb dX6_start_56 (by decide) ?_
              refine lv_rep0 (x := 0) (y := nI 0) rfl ?_
              refine rCallI (C := RX6) (As := [.int (nI 0)]) (rest := []) ⟨hx, hb, hml, hown, hts⟩ fx hw (kX6_fails l G hG hF σ_45 0 (by omega)) (cwV 1 hts gX6_start_X6_fails rfl rfl rfl (by decide +kernel) ⟨Nat.le_of_ble_eq_true rfl, Nat.le_of_ble_eq_true rfl⟩) (hF.1 31 (by decide)) rfl rfl rfl rfl hl.1 rfl (Nat.le_of_ble_eq_true rfl) dX6_start_60 ⟨Nat.zero_le _, Nat.zero_le _⟩ ?_
              intro r_66 σ_67 H locs p_65 hw
              obtain ⟨er_66, eσ_67⟩ := p_65
              have er_66 := er_66.symm; subst er_66
              refine lv_b_eq (tgt := 68) hx hb dX6_start_63 (by decide) (fun c_68 => ?_) (fun c_68 => ?_)
              · skip
                refine lv_aload_n hx hb dX6_start_68 rfl (lv_at hl 1 rfl) ?_
                refine lv_iload_n hx hb dX6_start_69 rfl (lv_at hl 2 rfl) ?_
                refine rPut (v := x) (ty := .int) (C := RX6) (T := TX6) (N := 26) hx hb fx hown hts hin tyX6 tyX6_ok nmX6 hw 31 (hF.1 31 (by decide)) rfl rfl 9 (by decide) (hts (.fieldLink RX6 95 "LeaguewheelModel" "laps" "I") (by decide +kernel)) (fun _ h9 => h9) rfl (by decide +kernel) rfl rfl (Nat.le_of_ble_eq_true rfl) rfl dX6_start_70 (fun H locs hw => ?_)
                obtain ⟨σ_69, eσ_69⟩ : ∃ w9, w9 = upA σ_67 31 (upd (σ_67 31) 9 x) := ⟨_, rfl⟩
                rw [← eσ_69] at hw
                refine lv_aload_n hx hb dX6_start_73 rfl (lv_at hl 1 rfl) ?_
                refine lv_iconst (v := 1) hx hb dX6_start_74 (by decide) ?_
                refine rPut (v := 1) (ty := .boolean) (C := RX6) (T := TX6) (N := 26) hx hb fx hown hts hin tyX6 tyX6_ok nmX6 hw 31 (hF.1 31 (by decide)) rfl rfl 8 (by decide) (hts (.fieldLink RX6 87 "LeaguewheelModel" "isOn" "Z") (by decide +kernel)) (fun _ h9 => h9) rfl (by decide +kernel) (by decide) rfl (Nat.le_of_ble_eq_true rfl) rfl dX6_start_75 (fun H locs hw => ?_)
                obtain ⟨σ_70, eσ_70⟩ : ∃ w9, w9 = upA σ_69 31 (upd (σ_69 31) 8 1) := ⟨_, rfl⟩
                rw [← eσ_70] at hw
                refine lv_aload_n hx hb dX6_start_78 rfl (lv_at hl 1 rfl) ?_
                refine lv_dup hx hb dX6_start_79 rfl ?_
                refine rGet (v := .int (σ_70 31 6)) (C := RX6) (T := TX6) (N := 26) hx hb fx hown hts hin hw 31 (hF.1 31 (by decide)) rfl rfl 6 (by decide) (hts (.fieldLink RX6 67 "LeaguewheelModel" "started" "I") (by decide +kernel)) (fun _ h9 => h9) rfl dX6_start_80 ?_
                refine lv_rep0 (x := (σ_70 31 6)) (y := nI sd) (by subst_vars; exact hms) ?_
                refine lv_iconst (v := 1) hx hb dX6_start_83 (by decide) ?_
                refine lv_rep0 (x := 1) (y := nI 1) rfl ?_
                refine lv_iadd hx hb dX6_start_84 ?_
                refine lv_rep0 (x := ((nI sd) + (nI 1))) (y := nI (sd + 1)) (nI_add _ _) ?_
                refine rPut (v := (nI (sd + 1))) (ty := .int) (C := RX6) (T := TX6) (N := 26) hx hb fx hown hts hin tyX6 tyX6_ok nmX6 hw 31 (hF.1 31 (by decide)) rfl rfl 6 (by decide) (hts (.fieldLink RX6 67 "LeaguewheelModel" "started" "I") (by decide +kernel)) (fun _ h9 => h9) rfl (by decide +kernel) rfl rfl (Nat.le_of_ble_eq_true rfl) rfl dX6_start_85 (fun H locs hw => ?_)
                obtain ⟨σ_71, eσ_71⟩ : ∃ w9, w9 = upA σ_70 31 (upd (σ_70 31) 6 (nI (sd + 1))) := ⟨_, rfl⟩
                rw [← eσ_71] at hw
                refine lv_aload_n hx hb dX6_start_88 rfl (lv_at hl 1 rfl) ?_
                refine lv_iconst (v := 0) hx hb dX6_start_89 (by decide) ?_
                refine rPut (v := 0) (ty := .int) (C := RX6) (T := TX6) (N := 26) hx hb fx hown hts hin tyX6 tyX6_ok nmX6 hw 31 (hF.1 31 (by decide)) rfl rfl 11 (by decide) (hts (.fieldLink RX6 98 "LeaguewheelModel" "passings" "I") (by decide +kernel)) (fun _ h9 => h9) rfl (by decide +kernel) rfl rfl (Nat.le_of_ble_eq_true rfl) rfl dX6_start_90 (fun H locs hw => ?_)
                obtain ⟨σ_72, eσ_72⟩ : ∃ w9, w9 = upA σ_71 31 (upd (σ_71 31) 11 0) := ⟨_, rfl⟩
                rw [← eσ_72] at hw
                refine lv_iconst (v := 0) hx hb dX6_start_93 (by decide) ?_
                refine lv_istore_n (lv' := [(3, .int 0), (2, .int 1), (0, .ref (gad G 31)), (1, .int x)]) hx hb dX6_start_94 rfl hl (by decide) rfl (fun ls hl => ?_)
                have lab_95 : ∀ (n9 : Nat), ∀ (i : Nat), 6 - i < n9 → i ≤ 6 → ∀ (H : Heap) (locs : List Loc) (ls : Array Slot), Wd G s (mbS (msS0 (thr (upA σ 33 (moA (σ 32) (σ 33) g g)) 0) sd x) i) H locs → lv_has ls 4 [(0, .ref (gad G 31)), (3, .int (nI i))] → W p l e rmX6_start s m args below meth c H locs 0 0 (MQ below (va_Qi (fun r σ' => (inR x 1 9 = true ∧ (!b && decide (sd < 8) && decide (0 < n) && trkB σ g) = true ∧ r = nI sd ∧ σ' = mbS (msS0 (thr (mtS σ g n sd b) 0) sd x) 6) ∨ (inR x 1 9 = false ∧ σ' = thr (mtS σ g n sd b) 1) ∨ (inR x 1 9 = true ∧ (!b && decide (sd < 8) && decide (0 < n) && trkB σ g) = false ∧ σ' = thr (mtS σ g n sd b) 2)) (BW G) (gA G)) args s 0 0 (gA G)) (F0 m 95 ls []) := by
                  intro n9
                  induction n9 with
                  | zero => intro i hn9; exact absurd hn9 (Nat.not_lt_zero _)
                  | succ n9 ih95 =>
                    intro i hn9 h95_0 H locs ls hw hl
                    obtain ⟨σ_73, eσ_73⟩ : ∃ w9, w9 = mbS (msS0 (thr (upA σ 33 (moA (σ 32) (σ 33) g g)) 0) sd x) i := ⟨_, rfl⟩
                    rw [← eσ_73] at hw
                    refine lv_iload_n hx hb dX6_start_95 rfl (lv_at hl 1 rfl) ?_
                    refine lv_bipush (v := 6) hx hb dX6_start_96 (by decide) ?_
                    refine lv_rep0 (x := 6) (y := nI 6) rfl ?_
                    refine lv_icmp_ge (tgt := 170) hx hb dX6_start_98 (by decide) (fun c_74 => ?_) (fun c_74 => ?_)
                    · skip
                      have c_74 : 6 ≤ i := (nI_leI (by omega) (by omega)).mp c_74
                      refine lv_aload_n hx hb dX6_start_170 rfl (lv_at hl 0 rfl) ?_
                      refine rGet (v := .int (σ_73 31 6)) (C := RX6) (T := TX6) (N := 26) hx hb fx hown hts hin hw 31 (hF.1 31 (by decide)) rfl rfl 6 (by decide) (hts (.fieldLink RX6 67 "LeaguewheelModel" "started" "I") (by decide +kernel)) (fun _ h9 => h9) rfl dX6_start_171 ?_
                      refine lv_rep0 (x := (σ_73 31 6)) (y := nI (sd + 1)) (by subst_vars; rw [mbS_o (by decide)]; simp [msS0, upA_n, upA_s, upA_upA, upA_self, upd_self, upd_upd, pk_us, bI]; rfl) ?_
                      refine lv_iconst (v := 1) hx hb dX6_start_174 (by decide) ?_
                      refine lv_rep0 (x := 1) (y := nI 1) rfl ?_
                      refine lv_isub hx hb dX6_start_175 ?_
                      refine lv_rep0 (x := ((nI (sd + 1)) - (nI 1))) (y := nI ((sd + 1) - 1)) (pk_sub (by omega)) ?_
                      subst eσ_73
                      exact rRetI hx hb hr hw (by exact Or.inl ⟨by (first | assumption | (simp [c_1, c_46, c_63]; done) | (simp [c_1, c_15, c_29, c_46, c_63, c_74]; done) | (simp [c_1, c_15, c_29, c_46, c_63, c_74]; omega)), by (first | assumption | (simp [c_1, c_46, c_63]; done) | (simp [c_1, c_15, c_29, c_46, c_63, c_74]; done) | (simp [c_1, c_15, c_29, c_46, c_63, c_74]; omega)), by rfl, by rw [show 6 = i by omega, mtS_t (by assumption) (by omega) (by omega)]⟩) hlocks dX6_start_176
                    · skip
                      have c_74 : ¬ 6 ≤ i := fun h9 => c_74 ((nI_leI (by omega) (by omega)).mpr h9)
                      refine lv_aload_n hx hb dX6_start_101 rfl (lv_at hl 0 rfl) ?_
                      refine rGet (v := .ref (gad G 35)) (C := RX6) (T := TX6) (N := 26) hx hb fx hown hts hin hw 31 (hF.1 31 (by decide)) rfl rfl 13 (by decide) (hts (.fieldLink RX6 23 "LeaguewheelModel" "gate" "[I") (by decide +kernel)) (fun _ h9 => h9) rfl dX6_start_102 ?_
                      refine lv_iload_n hx hb dX6_start_105 rfl (lv_at hl 1 rfl) ?_
                      refine lv_iconst (v := 0) hx hb dX6_start_106 (by decide) ?_
                      refine rAst (x := 0) hx hb fx hw 35 (hF.1 35 (by decide)) hF.2.1 (fun _ => rfl) i rfl (by omega) (by decide) dX6_start_107 (fun H locs hw => ?_)
                      obtain ⟨σ_75, eσ_75⟩ : ∃ w9, w9 = upA σ_73 35 (upd (σ_73 35) i 0) := ⟨_, rfl⟩
                      rw [← eσ_75] at hw
                      refine lv_aload_n hx hb dX6_start_108 rfl (lv_at hl 0 rfl) ?_
                      refine rGet (v := .ref (gad G 36)) (C := RX6) (T := TX6) (N := 26) hx hb fx hown hts hin hw 31 (hF.1 31 (by decide)) rfl rfl 14 (by decide) (hts (.fieldLink RX6 26 "LeaguewheelModel" "lap" "[I") (by decide +kernel)) (fun _ h9 => h9) rfl dX6_start_109 ?_
                      refine lv_iload_n hx hb dX6_start_112 rfl (lv_at hl 1 rfl) ?_
                      refine lv_iconst (v := 0) hx hb dX6_start_113 (by decide) ?_
                      refine rAst (x := 0) hx hb fx hw 36 (hF.1 36 (by decide)) hF.2.1 (fun _ => rfl) i rfl (by omega) (by decide) dX6_start_114 (fun H locs hw => ?_)
                      obtain ⟨σ_76, eσ_76⟩ : ∃ w9, w9 = upA σ_75 36 (upd (σ_75 36) i 0) := ⟨_, rfl⟩
                      rw [← eσ_76] at hw
                      refine lv_aload_n hx hb dX6_start_115 rfl (lv_at hl 0 rfl) ?_
                      refine rGet (v := .ref (gad G 37)) (C := RX6) (T := TX6) (N := 26) hx hb fx hown hts hin hw 31 (hF.1 31 (by decide)) rfl rfl 15 (by decide) (hts (.fieldLink RX6 29 "LeaguewheelModel" "debt" "[I") (by decide +kernel)) (fun _ h9 => h9) rfl dX6_start_116 ?_
                      refine lv_iload_n hx hb dX6_start_119 rfl (lv_at hl 1 rfl) ?_
                      refine lv_iconst (v := 0) hx hb dX6_start_120 (by decide) ?_
                      refine rAst (x := 0) hx hb fx hw 37 (hF.1 37 (by decide)) hF.2.1 (fun _ => rfl) i rfl (by omega) (by decide) dX6_start_121 (fun H locs hw => ?_)
                      obtain ⟨σ_77, eσ_77⟩ : ∃ w9, w9 = upA σ_76 37 (upd (σ_76 37) i 0) := ⟨_, rfl⟩
                      rw [← eσ_77] at hw
                      refine lv_aload_n hx hb dX6_start_122 rfl (lv_at hl 0 rfl) ?_
                      refine rGet (v := .ref (gad G 38)) (C := RX6) (T := TX6) (N := 26) hx hb fx hown hts hin hw 31 (hF.1 31 (by decide)) rfl rfl 16 (by decide) (hts (.fieldLink RX6 32 "LeaguewheelModel" "passed" "[I") (by decide +kernel)) (fun _ h9 => h9) rfl dX6_start_123 ?_
                      refine lv_iload_n hx hb dX6_start_126 rfl (lv_at hl 1 rfl) ?_
                      refine lv_iconst (v := 0) hx hb dX6_start_127 (by decide) ?_
                      refine rAst (x := 0) hx hb fx hw 38 (hF.1 38 (by decide)) hF.2.1 (fun _ => rfl) i rfl (by omega) (by decide) dX6_start_128 (fun H locs hw => ?_)
                      obtain ⟨σ_78, eσ_78⟩ : ∃ w9, w9 = upA σ_77 38 (upd (σ_77 38) i 0) := ⟨_, rfl⟩
                      rw [← eσ_78] at hw
                      refine lv_aload_n hx hb dX6_start_129 rfl (lv_at hl 0 rfl) ?_
                      refine rGet (v := .ref (gad G 39)) (C := RX6) (T := TX6) (N := 26) hx hb fx hown hts hin hw 31 (hF.1 31 (by decide)) rfl rfl 17 (by decide) (hts (.fieldLink RX6 35 "LeaguewheelModel" "last" "[I") (by decide +kernel)) (fun _ h9 => h9) rfl dX6_start_130 ?_
                      refine lv_iload_n hx hb dX6_start_133 rfl (lv_at hl 1 rfl) ?_
                      refine lv_iconst (v := 0) hx hb dX6_start_134 (by decide) ?_
                      refine rAst (x := 0) hx hb fx hw 39 (hF.1 39 (by decide)) hF.2.1 (fun _ => rfl) i rfl (by omega) (by decide) dX6_start_135 (fun H locs hw => ?_)
                      obtain ⟨σ_79, eσ_79⟩ : ∃ w9, w9 = upA σ_78 39 (upd (σ_78 39) i 0) := ⟨_, rfl⟩
                      rw [← eσ_79] at hw
                      refine lv_aload_n hx hb dX6_start_136 rfl (lv_at hl 0 rfl) ?_
                      refine rGet (v := .ref (gad G 40)) (C := RX6) (T := TX6) (N := 26) hx hb fx hown hts hin hw 31 (hF.1 31 (by decide)) rfl rfl 18 (by decide) (hts (.fieldLink RX6 38 "LeaguewheelModel" "finish" "[I") (by decide +kernel)) (fun _ h9 => h9) rfl dX6_start_137 ?_
                      refine lv_iload_n hx hb dX6_start_140 rfl (lv_at hl 1 rfl) ?_
                      refine lv_iconst (v := 0) hx hb dX6_start_141 (by decide) ?_
                      refine rAst (x := 0) hx hb fx hw 40 (hF.1 40 (by decide)) hF.2.1 (fun _ => rfl) i rfl (by omega) (by decide) dX6_start_142 (fun H locs hw => ?_)
                      obtain ⟨σ_80, eσ_80⟩ : ∃ w9, w9 = upA σ_79 40 (upd (σ_79 40) i 0) := ⟨_, rfl⟩
                      rw [← eσ_80] at hw
                      refine lv_aload_n hx hb dX6_start_143 rfl (lv_at hl 0 rfl) ?_
                      refine rGet (v := .ref (gad G 41)) (C := RX6) (T := TX6) (N := 26) hx hb fx hown hts hin hw 31 (hF.1 31 (by decide)) rfl rfl 19 (by decide) (hts (.fieldLink RX6 41 "LeaguewheelModel" "item" "[I") (by decide +kernel)) (fun _ h9 => h9) rfl dX6_start_144 ?_
                      refine lv_iload_n hx hb dX6_start_147 rfl (lv_at hl 1 rfl) ?_
                      refine lv_iconst (v := (-1)) hx hb dX6_start_148 (by decide) ?_
                      refine rAst (x := (-1)) hx hb fx hw 41 (hF.1 41 (by decide)) hF.2.1 (fun _ => rfl) i rfl (by omega) (by decide) dX6_start_149 (fun H locs hw => ?_)
                      obtain ⟨σ_81, eσ_81⟩ : ∃ w9, w9 = upA σ_80 41 (upd (σ_80 41) i (-1)) := ⟨_, rfl⟩
                      rw [← eσ_81] at hw
                      refine lv_aload_n hx hb dX6_start_150 rfl (lv_at hl 0 rfl) ?_
                      refine rGet (v := .ref (gad G 42)) (C := RX6) (T := TX6) (N := 26) hx hb fx hown hts hin hw 31 (hF.1 31 (by decide)) rfl rfl 20 (by decide) (hts (.fieldLink RX6 44 "LeaguewheelModel" "isShielded" "[Z") (by decide +kernel)) (fun _ h9 => h9) rfl dX6_start_151 ?_
                      refine lv_iload_n hx hb dX6_start_154 rfl (lv_at hl 1 rfl) ?_
                      refine lv_iconst (v := 0) hx hb dX6_start_155 (by decide) ?_
                      refine rZst (x := 0) hx hb fx hw 42 (hF.1 42 (by decide)) hF.2.2.1 (fun _ => rfl) i rfl (by omega) (by decide) (by decide) dX6_start_156 (fun H locs hw => ?_)
                      obtain ⟨σ_82, eσ_82⟩ : ∃ w9, w9 = upA σ_81 42 (upd (σ_81 42) i 0) := ⟨_, rfl⟩
                      rw [← eσ_82] at hw
                      refine lv_aload_n hx hb dX6_start_157 rfl (lv_at hl 0 rfl) ?_
                      refine rGet (v := .ref (gad G 43)) (C := RX6) (T := TX6) (N := 26) hx hb fx hown hts hin hw 31 (hF.1 31 (by decide)) rfl rfl 21 (by decide) (hts (.fieldLink RX6 48 "LeaguewheelModel" "until" "[I") (by decide +kernel)) (fun _ h9 => h9) rfl dX6_start_158 ?_
                      refine lv_iload_n hx hb dX6_start_161 rfl (lv_at hl 1 rfl) ?_
                      refine lv_iconst (v := 0) hx hb dX6_start_162 (by decide) ?_
                      refine rAst (x := 0) hx hb fx hw 43 (hF.1 43 (by decide)) hF.2.1 (fun _ => rfl) i rfl (by omega) (by decide) dX6_start_163 (fun H locs hw => ?_)
                      obtain ⟨σ_83, eσ_83⟩ : ∃ w9, w9 = upA σ_82 43 (upd (σ_82 43) i 0) := ⟨_, rfl⟩
                      rw [← eσ_83] at hw
                      refine lv_iinc (v := (nI (i + 1))) (lv' := [(3, .int (nI (i + 1))), (0, .ref (gad G 31))]) hx hb dX6_start_164 hl (k := 1) rfl (nI_1 _) (by decide) rfl (fun ls hl => ?_)
                      refine lv_goto (tgt := 95) hx hb dX6_start_167 (by decide) ?_
                      have q_84 : σ_83 = mbS (msS0 (thr (upA σ 33 (moA (σ 32) (σ 33) g g)) 0) sd x) (i + 1) := by subst eσ_83 eσ_82 eσ_81 eσ_80 eσ_79 eσ_78 eσ_77 eσ_76 eσ_75 eσ_73; exact mbS_s _ i
                      rw [q_84] at hw
                      exact ih95 (i + 1) (by omega) (by omega) _ _ _ hw (lv_c (lv_at hl 1 rfl) (lv_c (lv_at hl 0 rfl) (lv_c0 hl)))
                have q_85 : 0 = (nI 0) := by first | rfl | (simp)
                have q_86 : σ_72 = mbS (msS0 (thr (upA σ 33 (moA (σ 32) (σ 33) g g)) 0) sd x) 0 := by subst eσ_72 eσ_71 eσ_70 eσ_69 eσ_67 eσ_45; rw [mbS_0]; simp [msS0, upA_n, upA_s, upA_upA, upA_self, upd_self, upd_upd, pk_us, bI]
                rw [q_86] at hw
                exact lab_95 (6 - 0 + 1) 0 (by omega) (by omega) _ _ _ hw (lv_c (lv_at hl 2 rfl) (lv_c (lv_atq hl 0 rfl q_85) (lv_c0 hl)))
              · skip
                exact absurd c_68 (by decide)
          · skip
            refine lv_iconst (v := 1) hx hb dX6_start_47 (by decide) ?_
            refine lv_goto (tgt := 60) hx hb dX6_start_48 (by decide) ?_
            refine lv_rep0 (x := 1) (y := nI 1) rfl ?_
            refine rCallI (C := RX6) (As := [.int (nI 1)]) (rest := []) ⟨hx, hb, hml, hown, hts⟩ fx hw (kX6_fails l G hG hF σ_45 1 (by omega)) (cwV 1 hts gX6_start_X6_fails rfl rfl rfl (by decide +kernel) ⟨Nat.le_of_ble_eq_true rfl, Nat.le_of_ble_eq_true rfl⟩) (hF.1 31 (by decide)) rfl rfl rfl rfl hl.1 rfl (Nat.le_of_ble_eq_true rfl) dX6_start_60 ⟨Nat.zero_le _, Nat.zero_le _⟩ ?_
            intro r_88 σ_89 H locs p_87 hw
            obtain ⟨er_88, eσ_89⟩ := p_87
            have er_88 := er_88.symm; subst er_88
            refine lv_b_eq (tgt := 68) hx hb dX6_start_63 (by decide) (fun c_90 => ?_) (fun c_90 => ?_)
            · skip
              exact absurd c_90 (by decide)
            · skip
              refine lv_iconst (v := 0) hx hb dX6_start_66 (by decide) ?_
              subst eσ_89
              subst eσ_45
              exact rRetI hx hb hr hw (by first | exact Or.inr (Or.inl ⟨by (first | assumption | (simp [c_1, c_46, c_63]; done) | (simp [c_1, c_15, c_29, c_46, c_63]; done) | (simp [c_1, c_15, c_29, c_46, c_63]; omega)), by first | exact congrArg (fun w9 => thr w9 _) (mtS_b c_1).symm | exact congrArg (fun w9 => thr w9 _) (mtS_8 (by assumption)).symm | exact congrArg (fun w9 => thr w9 _) (mtS_0 (by assumption)).symm | exact congrArg (fun w9 => thr w9 _) (mtS_t (by assumption) (by omega) (by omega)).symm⟩) | exact Or.inr (Or.inr ⟨by (first | assumption | (simp [c_1, c_46, c_63]; done) | (simp [c_1, c_15, c_29, c_46, c_63]; done) | (simp [c_1, c_15, c_29, c_46, c_63]; omega)), by (first | assumption | (simp [c_1, c_46, c_63]; done) | (simp [c_1, c_15, c_29, c_46, c_63]; done) | (simp [c_1, c_15, c_29, c_46, c_63]; omega)), by first | exact congrArg (fun w9 => thr w9 _) (mtS_b c_1).symm | exact congrArg (fun w9 => thr w9 _) (mtS_8 (by assumption)).symm | exact congrArg (fun w9 => thr w9 _) (mtS_0 (by assumption)).symm | exact congrArg (fun w9 => thr w9 _) (mtS_t (by assumption) (by omega) (by omega)).symm⟩)) hlocks dX6_start_67

def rmX6_idle : Room := ({ frames := 1, cells := 0, slots := 0, locals := 22 } : Room)
set_option maxHeartbeats 4000000 in
set_option maxRecDepth 100000 in
theorem kX6_idle (l : Launch) (G : Gx) (hG : gOk G) (hF : Full G) (σ : St) (x : Int32) (g n sd e9 z : Nat) (b : Bool) (hMv : MIv σ g n sd b e9 z)  : CtI l yX6_idle wsX6_idle rmX6_idle G σ [.ref (gad G 31), .int x] (fun r σ' => (inR x 1 100 = true ∧ r = σ 31 10 + x ∧ σ' = upA σ 31 (upd (upd (σ 31) 25 0) 10 (σ 31 10 + x))) ∨ (inR x 1 100 = false ∧ σ' = thr σ 1)) := by
  refine bgMet (cc := cX6_idle) (maxL := 2) (ret := (some .int)) (own := RX6) (by decide) rfl rfl hG (Nat.le_of_ble_eq_true rfl) rfl ?_
  intro p e s m args below meth c ls Bd hl
  obtain ⟨hx, hb, hr, hml, hts, hown, hlocks, fx, hw⟩ := Bd
  have hl : lv_has ls 2 [(0, .ref (gad G 31)), (1, .int x)] := hl
  have hin : ∀ w ∈ wsX60, w ∈ wsX6_idle := by decide +kernel
  obtain ⟨⟨hmg, hmg1, hmg2⟩, ⟨hmn, hmn6⟩, ⟨hms, hms8⟩, ⟨hme, hme8⟩, hmo, ⟨hmz, hmz5⟩, hgm, hme9⟩ := id hMv
  refine lv_aload_n hx hb dX6_idle_0 rfl (lv_at hl 0 rfl) ?_
  refine lv_iload_n hx hb dX6_idle_1 rfl (lv_at hl 1 rfl) ?_
  refine lv_iconst (v := 1) hx hb dX6_idle_2 (by decide) ?_
  refine lv_bipush (v := 100) hx hb dX6_idle_3 (by decide) ?_
  refine rCallS (As := [.int x, .int 1, .int 100]) (rest := [.ref (gad G 31)]) ⟨hx, hb, hml, hown, hts⟩ fx hw (kX6_isIn l G hG hF σ x 1 100) (va_cwS 3 hts gX6_idle_X6_isIn rfl rfl rfl (by decide +kernel) ⟨Nat.le_of_ble_eq_true rfl, Nat.le_of_ble_eq_true rfl⟩) rfl hl.1 rfl (Nat.le_of_ble_eq_true rfl) dX6_idle_5 ⟨Nat.zero_le _, Nat.zero_le _⟩ ?_
  intro r_2 σ_3 H locs p_1 hw
  obtain ⟨er_2, eσ_3⟩ := p_1
  have er_2 := er_2.symm; subst er_2
  have eσ_3 := eσ_3.symm; subst eσ_3
  refine lv_b_eq (tgt := 15) hx hb dX6_idle_8 (by decide) (fun c_4 => ?_) (fun c_4 => ?_)
  · skip
    refine lv_iconst (v := 1) hx hb dX6_idle_15 (by decide) ?_
    refine lv_rep0 (x := 1) (y := nI 1) rfl ?_
    refine rCallI (C := RX6) (As := [.int (nI 1)]) (rest := []) ⟨hx, hb, hml, hown, hts⟩ fx hw (kX6_fails l G hG hF σ 1 (by omega)) (cwV 1 hts gX6_idle_X6_fails rfl rfl rfl (by decide +kernel) ⟨Nat.le_of_ble_eq_true rfl, Nat.le_of_ble_eq_true rfl⟩) (hF.1 31 (by decide)) rfl rfl rfl rfl hl.1 rfl (Nat.le_of_ble_eq_true rfl) dX6_idle_16 ⟨Nat.zero_le _, Nat.zero_le _⟩ ?_
    intro r_6 σ_7 H locs p_5 hw
    obtain ⟨er_6, eσ_7⟩ := p_5
    have er_6 := er_6.symm; subst er_6
    refine lv_b_eq (tgt := 24) hx hb dX6_idle_19 (by decide) (fun c_8 => ?_) (fun c_8 => ?_)
    · skip
      exact absurd c_8 (by decide)
    · skip
      refine lv_iconst (v := 0) hx hb dX6_idle_22 (by decide) ?_
      subst eσ_7
      exact rRetI hx hb hr hw (by first | exact Or.inr ⟨by (first | assumption | (simp [c_4]; done) | (simp [c_4]; done) | (simp [c_4]; omega)), by rfl⟩) hlocks dX6_idle_23
  · skip
    refine lv_iconst (v := 0) hx hb dX6_idle_11 (by decide) ?_
    refine lv_goto (tgt := 16) hx hb dX6_idle_12 (by decide) ?_
    refine lv_rep0 (x := 0) (y := nI 0) rfl ?_
    refine rCallI (C := RX6) (As := [.int (nI 0)]) (rest := []) ⟨hx, hb, hml, hown, hts⟩ fx hw (kX6_fails l G hG hF σ 0 (by omega)) (cwV 1 hts gX6_idle_X6_fails rfl rfl rfl (by decide +kernel) ⟨Nat.le_of_ble_eq_true rfl, Nat.le_of_ble_eq_true rfl⟩) (hF.1 31 (by decide)) rfl rfl rfl rfl hl.1 rfl (Nat.le_of_ble_eq_true rfl) dX6_idle_16 ⟨Nat.zero_le _, Nat.zero_le _⟩ ?_
    intro r_10 σ_11 H locs p_9 hw
    obtain ⟨er_10, eσ_11⟩ := p_9
    have er_10 := er_10.symm; subst er_10
    refine lv_b_eq (tgt := 24) hx hb dX6_idle_19 (by decide) (fun c_12 => ?_) (fun c_12 => ?_)
    · skip
      refine lv_aload_n hx hb dX6_idle_24 rfl (lv_at hl 0 rfl) ?_
      refine lv_dup hx hb dX6_idle_25 rfl ?_
      refine rGet (v := .int (σ_11 31 10)) (C := RX6) (T := TX6) (N := 26) hx hb fx hown hts hin hw 31 (hF.1 31 (by decide)) rfl rfl 10 (by decide) (hts (.fieldLink RX6 104 "LeaguewheelModel" "time" "I") (by decide +kernel)) (fun _ h9 => h9) rfl dX6_idle_26 ?_
      refine lv_iload_n hx hb dX6_idle_29 rfl (lv_at hl 1 rfl) ?_
      refine lv_iadd hx hb dX6_idle_30 ?_
      refine rPut (v := ((σ_11 31 10) + x)) (ty := .int) (C := RX6) (T := TX6) (N := 26) hx hb fx hown hts hin tyX6 tyX6_ok nmX6 hw 31 (hF.1 31 (by decide)) rfl rfl 10 (by decide) (hts (.fieldLink RX6 104 "LeaguewheelModel" "time" "I") (by decide +kernel)) (fun _ h9 => h9) rfl (by decide +kernel) rfl rfl (Nat.le_of_ble_eq_true rfl) rfl dX6_idle_31 (fun H locs hw => ?_)
      obtain ⟨σ_13, eσ_13⟩ : ∃ w9, w9 = upA σ_11 31 (upd (σ_11 31) 10 ((σ_11 31 10) + x)) := ⟨_, rfl⟩
      rw [← eσ_13] at hw
      refine lv_aload_n hx hb dX6_idle_34 rfl (lv_at hl 0 rfl) ?_
      refine rGet (v := .int (σ_13 31 10)) (C := RX6) (T := TX6) (N := 26) hx hb fx hown hts hin hw 31 (hF.1 31 (by decide)) rfl rfl 10 (by decide) (hts (.fieldLink RX6 104 "LeaguewheelModel" "time" "I") (by decide +kernel)) (fun _ h9 => h9) rfl dX6_idle_35 ?_
      subst eσ_13
      subst eσ_11
      exact rRetI hx hb hr hw (by exact Or.inl ⟨by (first | assumption | (simp [c_4]; done) | (simp [c_4]; done) | (simp [c_4]; omega)), by simp [thr, upA_n, upA_s, upA_upA, upA_self, upd_self, upd_upd, pk_us, bI]; rfl, by simp [thr, upA_n, upA_s, upA_upA, upA_self, upd_self, upd_upd, pk_us, bI]; rfl⟩) hlocks dX6_idle_38
    · skip
      exact absurd c_12 (by decide)

def rmX6_of : Room := ({ frames := 2, cells := 0, slots := 0, locals := 43 } : Room)
set_option maxHeartbeats 4000000 in
set_option maxRecDepth 100000 in
theorem kX6_of (l : Launch) (G : Gx) (hG : gOk G) (hF : Full G) (σ : St) (B : Nat) (hBr : B = 35 ∨ B = 36) (x : Int32) (g n sd e9 z : Nat) (b : Bool) (hMv : MIv σ g n sd b e9 z)  : CtI l yX6_of wsX6_of rmX6_of G σ [.ref (gad G 31), .ref (gad G B), .int x] (fun r σ' => r = (if (inB x n && b) = true then σ B (ix x) else 0) ∧ σ' = thr σ (cd2 (inB x n) b)) := by
  refine bgMet (cc := cX6_of) (maxL := 3) (ret := (some .int)) (own := RX6) (by decide) rfl rfl hG (Nat.le_of_ble_eq_true rfl) rfl ?_
  intro p e s m args below meth c ls Bd hl
  obtain ⟨hx, hb, hr, hml, hts, hown, hlocks, fx, hw⟩ := Bd
  have hl : lv_has ls 3 [(0, .ref (gad G 31)), (1, .ref (gad G B)), (2, .int x)] := hl
  have hin : ∀ w ∈ wsX60, w ∈ wsX6_of := by decide +kernel
  obtain ⟨⟨hmg, hmg1, hmg2⟩, ⟨hmn, hmn6⟩, ⟨hms, hms8⟩, ⟨hme, hme8⟩, hmo, ⟨hmz, hmz5⟩, hgm, hme9⟩ := id hMv
  refine lv_aload_n hx hb dX6_of_0 rfl (lv_at hl 0 rfl) ?_
  refine lv_aload_n hx hb dX6_of_1 rfl (lv_at hl 0 rfl) ?_
  refine lv_iload_n hx hb dX6_of_2 rfl (lv_at hl 2 rfl) ?_
  refine rCallI (C := RX6) (As := [.int x]) (rest := [.ref (gad G 31)]) ⟨hx, hb, hml, hown, hts⟩ fx hw (kX6_isKart l G hG hF σ x n (by subst_vars; exact hmn) (by omega)) (cwV 1 hts gX6_of_X6_isKart rfl rfl rfl (by decide +kernel) ⟨Nat.le_of_ble_eq_true rfl, Nat.le_of_ble_eq_true rfl⟩) (hF.1 31 (by decide)) rfl rfl rfl rfl hl.1 rfl (Nat.le_of_ble_eq_true rfl) dX6_of_3 ⟨Nat.zero_le _, Nat.zero_le _⟩ ?_
  intro r_2 σ_3 H locs p_1 hw
  obtain ⟨er_2, eσ_3⟩ := p_1
  have er_2 := er_2.symm; subst er_2
  have eσ_3 := eσ_3.symm; subst eσ_3
  refine lv_b_ne (tgt := 13) hx hb dX6_of_6 (by decide) (fun c_4 => ?_) (fun c_4 => ?_)
  · skip
    refine lv_aload_n hx hb dX6_of_13 rfl (lv_at hl 0 rfl) ?_
    refine rGet (v := .int (σ 31 8)) (C := RX6) (T := TX6) (N := 26) hx hb fx hown hts hin hw 31 (hF.1 31 (by decide)) rfl rfl 8 (by decide) (hts (.fieldLink RX6 87 "LeaguewheelModel" "isOn" "Z") (by decide +kernel)) (fun _ h9 => h9) rfl dX6_of_14 ?_
    refine lv_rep0 (x := (σ 31 8)) (y := (bI b)) (by exact hmo) ?_
    refine lv_b_eq (tgt := 24) hx hb dX6_of_17 (by decide) (fun c_5 => ?_) (fun c_5 => ?_)
    · skip
      refine lv_iconst (v := 2) hx hb dX6_of_24 (by decide) ?_
      refine lv_rep0 (x := 2) (y := nI 2) rfl ?_
      refine rCallI (C := RX6) (As := [.int (nI 2)]) (rest := []) ⟨hx, hb, hml, hown, hts⟩ fx hw (kX6_fails l G hG hF σ 2 (by omega)) (cwV 1 hts gX6_of_X6_fails rfl rfl rfl (by decide +kernel) ⟨Nat.le_of_ble_eq_true rfl, Nat.le_of_ble_eq_true rfl⟩) (hF.1 31 (by decide)) rfl rfl rfl rfl hl.1 rfl (Nat.le_of_ble_eq_true rfl) dX6_of_25 ⟨Nat.zero_le _, Nat.zero_le _⟩ ?_
      intro r_7 σ_8 H locs p_6 hw
      obtain ⟨er_7, eσ_8⟩ := p_6
      have er_7 := er_7.symm; subst er_7
      refine lv_b_eq (tgt := 35) hx hb dX6_of_28 (by decide) (fun c_9 => ?_) (fun c_9 => ?_)
      · skip
        exact absurd c_9 (by decide)
      · skip
        refine lv_iconst (v := 0) hx hb dX6_of_31 (by decide) ?_
        refine lv_goto (tgt := 38) hx hb dX6_of_32 (by decide) ?_
        subst eσ_8
        exact rRetI hx hb hr hw (by exact ⟨by simp [c_4, c_5]; try (rw [thr_o (by omega)]), by simp [cd2, c_4, c_5]⟩) hlocks dX6_of_38
    · skip
      refine lv_iconst (v := 0) hx hb dX6_of_20 (by decide) ?_
      refine lv_goto (tgt := 25) hx hb dX6_of_21 (by decide) ?_
      refine lv_rep0 (x := 0) (y := nI 0) rfl ?_
      refine rCallI (C := RX6) (As := [.int (nI 0)]) (rest := []) ⟨hx, hb, hml, hown, hts⟩ fx hw (kX6_fails l G hG hF σ 0 (by omega)) (cwV 1 hts gX6_of_X6_fails rfl rfl rfl (by decide +kernel) ⟨Nat.le_of_ble_eq_true rfl, Nat.le_of_ble_eq_true rfl⟩) (hF.1 31 (by decide)) rfl rfl rfl rfl hl.1 rfl (Nat.le_of_ble_eq_true rfl) dX6_of_25 ⟨Nat.zero_le _, Nat.zero_le _⟩ ?_
      intro r_11 σ_12 H locs p_10 hw
      obtain ⟨er_11, eσ_12⟩ := p_10
      have er_11 := er_11.symm; subst er_11
      refine lv_b_eq (tgt := 35) hx hb dX6_of_28 (by decide) (fun c_13 => ?_) (fun c_13 => ?_)
      · skip
        have hx9 := inB_ix (by omega) c_4
        have q_14 : x = (nI (ix x)) := by exact hx9.1
        have hl : lv_has ls 3 [(0, .ref (gad G 31)), (1, .ref (gad G B)), (2, .int (nI (ix x)))] := (lv_c (lv_at hl 0 rfl) (lv_c (lv_at hl 1 rfl) (lv_c (lv_atq hl 2 rfl q_14) (lv_c0 hl))))
        refine lv_aload_n hx hb dX6_of_35 rfl (lv_at hl 1 rfl) ?_
        refine lv_iload_n hx hb dX6_of_36 rfl (lv_at hl 2 rfl) ?_
        refine rAld hx hb fx hw B (hF.1 B (by omega)) hF.2.1 (fun f => by rcases hBr with rfl | rfl <;> rfl) (ix x) rfl (by omega) (by decide) dX6_of_37 ?_
        subst eσ_12
        exact rRetI hx hb hr hw (by exact ⟨by simp [c_4, c_5]; try (rw [thr_o (by omega)]), by simp [cd2, c_4, c_5]⟩) hlocks dX6_of_38
      · skip
        exact absurd c_13 (by decide)
  · skip
    refine lv_iconst (v := 1) hx hb dX6_of_9 (by decide) ?_
    refine lv_goto (tgt := 25) hx hb dX6_of_10 (by decide) ?_
    refine lv_rep0 (x := 1) (y := nI 1) rfl ?_
    refine rCallI (C := RX6) (As := [.int (nI 1)]) (rest := []) ⟨hx, hb, hml, hown, hts⟩ fx hw (kX6_fails l G hG hF σ 1 (by omega)) (cwV 1 hts gX6_of_X6_fails rfl rfl rfl (by decide +kernel) ⟨Nat.le_of_ble_eq_true rfl, Nat.le_of_ble_eq_true rfl⟩) (hF.1 31 (by decide)) rfl rfl rfl rfl hl.1 rfl (Nat.le_of_ble_eq_true rfl) dX6_of_25 ⟨Nat.zero_le _, Nat.zero_le _⟩ ?_
    intro r_16 σ_17 H locs p_15 hw
    obtain ⟨er_16, eσ_17⟩ := p_15
    have er_16 := er_16.symm; subst er_16
    refine lv_b_eq (tgt := 35) hx hb dX6_of_28 (by decide) (fun c_18 => ?_) (fun c_18 => ?_)
    · skip
      exact absurd c_18 (by decide)
    · skip
      refine lv_iconst (v := 0) hx hb dX6_of_31 (by decide) ?_
      refine lv_goto (tgt := 38) hx hb dX6_of_32 (by decide) ?_
      subst eσ_17
      exact rRetI hx hb hr hw (by exact ⟨by simp [c_4]; try (rw [thr_o (by omega)]), by simp [cd2, c_4]⟩) hlocks dX6_of_38

def rmX6_gateOf : Room := ({ frames := 3, cells := 0, slots := 0, locals := 65 } : Room)
set_option maxHeartbeats 4000000 in
set_option maxRecDepth 100000 in
theorem kX6_gateOf (l : Launch) (G : Gx) (hG : gOk G) (hF : Full G) (σ : St) (x : Int32) (g n sd e9 z : Nat) (b : Bool) (hMv : MIv σ g n sd b e9 z)  : CtI l yX6_gateOf wsX6_gateOf rmX6_gateOf G σ [.ref (gad G 31), .int x] (fun r σ' => r = (if (inB x n && b) = true then σ 35 (ix x) else 0) ∧ σ' = thr σ (cd2 (inB x n) b)) := by
  refine bgMet (cc := cX6_gateOf) (maxL := 2) (ret := (some .int)) (own := RX6) (by decide) rfl rfl hG (Nat.le_of_ble_eq_true rfl) rfl ?_
  intro p e s m args below meth c ls Bd hl
  obtain ⟨hx, hb, hr, hml, hts, hown, hlocks, fx, hw⟩ := Bd
  have hl : lv_has ls 2 [(0, .ref (gad G 31)), (1, .int x)] := hl
  have hin : ∀ w ∈ wsX60, w ∈ wsX6_gateOf := by decide +kernel
  obtain ⟨⟨hmg, hmg1, hmg2⟩, ⟨hmn, hmn6⟩, ⟨hms, hms8⟩, ⟨hme, hme8⟩, hmo, ⟨hmz, hmz5⟩, hgm, hme9⟩ := id hMv
  refine lv_aload_n hx hb dX6_gateOf_0 rfl (lv_at hl 0 rfl) ?_
  refine lv_aload_n hx hb dX6_gateOf_1 rfl (lv_at hl 0 rfl) ?_
  refine rGet (v := .ref (gad G 35)) (C := RX6) (T := TX6) (N := 26) hx hb fx hown hts hin hw 31 (hF.1 31 (by decide)) rfl rfl 13 (by decide) (hts (.fieldLink RX6 23 "LeaguewheelModel" "gate" "[I") (by decide +kernel)) (fun _ h9 => h9) rfl dX6_gateOf_2 ?_
  refine lv_iload_n hx hb dX6_gateOf_5 rfl (lv_at hl 1 rfl) ?_
  refine rCallI (C := RX6) (As := [.ref (gad G 35), .int x]) (rest := []) ⟨hx, hb, hml, hown, hts⟩ fx hw (kX6_of l G hG hF σ 35 (by omega) x g n sd e9 z b hMv) (cwV 2 hts gX6_gateOf_X6_of rfl rfl rfl (by decide +kernel) ⟨Nat.le_of_ble_eq_true rfl, Nat.le_of_ble_eq_true rfl⟩) (hF.1 31 (by decide)) rfl rfl rfl rfl hl.1 rfl (Nat.le_of_ble_eq_true rfl) dX6_gateOf_6 ⟨Nat.zero_le _, Nat.zero_le _⟩ ?_
  intro r_2 σ_3 H locs p_1 hw
  obtain ⟨er_2, eσ_3⟩ := p_1
  have er_2 := er_2.symm; subst er_2
  subst eσ_3
  exact rRetI hx hb hr hw (by exact ⟨rfl, rfl⟩) hlocks dX6_gateOf_9

def rmX6_lapsOf : Room := ({ frames := 3, cells := 0, slots := 0, locals := 65 } : Room)
set_option maxHeartbeats 4000000 in
set_option maxRecDepth 100000 in
theorem kX6_lapsOf (l : Launch) (G : Gx) (hG : gOk G) (hF : Full G) (σ : St) (x : Int32) (g n sd e9 z : Nat) (b : Bool) (hMv : MIv σ g n sd b e9 z)  : CtI l yX6_lapsOf wsX6_lapsOf rmX6_lapsOf G σ [.ref (gad G 31), .int x] (fun r σ' => ((inB x n && b) = true → r = σ 36 (ix x) - σ 37 (ix x)) ∧ σ' = thr σ (cd2 (inB x n) b)) := by
  refine bgMet (cc := cX6_lapsOf) (maxL := 2) (ret := (some .int)) (own := RX6) (by decide) rfl rfl hG (Nat.le_of_ble_eq_true rfl) rfl ?_
  intro p e s m args below meth c ls Bd hl
  obtain ⟨hx, hb, hr, hml, hts, hown, hlocks, fx, hw⟩ := Bd
  have hl : lv_has ls 2 [(0, .ref (gad G 31)), (1, .int x)] := hl
  have hin : ∀ w ∈ wsX60, w ∈ wsX6_lapsOf := by decide +kernel
  obtain ⟨⟨hmg, hmg1, hmg2⟩, ⟨hmn, hmn6⟩, ⟨hms, hms8⟩, ⟨hme, hme8⟩, hmo, ⟨hmz, hmz5⟩, hgm, hme9⟩ := id hMv
  refine lv_aload_n hx hb dX6_lapsOf_0 rfl (lv_at hl 0 rfl) ?_
  refine lv_aload_n hx hb dX6_lapsOf_1 rfl (lv_at hl 0 rfl) ?_
  refine rGet (v := .ref (gad G 36)) (C := RX6) (T := TX6) (N := 26) hx hb fx hown hts hin hw 31 (hF.1 31 (by decide)) rfl rfl 14 (by decide) (hts (.fieldLink RX6 26 "LeaguewheelModel" "lap" "[I") (by decide +kernel)) (fun _ h9 => h9) rfl dX6_lapsOf_2 ?_
  refine lv_iload_n hx hb dX6_lapsOf_5 rfl (lv_at hl 1 rfl) ?_
  refine rCallI (C := RX6) (As := [.ref (gad G 36), .int x]) (rest := []) ⟨hx, hb, hml, hown, hts⟩ fx hw (kX6_of l G hG hF σ 36 (by omega) x g n sd e9 z b hMv) (cwV 2 hts gX6_lapsOf_X6_of rfl rfl rfl (by decide +kernel) ⟨Nat.le_of_ble_eq_true rfl, Nat.le_of_ble_eq_true rfl⟩) (hF.1 31 (by decide)) rfl rfl rfl rfl hl.1 rfl (Nat.le_of_ble_eq_true rfl) dX6_lapsOf_6 ⟨Nat.zero_le _, Nat.zero_le _⟩ ?_
  intro r_2 σ_3 H locs p_1 hw
  obtain ⟨er_2, eσ_3⟩ := p_1
  have er_2 := er_2.symm; subst er_2
  refine lv_aload_n hx hb dX6_lapsOf_9 rfl (lv_at hl 0 rfl) ?_
  refine rGet (v := .int (σ_3 31 25)) (C := RX6) (T := TX6) (N := 26) hx hb fx hown hts hin hw 31 (hF.1 31 (by decide)) rfl rfl 25 (by decide) (hts (.fieldLink RX6 57 "LeaguewheelModel" "thrown" "I") (by decide +kernel)) (fun _ h9 => h9) rfl dX6_lapsOf_10 ?_
  refine lv_rep0 (x := (σ_3 31 25)) (y := nI (cd2 (inB x n) b)) (by subst_vars; rfl) ?_
  have hcl9 := cd2_lt (inB x n) b
  refine lv_if_ne (tgt := 25) hx hb dX6_lapsOf_13 (by decide) (fun c_4 => ?_) (fun c_4 => ?_)
  · skip
    have c_4 : ¬ (cd2 (inB x n) b) = 0 := n0_net (by omega) c_4
    refine lv_iconst (v := 0) hx hb dX6_lapsOf_25 (by decide) ?_
    refine lv_isub hx hb dX6_lapsOf_26 ?_
    subst eσ_3
    exact rRetI hx hb hr hw (by exact ⟨by first | (intro hq9; rw [if_pos hq9]; rfl) | (intro hq9; exact absurd (hq9.symm.trans (cd2_n c_4)) (by decide)), rfl⟩) hlocks dX6_lapsOf_27
  · skip
    have c_4 : (cd2 (inB x n) b) = 0 := n0_nef (by omega) c_4
    have hc9 := cd2_0 c_4
    have hx9 := inB_ix (by omega) hc9.1
    have q_5 : x = (nI (ix x)) := by exact hx9.1
    have hl : lv_has ls 2 [(0, .ref (gad G 31)), (1, .int (nI (ix x)))] := (lv_c (lv_at hl 0 rfl) (lv_c (lv_atq hl 1 rfl q_5) (lv_c0 hl)))
    refine lv_aload_n hx hb dX6_lapsOf_16 rfl (lv_at hl 0 rfl) ?_
    refine rGet (v := .ref (gad G 37)) (C := RX6) (T := TX6) (N := 26) hx hb fx hown hts hin hw 31 (hF.1 31 (by decide)) rfl rfl 15 (by decide) (hts (.fieldLink RX6 29 "LeaguewheelModel" "debt" "[I") (by decide +kernel)) (fun _ h9 => h9) rfl dX6_lapsOf_17 ?_
    refine lv_iload_n hx hb dX6_lapsOf_20 rfl (lv_at hl 1 rfl) ?_
    refine rAld hx hb fx hw 37 (hF.1 37 (by decide)) hF.2.1 (fun _ => rfl) (ix x) rfl (by omega) (by decide) dX6_lapsOf_21 ?_
    refine lv_goto (tgt := 26) hx hb dX6_lapsOf_22 (by decide) ?_
    refine lv_isub hx hb dX6_lapsOf_26 ?_
    subst eσ_3
    exact rRetI hx hb hr hw (by exact ⟨by first | (intro hq9; rw [if_pos hq9]; rfl) | (intro hq9; exact absurd (hq9.symm.trans (cd2_n c_4)) (by decide)), rfl⟩) hlocks dX6_lapsOf_27

def rmX6_missing : Room := ({ frames := 2, cells := 0, slots := 0, locals := 43 } : Room)
set_option maxHeartbeats 4000000 in
set_option maxRecDepth 100000 in
theorem kX6_missing (l : Launch) (G : Gx) (hG : gOk G) (hF : Full G) (σ : St) (x : Int32) (g n sd e9 z : Nat) (b : Bool) (hMv : MIv σ g n sd b e9 z)  : CtI l yX6_missing wsX6_missing rmX6_missing G σ [.ref (gad G 31), .int x] (fun r σ' => (inB x n = true ∧ b = true ∧ r = σ 31 1 &&& (σ 38 (ix x) ^^^ (-1)) ∧ σ' = thr σ 0) ∨ (inB x n = false ∧ σ' = thr σ 1) ∨ (inB x n = true ∧ b = false ∧ σ' = thr σ 2)) := by
  refine bgMet (cc := cX6_missing) (maxL := 2) (ret := (some .int)) (own := RX6) (by decide) rfl rfl hG (Nat.le_of_ble_eq_true rfl) rfl ?_
  intro p e s m args below meth c ls Bd hl
  obtain ⟨hx, hb, hr, hml, hts, hown, hlocks, fx, hw⟩ := Bd
  have hl : lv_has ls 2 [(0, .ref (gad G 31)), (1, .int x)] := hl
  have hin : ∀ w ∈ wsX60, w ∈ wsX6_missing := by decide +kernel
  obtain ⟨⟨hmg, hmg1, hmg2⟩, ⟨hmn, hmn6⟩, ⟨hms, hms8⟩, ⟨hme, hme8⟩, hmo, ⟨hmz, hmz5⟩, hgm, hme9⟩ := id hMv
  refine lv_aload_n hx hb dX6_missing_0 rfl (lv_at hl 0 rfl) ?_
  refine lv_aload_n hx hb dX6_missing_1 rfl (lv_at hl 0 rfl) ?_
  refine lv_iload_n hx hb dX6_missing_2 rfl (lv_at hl 1 rfl) ?_
  refine rCallI (C := RX6) (As := [.int x]) (rest := [.ref (gad G 31)]) ⟨hx, hb, hml, hown, hts⟩ fx hw (kX6_isKart l G hG hF σ x n (by subst_vars; exact hmn) (by omega)) (cwV 1 hts gX6_missing_X6_isKart rfl rfl rfl (by decide +kernel) ⟨Nat.le_of_ble_eq_true rfl, Nat.le_of_ble_eq_true rfl⟩) (hF.1 31 (by decide)) rfl rfl rfl rfl hl.1 rfl (Nat.le_of_ble_eq_true rfl) dX6_missing_3 ⟨Nat.zero_le _, Nat.zero_le _⟩ ?_
  intro r_2 σ_3 H locs p_1 hw
  obtain ⟨er_2, eσ_3⟩ := p_1
  have er_2 := er_2.symm; subst er_2
  have eσ_3 := eσ_3.symm; subst eσ_3
  refine lv_b_ne (tgt := 13) hx hb dX6_missing_6 (by decide) (fun c_4 => ?_) (fun c_4 => ?_)
  · skip
    refine lv_aload_n hx hb dX6_missing_13 rfl (lv_at hl 0 rfl) ?_
    refine rGet (v := .int (σ 31 8)) (C := RX6) (T := TX6) (N := 26) hx hb fx hown hts hin hw 31 (hF.1 31 (by decide)) rfl rfl 8 (by decide) (hts (.fieldLink RX6 87 "LeaguewheelModel" "isOn" "Z") (by decide +kernel)) (fun _ h9 => h9) rfl dX6_missing_14 ?_
    refine lv_rep0 (x := (σ 31 8)) (y := (bI b)) (by exact hmo) ?_
    refine lv_b_eq (tgt := 24) hx hb dX6_missing_17 (by decide) (fun c_5 => ?_) (fun c_5 => ?_)
    · skip
      refine lv_iconst (v := 2) hx hb dX6_missing_24 (by decide) ?_
      refine lv_rep0 (x := 2) (y := nI 2) rfl ?_
      refine rCallI (C := RX6) (As := [.int (nI 2)]) (rest := []) ⟨hx, hb, hml, hown, hts⟩ fx hw (kX6_fails l G hG hF σ 2 (by omega)) (cwV 1 hts gX6_missing_X6_fails rfl rfl rfl (by decide +kernel) ⟨Nat.le_of_ble_eq_true rfl, Nat.le_of_ble_eq_true rfl⟩) (hF.1 31 (by decide)) rfl rfl rfl rfl hl.1 rfl (Nat.le_of_ble_eq_true rfl) dX6_missing_25 ⟨Nat.zero_le _, Nat.zero_le _⟩ ?_
      intro r_7 σ_8 H locs p_6 hw
      obtain ⟨er_7, eσ_8⟩ := p_6
      have er_7 := er_7.symm; subst er_7
      refine lv_b_eq (tgt := 35) hx hb dX6_missing_28 (by decide) (fun c_9 => ?_) (fun c_9 => ?_)
      · skip
        exact absurd c_9 (by decide)
      · skip
        refine lv_iconst (v := 0) hx hb dX6_missing_31 (by decide) ?_
        refine lv_goto (tgt := 48) hx hb dX6_missing_32 (by decide) ?_
        subst eσ_8
        exact rRetI hx hb hr hw (by first | exact Or.inl ⟨by (first | assumption | (simp [c_4, c_5]; done) | (simp [c_4, c_5]; done) | (simp [c_4, c_5]; omega)), by (first | assumption | (simp [c_4, c_5]; done) | (simp [c_4, c_5]; done) | (simp [c_4, c_5]; omega)), by rfl, by rfl⟩ | exact Or.inr (Or.inl ⟨by (first | assumption | (simp [c_4, c_5]; done) | (simp [c_4, c_5]; done) | (simp [c_4, c_5]; omega)), by rfl⟩) | exact Or.inr (Or.inr ⟨by (first | assumption | (simp [c_4, c_5]; done) | (simp [c_4, c_5]; done) | (simp [c_4, c_5]; omega)), by (first | assumption | (simp [c_4, c_5]; done) | (simp [c_4, c_5]; done) | (simp [c_4, c_5]; omega)), by rfl⟩)) hlocks dX6_missing_48
    · skip
      refine lv_iconst (v := 0) hx hb dX6_missing_20 (by decide) ?_
      refine lv_goto (tgt := 25) hx hb dX6_missing_21 (by decide) ?_
      refine lv_rep0 (x := 0) (y := nI 0) rfl ?_
      refine rCallI (C := RX6) (As := [.int (nI 0)]) (rest := []) ⟨hx, hb, hml, hown, hts⟩ fx hw (kX6_fails l G hG hF σ 0 (by omega)) (cwV 1 hts gX6_missing_X6_fails rfl rfl rfl (by decide +kernel) ⟨Nat.le_of_ble_eq_true rfl, Nat.le_of_ble_eq_true rfl⟩) (hF.1 31 (by decide)) rfl rfl rfl rfl hl.1 rfl (Nat.le_of_ble_eq_true rfl) dX6_missing_25 ⟨Nat.zero_le _, Nat.zero_le _⟩ ?_
      intro r_11 σ_12 H locs p_10 hw
      obtain ⟨er_11, eσ_12⟩ := p_10
      have er_11 := er_11.symm; subst er_11
      refine lv_b_eq (tgt := 35) hx hb dX6_missing_28 (by decide) (fun c_13 => ?_) (fun c_13 => ?_)
      · skip
        have hx9 := inB_ix (by omega) c_4
        have q_14 : x = (nI (ix x)) := by exact hx9.1
        have hl : lv_has ls 2 [(0, .ref (gad G 31)), (1, .int (nI (ix x)))] := (lv_c (lv_at hl 0 rfl) (lv_c (lv_atq hl 1 rfl q_14) (lv_c0 hl)))
        refine lv_aload_n hx hb dX6_missing_35 rfl (lv_at hl 0 rfl) ?_
        refine rGet (v := .int (σ_12 31 1)) (C := RX6) (T := TX6) (N := 26) hx hb fx hown hts hin hw 31 (hF.1 31 (by decide)) rfl rfl 1 (by decide) (hts (.fieldLink RX6 74 "LeaguewheelModel" "needed" "I") (by decide +kernel)) (fun _ h9 => h9) rfl dX6_missing_36 ?_
        refine lv_aload_n hx hb dX6_missing_39 rfl (lv_at hl 0 rfl) ?_
        refine rGet (v := .ref (gad G 38)) (C := RX6) (T := TX6) (N := 26) hx hb fx hown hts hin hw 31 (hF.1 31 (by decide)) rfl rfl 16 (by decide) (hts (.fieldLink RX6 32 "LeaguewheelModel" "passed" "[I") (by decide +kernel)) (fun _ h9 => h9) rfl dX6_missing_40 ?_
        refine lv_iload_n hx hb dX6_missing_43 rfl (lv_at hl 1 rfl) ?_
        refine rAld hx hb fx hw 38 (hF.1 38 (by decide)) hF.2.1 (fun _ => rfl) (ix x) rfl (by omega) (by decide) dX6_missing_44 ?_
        refine lv_iconst (v := (-1)) hx hb dX6_missing_45 (by decide) ?_
        refine lv_ixor hx hb dX6_missing_46 ?_
        refine lv_iand hx hb dX6_missing_47 ?_
        subst eσ_12
        exact rRetI hx hb hr hw (by first | exact Or.inl ⟨by (first | assumption | (simp [c_4, c_5]; done) | (simp [c_4, c_5]; done) | (simp [c_4, c_5]; omega)), by (first | assumption | (simp [c_4, c_5]; done) | (simp [c_4, c_5]; done) | (simp [c_4, c_5]; omega)), by rfl, by rfl⟩ | exact Or.inr (Or.inl ⟨by (first | assumption | (simp [c_4, c_5]; done) | (simp [c_4, c_5]; done) | (simp [c_4, c_5]; omega)), by rfl⟩) | exact Or.inr (Or.inr ⟨by (first | assumption | (simp [c_4, c_5]; done) | (simp [c_4, c_5]; done) | (simp [c_4, c_5]; omega)), by (first | assumption | (simp [c_4, c_5]; done) | (simp [c_4, c_5]; done) | (simp [c_4, c_5]; omega)), by rfl⟩)) hlocks dX6_missing_48
      · skip
        exact absurd c_13 (by decide)
  · skip
    refine lv_iconst (v := 1) hx hb dX6_missing_9 (by decide) ?_
    refine lv_goto (tgt := 25) hx hb dX6_missing_10 (by decide) ?_
    refine lv_rep0 (x := 1) (y := nI 1) rfl ?_
    refine rCallI (C := RX6) (As := [.int (nI 1)]) (rest := []) ⟨hx, hb, hml, hown, hts⟩ fx hw (kX6_fails l G hG hF σ 1 (by omega)) (cwV 1 hts gX6_missing_X6_fails rfl rfl rfl (by decide +kernel) ⟨Nat.le_of_ble_eq_true rfl, Nat.le_of_ble_eq_true rfl⟩) (hF.1 31 (by decide)) rfl rfl rfl rfl hl.1 rfl (Nat.le_of_ble_eq_true rfl) dX6_missing_25 ⟨Nat.zero_le _, Nat.zero_le _⟩ ?_
    intro r_16 σ_17 H locs p_15 hw
    obtain ⟨er_16, eσ_17⟩ := p_15
    have er_16 := er_16.symm; subst er_16
    refine lv_b_eq (tgt := 35) hx hb dX6_missing_28 (by decide) (fun c_18 => ?_) (fun c_18 => ?_)
    · skip
      exact absurd c_18 (by decide)
    · skip
      refine lv_iconst (v := 0) hx hb dX6_missing_31 (by decide) ?_
      refine lv_goto (tgt := 48) hx hb dX6_missing_32 (by decide) ?_
      subst eσ_17
      exact rRetI hx hb hr hw (by first | exact Or.inl ⟨by (first | assumption | (simp [c_4]; done) | (simp [c_4]; done) | (simp [c_4]; omega)), by (first | assumption | (simp [c_4]; done) | (simp [c_4]; done) | (simp [c_4]; omega)), by rfl, by rfl⟩ | exact Or.inr (Or.inl ⟨by (first | assumption | (simp [c_4]; done) | (simp [c_4]; done) | (simp [c_4]; omega)), by rfl⟩) | exact Or.inr (Or.inr ⟨by (first | assumption | (simp [c_4]; done) | (simp [c_4]; done) | (simp [c_4]; omega)), by (first | assumption | (simp [c_4]; done) | (simp [c_4]; done) | (simp [c_4]; omega)), by rfl⟩)) hlocks dX6_missing_48

def rmX6_rank : Room := ({ frames := 2, cells := 0, slots := 0, locals := 49 } : Room)
set_option maxHeartbeats 4000000 in
set_option maxRecDepth 100000 in
theorem kX6_rank (l : Launch) (G : Gx) (hG : gOk G) (hF : Full G) (σ : St) (x : Int32) (g n sd e9 z : Nat) (b : Bool) (hMv : MIv σ g n sd b e9 z)  : CtI l yX6_rank wsX6_rank rmX6_rank G σ [.ref (gad G 31), .int x] (fun r σ' => (inB x n = true ∧ b = true ∧ r = nI (rkM σ n (ix x)) ∧ σ' = thr σ 0) ∨ (inB x n = false ∧ σ' = thr σ 1) ∨ (inB x n = true ∧ b = false ∧ σ' = thr σ 2)) := by
  refine bgMet (cc := cX6_rank) (maxL := 2) (ret := (some .int)) (own := RX6) (by decide) rfl rfl hG (Nat.le_of_ble_eq_true rfl) rfl ?_
  intro p e s m args below meth c ls Bd hl
  obtain ⟨hx, hb, hr, hml, hts, hown, hlocks, fx, hw⟩ := Bd
  have hl : lv_has ls 2 [(0, .ref (gad G 31)), (1, .int x)] := hl
  have hin : ∀ w ∈ wsX60, w ∈ wsX6_rank := by decide +kernel
  obtain ⟨⟨hmg, hmg1, hmg2⟩, ⟨hmn, hmn6⟩, ⟨hms, hms8⟩, ⟨hme, hme8⟩, hmo, ⟨hmz, hmz5⟩, hgm, hme9⟩ := id hMv
  refine lv_aload_n hx hb dX6_rank_0 rfl (lv_at hl 0 rfl) ?_
  refine lv_aload_n hx hb dX6_rank_1 rfl (lv_at hl 0 rfl) ?_
  refine lv_iload_n hx hb dX6_rank_2 rfl (lv_at hl 1 rfl) ?_
  refine rCallI (C := RX6) (As := [.int x]) (rest := [.ref (gad G 31)]) ⟨hx, hb, hml, hown, hts⟩ fx hw (kX6_isKart l G hG hF σ x n (by subst_vars; exact hmn) (by omega)) (cwV 1 hts gX6_rank_X6_isKart rfl rfl rfl (by decide +kernel) ⟨Nat.le_of_ble_eq_true rfl, Nat.le_of_ble_eq_true rfl⟩) (hF.1 31 (by decide)) rfl rfl rfl rfl hl.1 rfl (Nat.le_of_ble_eq_true rfl) dX6_rank_3 ⟨Nat.zero_le _, Nat.zero_le _⟩ ?_
  intro r_2 σ_3 H locs p_1 hw
  obtain ⟨er_2, eσ_3⟩ := p_1
  have er_2 := er_2.symm; subst er_2
  have eσ_3 := eσ_3.symm; subst eσ_3
  refine lv_b_ne (tgt := 13) hx hb dX6_rank_6 (by decide) (fun c_4 => ?_) (fun c_4 => ?_)
  · skip
    refine lv_aload_n hx hb dX6_rank_13 rfl (lv_at hl 0 rfl) ?_
    refine rGet (v := .int (σ 31 8)) (C := RX6) (T := TX6) (N := 26) hx hb fx hown hts hin hw 31 (hF.1 31 (by decide)) rfl rfl 8 (by decide) (hts (.fieldLink RX6 87 "LeaguewheelModel" "isOn" "Z") (by decide +kernel)) (fun _ h9 => h9) rfl dX6_rank_14 ?_
    refine lv_rep0 (x := (σ 31 8)) (y := (bI b)) (by exact hmo) ?_
    refine lv_b_eq (tgt := 24) hx hb dX6_rank_17 (by decide) (fun c_5 => ?_) (fun c_5 => ?_)
    · skip
      refine lv_iconst (v := 2) hx hb dX6_rank_24 (by decide) ?_
      refine lv_rep0 (x := 2) (y := nI 2) rfl ?_
      refine rCallI (C := RX6) (As := [.int (nI 2)]) (rest := []) ⟨hx, hb, hml, hown, hts⟩ fx hw (kX6_fails l G hG hF σ 2 (by omega)) (cwV 1 hts gX6_rank_X6_fails rfl rfl rfl (by decide +kernel) ⟨Nat.le_of_ble_eq_true rfl, Nat.le_of_ble_eq_true rfl⟩) (hF.1 31 (by decide)) rfl rfl rfl rfl hl.1 rfl (Nat.le_of_ble_eq_true rfl) dX6_rank_25 ⟨Nat.zero_le _, Nat.zero_le _⟩ ?_
      intro r_7 σ_8 H locs p_6 hw
      obtain ⟨er_7, eσ_8⟩ := p_6
      have er_7 := er_7.symm; subst er_7
      refine lv_b_eq (tgt := 35) hx hb dX6_rank_28 (by decide) (fun c_9 => ?_) (fun c_9 => ?_)
      · skip
        exact absurd c_9 (by decide)
      · skip
        refine lv_iconst (v := 0) hx hb dX6_rank_31 (by decide) ?_
        refine lv_goto (tgt := 40) hx hb dX6_rank_32 (by decide) ?_
        subst eσ_8
        exact rRetI hx hb hr hw (by first | exact Or.inl ⟨by (first | assumption | (simp [c_4, c_5]; done) | (simp [c_4, c_5]; done) | (simp [c_4, c_5]; omega)), by (first | assumption | (simp [c_4, c_5]; done) | (simp [c_4, c_5]; done) | (simp [c_4, c_5]; omega)), by rfl, by rfl⟩ | exact Or.inr (Or.inl ⟨by (first | assumption | (simp [c_4, c_5]; done) | (simp [c_4, c_5]; done) | (simp [c_4, c_5]; omega)), by rfl⟩) | exact Or.inr (Or.inr ⟨by (first | assumption | (simp [c_4, c_5]; done) | (simp [c_4, c_5]; done) | (simp [c_4, c_5]; omega)), by (first | assumption | (simp [c_4, c_5]; done) | (simp [c_4, c_5]; done) | (simp [c_4, c_5]; omega)), by rfl⟩)) hlocks dX6_rank_40
    · skip
      refine lv_iconst (v := 0) hx hb dX6_rank_20 (by decide) ?_
      refine lv_goto (tgt := 25) hx hb dX6_rank_21 (by decide) ?_
      refine lv_rep0 (x := 0) (y := nI 0) rfl ?_
      refine rCallI (C := RX6) (As := [.int (nI 0)]) (rest := []) ⟨hx, hb, hml, hown, hts⟩ fx hw (kX6_fails l G hG hF σ 0 (by omega)) (cwV 1 hts gX6_rank_X6_fails rfl rfl rfl (by decide +kernel) ⟨Nat.le_of_ble_eq_true rfl, Nat.le_of_ble_eq_true rfl⟩) (hF.1 31 (by decide)) rfl rfl rfl rfl hl.1 rfl (Nat.le_of_ble_eq_true rfl) dX6_rank_25 ⟨Nat.zero_le _, Nat.zero_le _⟩ ?_
      intro r_11 σ_12 H locs p_10 hw
      obtain ⟨er_11, eσ_12⟩ := p_10
      have er_11 := er_11.symm; subst er_11
      refine lv_b_eq (tgt := 35) hx hb dX6_rank_28 (by decide) (fun c_13 => ?_) (fun c_13 => ?_)
      · skip
        have hx9 := inB_ix (by omega) c_4
        have q_14 : x = (nI (ix x)) := by exact hx9.1
        have hl : lv_has ls 2 [(0, .ref (gad G 31)), (1, .int (nI (ix x)))] := (lv_c (lv_at hl 0 rfl) (lv_c (lv_atq hl 1 rfl q_14) (lv_c0 hl)))
        refine lv_aload_n hx hb dX6_rank_35 rfl (lv_at hl 0 rfl) ?_
        refine lv_iload_n hx hb dX6_rank_36 rfl (lv_at hl 1 rfl) ?_
        refine rCallI (C := RX6) (As := [.int (nI (ix x))]) (rest := []) ⟨hx, hb, hml, hown, hts⟩ fx hw (kX6_ranked l G hG hF σ_12 ((ix x)) (by omega) n (by subst_vars; exact hmn) (by omega) (by subst_vars; exact hgm)) (cwV 1 hts gX6_rank_X6_ranked rfl rfl rfl (by decide +kernel) ⟨Nat.le_of_ble_eq_true rfl, Nat.le_of_ble_eq_true rfl⟩) (hF.1 31 (by decide)) rfl rfl rfl rfl hl.1 rfl (Nat.le_of_ble_eq_true rfl) dX6_rank_37 ⟨Nat.zero_le _, Nat.zero_le _⟩ ?_
        intro r_16 σ_17 H locs p_15 hw
        obtain ⟨er_16, eσ_17⟩ := p_15
        have er_16 := er_16.symm; subst er_16
        have eσ_17 := eσ_17.symm; subst eσ_17
        subst eσ_12
        exact rRetI hx hb hr hw (by first | exact Or.inl ⟨by (first | assumption | (simp [c_4, c_5]; done) | (simp [c_4, c_5]; done) | (simp [c_4, c_5]; omega)), by (first | assumption | (simp [c_4, c_5]; done) | (simp [c_4, c_5]; done) | (simp [c_4, c_5]; omega)), by rfl, by rfl⟩ | exact Or.inr (Or.inl ⟨by (first | assumption | (simp [c_4, c_5]; done) | (simp [c_4, c_5]; done) | (simp [c_4, c_5]; omega)), by rfl⟩) | exact Or.inr (Or.inr ⟨by (first | assumption | (simp [c_4, c_5]; done) | (simp [c_4, c_5]; done) | (simp [c_4, c_5]; omega)), by (first | assumption | (simp [c_4, c_5]; done) | (simp [c_4, c_5]; done) | (simp [c_4, c_5]; omega)), by rfl⟩)) hlocks dX6_rank_40
      · skip
        exact absurd c_13 (by decide)
  · skip
    refine lv_iconst (v := 1) hx hb dX6_rank_9 (by decide) ?_
    refine lv_goto (tgt := 25) hx hb dX6_rank_10 (by decide) ?_
    refine lv_rep0 (x := 1) (y := nI 1) rfl ?_
    refine rCallI (C := RX6) (As := [.int (nI 1)]) (rest := []) ⟨hx, hb, hml, hown, hts⟩ fx hw (kX6_fails l G hG hF σ 1 (by omega)) (cwV 1 hts gX6_rank_X6_fails rfl rfl rfl (by decide +kernel) ⟨Nat.le_of_ble_eq_true rfl, Nat.le_of_ble_eq_true rfl⟩) (hF.1 31 (by decide)) rfl rfl rfl rfl hl.1 rfl (Nat.le_of_ble_eq_true rfl) dX6_rank_25 ⟨Nat.zero_le _, Nat.zero_le _⟩ ?_
    intro r_19 σ_20 H locs p_18 hw
    obtain ⟨er_19, eσ_20⟩ := p_18
    have er_19 := er_19.symm; subst er_19
    refine lv_b_eq (tgt := 35) hx hb dX6_rank_28 (by decide) (fun c_21 => ?_) (fun c_21 => ?_)
    · skip
      exact absurd c_21 (by decide)
    · skip
      refine lv_iconst (v := 0) hx hb dX6_rank_31 (by decide) ?_
      refine lv_goto (tgt := 40) hx hb dX6_rank_32 (by decide) ?_
      subst eσ_20
      exact rRetI hx hb hr hw (by first | exact Or.inl ⟨by (first | assumption | (simp [c_4]; done) | (simp [c_4]; done) | (simp [c_4]; omega)), by (first | assumption | (simp [c_4]; done) | (simp [c_4]; done) | (simp [c_4]; omega)), by rfl, by rfl⟩ | exact Or.inr (Or.inl ⟨by (first | assumption | (simp [c_4]; done) | (simp [c_4]; done) | (simp [c_4]; omega)), by rfl⟩) | exact Or.inr (Or.inr ⟨by (first | assumption | (simp [c_4]; done) | (simp [c_4]; done) | (simp [c_4]; omega)), by (first | assumption | (simp [c_4]; done) | (simp [c_4]; done) | (simp [c_4]; omega)), by rfl⟩)) hlocks dX6_rank_40

def rmX6_rankByRecord : Room := ({ frames := 2, cells := 0, slots := 0, locals := 49 } : Room)
set_option maxHeartbeats 4000000 in
set_option maxRecDepth 100000 in
theorem kX6_rankByRecord (l : Launch) (G : Gx) (hG : gOk G) (hF : Full G) (σ : St) (x : Int32) (g n sd e9 z : Nat) (b : Bool) (hMv : MIv σ g n sd b e9 z)  : CtI l yX6_rankByRecord wsX6_rankByRecord rmX6_rankByRecord G σ [.ref (gad G 31), .int x] (fun r σ' => (inB x n = true ∧ b = true ∧ r = nI (rkM σ n (ix x)) ∧ σ' = thr σ 0) ∨ (inB x n = false ∧ σ' = thr σ 1) ∨ (inB x n = true ∧ b = false ∧ σ' = thr σ 2)) := by
  refine bgMet (cc := cX6_rankByRecord) (maxL := 2) (ret := (some .int)) (own := RX6) (by decide) rfl rfl hG (Nat.le_of_ble_eq_true rfl) rfl ?_
  intro p e s m args below meth c ls Bd hl
  obtain ⟨hx, hb, hr, hml, hts, hown, hlocks, fx, hw⟩ := Bd
  have hl : lv_has ls 2 [(0, .ref (gad G 31)), (1, .int x)] := hl
  have hin : ∀ w ∈ wsX60, w ∈ wsX6_rankByRecord := by decide +kernel
  obtain ⟨⟨hmg, hmg1, hmg2⟩, ⟨hmn, hmn6⟩, ⟨hms, hms8⟩, ⟨hme, hme8⟩, hmo, ⟨hmz, hmz5⟩, hgm, hme9⟩ := id hMv
  refine lv_aload_n hx hb dX6_rankByRecord_0 rfl (lv_at hl 0 rfl) ?_
  refine lv_aload_n hx hb dX6_rankByRecord_1 rfl (lv_at hl 0 rfl) ?_
  refine lv_iload_n hx hb dX6_rankByRecord_2 rfl (lv_at hl 1 rfl) ?_
  refine rCallI (C := RX6) (As := [.int x]) (rest := [.ref (gad G 31)]) ⟨hx, hb, hml, hown, hts⟩ fx hw (kX6_isKart l G hG hF σ x n (by subst_vars; exact hmn) (by omega)) (cwV 1 hts gX6_rankByRecord_X6_isKart rfl rfl rfl (by decide +kernel) ⟨Nat.le_of_ble_eq_true rfl, Nat.le_of_ble_eq_true rfl⟩) (hF.1 31 (by decide)) rfl rfl rfl rfl hl.1 rfl (Nat.le_of_ble_eq_true rfl) dX6_rankByRecord_3 ⟨Nat.zero_le _, Nat.zero_le _⟩ ?_
  intro r_2 σ_3 H locs p_1 hw
  obtain ⟨er_2, eσ_3⟩ := p_1
  have er_2 := er_2.symm; subst er_2
  have eσ_3 := eσ_3.symm; subst eσ_3
  refine lv_b_ne (tgt := 13) hx hb dX6_rankByRecord_6 (by decide) (fun c_4 => ?_) (fun c_4 => ?_)
  · skip
    refine lv_aload_n hx hb dX6_rankByRecord_13 rfl (lv_at hl 0 rfl) ?_
    refine rGet (v := .int (σ 31 8)) (C := RX6) (T := TX6) (N := 26) hx hb fx hown hts hin hw 31 (hF.1 31 (by decide)) rfl rfl 8 (by decide) (hts (.fieldLink RX6 87 "LeaguewheelModel" "isOn" "Z") (by decide +kernel)) (fun _ h9 => h9) rfl dX6_rankByRecord_14 ?_
    refine lv_rep0 (x := (σ 31 8)) (y := (bI b)) (by exact hmo) ?_
    refine lv_b_eq (tgt := 24) hx hb dX6_rankByRecord_17 (by decide) (fun c_5 => ?_) (fun c_5 => ?_)
    · skip
      refine lv_iconst (v := 2) hx hb dX6_rankByRecord_24 (by decide) ?_
      refine lv_rep0 (x := 2) (y := nI 2) rfl ?_
      refine rCallI (C := RX6) (As := [.int (nI 2)]) (rest := []) ⟨hx, hb, hml, hown, hts⟩ fx hw (kX6_fails l G hG hF σ 2 (by omega)) (cwV 1 hts gX6_rankByRecord_X6_fails rfl rfl rfl (by decide +kernel) ⟨Nat.le_of_ble_eq_true rfl, Nat.le_of_ble_eq_true rfl⟩) (hF.1 31 (by decide)) rfl rfl rfl rfl hl.1 rfl (Nat.le_of_ble_eq_true rfl) dX6_rankByRecord_25 ⟨Nat.zero_le _, Nat.zero_le _⟩ ?_
      intro r_7 σ_8 H locs p_6 hw
      obtain ⟨er_7, eσ_8⟩ := p_6
      have er_7 := er_7.symm; subst er_7
      refine lv_b_eq (tgt := 35) hx hb dX6_rankByRecord_28 (by decide) (fun c_9 => ?_) (fun c_9 => ?_)
      · skip
        exact absurd c_9 (by decide)
      · skip
        refine lv_iconst (v := 0) hx hb dX6_rankByRecord_31 (by decide) ?_
        refine lv_goto (tgt := 40) hx hb dX6_rankByRecord_32 (by decide) ?_
        subst eσ_8
        exact rRetI hx hb hr hw (by first | exact Or.inl ⟨by (first | assumption | (simp [c_4, c_5]; done) | (simp [c_4, c_5]; done) | (simp [c_4, c_5]; omega)), by (first | assumption | (simp [c_4, c_5]; done) | (simp [c_4, c_5]; done) | (simp [c_4, c_5]; omega)), by rfl, by rfl⟩ | exact Or.inr (Or.inl ⟨by (first | assumption | (simp [c_4, c_5]; done) | (simp [c_4, c_5]; done) | (simp [c_4, c_5]; omega)), by rfl⟩) | exact Or.inr (Or.inr ⟨by (first | assumption | (simp [c_4, c_5]; done) | (simp [c_4, c_5]; done) | (simp [c_4, c_5]; omega)), by (first | assumption | (simp [c_4, c_5]; done) | (simp [c_4, c_5]; done) | (simp [c_4, c_5]; omega)), by rfl⟩)) hlocks dX6_rankByRecord_40
    · skip
      refine lv_iconst (v := 0) hx hb dX6_rankByRecord_20 (by decide) ?_
      refine lv_goto (tgt := 25) hx hb dX6_rankByRecord_21 (by decide) ?_
      refine lv_rep0 (x := 0) (y := nI 0) rfl ?_
      refine rCallI (C := RX6) (As := [.int (nI 0)]) (rest := []) ⟨hx, hb, hml, hown, hts⟩ fx hw (kX6_fails l G hG hF σ 0 (by omega)) (cwV 1 hts gX6_rankByRecord_X6_fails rfl rfl rfl (by decide +kernel) ⟨Nat.le_of_ble_eq_true rfl, Nat.le_of_ble_eq_true rfl⟩) (hF.1 31 (by decide)) rfl rfl rfl rfl hl.1 rfl (Nat.le_of_ble_eq_true rfl) dX6_rankByRecord_25 ⟨Nat.zero_le _, Nat.zero_le _⟩ ?_
      intro r_11 σ_12 H locs p_10 hw
      obtain ⟨er_11, eσ_12⟩ := p_10
      have er_11 := er_11.symm; subst er_11
      refine lv_b_eq (tgt := 35) hx hb dX6_rankByRecord_28 (by decide) (fun c_13 => ?_) (fun c_13 => ?_)
      · skip
        have hx9 := inB_ix (by omega) c_4
        have q_14 : x = (nI (ix x)) := by exact hx9.1
        have hl : lv_has ls 2 [(0, .ref (gad G 31)), (1, .int (nI (ix x)))] := (lv_c (lv_at hl 0 rfl) (lv_c (lv_atq hl 1 rfl q_14) (lv_c0 hl)))
        refine lv_aload_n hx hb dX6_rankByRecord_35 rfl (lv_at hl 0 rfl) ?_
        refine lv_iload_n hx hb dX6_rankByRecord_36 rfl (lv_at hl 1 rfl) ?_
        refine rCallI (C := RX6) (As := [.int (nI (ix x))]) (rest := []) ⟨hx, hb, hml, hown, hts⟩ fx hw (kX6_ranked l G hG hF σ_12 ((ix x)) (by omega) n (by subst_vars; exact hmn) (by omega) (by subst_vars; exact hgm)) (cwV 1 hts gX6_rankByRecord_X6_ranked rfl rfl rfl (by decide +kernel) ⟨Nat.le_of_ble_eq_true rfl, Nat.le_of_ble_eq_true rfl⟩) (hF.1 31 (by decide)) rfl rfl rfl rfl hl.1 rfl (Nat.le_of_ble_eq_true rfl) dX6_rankByRecord_37 ⟨Nat.zero_le _, Nat.zero_le _⟩ ?_
        intro r_16 σ_17 H locs p_15 hw
        obtain ⟨er_16, eσ_17⟩ := p_15
        have er_16 := er_16.symm; subst er_16
        have eσ_17 := eσ_17.symm; subst eσ_17
        subst eσ_12
        exact rRetI hx hb hr hw (by first | exact Or.inl ⟨by (first | assumption | (simp [c_4, c_5]; done) | (simp [c_4, c_5]; done) | (simp [c_4, c_5]; omega)), by (first | assumption | (simp [c_4, c_5]; done) | (simp [c_4, c_5]; done) | (simp [c_4, c_5]; omega)), by rfl, by rfl⟩ | exact Or.inr (Or.inl ⟨by (first | assumption | (simp [c_4, c_5]; done) | (simp [c_4, c_5]; done) | (simp [c_4, c_5]; omega)), by rfl⟩) | exact Or.inr (Or.inr ⟨by (first | assumption | (simp [c_4, c_5]; done) | (simp [c_4, c_5]; done) | (simp [c_4, c_5]; omega)), by (first | assumption | (simp [c_4, c_5]; done) | (simp [c_4, c_5]; done) | (simp [c_4, c_5]; omega)), by rfl⟩)) hlocks dX6_rankByRecord_40
      · skip
        exact absurd c_13 (by decide)
  · skip
    refine lv_iconst (v := 1) hx hb dX6_rankByRecord_9 (by decide) ?_
    refine lv_goto (tgt := 25) hx hb dX6_rankByRecord_10 (by decide) ?_
    refine lv_rep0 (x := 1) (y := nI 1) rfl ?_
    refine rCallI (C := RX6) (As := [.int (nI 1)]) (rest := []) ⟨hx, hb, hml, hown, hts⟩ fx hw (kX6_fails l G hG hF σ 1 (by omega)) (cwV 1 hts gX6_rankByRecord_X6_fails rfl rfl rfl (by decide +kernel) ⟨Nat.le_of_ble_eq_true rfl, Nat.le_of_ble_eq_true rfl⟩) (hF.1 31 (by decide)) rfl rfl rfl rfl hl.1 rfl (Nat.le_of_ble_eq_true rfl) dX6_rankByRecord_25 ⟨Nat.zero_le _, Nat.zero_le _⟩ ?_
    intro r_19 σ_20 H locs p_18 hw
    obtain ⟨er_19, eσ_20⟩ := p_18
    have er_19 := er_19.symm; subst er_19
    refine lv_b_eq (tgt := 35) hx hb dX6_rankByRecord_28 (by decide) (fun c_21 => ?_) (fun c_21 => ?_)
    · skip
      exact absurd c_21 (by decide)
    · skip
      refine lv_iconst (v := 0) hx hb dX6_rankByRecord_31 (by decide) ?_
      refine lv_goto (tgt := 40) hx hb dX6_rankByRecord_32 (by decide) ?_
      subst eσ_20
      exact rRetI hx hb hr hw (by first | exact Or.inl ⟨by (first | assumption | (simp [c_4]; done) | (simp [c_4]; done) | (simp [c_4]; omega)), by (first | assumption | (simp [c_4]; done) | (simp [c_4]; done) | (simp [c_4]; omega)), by rfl, by rfl⟩ | exact Or.inr (Or.inl ⟨by (first | assumption | (simp [c_4]; done) | (simp [c_4]; done) | (simp [c_4]; omega)), by rfl⟩) | exact Or.inr (Or.inr ⟨by (first | assumption | (simp [c_4]; done) | (simp [c_4]; done) | (simp [c_4]; omega)), by (first | assumption | (simp [c_4]; done) | (simp [c_4]; done) | (simp [c_4]; omega)), by rfl⟩)) hlocks dX6_rankByRecord_40

def rmX6_catchUp : Room := ({ frames := 3, cells := 0, slots := 0, locals := 72 } : Room)
set_option maxHeartbeats 4000000 in
set_option maxRecDepth 100000 in
theorem kX6_catchUp (l : Launch) (G : Gx) (hG : gOk G) (hF : Full G) (σ : St) (x : Int32) (w : Nat) (g n sd e9 z : Nat) (b : Bool) (hMv : MIv σ g n sd b e9 z) (hmk : b = true → mkA σ n 0 n = nI w ∧ w < 6)  : CtI l yX6_catchUp wsX6_catchUp rmX6_catchUp G σ [.ref (gad G 31), .int x] (fun r σ' => (inB x n = true ∧ b = true ∧ r = mcu (mdA σ w - mdA σ (ix x)) ∧ σ' = thr σ 0) ∨ (inB x n = false ∧ σ' = thr σ 1) ∨ (inB x n = true ∧ b = false ∧ σ' = thr σ 2)) := by
  refine bgMet (cc := cX6_catchUp) (maxL := 3) (ret := (some .int)) (own := RX6) (by decide) rfl rfl hG (Nat.le_of_ble_eq_true rfl) rfl ?_
  intro p e s m args below meth c ls Bd hl
  obtain ⟨hx, hb, hr, hml, hts, hown, hlocks, fx, hw⟩ := Bd
  have hl : lv_has ls 3 [(0, .ref (gad G 31)), (1, .int x)] := hl
  have hin : ∀ w ∈ wsX60, w ∈ wsX6_catchUp := by decide +kernel
  obtain ⟨⟨hmg, hmg1, hmg2⟩, ⟨hmn, hmn6⟩, ⟨hms, hms8⟩, ⟨hme, hme8⟩, hmo, ⟨hmz, hmz5⟩, hgm, hme9⟩ := id hMv
  refine lv_aload_n hx hb dX6_catchUp_0 rfl (lv_at hl 0 rfl) ?_
  refine lv_aload_n hx hb dX6_catchUp_1 rfl (lv_at hl 0 rfl) ?_
  refine lv_iload_n hx hb dX6_catchUp_2 rfl (lv_at hl 1 rfl) ?_
  refine rCallI (C := RX6) (As := [.int x]) (rest := [.ref (gad G 31)]) ⟨hx, hb, hml, hown, hts⟩ fx hw (kX6_isKart l G hG hF σ x n (by subst_vars; exact hmn) (by omega)) (cwV 1 hts gX6_catchUp_X6_isKart rfl rfl rfl (by decide +kernel) ⟨Nat.le_of_ble_eq_true rfl, Nat.le_of_ble_eq_true rfl⟩) (hF.1 31 (by decide)) rfl rfl rfl rfl hl.1 rfl (Nat.le_of_ble_eq_true rfl) dX6_catchUp_3 ⟨Nat.zero_le _, Nat.zero_le _⟩ ?_
  intro r_2 σ_3 H locs p_1 hw
  obtain ⟨er_2, eσ_3⟩ := p_1
  have er_2 := er_2.symm; subst er_2
  have eσ_3 := eσ_3.symm; subst eσ_3
  refine lv_b_ne (tgt := 13) hx hb dX6_catchUp_6 (by decide) (fun c_4 => ?_) (fun c_4 => ?_)
  · skip
    refine lv_aload_n hx hb dX6_catchUp_13 rfl (lv_at hl 0 rfl) ?_
    refine rGet (v := .int (σ 31 8)) (C := RX6) (T := TX6) (N := 26) hx hb fx hown hts hin hw 31 (hF.1 31 (by decide)) rfl rfl 8 (by decide) (hts (.fieldLink RX6 87 "LeaguewheelModel" "isOn" "Z") (by decide +kernel)) (fun _ h9 => h9) rfl dX6_catchUp_14 ?_
    refine lv_rep0 (x := (σ 31 8)) (y := (bI b)) (by exact hmo) ?_
    refine lv_b_eq (tgt := 24) hx hb dX6_catchUp_17 (by decide) (fun c_5 => ?_) (fun c_5 => ?_)
    · skip
      refine lv_iconst (v := 2) hx hb dX6_catchUp_24 (by decide) ?_
      refine lv_rep0 (x := 2) (y := nI 2) rfl ?_
      refine rCallI (C := RX6) (As := [.int (nI 2)]) (rest := []) ⟨hx, hb, hml, hown, hts⟩ fx hw (kX6_fails l G hG hF σ 2 (by omega)) (cwV 1 hts gX6_catchUp_X6_fails rfl rfl rfl (by decide +kernel) ⟨Nat.le_of_ble_eq_true rfl, Nat.le_of_ble_eq_true rfl⟩) (hF.1 31 (by decide)) rfl rfl rfl rfl hl.1 rfl (Nat.le_of_ble_eq_true rfl) dX6_catchUp_25 ⟨Nat.zero_le _, Nat.zero_le _⟩ ?_
      intro r_7 σ_8 H locs p_6 hw
      obtain ⟨er_7, eσ_8⟩ := p_6
      have er_7 := er_7.symm; subst er_7
      refine lv_b_eq (tgt := 33) hx hb dX6_catchUp_28 (by decide) (fun c_9 => ?_) (fun c_9 => ?_)
      · skip
        exact absurd c_9 (by decide)
      · skip
        refine lv_iconst (v := 0) hx hb dX6_catchUp_31 (by decide) ?_
        subst eσ_8
        exact rRetI hx hb hr hw (by first | exact Or.inr (Or.inl ⟨by (first | assumption | (simp [c_4, c_5]; done) | (simp [c_4, c_5]; done) | (simp [c_4, c_5]; omega)), by rfl⟩) | exact Or.inr (Or.inr ⟨by (first | assumption | (simp [c_4, c_5]; done) | (simp [c_4, c_5]; done) | (simp [c_4, c_5]; omega)), by (first | assumption | (simp [c_4, c_5]; done) | (simp [c_4, c_5]; done) | (simp [c_4, c_5]; omega)), by rfl⟩)) hlocks dX6_catchUp_32
    · skip
      refine lv_iconst (v := 0) hx hb dX6_catchUp_20 (by decide) ?_
      refine lv_goto (tgt := 25) hx hb dX6_catchUp_21 (by decide) ?_
      refine lv_rep0 (x := 0) (y := nI 0) rfl ?_
      refine rCallI (C := RX6) (As := [.int (nI 0)]) (rest := []) ⟨hx, hb, hml, hown, hts⟩ fx hw (kX6_fails l G hG hF σ 0 (by omega)) (cwV 1 hts gX6_catchUp_X6_fails rfl rfl rfl (by decide +kernel) ⟨Nat.le_of_ble_eq_true rfl, Nat.le_of_ble_eq_true rfl⟩) (hF.1 31 (by decide)) rfl rfl rfl rfl hl.1 rfl (Nat.le_of_ble_eq_true rfl) dX6_catchUp_25 ⟨Nat.zero_le _, Nat.zero_le _⟩ ?_
      intro r_11 σ_12 H locs p_10 hw
      obtain ⟨er_11, eσ_12⟩ := p_10
      have er_11 := er_11.symm; subst er_11
      refine lv_b_eq (tgt := 33) hx hb dX6_catchUp_28 (by decide) (fun c_13 => ?_) (fun c_13 => ?_)
      · skip
        have hx9 := inB_ix (by omega) c_4
        have q_14 : x = (nI (ix x)) := by exact hx9.1
        have hl : lv_has ls 3 [(0, .ref (gad G 31)), (1, .int (nI (ix x)))] := (lv_c (lv_at hl 0 rfl) (lv_c (lv_atq hl 1 rfl q_14) (lv_c0 hl)))
        have hmw := hmk c_5
        refine lv_aload_n hx hb dX6_catchUp_33 rfl (lv_at hl 0 rfl) ?_
        refine lv_aload_n hx hb dX6_catchUp_34 rfl (lv_at hl 0 rfl) ?_
        refine lv_iconst (v := 0) hx hb dX6_catchUp_35 (by decide) ?_
        refine lv_rep0 (x := 0) (y := nI 0) rfl ?_
        refine rCallI (C := RX6) (As := [.int (nI 0)]) (rest := [.ref (gad G 31)]) ⟨hx, hb, hml, hown, hts⟩ fx hw (kX6_atRank l G hG hF σ_12 0 (by omega) n (by subst_vars; exact hmn) (by omega) (by subst_vars; exact hgm)) (cwV 1 hts gX6_catchUp_X6_atRank rfl rfl rfl (by decide +kernel) ⟨Nat.le_of_ble_eq_true rfl, Nat.le_of_ble_eq_true rfl⟩) (hF.1 31 (by decide)) rfl rfl rfl rfl hl.1 rfl (Nat.le_of_ble_eq_true rfl) dX6_catchUp_36 ⟨Nat.zero_le _, Nat.zero_le _⟩ ?_
        intro r_16 σ_17 H locs p_15 hw
        obtain ⟨er_16, eσ_17⟩ := p_15
        have er_16 := er_16.symm; subst er_16
        have eσ_17 := eσ_17.symm; subst eσ_17
        refine lv_rep0 (x := (mkA σ_12 n 0 n)) (y := nI w) (by subst_vars; rw [mkA_cong rkM_thr]; exact hmw.1) ?_
        refine rCallI (C := RX6) (As := [.int (nI w)]) (rest := []) ⟨hx, hb, hml, hown, hts⟩ fx hw (kX6_done l G hG hF σ_12 w (by omega) (by subst_vars; exact hgm)) (cwV 1 hts gX6_catchUp_X6_done rfl rfl rfl (by decide +kernel) ⟨Nat.le_of_ble_eq_true rfl, Nat.le_of_ble_eq_true rfl⟩) (hF.1 31 (by decide)) rfl rfl rfl rfl hl.1 rfl (Nat.le_of_ble_eq_true rfl) dX6_catchUp_39 ⟨Nat.zero_le _, Nat.zero_le _⟩ ?_
        intro r_19 σ_20 H locs p_18 hw
        obtain ⟨er_19, eσ_20⟩ := p_18
        have er_19 := er_19.symm; subst er_19
        have eσ_20 := eσ_20.symm; subst eσ_20
        refine lv_aload_n hx hb dX6_catchUp_42 rfl (lv_at hl 0 rfl) ?_
        refine lv_iload_n hx hb dX6_catchUp_43 rfl (lv_at hl 1 rfl) ?_
        refine rCallI (C := RX6) (As := [.int (nI (ix x))]) (rest := [.int (mdA σ_12 w)]) ⟨hx, hb, hml, hown, hts⟩ fx hw (kX6_done l G hG hF σ_12 ((ix x)) (by omega) (by subst_vars; exact hgm)) (cwV 1 hts gX6_catchUp_X6_done rfl rfl rfl (by decide +kernel) ⟨Nat.le_of_ble_eq_true rfl, Nat.le_of_ble_eq_true rfl⟩) (hF.1 31 (by decide)) rfl rfl rfl rfl hl.1 rfl (Nat.le_of_ble_eq_true rfl) dX6_catchUp_44 ⟨Nat.zero_le _, Nat.zero_le _⟩ ?_
        intro r_22 σ_23 H locs p_21 hw
        obtain ⟨er_22, eσ_23⟩ := p_21
        have er_22 := er_22.symm; subst er_22
        have eσ_23 := eσ_23.symm; subst eσ_23
        refine lv_isub hx hb dX6_catchUp_47 ?_
        refine lv_istore_n (lv' := [(2, .int ((mdA σ_12 w) - (mdA σ_12 (ix x)))), (0, .ref (gad G 31)), (1, .int (nI (ix x)))]) hx hb dX6_catchUp_48 rfl hl (by decide) rfl (fun ls hl => ?_)
        refine lv_iload_n hx hb dX6_catchUp_49 rfl (lv_at hl 0 rfl) ?_
        refine lv_if_ge (tgt := 57) hx hb dX6_catchUp_50 (by decide) (fun c_24 => ?_) (fun c_24 => ?_)
        · skip
          refine lv_iload_n hx hb dX6_catchUp_57 rfl (lv_at hl 0 rfl) ?_
          refine lv_bipush (v := 10) hx hb dX6_catchUp_58 (by decide) ?_
          refine lv_idiv hx hb dX6_catchUp_60 (by decide) ?_
          refine lv_bipush (v := 25) hx hb dX6_catchUp_61 (by decide) ?_
          refine lv_icmp_le (tgt := 71) hx hb dX6_catchUp_63 (by decide) (fun c_25 => ?_) (fun c_25 => ?_)
          · skip
            refine lv_iload_n hx hb dX6_catchUp_71 rfl (lv_at hl 0 rfl) ?_
            refine lv_bipush (v := 10) hx hb dX6_catchUp_72 (by decide) ?_
            refine lv_idiv hx hb dX6_catchUp_74 (by decide) ?_
            subst eσ_12
            exact rRetI hx hb hr hw (by exact Or.inl ⟨by (first | assumption | (simp [c_4, c_5]; done) | (simp [c_4, c_5, c_24, c_25]; done) | (simp [c_4, c_5, c_24, c_25]; omega)), by (first | assumption | (simp [c_4, c_5]; done) | (simp [c_4, c_5, c_24, c_25]; done) | (simp [c_4, c_5, c_24, c_25]; omega)), by unfold mcu; first | (rw [if_pos (by assumption), if_pos (by assumption)]; rfl) | (rw [if_pos (by assumption), if_neg (by assumption)]) | (rw [if_neg (by assumption)]), by rfl⟩) hlocks dX6_catchUp_75
          · skip
            refine lv_bipush (v := 25) hx hb dX6_catchUp_66 (by decide) ?_
            refine lv_goto (tgt := 75) hx hb dX6_catchUp_68 (by decide) ?_
            subst eσ_12
            exact rRetI hx hb hr hw (by exact Or.inl ⟨by (first | assumption | (simp [c_4, c_5]; done) | (simp [c_4, c_5, c_24, c_25]; done) | (simp [c_4, c_5, c_24, c_25]; omega)), by (first | assumption | (simp [c_4, c_5]; done) | (simp [c_4, c_5, c_24, c_25]; done) | (simp [c_4, c_5, c_24, c_25]; omega)), by unfold mcu; first | (rw [if_pos (by assumption), if_pos (by assumption)]; rfl) | (rw [if_pos (by assumption), if_neg (by assumption)]) | (rw [if_neg (by assumption)]), by rfl⟩) hlocks dX6_catchUp_75
        · skip
          refine lv_iconst (v := 0) hx hb dX6_catchUp_53 (by decide) ?_
          refine lv_goto (tgt := 75) hx hb dX6_catchUp_54 (by decide) ?_
          subst eσ_12
          exact rRetI hx hb hr hw (by exact Or.inl ⟨by (first | assumption | (simp [c_4, c_5]; done) | (simp [c_4, c_5, c_24]; done) | (simp [c_4, c_5, c_24]; omega)), by (first | assumption | (simp [c_4, c_5]; done) | (simp [c_4, c_5, c_24]; done) | (simp [c_4, c_5, c_24]; omega)), by unfold mcu; first | (rw [if_pos (by assumption), if_pos (by assumption)]; rfl) | (rw [if_pos (by assumption), if_neg (by assumption)]) | (rw [if_neg (by assumption)]), by rfl⟩) hlocks dX6_catchUp_75
      · skip
        exact absurd c_13 (by decide)
  · skip
    refine lv_iconst (v := 1) hx hb dX6_catchUp_9 (by decide) ?_
    refine lv_goto (tgt := 25) hx hb dX6_catchUp_10 (by decide) ?_
    refine lv_rep0 (x := 1) (y := nI 1) rfl ?_
    refine rCallI (C := RX6) (As := [.int (nI 1)]) (rest := []) ⟨hx, hb, hml, hown, hts⟩ fx hw (kX6_fails l G hG hF σ 1 (by omega)) (cwV 1 hts gX6_catchUp_X6_fails rfl rfl rfl (by decide +kernel) ⟨Nat.le_of_ble_eq_true rfl, Nat.le_of_ble_eq_true rfl⟩) (hF.1 31 (by decide)) rfl rfl rfl rfl hl.1 rfl (Nat.le_of_ble_eq_true rfl) dX6_catchUp_25 ⟨Nat.zero_le _, Nat.zero_le _⟩ ?_
    intro r_27 σ_28 H locs p_26 hw
    obtain ⟨er_27, eσ_28⟩ := p_26
    have er_27 := er_27.symm; subst er_27
    refine lv_b_eq (tgt := 33) hx hb dX6_catchUp_28 (by decide) (fun c_29 => ?_) (fun c_29 => ?_)
    · skip
      exact absurd c_29 (by decide)
    · skip
      refine lv_iconst (v := 0) hx hb dX6_catchUp_31 (by decide) ?_
      subst eσ_28
      exact rRetI hx hb hr hw (by first | exact Or.inr (Or.inl ⟨by (first | assumption | (simp [c_4]; done) | (simp [c_4]; done) | (simp [c_4]; omega)), by rfl⟩) | exact Or.inr (Or.inr ⟨by (first | assumption | (simp [c_4]; done) | (simp [c_4]; done) | (simp [c_4]; omega)), by (first | assumption | (simp [c_4]; done) | (simp [c_4]; done) | (simp [c_4]; omega)), by rfl⟩)) hlocks dX6_catchUp_32

def rmX6_draw : Room := ({ frames := 2, cells := 0, slots := 0, locals := 49 } : Room)
set_option maxHeartbeats 4000000 in
set_option maxRecDepth 100000 in
theorem kX6_draw (l : Launch) (G : Gx) (hG : gOk G) (hF : Full G) (σ : St) (x : Int32) (g n sd e9 z : Nat) (b : Bool) (hMv : MIv σ g n sd b e9 z)  : CtI l yX6_draw wsX6_draw rmX6_draw G σ [.ref (gad G 31), .int x] (fun r σ' => (inB x n = true ∧ (b && decide (σ 40 (ix x) ≤ 0) && decide (σ 41 (ix x) = -1)) = true ∧ r = itA (rkM σ n (ix x)) (dD (nxA (σ 31 12))) ∧ σ' = upA (upA σ 31 (upd (upd (σ 31) 25 0) 12 (nxA (σ 31 12)))) 41 (upd (σ 41) (ix x) (itA (rkM σ n (ix x)) (dD (nxA (σ 31 12)))))) ∨ (inB x n = false ∧ σ' = thr σ 1) ∨ (inB x n = true ∧ (b && decide (σ 40 (ix x) ≤ 0) && decide (σ 41 (ix x) = -1)) = false ∧ σ' = thr σ 2)) := by
  refine bgMet (cc := cX6_draw) (maxL := 3) (ret := (some .int)) (own := RX6) (by decide) rfl rfl hG (Nat.le_of_ble_eq_true rfl) rfl ?_
  intro p e s m args below meth c ls Bd hl
  obtain ⟨hx, hb, hr, hml, hts, hown, hlocks, fx, hw⟩ := Bd
  have hl : lv_has ls 3 [(0, .ref (gad G 31)), (1, .int x)] := hl
  have hin : ∀ w ∈ wsX60, w ∈ wsX6_draw := by decide +kernel
  obtain ⟨⟨hmg, hmg1, hmg2⟩, ⟨hmn, hmn6⟩, ⟨hms, hms8⟩, ⟨hme, hme8⟩, hmo, ⟨hmz, hmz5⟩, hgm, hme9⟩ := id hMv
  refine lv_aload_n hx hb dX6_draw_0 rfl (lv_at hl 0 rfl) ?_
  refine lv_iload_n hx hb dX6_draw_1 rfl (lv_at hl 1 rfl) ?_
  refine rCallI (C := RX6) (As := [.int x]) (rest := []) ⟨hx, hb, hml, hown, hts⟩ fx hw (kX6_isKart l G hG hF σ x n (by subst_vars; exact hmn) (by omega)) (cwV 1 hts gX6_draw_X6_isKart rfl rfl rfl (by decide +kernel) ⟨Nat.le_of_ble_eq_true rfl, Nat.le_of_ble_eq_true rfl⟩) (hF.1 31 (by decide)) rfl rfl rfl rfl hl.1 rfl (Nat.le_of_ble_eq_true rfl) dX6_draw_2 ⟨Nat.zero_le _, Nat.zero_le _⟩ ?_
  intro r_2 σ_3 H locs p_1 hw
  obtain ⟨er_2, eσ_3⟩ := p_1
  have er_2 := er_2.symm; subst er_2
  have eσ_3 := eσ_3.symm; subst eσ_3
  refine lv_istore_n (lv' := [(2, .int (bI (inB x n))), (0, .ref (gad G 31)), (1, .int x)]) hx hb dX6_draw_5 rfl hl (by decide) rfl (fun ls hl => ?_)
  refine lv_aload_n hx hb dX6_draw_6 rfl (lv_at hl 1 rfl) ?_
  refine lv_iload_n hx hb dX6_draw_7 rfl (lv_at hl 0 rfl) ?_
  refine lv_b_ne (tgt := 15) hx hb dX6_draw_8 (by decide) (fun c_4 => ?_) (fun c_4 => ?_)
  · skip
    have hx9 := inB_ix (by omega) c_4
    have q_5 : x = (nI (ix x)) := by exact hx9.1
    have hl : lv_has ls 3 [(2, .int (bI (inB x n))), (0, .ref (gad G 31)), (1, .int (nI (ix x)))] := (lv_c (lv_at hl 0 rfl) (lv_c (lv_at hl 1 rfl) (lv_c (lv_atq hl 2 rfl q_5) (lv_c0 hl))))
    refine lv_aload_n hx hb dX6_draw_15 rfl (lv_at hl 1 rfl) ?_
    refine rGet (v := .int (σ 31 8)) (C := RX6) (T := TX6) (N := 26) hx hb fx hown hts hin hw 31 (hF.1 31 (by decide)) rfl rfl 8 (by decide) (hts (.fieldLink RX6 87 "LeaguewheelModel" "isOn" "Z") (by decide +kernel)) (fun _ h9 => h9) rfl dX6_draw_16 ?_
    refine lv_rep0 (x := (σ 31 8)) (y := (bI b)) (by exact hmo) ?_
    refine lv_b_eq (tgt := 41) hx hb dX6_draw_19 (by decide) (fun c_6 => ?_) (fun c_6 => ?_)
    · skip
      refine lv_iconst (v := 2) hx hb dX6_draw_41 (by decide) ?_
      refine lv_goto (tgt := 46) hx hb dX6_draw_42 (by decide) ?_
      refine lv_rep0 (x := 2) (y := nI 2) rfl ?_
      refine rCallI (C := RX6) (As := [.int (nI 2)]) (rest := []) ⟨hx, hb, hml, hown, hts⟩ fx hw (kX6_fails l G hG hF σ 2 (by omega)) (cwV 1 hts gX6_draw_X6_fails rfl rfl rfl (by decide +kernel) ⟨Nat.le_of_ble_eq_true rfl, Nat.le_of_ble_eq_true rfl⟩) (hF.1 31 (by decide)) rfl rfl rfl rfl hl.1 rfl (Nat.le_of_ble_eq_true rfl) dX6_draw_46 ⟨Nat.zero_le _, Nat.zero_le _⟩ ?_
      intro r_8 σ_9 H locs p_7 hw
      obtain ⟨er_8, eσ_9⟩ := p_7
      have er_8 := er_8.symm; subst er_8
      refine lv_b_eq (tgt := 54) hx hb dX6_draw_49 (by decide) (fun c_10 => ?_) (fun c_10 => ?_)
      · skip
        exact absurd c_10 (by decide)
      · skip
        refine lv_iconst (v := 0) hx hb dX6_draw_52 (by decide) ?_
        subst eσ_9
        exact rRetI hx hb hr hw (by first | exact Or.inr (Or.inl ⟨by (first | assumption | (simp [c_4, c_6]; done) | (simp [c_4, c_6]; done) | (simp [c_4, c_6]; omega)), by rfl⟩) | exact Or.inr (Or.inr ⟨by (first | assumption | (simp [c_4, c_6]; done) | (simp [c_4, c_6]; done) | (simp [c_4, c_6]; omega)), by (first | assumption | (simp [c_4, c_6]; done) | (simp [c_4, c_6]; done) | (simp [c_4, c_6]; omega)), by rfl⟩)) hlocks dX6_draw_53
    · skip
      refine lv_aload_n hx hb dX6_draw_22 rfl (lv_at hl 1 rfl) ?_
      refine rGet (v := .ref (gad G 40)) (C := RX6) (T := TX6) (N := 26) hx hb fx hown hts hin hw 31 (hF.1 31 (by decide)) rfl rfl 18 (by decide) (hts (.fieldLink RX6 38 "LeaguewheelModel" "finish" "[I") (by decide +kernel)) (fun _ h9 => h9) rfl dX6_draw_23 ?_
      refine lv_iload_n hx hb dX6_draw_26 rfl (lv_at hl 2 rfl) ?_
      refine rAld hx hb fx hw 40 (hF.1 40 (by decide)) hF.2.1 (fun _ => rfl) (ix x) rfl (by omega) (by decide) dX6_draw_27 ?_
      refine lv_if_gt (tgt := 41) hx hb dX6_draw_28 (by decide) (fun c_11 => ?_) (fun c_11 => ?_)
      · skip
        have c_11 := Int32.not_le.mpr c_11
        refine lv_iconst (v := 2) hx hb dX6_draw_41 (by decide) ?_
        refine lv_goto (tgt := 46) hx hb dX6_draw_42 (by decide) ?_
        refine lv_rep0 (x := 2) (y := nI 2) rfl ?_
        refine rCallI (C := RX6) (As := [.int (nI 2)]) (rest := []) ⟨hx, hb, hml, hown, hts⟩ fx hw (kX6_fails l G hG hF σ 2 (by omega)) (cwV 1 hts gX6_draw_X6_fails rfl rfl rfl (by decide +kernel) ⟨Nat.le_of_ble_eq_true rfl, Nat.le_of_ble_eq_true rfl⟩) (hF.1 31 (by decide)) rfl rfl rfl rfl hl.1 rfl (Nat.le_of_ble_eq_true rfl) dX6_draw_46 ⟨Nat.zero_le _, Nat.zero_le _⟩ ?_
        intro r_13 σ_14 H locs p_12 hw
        obtain ⟨er_13, eσ_14⟩ := p_12
        have er_13 := er_13.symm; subst er_13
        refine lv_b_eq (tgt := 54) hx hb dX6_draw_49 (by decide) (fun c_15 => ?_) (fun c_15 => ?_)
        · skip
          exact absurd c_15 (by decide)
        · skip
          refine lv_iconst (v := 0) hx hb dX6_draw_52 (by decide) ?_
          subst eσ_14
          exact rRetI hx hb hr hw (by first | exact Or.inr (Or.inl ⟨by (first | assumption | (simp [c_4, c_6]; done) | (simp [c_4, c_6, c_11]; done) | (simp [c_4, c_6, c_11]; omega)), by rfl⟩) | exact Or.inr (Or.inr ⟨by (first | assumption | (simp [c_4, c_6]; done) | (simp [c_4, c_6, c_11]; done) | (simp [c_4, c_6, c_11]; omega)), by (first | assumption | (simp [c_4, c_6]; done) | (simp [c_4, c_6, c_11]; done) | (simp [c_4, c_6, c_11]; omega)), by rfl⟩)) hlocks dX6_draw_53
      · skip
        have c_11 := Int32.not_lt.mp c_11
        refine lv_aload_n hx hb dX6_draw_31 rfl (lv_at hl 1 rfl) ?_
        refine rGet (v := .ref (gad G 41)) (C := RX6) (T := TX6) (N := 26) hx hb fx hown hts hin hw 31 (hF.1 31 (by decide)) rfl rfl 19 (by decide) (hts (.fieldLink RX6 41 "LeaguewheelModel" "item" "[I") (by decide +kernel)) (fun _ h9 => h9) rfl dX6_draw_32 ?_
        refine lv_iload_n hx hb dX6_draw_35 rfl (lv_at hl 2 rfl) ?_
        refine rAld hx hb fx hw 41 (hF.1 41 (by decide)) hF.2.1 (fun _ => rfl) (ix x) rfl (by omega) (by decide) dX6_draw_36 ?_
        refine lv_iconst (v := (-1)) hx hb dX6_draw_37 (by decide) ?_
        refine lv_icmp_eq (tgt := 45) hx hb dX6_draw_38 (by decide) (fun c_16 => ?_) (fun c_16 => ?_)
        · skip
          refine lv_iconst (v := 0) hx hb dX6_draw_45 (by decide) ?_
          refine lv_rep0 (x := 0) (y := nI 0) rfl ?_
          refine rCallI (C := RX6) (As := [.int (nI 0)]) (rest := []) ⟨hx, hb, hml, hown, hts⟩ fx hw (kX6_fails l G hG hF σ 0 (by omega)) (cwV 1 hts gX6_draw_X6_fails rfl rfl rfl (by decide +kernel) ⟨Nat.le_of_ble_eq_true rfl, Nat.le_of_ble_eq_true rfl⟩) (hF.1 31 (by decide)) rfl rfl rfl rfl hl.1 rfl (Nat.le_of_ble_eq_true rfl) dX6_draw_46 ⟨Nat.zero_le _, Nat.zero_le _⟩ ?_
          intro r_18 σ_19 H locs p_17 hw
          obtain ⟨er_18, eσ_19⟩ := p_17
          have er_18 := er_18.symm; subst er_18
          refine lv_b_eq (tgt := 54) hx hb dX6_draw_49 (by decide) (fun c_20 => ?_) (fun c_20 => ?_)
          · skip
            refine lv_aload_n hx hb dX6_draw_54 rfl (lv_at hl 1 rfl) ?_
            refine lv_aload_n hx hb dX6_draw_55 rfl (lv_at hl 1 rfl) ?_
            refine rGet (v := .int (σ_19 31 12)) (C := RX6) (T := TX6) (N := 26) hx hb fx hown hts hin hw 31 (hF.1 31 (by decide)) rfl rfl 12 (by decide) (hts (.fieldLink RX6 127 "LeaguewheelModel" "x" "I") (by decide +kernel)) (fun _ h9 => h9) rfl dX6_draw_56 ?_
            refine lv_ldc (v := 1103515245) hx hb hown (hts (.constant RX6 130 (1103515245)) (by decide +kernel)) dX6_draw_59 ?_
            refine lv_imul hx hb dX6_draw_61 ?_
            refine lv_sipush (v := 12345) hx hb dX6_draw_62 (by decide) ?_
            refine lv_iadd hx hb dX6_draw_65 ?_
            refine lv_rep0 (x := (((σ_19 31 12) * 1103515245) + 12345)) (y := (nxA (σ 31 12))) (by subst_vars; rfl) ?_
            refine rPut (v := (nxA (σ 31 12))) (ty := .int) (C := RX6) (T := TX6) (N := 26) hx hb fx hown hts hin tyX6 tyX6_ok nmX6 hw 31 (hF.1 31 (by decide)) rfl rfl 12 (by decide) (hts (.fieldLink RX6 127 "LeaguewheelModel" "x" "I") (by decide +kernel)) (fun _ h9 => h9) rfl (by decide +kernel) rfl rfl (Nat.le_of_ble_eq_true rfl) rfl dX6_draw_66 (fun H locs hw => ?_)
            obtain ⟨σ_21, eσ_21⟩ : ∃ w9, w9 = upA σ_19 31 (upd (σ_19 31) 12 (nxA (σ 31 12))) := ⟨_, rfl⟩
            rw [← eσ_21] at hw
            refine lv_aload_n hx hb dX6_draw_69 rfl (lv_at hl 1 rfl) ?_
            refine rGet (v := .ref (gad G 41)) (C := RX6) (T := TX6) (N := 26) hx hb fx hown hts hin hw 31 (hF.1 31 (by decide)) rfl rfl 19 (by decide) (hts (.fieldLink RX6 41 "LeaguewheelModel" "item" "[I") (by decide +kernel)) (fun _ h9 => h9) rfl dX6_draw_70 ?_
            refine lv_iload_n hx hb dX6_draw_73 rfl (lv_at hl 2 rfl) ?_
            refine lv_aload_n hx hb dX6_draw_74 rfl (lv_at hl 1 rfl) ?_
            refine lv_iload_n hx hb dX6_draw_75 rfl (lv_at hl 2 rfl) ?_
            refine rCallI (C := RX6) (As := [.int (nI (ix x))]) (rest := [.int (nI (ix x)), .ref (gad G 41)]) ⟨hx, hb, hml, hown, hts⟩ fx hw (kX6_ranked l G hG hF σ_21 ((ix x)) (by omega) n (by subst_vars; exact hmn) (by omega) (by subst_vars; exact hgm)) (cwV 1 hts gX6_draw_X6_ranked rfl rfl rfl (by decide +kernel) ⟨Nat.le_of_ble_eq_true rfl, Nat.le_of_ble_eq_true rfl⟩) (hF.1 31 (by decide)) rfl rfl rfl rfl hl.1 rfl (Nat.le_of_ble_eq_true rfl) dX6_draw_76 ⟨Nat.zero_le _, Nat.zero_le _⟩ ?_
            intro r_23 σ_24 H locs p_22 hw
            obtain ⟨er_23, eσ_24⟩ := p_22
            have er_23 := er_23.symm; subst er_23
            have eσ_24 := eσ_24.symm; subst eσ_24
            refine lv_rep0 (x := (nI (rkM σ_21 n (ix x)))) (y := (nI (rkM σ n (ix x)))) (by subst_vars; rfl) ?_
            refine lv_rep0 (x := (nI (rkM σ n (ix x)))) (y := nI (rkM σ n (ix x))) (by rfl) ?_
            have hr9 := rkM_lt (σ := σ) (n := n) (k := ix x) (by omega)
            refine lv_aload_n hx hb dX6_draw_79 rfl (lv_at hl 1 rfl) ?_
            refine rGet (v := .int (σ_21 31 12)) (C := RX6) (T := TX6) (N := 26) hx hb fx hown hts hin hw 31 (hF.1 31 (by decide)) rfl rfl 12 (by decide) (hts (.fieldLink RX6 127 "LeaguewheelModel" "x" "I") (by decide +kernel)) (fun _ h9 => h9) rfl dX6_draw_80 ?_
            refine lv_rep0 (x := (σ_21 31 12)) (y := (nxA (σ 31 12))) (by subst_vars; rfl) ?_
            refine lv_bipush (v := 16) hx hb dX6_draw_83 (by decide) ?_
            refine lv_iushr (v := ((nxA (σ 31 12)).toUInt32 >>> (Int32.toUInt32 16 &&& Int32.toUInt32 31)).toInt32) hx hb dX6_draw_85 rfl ?_
            refine lv_iconst (v := 4) hx hb dX6_draw_86 (by decide) ?_
            refine lv_irem hx hb dX6_draw_87 (by decide) ?_
            refine lv_rep0 (x := ((((nxA (σ 31 12)).toUInt32 >>> (Int32.toUInt32 16 &&& Int32.toUInt32 31)).toInt32) - (((nxA (σ 31 12)).toUInt32 >>> (Int32.toUInt32 16 &&& Int32.toUInt32 31)).toInt32) / 4 * 4)) (y := nI (dD (nxA (σ 31 12)))) (by exact drem _) ?_
            have hd9 := dD_lt (nxA (σ 31 12))
            refine rCallS (As := [.int (nI (rkM σ n (ix x))), .int (nI (dD (nxA (σ 31 12))))]) (rest := [.int (nI (ix x)), .ref (gad G 41)]) ⟨hx, hb, hml, hown, hts⟩ fx hw (kX6_drawn l G hG hF σ_21 ((rkM σ n (ix x))) ((dD (nxA (σ 31 12)))) (by omega) (by omega)) (va_cwS 2 hts gX6_draw_X6_drawn rfl rfl rfl (by decide +kernel) ⟨Nat.le_of_ble_eq_true rfl, Nat.le_of_ble_eq_true rfl⟩) rfl hl.1 rfl (Nat.le_of_ble_eq_true rfl) dX6_draw_88 ⟨Nat.zero_le _, Nat.zero_le _⟩ ?_
            intro r_26 σ_27 H locs p_25 hw
            obtain ⟨er_26, eσ_27⟩ := p_25
            have er_26 := er_26.symm; subst er_26
            have eσ_27 := eσ_27.symm; subst eσ_27
            refine rAst (x := (itA (rkM σ n (ix x)) (dD (nxA (σ 31 12))))) hx hb fx hw 41 (hF.1 41 (by decide)) hF.2.1 (fun _ => rfl) (ix x) rfl (by omega) (by decide) dX6_draw_91 (fun H locs hw => ?_)
            obtain ⟨σ_28, eσ_28⟩ : ∃ w9, w9 = upA σ_21 41 (upd (σ_21 41) (ix x) (itA (rkM σ n (ix x)) (dD (nxA (σ 31 12))))) := ⟨_, rfl⟩
            rw [← eσ_28] at hw
            refine lv_aload_n hx hb dX6_draw_92 rfl (lv_at hl 1 rfl) ?_
            refine rGet (v := .ref (gad G 41)) (C := RX6) (T := TX6) (N := 26) hx hb fx hown hts hin hw 31 (hF.1 31 (by decide)) rfl rfl 19 (by decide) (hts (.fieldLink RX6 41 "LeaguewheelModel" "item" "[I") (by decide +kernel)) (fun _ h9 => h9) rfl dX6_draw_93 ?_
            refine lv_iload_n hx hb dX6_draw_96 rfl (lv_at hl 2 rfl) ?_
            refine rAld hx hb fx hw 41 (hF.1 41 (by decide)) hF.2.1 (fun _ => rfl) (ix x) rfl (by omega) (by decide) dX6_draw_97 ?_
            subst eσ_28
            subst eσ_21
            subst eσ_19
            exact rRetI hx hb hr hw (by exact Or.inl ⟨by (first | assumption | (simp [c_4, c_6]; done) | (simp [c_4, c_6, c_11, c_16]; done) | (simp [c_4, c_6, c_11, c_16]; omega)), by (first | assumption | (simp [c_4, c_6]; done) | (simp [c_4, c_6, c_11, c_16]; done) | (simp [c_4, c_6, c_11, c_16]; omega)), by simp [thr, upA_n, upA_s, upA_upA, upA_self, upd_self, upd_upd, pk_us, bI], by simp [thr, upA_n, upA_s, upA_upA, upA_self, upd_self, upd_upd, pk_us, bI]; try rfl⟩) hlocks dX6_draw_98
          · skip
            exact absurd c_20 (by decide)
        · skip
          refine lv_iconst (v := 2) hx hb dX6_draw_41 (by decide) ?_
          refine lv_goto (tgt := 46) hx hb dX6_draw_42 (by decide) ?_
          refine lv_rep0 (x := 2) (y := nI 2) rfl ?_
          refine rCallI (C := RX6) (As := [.int (nI 2)]) (rest := []) ⟨hx, hb, hml, hown, hts⟩ fx hw (kX6_fails l G hG hF σ 2 (by omega)) (cwV 1 hts gX6_draw_X6_fails rfl rfl rfl (by decide +kernel) ⟨Nat.le_of_ble_eq_true rfl, Nat.le_of_ble_eq_true rfl⟩) (hF.1 31 (by decide)) rfl rfl rfl rfl hl.1 rfl (Nat.le_of_ble_eq_true rfl) dX6_draw_46 ⟨Nat.zero_le _, Nat.zero_le _⟩ ?_
          intro r_30 σ_31 H locs p_29 hw
          obtain ⟨er_30, eσ_31⟩ := p_29
          have er_30 := er_30.symm; subst er_30
          refine lv_b_eq (tgt := 54) hx hb dX6_draw_49 (by decide) (fun c_32 => ?_) (fun c_32 => ?_)
          · skip
            exact absurd c_32 (by decide)
          · skip
            refine lv_iconst (v := 0) hx hb dX6_draw_52 (by decide) ?_
            subst eσ_31
            exact rRetI hx hb hr hw (by first | exact Or.inr (Or.inl ⟨by (first | assumption | (simp [c_4, c_6]; done) | (simp [c_4, c_6, c_11, c_16]; done) | (simp [c_4, c_6, c_11, c_16]; omega)), by rfl⟩) | exact Or.inr (Or.inr ⟨by (first | assumption | (simp [c_4, c_6]; done) | (simp [c_4, c_6, c_11, c_16]; done) | (simp [c_4, c_6, c_11, c_16]; omega)), by (first | assumption | (simp [c_4, c_6]; done) | (simp [c_4, c_6, c_11, c_16]; done) | (simp [c_4, c_6, c_11, c_16]; omega)), by rfl⟩)) hlocks dX6_draw_53
  · skip
    refine lv_iconst (v := 1) hx hb dX6_draw_11 (by decide) ?_
    refine lv_goto (tgt := 46) hx hb dX6_draw_12 (by decide) ?_
    refine lv_rep0 (x := 1) (y := nI 1) rfl ?_
    refine rCallI (C := RX6) (As := [.int (nI 1)]) (rest := []) ⟨hx, hb, hml, hown, hts⟩ fx hw (kX6_fails l G hG hF σ 1 (by omega)) (cwV 1 hts gX6_draw_X6_fails rfl rfl rfl (by decide +kernel) ⟨Nat.le_of_ble_eq_true rfl, Nat.le_of_ble_eq_true rfl⟩) (hF.1 31 (by decide)) rfl rfl rfl rfl hl.1 rfl (Nat.le_of_ble_eq_true rfl) dX6_draw_46 ⟨Nat.zero_le _, Nat.zero_le _⟩ ?_
    intro r_34 σ_35 H locs p_33 hw
    obtain ⟨er_34, eσ_35⟩ := p_33
    have er_34 := er_34.symm; subst er_34
    refine lv_b_eq (tgt := 54) hx hb dX6_draw_49 (by decide) (fun c_36 => ?_) (fun c_36 => ?_)
    · skip
      exact absurd c_36 (by decide)
    · skip
      refine lv_iconst (v := 0) hx hb dX6_draw_52 (by decide) ?_
      subst eσ_35
      exact rRetI hx hb hr hw (by first | exact Or.inr (Or.inl ⟨by (first | assumption | (simp [c_4]; done) | (simp [c_4]; done) | (simp [c_4]; omega)), by rfl⟩) | exact Or.inr (Or.inr ⟨by (first | assumption | (simp [c_4]; done) | (simp [c_4]; done) | (simp [c_4]; omega)), by (first | assumption | (simp [c_4]; done) | (simp [c_4]; done) | (simp [c_4]; omega)), by rfl⟩)) hlocks dX6_draw_53

def rmX6_itemOf : Room := ({ frames := 2, cells := 0, slots := 0, locals := 43 } : Room)
set_option maxHeartbeats 4000000 in
set_option maxRecDepth 100000 in
theorem kX6_itemOf (l : Launch) (G : Gx) (hG : gOk G) (hF : Full G) (σ : St) (x : Int32) (g n sd e9 z : Nat) (b : Bool) (hMv : MIv σ g n sd b e9 z)  : CtI l yX6_itemOf wsX6_itemOf rmX6_itemOf G σ [.ref (gad G 31), .int x] (fun r σ' => (inB x n = true ∧ r = (if b = true then σ 41 (ix x) else -1) ∧ σ' = thr σ 0) ∨ (inB x n = false ∧ σ' = thr σ 1)) := by
  refine bgMet (cc := cX6_itemOf) (maxL := 2) (ret := (some .int)) (own := RX6) (by decide) rfl rfl hG (Nat.le_of_ble_eq_true rfl) rfl ?_
  intro p e s m args below meth c ls Bd hl
  obtain ⟨hx, hb, hr, hml, hts, hown, hlocks, fx, hw⟩ := Bd
  have hl : lv_has ls 2 [(0, .ref (gad G 31)), (1, .int x)] := hl
  have hin : ∀ w ∈ wsX60, w ∈ wsX6_itemOf := by decide +kernel
  obtain ⟨⟨hmg, hmg1, hmg2⟩, ⟨hmn, hmn6⟩, ⟨hms, hms8⟩, ⟨hme, hme8⟩, hmo, ⟨hmz, hmz5⟩, hgm, hme9⟩ := id hMv
  refine lv_aload_n hx hb dX6_itemOf_0 rfl (lv_at hl 0 rfl) ?_
  refine lv_aload_n hx hb dX6_itemOf_1 rfl (lv_at hl 0 rfl) ?_
  refine lv_iload_n hx hb dX6_itemOf_2 rfl (lv_at hl 1 rfl) ?_
  refine rCallI (C := RX6) (As := [.int x]) (rest := [.ref (gad G 31)]) ⟨hx, hb, hml, hown, hts⟩ fx hw (kX6_isKart l G hG hF σ x n (by subst_vars; exact hmn) (by omega)) (cwV 1 hts gX6_itemOf_X6_isKart rfl rfl rfl (by decide +kernel) ⟨Nat.le_of_ble_eq_true rfl, Nat.le_of_ble_eq_true rfl⟩) (hF.1 31 (by decide)) rfl rfl rfl rfl hl.1 rfl (Nat.le_of_ble_eq_true rfl) dX6_itemOf_3 ⟨Nat.zero_le _, Nat.zero_le _⟩ ?_
  intro r_2 σ_3 H locs p_1 hw
  obtain ⟨er_2, eσ_3⟩ := p_1
  have er_2 := er_2.symm; subst er_2
  have eσ_3 := eσ_3.symm; subst eσ_3
  refine lv_b_eq (tgt := 13) hx hb dX6_itemOf_6 (by decide) (fun c_4 => ?_) (fun c_4 => ?_)
  · skip
    refine lv_iconst (v := 1) hx hb dX6_itemOf_13 (by decide) ?_
    refine lv_rep0 (x := 1) (y := nI 1) rfl ?_
    refine rCallI (C := RX6) (As := [.int (nI 1)]) (rest := []) ⟨hx, hb, hml, hown, hts⟩ fx hw (kX6_fails l G hG hF σ 1 (by omega)) (cwV 1 hts gX6_itemOf_X6_fails rfl rfl rfl (by decide +kernel) ⟨Nat.le_of_ble_eq_true rfl, Nat.le_of_ble_eq_true rfl⟩) (hF.1 31 (by decide)) rfl rfl rfl rfl hl.1 rfl (Nat.le_of_ble_eq_true rfl) dX6_itemOf_14 ⟨Nat.zero_le _, Nat.zero_le _⟩ ?_
    intro r_6 σ_7 H locs p_5 hw
    obtain ⟨er_6, eσ_7⟩ := p_5
    have er_6 := er_6.symm; subst er_6
    refine lv_b_eq (tgt := 24) hx hb dX6_itemOf_17 (by decide) (fun c_8 => ?_) (fun c_8 => ?_)
    · skip
      exact absurd c_8 (by decide)
    · skip
      refine lv_iconst (v := 0) hx hb dX6_itemOf_20 (by decide) ?_
      refine lv_goto (tgt := 41) hx hb dX6_itemOf_21 (by decide) ?_
      subst eσ_7
      exact rRetI hx hb hr hw (by first | exact Or.inl ⟨c_4, by first | (rw [if_pos c_4]; rfl) | rw [if_neg (by rw [c_4]; decide)], rfl⟩ | exact Or.inr ⟨c_4, rfl⟩) hlocks dX6_itemOf_41
  · skip
    refine lv_iconst (v := 0) hx hb dX6_itemOf_9 (by decide) ?_
    refine lv_goto (tgt := 14) hx hb dX6_itemOf_10 (by decide) ?_
    refine lv_rep0 (x := 0) (y := nI 0) rfl ?_
    refine rCallI (C := RX6) (As := [.int (nI 0)]) (rest := []) ⟨hx, hb, hml, hown, hts⟩ fx hw (kX6_fails l G hG hF σ 0 (by omega)) (cwV 1 hts gX6_itemOf_X6_fails rfl rfl rfl (by decide +kernel) ⟨Nat.le_of_ble_eq_true rfl, Nat.le_of_ble_eq_true rfl⟩) (hF.1 31 (by decide)) rfl rfl rfl rfl hl.1 rfl (Nat.le_of_ble_eq_true rfl) dX6_itemOf_14 ⟨Nat.zero_le _, Nat.zero_le _⟩ ?_
    intro r_10 σ_11 H locs p_9 hw
    obtain ⟨er_10, eσ_11⟩ := p_9
    have er_10 := er_10.symm; subst er_10
    refine lv_b_eq (tgt := 24) hx hb dX6_itemOf_17 (by decide) (fun c_12 => ?_) (fun c_12 => ?_)
    · skip
      have hx9 := inB_ix (by omega) c_4
      have q_13 : x = (nI (ix x)) := by exact hx9.1
      have hl : lv_has ls 2 [(0, .ref (gad G 31)), (1, .int (nI (ix x)))] := (lv_c (lv_at hl 0 rfl) (lv_c (lv_atq hl 1 rfl q_13) (lv_c0 hl)))
      refine lv_aload_n hx hb dX6_itemOf_24 rfl (lv_at hl 0 rfl) ?_
      refine rGet (v := .int (σ_11 31 8)) (C := RX6) (T := TX6) (N := 26) hx hb fx hown hts hin hw 31 (hF.1 31 (by decide)) rfl rfl 8 (by decide) (hts (.fieldLink RX6 87 "LeaguewheelModel" "isOn" "Z") (by decide +kernel)) (fun _ h9 => h9) rfl dX6_itemOf_25 ?_
      refine lv_rep0 (x := (σ_11 31 8)) (y := (bI b)) (by subst_vars; exact hmo) ?_
      refine lv_b_eq (tgt := 40) hx hb dX6_itemOf_28 (by decide) (fun c_14 => ?_) (fun c_14 => ?_)
      · skip
        refine lv_iconst (v := (-1)) hx hb dX6_itemOf_40 (by decide) ?_
        subst eσ_11
        exact rRetI hx hb hr hw (by first | exact Or.inl ⟨c_4, by first | (rw [if_pos c_14]; rfl) | rw [if_neg (by rw [c_14]; decide)], rfl⟩ | exact Or.inr ⟨c_4, rfl⟩) hlocks dX6_itemOf_41
      · skip
        refine lv_aload_n hx hb dX6_itemOf_31 rfl (lv_at hl 0 rfl) ?_
        refine rGet (v := .ref (gad G 41)) (C := RX6) (T := TX6) (N := 26) hx hb fx hown hts hin hw 31 (hF.1 31 (by decide)) rfl rfl 19 (by decide) (hts (.fieldLink RX6 41 "LeaguewheelModel" "item" "[I") (by decide +kernel)) (fun _ h9 => h9) rfl dX6_itemOf_32 ?_
        refine lv_iload_n hx hb dX6_itemOf_35 rfl (lv_at hl 1 rfl) ?_
        refine rAld hx hb fx hw 41 (hF.1 41 (by decide)) hF.2.1 (fun _ => rfl) (ix x) rfl (by omega) (by decide) dX6_itemOf_36 ?_
        refine lv_goto (tgt := 41) hx hb dX6_itemOf_37 (by decide) ?_
        subst eσ_11
        exact rRetI hx hb hr hw (by first | exact Or.inl ⟨c_4, by first | (rw [if_pos c_14]; rfl) | rw [if_neg (by rw [c_14]; decide)], rfl⟩ | exact Or.inr ⟨c_4, rfl⟩) hlocks dX6_itemOf_41
    · skip
      exact absurd c_12 (by decide)

def rmX6_stunned : Room := ({ frames := 2, cells := 0, slots := 0, locals := 43 } : Room)
set_option maxHeartbeats 4000000 in
set_option maxRecDepth 100000 in
theorem kX6_stunned (l : Launch) (G : Gx) (hG : gOk G) (hF : Full G) (σ : St) (x : Int32) (g n sd e9 z : Nat) (b : Bool) (hMv : MIv σ g n sd b e9 z)  : CtI l yX6_stunned wsX6_stunned rmX6_stunned G σ [.ref (gad G 31), .int x] (fun r σ' => (inB x n = true ∧ r = (if b = true then (if σ 43 (ix x) ≤ σ 31 10 then 0 else σ 43 (ix x) - σ 31 10) else 0) ∧ σ' = thr σ 0) ∨ (inB x n = false ∧ σ' = thr σ 1)) := by
  refine bgMet (cc := cX6_stunned) (maxL := 2) (ret := (some .int)) (own := RX6) (by decide) rfl rfl hG (Nat.le_of_ble_eq_true rfl) rfl ?_
  intro p e s m args below meth c ls Bd hl
  obtain ⟨hx, hb, hr, hml, hts, hown, hlocks, fx, hw⟩ := Bd
  have hl : lv_has ls 2 [(0, .ref (gad G 31)), (1, .int x)] := hl
  have hin : ∀ w ∈ wsX60, w ∈ wsX6_stunned := by decide +kernel
  obtain ⟨⟨hmg, hmg1, hmg2⟩, ⟨hmn, hmn6⟩, ⟨hms, hms8⟩, ⟨hme, hme8⟩, hmo, ⟨hmz, hmz5⟩, hgm, hme9⟩ := id hMv
  refine lv_aload_n hx hb dX6_stunned_0 rfl (lv_at hl 0 rfl) ?_
  refine lv_aload_n hx hb dX6_stunned_1 rfl (lv_at hl 0 rfl) ?_
  refine lv_iload_n hx hb dX6_stunned_2 rfl (lv_at hl 1 rfl) ?_
  refine rCallI (C := RX6) (As := [.int x]) (rest := [.ref (gad G 31)]) ⟨hx, hb, hml, hown, hts⟩ fx hw (kX6_isKart l G hG hF σ x n (by subst_vars; exact hmn) (by omega)) (cwV 1 hts gX6_stunned_X6_isKart rfl rfl rfl (by decide +kernel) ⟨Nat.le_of_ble_eq_true rfl, Nat.le_of_ble_eq_true rfl⟩) (hF.1 31 (by decide)) rfl rfl rfl rfl hl.1 rfl (Nat.le_of_ble_eq_true rfl) dX6_stunned_3 ⟨Nat.zero_le _, Nat.zero_le _⟩ ?_
  intro r_2 σ_3 H locs p_1 hw
  obtain ⟨er_2, eσ_3⟩ := p_1
  have er_2 := er_2.symm; subst er_2
  have eσ_3 := eσ_3.symm; subst eσ_3
  refine lv_b_eq (tgt := 13) hx hb dX6_stunned_6 (by decide) (fun c_4 => ?_) (fun c_4 => ?_)
  · skip
    refine lv_iconst (v := 1) hx hb dX6_stunned_13 (by decide) ?_
    refine lv_rep0 (x := 1) (y := nI 1) rfl ?_
    refine rCallI (C := RX6) (As := [.int (nI 1)]) (rest := []) ⟨hx, hb, hml, hown, hts⟩ fx hw (kX6_fails l G hG hF σ 1 (by omega)) (cwV 1 hts gX6_stunned_X6_fails rfl rfl rfl (by decide +kernel) ⟨Nat.le_of_ble_eq_true rfl, Nat.le_of_ble_eq_true rfl⟩) (hF.1 31 (by decide)) rfl rfl rfl rfl hl.1 rfl (Nat.le_of_ble_eq_true rfl) dX6_stunned_14 ⟨Nat.zero_le _, Nat.zero_le _⟩ ?_
    intro r_6 σ_7 H locs p_5 hw
    obtain ⟨er_6, eσ_7⟩ := p_5
    have er_6 := er_6.symm; subst er_6
    refine lv_b_eq (tgt := 24) hx hb dX6_stunned_17 (by decide) (fun c_8 => ?_) (fun c_8 => ?_)
    · skip
      exact absurd c_8 (by decide)
    · skip
      refine lv_iconst (v := 0) hx hb dX6_stunned_20 (by decide) ?_
      refine lv_goto (tgt := 59) hx hb dX6_stunned_21 (by decide) ?_
      subst eσ_7
      exact rRetI hx hb hr hw (by first | exact Or.inr ⟨c_4, rfl⟩ | exact Or.inl ⟨c_4, by first | (rw [if_pos hl, if_pos (by exact hl)]; done) | (rw [if_pos hl, if_neg (by exact hl)]; rfl) | (rw [if_neg (by rw [c_4]; decide)]), rfl⟩) hlocks dX6_stunned_59
  · skip
    refine lv_iconst (v := 0) hx hb dX6_stunned_9 (by decide) ?_
    refine lv_goto (tgt := 14) hx hb dX6_stunned_10 (by decide) ?_
    refine lv_rep0 (x := 0) (y := nI 0) rfl ?_
    refine rCallI (C := RX6) (As := [.int (nI 0)]) (rest := []) ⟨hx, hb, hml, hown, hts⟩ fx hw (kX6_fails l G hG hF σ 0 (by omega)) (cwV 1 hts gX6_stunned_X6_fails rfl rfl rfl (by decide +kernel) ⟨Nat.le_of_ble_eq_true rfl, Nat.le_of_ble_eq_true rfl⟩) (hF.1 31 (by decide)) rfl rfl rfl rfl hl.1 rfl (Nat.le_of_ble_eq_true rfl) dX6_stunned_14 ⟨Nat.zero_le _, Nat.zero_le _⟩ ?_
    intro r_10 σ_11 H locs p_9 hw
    obtain ⟨er_10, eσ_11⟩ := p_9
    have er_10 := er_10.symm; subst er_10
    refine lv_b_eq (tgt := 24) hx hb dX6_stunned_17 (by decide) (fun c_12 => ?_) (fun c_12 => ?_)
    · skip
      have hx9 := inB_ix (by omega) c_4
      have q_13 : x = (nI (ix x)) := by exact hx9.1
      have hl : lv_has ls 2 [(0, .ref (gad G 31)), (1, .int (nI (ix x)))] := (lv_c (lv_at hl 0 rfl) (lv_c (lv_atq hl 1 rfl q_13) (lv_c0 hl)))
      refine lv_aload_n hx hb dX6_stunned_24 rfl (lv_at hl 0 rfl) ?_
      refine rGet (v := .int (σ_11 31 8)) (C := RX6) (T := TX6) (N := 26) hx hb fx hown hts hin hw 31 (hF.1 31 (by decide)) rfl rfl 8 (by decide) (hts (.fieldLink RX6 87 "LeaguewheelModel" "isOn" "Z") (by decide +kernel)) (fun _ h9 => h9) rfl dX6_stunned_25 ?_
      refine lv_rep0 (x := (σ_11 31 8)) (y := (bI b)) (by subst_vars; exact hmo) ?_
      refine lv_b_eq (tgt := 58) hx hb dX6_stunned_28 (by decide) (fun c_14 => ?_) (fun c_14 => ?_)
      · skip
        refine lv_iconst (v := 0) hx hb dX6_stunned_58 (by decide) ?_
        subst eσ_11
        exact rRetI hx hb hr hw (by first | exact Or.inr ⟨c_4, rfl⟩ | exact Or.inl ⟨c_4, by first | (rw [if_pos c_14, if_pos (by exact hl)]; done) | (rw [if_pos c_14, if_neg (by exact hl)]; rfl) | (rw [if_neg (by rw [c_14]; decide)]), rfl⟩) hlocks dX6_stunned_59
      · skip
        refine lv_aload_n hx hb dX6_stunned_31 rfl (lv_at hl 0 rfl) ?_
        refine rGet (v := .ref (gad G 43)) (C := RX6) (T := TX6) (N := 26) hx hb fx hown hts hin hw 31 (hF.1 31 (by decide)) rfl rfl 21 (by decide) (hts (.fieldLink RX6 48 "LeaguewheelModel" "until" "[I") (by decide +kernel)) (fun _ h9 => h9) rfl dX6_stunned_32 ?_
        refine lv_iload_n hx hb dX6_stunned_35 rfl (lv_at hl 1 rfl) ?_
        refine rAld hx hb fx hw 43 (hF.1 43 (by decide)) hF.2.1 (fun _ => rfl) (ix x) rfl (by omega) (by decide) dX6_stunned_36 ?_
        refine lv_aload_n hx hb dX6_stunned_37 rfl (lv_at hl 0 rfl) ?_
        refine rGet (v := .int (σ_11 31 10)) (C := RX6) (T := TX6) (N := 26) hx hb fx hown hts hin hw 31 (hF.1 31 (by decide)) rfl rfl 10 (by decide) (hts (.fieldLink RX6 104 "LeaguewheelModel" "time" "I") (by decide +kernel)) (fun _ h9 => h9) rfl dX6_stunned_38 ?_
        refine lv_icmp_le (tgt := 58) hx hb dX6_stunned_41 (by decide) (fun c_15 => ?_) (fun c_15 => ?_)
        · skip
          refine lv_iconst (v := 0) hx hb dX6_stunned_58 (by decide) ?_
          subst eσ_11
          exact rRetI hx hb hr hw (by first | exact Or.inr ⟨c_4, rfl⟩ | exact Or.inl ⟨c_4, by first | (rw [if_pos c_14, if_pos (by exact c_15)]; done) | (rw [if_pos c_14, if_neg (by exact c_15)]; rfl) | (rw [if_neg (by rw [c_15]; decide)]), rfl⟩) hlocks dX6_stunned_59
        · skip
          refine lv_aload_n hx hb dX6_stunned_44 rfl (lv_at hl 0 rfl) ?_
          refine rGet (v := .ref (gad G 43)) (C := RX6) (T := TX6) (N := 26) hx hb fx hown hts hin hw 31 (hF.1 31 (by decide)) rfl rfl 21 (by decide) (hts (.fieldLink RX6 48 "LeaguewheelModel" "until" "[I") (by decide +kernel)) (fun _ h9 => h9) rfl dX6_stunned_45 ?_
          refine lv_iload_n hx hb dX6_stunned_48 rfl (lv_at hl 1 rfl) ?_
          refine rAld hx hb fx hw 43 (hF.1 43 (by decide)) hF.2.1 (fun _ => rfl) (ix x) rfl (by omega) (by decide) dX6_stunned_49 ?_
          refine lv_aload_n hx hb dX6_stunned_50 rfl (lv_at hl 0 rfl) ?_
          refine rGet (v := .int (σ_11 31 10)) (C := RX6) (T := TX6) (N := 26) hx hb fx hown hts hin hw 31 (hF.1 31 (by decide)) rfl rfl 10 (by decide) (hts (.fieldLink RX6 104 "LeaguewheelModel" "time" "I") (by decide +kernel)) (fun _ h9 => h9) rfl dX6_stunned_51 ?_
          refine lv_isub hx hb dX6_stunned_54 ?_
          refine lv_goto (tgt := 59) hx hb dX6_stunned_55 (by decide) ?_
          subst eσ_11
          exact rRetI hx hb hr hw (by first | exact Or.inr ⟨c_4, rfl⟩ | exact Or.inl ⟨c_4, by first | (rw [if_pos c_14, if_pos (by exact c_15)]; done) | (rw [if_pos c_14, if_neg (by exact c_15)]; rfl) | (rw [if_neg (by rw [c_15]; decide)]), rfl⟩) hlocks dX6_stunned_59
    · skip
      exact absurd c_12 (by decide)
