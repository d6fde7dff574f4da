def rmX6_use : Room := ({ frames := 2, cells := 0, slots := 0, locals := 49 } : Room)
set_option maxHeartbeats 4000000 in
set_option maxRecDepth 100000 in
theorem kX6_use (l : Launch) (G : Gx) (hG : gOk G) (hF : Full G) (σ : St) (x : Int32) (g n sd e9 z : Nat) (b : Bool) (hMv : MIv σ g n sd b e9 z)  : CtI l yX6_use wsX6_use rmX6_use G σ [.ref (gad G 31), .int x] (fun r σ' => (inB x n = true ∧ (b && decide (σ 40 (ix x) ≤ 0) && !decide (σ 41 (ix x) = -1)) = true ∧ r = (if σ 41 (ix x) = 0 then 0 else if σ 41 (ix x) = 2 then 0 else nI (muN (upA (thr σ 0) 41 (upd (σ 41) (ix x) (-1))) n (σ 41 (ix x)) (rkM σ n (ix x)) n)) ∧ σ' = (if σ 41 (ix x) = 0 then upA (upA (thr σ 0) 41 (upd (σ 41) (ix x) (-1))) 43 (upd (σ 43) (ix x) 0) else if σ 41 (ix x) = 2 then upA (upA (thr σ 0) 41 (upd (σ 41) (ix x) (-1))) 42 (upd (σ 42) (ix x) 1) else muL (upA (thr σ 0) 41 (upd (σ 41) (ix x) (-1))) n (σ 41 (ix x)) (rkM σ n (ix x)) n)) ∨ (inB x n = false ∧ σ' = thr σ 1) ∨ (inB x n = true ∧ (b && decide (σ 40 (ix x) ≤ 0) && !decide (σ 41 (ix x) = -1)) = false ∧ σ' = thr σ 2)) := by
  refine bgMet (cc := cX6_use) (maxL := 9) (ret := (some .int)) (own := RX6) (by decide) rfl rfl hG (Nat.le_of_ble_eq_true rfl) rfl ?_
  intro p e s m args below meth c ls Bd hl
  obtain ⟨hx, hb, hr, hml, hts, hown, hlocks, fx, hw⟩ := Bd
  have hl : lv_has ls 9 [(0, .ref (gad G 31)), (1, .int x)] := hl
  have hin : ∀ w ∈ wsX60, w ∈ wsX6_use := by decide +kernel
  obtain ⟨⟨hmg, hmg1, hmg2⟩, ⟨hmn, hmn6⟩, ⟨hms, hms8⟩, ⟨hme, hme8⟩, hmo, ⟨hmz, hmz5⟩, hgm, hme9⟩ := id hMv
  refine lv_aload_n hx hb dX6_use_0 rfl (lv_at hl 0 rfl) ?_
  refine lv_iload_n hx hb dX6_use_1 rfl (lv_at hl 1 rfl) ?_
  refine rCallI (C := RX6) (As := [.int x]) (rest := []) ⟨hx, hb, hml, hown, hts⟩ fx hw (kX6_isKart l G hG hF σ x n (by subst_vars; exact hmn) (by omega)) (cwV 1 hts gX6_use_X6_isKart rfl rfl rfl (by decide +kernel) ⟨Nat.le_of_ble_eq_true rfl, Nat.le_of_ble_eq_true rfl⟩) (hF.1 31 (by decide)) rfl rfl rfl rfl hl.1 rfl (Nat.le_of_ble_eq_true rfl) dX6_use_2 ⟨Nat.zero_le _, Nat.zero_le _⟩ ?_
  intro r_2 σ_3 H locs p_1 hw
  obtain ⟨er_2, eσ_3⟩ := p_1
  have er_2 := er_2.symm; subst er_2
  have eσ_3 := eσ_3.symm; subst eσ_3
  refine lv_istore_n (lv' := [(2, .int (bI (inB x n))), (0, .ref (gad G 31)), (1, .int x)]) hx hb dX6_use_5 rfl hl (by decide) rfl (fun ls hl => ?_)
  refine lv_aload_n hx hb dX6_use_6 rfl (lv_at hl 1 rfl) ?_
  refine lv_iload_n hx hb dX6_use_7 rfl (lv_at hl 0 rfl) ?_
  refine lv_b_ne (tgt := 15) hx hb dX6_use_8 (by decide) (fun c_4 => ?_) (fun c_4 => ?_)
  · skip
    have hx9 := inB_ix (by omega) c_4
    have q_5 : x = (nI (ix x)) := by exact hx9.1
    have hl : lv_has ls 9 [(2, .int (bI (inB x n))), (0, .ref (gad G 31)), (1, .int (nI (ix x)))] := (lv_c (lv_at hl 0 rfl) (lv_c (lv_at hl 1 rfl) (lv_c (lv_atq hl 2 rfl q_5) (lv_c0 hl))))
    refine lv_aload_n hx hb dX6_use_15 rfl (lv_at hl 1 rfl) ?_
    refine rGet (v := .int (σ 31 8)) (C := RX6) (T := TX6) (N := 26) hx hb fx hown hts hin hw 31 (hF.1 31 (by decide)) rfl rfl 8 (by decide) (hts (.fieldLink RX6 87 "LeaguewheelModel" "isOn" "Z") (by decide +kernel)) (fun _ h9 => h9) rfl dX6_use_16 ?_
    refine lv_rep0 (x := (σ 31 8)) (y := (bI b)) (by exact hmo) ?_
    refine lv_b_eq (tgt := 41) hx hb dX6_use_19 (by decide) (fun c_6 => ?_) (fun c_6 => ?_)
    · skip
      refine lv_iconst (v := 2) hx hb dX6_use_41 (by decide) ?_
      refine lv_goto (tgt := 46) hx hb dX6_use_42 (by decide) ?_
      refine lv_rep0 (x := 2) (y := nI 2) rfl ?_
      refine rCallI (C := RX6) (As := [.int (nI 2)]) (rest := []) ⟨hx, hb, hml, hown, hts⟩ fx hw (kX6_fails l G hG hF σ 2 (by omega)) (cwV 1 hts gX6_use_X6_fails rfl rfl rfl (by decide +kernel) ⟨Nat.le_of_ble_eq_true rfl, Nat.le_of_ble_eq_true rfl⟩) (hF.1 31 (by decide)) rfl rfl rfl rfl hl.1 rfl (Nat.le_of_ble_eq_true rfl) dX6_use_46 ⟨Nat.zero_le _, Nat.zero_le _⟩ ?_
      intro r_8 σ_9 H locs p_7 hw
      obtain ⟨er_8, eσ_9⟩ := p_7
      have er_8 := er_8.symm; subst er_8
      refine lv_b_eq (tgt := 54) hx hb dX6_use_49 (by decide) (fun c_10 => ?_) (fun c_10 => ?_)
      · skip
        exact absurd c_10 (by decide)
      · skip
        refine lv_iconst (v := 0) hx hb dX6_use_52 (by decide) ?_
        subst eσ_9
        exact rRetI hx hb hr hw (by first | exact Or.inr (Or.inl ⟨by (first | assumption | (simp [c_4, c_6]; done) | (simp [c_4, c_6]; done) | (simp [c_4, c_6]; omega)), by rfl⟩) | exact Or.inr (Or.inr ⟨by (first | assumption | (simp [c_4, c_6]; done) | (simp [c_4, c_6]; done) | (simp [c_4, c_6]; omega)), by (first | assumption | (simp [c_4, c_6]; done) | (simp [c_4, c_6]; done) | (simp [c_4, c_6]; omega)), by rfl⟩)) hlocks dX6_use_53
    · skip
      refine lv_aload_n hx hb dX6_use_22 rfl (lv_at hl 1 rfl) ?_
      refine rGet (v := .ref (gad G 40)) (C := RX6) (T := TX6) (N := 26) hx hb fx hown hts hin hw 31 (hF.1 31 (by decide)) rfl rfl 18 (by decide) (hts (.fieldLink RX6 38 "LeaguewheelModel" "finish" "[I") (by decide +kernel)) (fun _ h9 => h9) rfl dX6_use_23 ?_
      refine lv_iload_n hx hb dX6_use_26 rfl (lv_at hl 2 rfl) ?_
      refine rAld hx hb fx hw 40 (hF.1 40 (by decide)) hF.2.1 (fun _ => rfl) (ix x) rfl (by omega) (by decide) dX6_use_27 ?_
      refine lv_if_gt (tgt := 41) hx hb dX6_use_28 (by decide) (fun c_11 => ?_) (fun c_11 => ?_)
      · skip
        have c_11 := Int32.not_le.mpr c_11
        refine lv_iconst (v := 2) hx hb dX6_use_41 (by decide) ?_
        refine lv_goto (tgt := 46) hx hb dX6_use_42 (by decide) ?_
        refine lv_rep0 (x := 2) (y := nI 2) rfl ?_
        refine rCallI (C := RX6) (As := [.int (nI 2)]) (rest := []) ⟨hx, hb, hml, hown, hts⟩ fx hw (kX6_fails l G hG hF σ 2 (by omega)) (cwV 1 hts gX6_use_X6_fails rfl rfl rfl (by decide +kernel) ⟨Nat.le_of_ble_eq_true rfl, Nat.le_of_ble_eq_true rfl⟩) (hF.1 31 (by decide)) rfl rfl rfl rfl hl.1 rfl (Nat.le_of_ble_eq_true rfl) dX6_use_46 ⟨Nat.zero_le _, Nat.zero_le _⟩ ?_
        intro r_13 σ_14 H locs p_12 hw
        obtain ⟨er_13, eσ_14⟩ := p_12
        have er_13 := er_13.symm; subst er_13
        refine lv_b_eq (tgt := 54) hx hb dX6_use_49 (by decide) (fun c_15 => ?_) (fun c_15 => ?_)
        · skip
          exact absurd c_15 (by decide)
        · skip
          refine lv_iconst (v := 0) hx hb dX6_use_52 (by decide) ?_
          subst eσ_14
          exact rRetI hx hb hr hw (by first | exact Or.inr (Or.inl ⟨by (first | assumption | (simp [c_4, c_6]; done) | (simp [c_4, c_6, c_11]; done) | (simp [c_4, c_6, c_11]; omega)), by rfl⟩) | exact Or.inr (Or.inr ⟨by (first | assumption | (simp [c_4, c_6]; done) | (simp [c_4, c_6, c_11]; done) | (simp [c_4, c_6, c_11]; omega)), by (first | assumption | (simp [c_4, c_6]; done) | (simp [c_4, c_6, c_11]; done) | (simp [c_4, c_6, c_11]; omega)), by rfl⟩)) hlocks dX6_use_53
      · skip
        have c_11 := Int32.not_lt.mp c_11
        refine lv_aload_n hx hb dX6_use_31 rfl (lv_at hl 1 rfl) ?_
        refine rGet (v := .ref (gad G 41)) (C := RX6) (T := TX6) (N := 26) hx hb fx hown hts hin hw 31 (hF.1 31 (by decide)) rfl rfl 19 (by decide) (hts (.fieldLink RX6 41 "LeaguewheelModel" "item" "[I") (by decide +kernel)) (fun _ h9 => h9) rfl dX6_use_32 ?_
        refine lv_iload_n hx hb dX6_use_35 rfl (lv_at hl 2 rfl) ?_
        refine rAld hx hb fx hw 41 (hF.1 41 (by decide)) hF.2.1 (fun _ => rfl) (ix x) rfl (by omega) (by decide) dX6_use_36 ?_
        refine lv_iconst (v := (-1)) hx hb dX6_use_37 (by decide) ?_
        refine lv_icmp_ne (tgt := 45) hx hb dX6_use_38 (by decide) (fun c_16 => ?_) (fun c_16 => ?_)
        · skip
          refine lv_iconst (v := 0) hx hb dX6_use_45 (by decide) ?_
          refine lv_rep0 (x := 0) (y := nI 0) rfl ?_
          refine rCallI (C := RX6) (As := [.int (nI 0)]) (rest := []) ⟨hx, hb, hml, hown, hts⟩ fx hw (kX6_fails l G hG hF σ 0 (by omega)) (cwV 1 hts gX6_use_X6_fails rfl rfl rfl (by decide +kernel) ⟨Nat.le_of_ble_eq_true rfl, Nat.le_of_ble_eq_true rfl⟩) (hF.1 31 (by decide)) rfl rfl rfl rfl hl.1 rfl (Nat.le_of_ble_eq_true rfl) dX6_use_46 ⟨Nat.zero_le _, Nat.zero_le _⟩ ?_
          intro r_18 σ_19 H locs p_17 hw
          obtain ⟨er_18, eσ_19⟩ := p_17
          have er_18 := er_18.symm; subst er_18
          refine lv_b_eq (tgt := 54) hx hb dX6_use_49 (by decide) (fun c_20 => ?_) (fun c_20 => ?_)
          · skip
            refine lv_aload_n hx hb dX6_use_54 rfl (lv_at hl 1 rfl) ?_
            refine rGet (v := .ref (gad G 41)) (C := RX6) (T := TX6) (N := 26) hx hb fx hown hts hin hw 31 (hF.1 31 (by decide)) rfl rfl 19 (by decide) (hts (.fieldLink RX6 41 "LeaguewheelModel" "item" "[I") (by decide +kernel)) (fun _ h9 => h9) rfl dX6_use_55 ?_
            refine lv_iload_n hx hb dX6_use_58 rfl (lv_at hl 2 rfl) ?_
            refine rAld hx hb fx hw 41 (hF.1 41 (by decide)) hF.2.1 (fun _ => rfl) (ix x) rfl (by omega) (by decide) dX6_use_59 ?_
            refine lv_rep0 (x := (σ_19 41 (ix x))) (y := (σ 41 (ix x))) (by subst_vars; rfl) ?_
            refine lv_istore_n (lv' := [(3, .int (σ 41 (ix x))), (2, .int (bI (inB x n))), (0, .ref (gad G 31)), (1, .int (nI (ix x)))]) hx hb dX6_use_60 rfl hl (by decide) rfl (fun ls hl => ?_)
            refine lv_aload_n hx hb dX6_use_61 rfl (lv_at hl 2 rfl) ?_
            refine rGet (v := .ref (gad G 41)) (C := RX6) (T := TX6) (N := 26) hx hb fx hown hts hin hw 31 (hF.1 31 (by decide)) rfl rfl 19 (by decide) (hts (.fieldLink RX6 41 "LeaguewheelModel" "item" "[I") (by decide +kernel)) (fun _ h9 => h9) rfl dX6_use_62 ?_
            refine lv_iload_n hx hb dX6_use_65 rfl (lv_at hl 3 rfl) ?_
            refine lv_iconst (v := (-1)) hx hb dX6_use_66 (by decide) ?_
            refine rAst (x := (-1)) hx hb fx hw 41 (hF.1 41 (by decide)) hF.2.1 (fun _ => rfl) (ix x) rfl (by omega) (by decide) dX6_use_67 (fun H locs hw => ?_)
            obtain ⟨σ_21, eσ_21⟩ : ∃ w9, w9 = upA σ_19 41 (upd (σ_19 41) (ix x) (-1)) := ⟨_, rfl⟩
            rw [← eσ_21] at hw
            refine lv_aload_n hx hb dX6_use_68 rfl (lv_at hl 2 rfl) ?_
            refine lv_iload_n hx hb dX6_use_69 rfl (lv_at hl 3 rfl) ?_
            refine rCallI (C := RX6) (As := [.int (nI (ix x))]) (rest := []) ⟨hx, hb, hml, hown, hts⟩ fx hw (kX6_ranked l G hG hF σ_21 ((ix x)) (by omega) n (by subst_vars; exact hmn) (by omega) (by subst_vars; exact hgm)) (cwV 1 hts gX6_use_X6_ranked rfl rfl rfl (by decide +kernel) ⟨Nat.le_of_ble_eq_true rfl, Nat.le_of_ble_eq_true rfl⟩) (hF.1 31 (by decide)) rfl rfl rfl rfl hl.1 rfl (Nat.le_of_ble_eq_true rfl) dX6_use_70 ⟨Nat.zero_le _, Nat.zero_le _⟩ ?_
            intro r_23 σ_24 H locs p_22 hw
            obtain ⟨er_23, eσ_24⟩ := p_22
            have er_23 := er_23.symm; subst er_23
            have eσ_24 := eσ_24.symm; subst eσ_24
            refine lv_rep0 (x := (nI (rkM σ_21 n (ix x)))) (y := (nI (rkM σ n (ix x)))) (by subst_vars; exact congrArg nI (rkM_cong (σ := σ) rfl rfl rfl rfl rfl rfl n (ix x))) ?_
            refine lv_rep0 (x := (nI (rkM σ n (ix x)))) (y := nI (rkM σ n (ix x))) (by rfl) ?_
            have hr9 := rkM_lt (σ := σ) (n := n) (k := ix x) (by omega)
            refine lv_istore (lv' := [(4, .int (nI (rkM σ n (ix x)))), (3, .int (σ 41 (ix x))), (2, .int (bI (inB x n))), (0, .ref (gad G 31)), (1, .int (nI (ix x)))]) hx hb dX6_use_73 hl (by decide) rfl (fun ls hl => ?_)
            refine lv_iconst (v := 0) hx hb dX6_use_75 (by decide) ?_
            refine lv_istore (lv' := [(5, .int 0), (4, .int (nI (rkM σ n (ix x)))), (3, .int (σ 41 (ix x))), (2, .int (bI (inB x n))), (0, .ref (gad G 31)), (1, .int (nI (ix x)))]) hx hb dX6_use_76 hl (by decide) rfl (fun ls hl => ?_)
            refine lv_iload_n hx hb dX6_use_78 rfl (lv_at hl 2 rfl) ?_
            refine lv_if_ne (tgt := 92) hx hb dX6_use_79 (by decide) (fun c_25 => ?_) (fun c_25 => ?_)
            · skip
              refine lv_iload_n hx hb dX6_use_92 rfl (lv_at hl 2 rfl) ?_
              refine lv_iconst (v := 2) hx hb dX6_use_93 (by decide) ?_
              refine lv_icmp_ne (tgt := 107) hx hb dX6_use_94 (by decide) (fun c_26 => ?_) (fun c_26 => ?_)
              · skip
                refine lv_iconst (v := 0) hx hb dX6_use_107 (by decide) ?_
                refine lv_istore (lv' := [(6, .int 0), (5, .int 0), (4, .int (nI (rkM σ n (ix x)))), (3, .int (σ 41 (ix x))), (2, .int (bI (inB x n))), (0, .ref (gad G 31)), (1, .int (nI (ix x)))]) hx hb dX6_use_108 hl (by decide) rfl (fun ls hl => ?_)
                have lab_110 : ∀ (n9 : Nat), ∀ (j : Nat), n - j < n9 → j ≤ n → ∀ (H : Heap) (locs : List Loc) (ls : Array Slot), Wd G s (muL (upA (thr σ 0) 41 (upd (σ 41) (ix x) (-1))) n (σ 41 (ix x)) (rkM σ n (ix x)) j) H locs → lv_has ls 9 [(0, .ref (gad G 31)), (1, .int (nI (ix x))), (3, .int (σ 41 (ix x))), (4, .int (nI (rkM σ n (ix x)))), (5, .int (nI (muN (upA (thr σ 0) 41 (upd (σ 41) (ix x) (-1))) n (σ 41 (ix x)) (rkM σ n (ix x)) j))), (6, .int (nI j))] → W p l e rmX6_use s m args below meth c H locs 0 0 (MQ below (va_Qi (fun r σ' => (inB x n = true ∧ (b && decide (σ 40 (ix x) ≤ 0) && !decide (σ 41 (ix x) = -1)) = true ∧ r = (if σ 41 (ix x) = 0 then 0 else if σ 41 (ix x) = 2 then 0 else nI (muN (upA (thr σ 0) 41 (upd (σ 41) (ix x) (-1))) n (σ 41 (ix x)) (rkM σ n (ix x)) n)) ∧ σ' = (if σ 41 (ix x) = 0 then upA (upA (thr σ 0) 41 (upd (σ 41) (ix x) (-1))) 43 (upd (σ 43) (ix x) 0) else if σ 41 (ix x) = 2 then upA (upA (thr σ 0) 41 (upd (σ 41) (ix x) (-1))) 42 (upd (σ 42) (ix x) 1) else muL (upA (thr σ 0) 41 (upd (σ 41) (ix x) (-1))) n (σ 41 (ix x)) (rkM σ n (ix x)) n)) ∨ (inB x n = false ∧ σ' = thr σ 1) ∨ (inB x n = true ∧ (b && decide (σ 40 (ix x) ≤ 0) && !decide (σ 41 (ix x) = -1)) = false ∧ σ' = thr σ 2)) (BW G) (gA G)) args s 0 0 (gA G)) (F0 m 110 ls []) := by
                  intro n9
                  induction n9 with
                  | zero => intro j hn9; exact absurd hn9 (Nat.not_lt_zero _)
                  | succ n9 ih110 =>
                    intro j hn9 h110_0 H locs ls hw hl
                    obtain ⟨σ_27, eσ_27⟩ : ∃ w9, w9 = muL (upA (thr σ 0) 41 (upd (σ 41) (ix x) (-1))) n (σ 41 (ix x)) (rkM σ n (ix x)) j := ⟨_, rfl⟩
                    rw [← eσ_27] at hw
                    refine lv_iload hx hb dX6_use_110 (lv_at hl 5 rfl) ?_
                    refine lv_aload_n hx hb dX6_use_112 rfl (lv_at hl 0 rfl) ?_
                    refine rGet (v := .int (σ_27 31 4)) (C := RX6) (T := TX6) (N := 26) hx hb fx hown hts hin hw 31 (hF.1 31 (by decide)) rfl rfl 4 (by decide) (hts (.fieldLink RX6 64 "LeaguewheelModel" "karts" "I") (by decide +kernel)) (fun _ h9 => h9) rfl dX6_use_113 ?_
                    refine lv_rep0 (x := (σ_27 31 4)) (y := nI n) (by subst_vars; rw [muL_o (by decide) (by decide)]; exact hmn) ?_
                    refine lv_icmp_ge (tgt := 199) hx hb dX6_use_116 (by decide) (fun c_28 => ?_) (fun c_28 => ?_)
                    · skip
                      have c_28 : n ≤ j := (nI_leI (by omega) (by omega)).mp c_28
                      refine lv_iload hx hb dX6_use_199 (lv_at hl 4 rfl) ?_
                      subst eσ_27
                      exact rRetI hx hb hr hw (by first | (exact Or.inl ⟨c_4, by (first | assumption | (simp [c_4, c_6]; done) | (simp [c_4, c_6, c_11, c_16, c_25, c_26, c_28]; done) | (simp [c_4, c_6, c_11, c_16, c_25, c_26, c_28]; omega)), (if_pos c_28).symm, by refine Eq.trans ?_ (if_pos c_28).symm; first | rfl | (simp [thr, upA_n, upA_s, upA_upA, upA_self, upd_self, upd_upd, pk_us, bI]; done)⟩) | (exact Or.inl ⟨c_4, by (first | assumption | (simp [c_4, c_6]; done) | (simp [c_4, c_6, c_11, c_16, c_25, c_26, c_28]; done) | (simp [c_4, c_6, c_11, c_16, c_25, c_26, c_28]; omega)), ((if_neg (by assumption)).trans (if_pos c_28)).symm, by refine Eq.trans ?_ ((if_neg (by assumption)).trans (if_pos c_28)).symm; first | rfl | (simp [thr, upA_n, upA_s, upA_upA, upA_self, upd_self, upd_upd, pk_us, bI]; done)⟩) | (rw [show j = n by omega]; exact Or.inl ⟨c_4, by (first | assumption | (simp [c_4, c_6]; done) | (simp [c_4, c_6, c_11, c_16, c_25, c_26, c_28]; done) | (simp [c_4, c_6, c_11, c_16, c_25, c_26, c_28]; omega)), by rw [if_neg c_25, if_neg c_26], by rw [if_neg c_25, if_neg c_26]⟩)) hlocks dX6_use_201
                    · skip
                      have c_28 : ¬ n ≤ j := fun h9 => c_28 ((nI_leI (by omega) (by omega)).mpr h9)
                      refine lv_aload_n hx hb dX6_use_119 rfl (lv_at hl 0 rfl) ?_
                      refine lv_iload hx hb dX6_use_120 (lv_at hl 5 rfl) ?_
                      refine rCallI (C := RX6) (As := [.int (nI j)]) (rest := []) ⟨hx, hb, hml, hown, hts⟩ fx hw (kX6_ranked l G hG hF σ_27 j (by omega) n (by subst_vars; rw [muL_o (by decide) (by decide)]; exact hmn) (by omega) (by subst_vars; intro k9 hk9; rw [muL_o (by decide) (by decide)]; exact hgm k9 hk9)) (cwV 1 hts gX6_use_X6_ranked rfl rfl rfl (by decide +kernel) ⟨Nat.le_of_ble_eq_true rfl, Nat.le_of_ble_eq_true rfl⟩) (hF.1 31 (by decide)) rfl rfl rfl rfl hl.1 rfl (Nat.le_of_ble_eq_true rfl) dX6_use_122 ⟨Nat.zero_le _, Nat.zero_le _⟩ ?_
                      intro r_30 σ_31 H locs p_29 hw
                      obtain ⟨er_30, eσ_31⟩ := p_29
                      have er_30 := er_30.symm; subst er_30
                      have eσ_31 := eσ_31.symm; subst eσ_31
                      refine lv_rep0 (x := (nI (rkM σ_27 n j))) (y := (nI (rkM (upA (thr σ 0) 41 (upd (σ 41) (ix x) (-1))) n j))) (by subst_vars; rw [rkM_cong (σ := (upA (thr σ 0) 41 (upd (σ 41) (ix x) (-1)))) (muL_o (by decide) (by decide) _) (muL_o (by decide) (by decide) _) (muL_o (by decide) (by decide) _) (muL_o (by decide) (by decide) _) (muL_o (by decide) (by decide) _) (muL_o (by decide) (by decide) _)]) ?_
                      refine lv_rep0 (x := (nI (rkM (upA (thr σ 0) 41 (upd (σ 41) (ix x) (-1))) n j))) (y := nI (rkM (upA (thr σ 0) 41 (upd (σ 41) (ix x) (-1))) n j)) (by rfl) ?_
                      have hr8 := rkM_lt (σ := (upA (thr σ 0) 41 (upd (σ 41) (ix x) (-1)))) (n := n) (k := j) (by omega)
                      refine lv_istore (lv' := [(7, .int (nI (rkM (upA (thr σ 0) 41 (upd (σ 41) (ix x) (-1))) n j))), (0, .ref (gad G 31)), (1, .int (nI (ix x))), (3, .int (σ 41 (ix x))), (4, .int (nI (rkM σ n (ix x)))), (5, .int (nI (muN (upA (thr σ 0) 41 (upd (σ 41) (ix x) (-1))) n (σ 41 (ix x)) (rkM σ n (ix x)) j))), (6, .int (nI j))]) hx hb dX6_use_125 hl (by decide) rfl (fun ls hl => ?_)
                      have lab_161 : ∀ (H : Heap) (locs : List Loc) (ls : Array Slot), Wd G s σ_27 H locs → lv_has ls 9 [(0, .ref (gad G 31)), (1, .int (nI (ix x))), (3, .int (σ 41 (ix x))), (4, .int (nI (rkM σ n (ix x)))), (5, .int (nI (muN (upA (thr σ 0) 41 (upd (σ 41) (ix x) (-1))) n (σ 41 (ix x)) (rkM σ n (ix x)) j))), (6, .int (nI j))] → W p l e rmX6_use s m args below meth c H locs 0 0 (MQ below (va_Qi (fun r σ' => (inB x n = true ∧ (b && decide (σ 40 (ix x) ≤ 0) && !decide (σ 41 (ix x) = -1)) = true ∧ r = (if σ 41 (ix x) = 0 then 0 else if σ 41 (ix x) = 2 then 0 else nI (muN (upA (thr σ 0) 41 (upd (σ 41) (ix x) (-1))) n (σ 41 (ix x)) (rkM σ n (ix x)) n)) ∧ σ' = (if σ 41 (ix x) = 0 then upA (upA (thr σ 0) 41 (upd (σ 41) (ix x) (-1))) 43 (upd (σ 43) (ix x) 0) else if σ 41 (ix x) = 2 then upA (upA (thr σ 0) 41 (upd (σ 41) (ix x) (-1))) 42 (upd (σ 42) (ix x) 1) else muL (upA (thr σ 0) 41 (upd (σ 41) (ix x) (-1))) n (σ 41 (ix x)) (rkM σ n (ix x)) n)) ∨ (inB x n = false ∧ σ' = thr σ 1) ∨ (inB x n = true ∧ (b && decide (σ 40 (ix x) ≤ 0) && !decide (σ 41 (ix x) = -1)) = false ∧ σ' = thr σ 2)) (BW G) (gA G)) args s 0 0 (gA G)) (F0 m 161 ls [.int (bI (muB (upA (thr σ 0) 41 (upd (σ 41) (ix x) (-1))) n (σ 41 (ix x)) (rkM σ n (ix x)) j))]) := by
                        intro   H locs ls hw hl
                        refine lv_istore (lv' := [(8, .int (bI (muB (upA (thr σ 0) 41 (upd (σ 41) (ix x) (-1))) n (σ 41 (ix x)) (rkM σ n (ix x)) j))), (0, .ref (gad G 31)), (1, .int (nI (ix x))), (3, .int (σ 41 (ix x))), (4, .int (nI (rkM σ n (ix x)))), (5, .int (nI (muN (upA (thr σ 0) 41 (upd (σ 41) (ix x) (-1))) n (σ 41 (ix x)) (rkM σ n (ix x)) j))), (6, .int (nI j))]) hx hb dX6_use_161 hl (by decide) rfl (fun ls hl => ?_)
                        have lab_191 : ∀ (H : Heap) (locs : List Loc) (ls : Array Slot), Wd G s (muL (upA (thr σ 0) 41 (upd (σ 41) (ix x) (-1))) n (σ 41 (ix x)) (rkM σ n (ix x)) (j + 1)) H locs → lv_has ls 9 [(0, .ref (gad G 31)), (1, .int (nI (ix x))), (3, .int (σ 41 (ix x))), (4, .int (nI (rkM σ n (ix x)))), (6, .int (nI j))] → W p l e rmX6_use s m args below meth c H locs 0 0 (MQ below (va_Qi (fun r σ' => (inB x n = true ∧ (b && decide (σ 40 (ix x) ≤ 0) && !decide (σ 41 (ix x) = -1)) = true ∧ r = (if σ 41 (ix x) = 0 then 0 else if σ 41 (ix x) = 2 then 0 else nI (muN (upA (thr σ 0) 41 (upd (σ 41) (ix x) (-1))) n (σ 41 (ix x)) (rkM σ n (ix x)) n)) ∧ σ' = (if σ 41 (ix x) = 0 then upA (upA (thr σ 0) 41 (upd (σ 41) (ix x) (-1))) 43 (upd (σ 43) (ix x) 0) else if σ 41 (ix x) = 2 then upA (upA (thr σ 0) 41 (upd (σ 41) (ix x) (-1))) 42 (upd (σ 42) (ix x) 1) else muL (upA (thr σ 0) 41 (upd (σ 41) (ix x) (-1))) n (σ 41 (ix x)) (rkM σ n (ix x)) n)) ∨ (inB x n = false ∧ σ' = thr σ 1) ∨ (inB x n = true ∧ (b && decide (σ 40 (ix x) ≤ 0) && !decide (σ 41 (ix x) = -1)) = false ∧ σ' = thr σ 2)) (BW G) (gA G)) args s 0 0 (gA G)) (F0 m 191 ls [.int (nI (muN (upA (thr σ 0) 41 (upd (σ 41) (ix x) (-1))) n (σ 41 (ix x)) (rkM σ n (ix x)) (j + 1)))]) := by
                          intro   H locs ls hw hl
                          obtain ⟨σ_32, eσ_32⟩ : ∃ w9, w9 = muL (upA (thr σ 0) 41 (upd (σ 41) (ix x) (-1))) n (σ 41 (ix x)) (rkM σ n (ix x)) (j + 1) := ⟨_, rfl⟩
                          rw [← eσ_32] at hw
                          refine lv_istore (lv' := [(5, .int (nI (muN (upA (thr σ 0) 41 (upd (σ 41) (ix x) (-1))) n (σ 41 (ix x)) (rkM σ n (ix x)) (j + 1)))), (0, .ref (gad G 31)), (1, .int (nI (ix x))), (3, .int (σ 41 (ix x))), (4, .int (nI (rkM σ n (ix x)))), (6, .int (nI j))]) hx hb dX6_use_191 hl (by decide) rfl (fun ls hl => ?_)
                          refine lv_iinc (v := (nI (j + 1))) (lv' := [(6, .int (nI (j + 1))), (5, .int (nI (muN (upA (thr σ 0) 41 (upd (σ 41) (ix x) (-1))) n (σ 41 (ix x)) (rkM σ n (ix x)) (j + 1)))), (0, .ref (gad G 31)), (1, .int (nI (ix x))), (3, .int (σ 41 (ix x))), (4, .int (nI (rkM σ n (ix x))))]) hx hb dX6_use_193 hl (k := 5) rfl (nI_1 _) (by decide) rfl (fun ls hl => ?_)
                          refine lv_goto (tgt := 110) hx hb dX6_use_196 (by decide) ?_
                          have q_33 : σ_32 = muL (upA (thr σ 0) 41 (upd (σ 41) (ix x) (-1))) n (σ 41 (ix x)) (rkM σ n (ix x)) (j + 1) := by subst eσ_32; rfl
                          rw [q_33] at hw
                          exact ih110 (j + 1) (by omega) (by omega) _ _ _ hw (lv_c (lv_at hl 2 rfl) (lv_c (lv_at hl 3 rfl) (lv_c (lv_at hl 4 rfl) (lv_c (lv_at hl 5 rfl) (lv_c (lv_at hl 1 rfl) (lv_c (lv_at hl 0 rfl) (lv_c0 hl)))))))
                        refine lv_iload hx hb dX6_use_163 (lv_at hl 5 rfl) ?_
                        refine lv_iload hx hb dX6_use_165 (lv_at hl 0 rfl) ?_
                        refine lv_b_eq (tgt := 189) hx hb dX6_use_167 (by decide) (fun c_34 => ?_) (fun c_34 => ?_)
                        · skip
                          refine lv_iconst (v := 0) hx hb dX6_use_189 (by decide) ?_
                          refine lv_rep0 (x := 0) (y := nI 0) rfl ?_
                          refine lv_iadd hx hb dX6_use_190 ?_
                          refine lv_rep0 (x := ((nI (muN (upA (thr σ 0) 41 (upd (σ 41) (ix x) (-1))) n (σ 41 (ix x)) (rkM σ n (ix x)) j)) + (nI 0))) (y := nI ((muN (upA (thr σ 0) 41 (upd (σ 41) (ix x) (-1))) n (σ 41 (ix x)) (rkM σ n (ix x)) j) + 0)) (nI_add _ _) ?_
                          have q_35 : (nI ((muN (upA (thr σ 0) 41 (upd (σ 41) (ix x) (-1))) n (σ 41 (ix x)) (rkM σ n (ix x)) j) + 0)) = (nI (muN (upA (thr σ 0) 41 (upd (σ 41) (ix x) (-1))) n (σ 41 (ix x)) (rkM σ n (ix x)) (j + 1))) := by subst_vars; first | exact congrArg nI (muN_t (by assumption)).symm | exact congrArg nI (muN_f (by assumption)).symm
                          refine lv_rep0 q_35 ?_
                          have q_36 : σ_27 = muL (upA (thr σ 0) 41 (upd (σ 41) (ix x) (-1))) n (σ 41 (ix x)) (rkM σ n (ix x)) (j + 1) := by subst eσ_27; first | exact muL_5 (by assumption) (by assumption) | exact muL_2 (by assumption) (by assumption) | exact muL_f (by assumption)
                          rw [q_36] at hw
                          exact lab_191   _ _ _ hw (lv_c (lv_at hl 1 rfl) (lv_c (lv_at hl 2 rfl) (lv_c (lv_at hl 3 rfl) (lv_c (lv_at hl 4 rfl) (lv_c (lv_at hl 6 rfl) (lv_c0 hl))))))
                        · skip
                          refine lv_aload_n hx hb dX6_use_170 rfl (lv_at hl 1 rfl) ?_
                          refine lv_iload hx hb dX6_use_171 (lv_at hl 6 rfl) ?_
                          refine lv_iload_n hx hb dX6_use_173 rfl (lv_at hl 3 rfl) ?_
                          refine lv_iconst (v := 1) hx hb dX6_use_174 (by decide) ?_
                          refine lv_icmp_ne (tgt := 182) hx hb dX6_use_175 (by decide) (fun c_37 => ?_) (fun c_37 => ?_)
                          · skip
                            refine lv_iconst (v := 2) hx hb dX6_use_182 (by decide) ?_
                            refine rCallI (C := RX6) (As := [.int (nI j), .int 2]) (rest := [.int (nI (muN (upA (thr σ 0) 41 (upd (σ 41) (ix x) (-1))) n (σ 41 (ix x)) (rkM σ n (ix x)) j))]) ⟨hx, hb, hml, hown, hts⟩ fx hw (kX6_hits l G hG hF σ_27 j (by omega) 2) (cwV 2 hts gX6_use_X6_hits rfl rfl rfl (by decide +kernel) ⟨Nat.le_of_ble_eq_true rfl, Nat.le_of_ble_eq_true rfl⟩) (hF.1 31 (by decide)) rfl rfl rfl rfl hl.1 rfl (Nat.le_of_ble_eq_true rfl) dX6_use_183 ⟨Nat.zero_le _, Nat.zero_le _⟩ ?_
                            intro r_39 σ_40 H locs p_38 hw
                            obtain ⟨er_39, eσ_40⟩ := p_38
                            have er_39 := er_39.symm; subst er_39
                            have hh9 := mhR_le (σ := σ_27) (k := j)
                            have hn8 := muN_le (σ := (upA (thr σ 0) 41 (upd (σ 41) (ix x) (-1)))) (n := n) (its := σ 41 (ix x)) (w := rkM σ n (ix x)) j
                            refine lv_goto (tgt := 190) hx hb dX6_use_186 (by decide) ?_
                            refine lv_iadd hx hb dX6_use_190 ?_
                            refine lv_rep0 (x := ((nI (muN (upA (thr σ 0) 41 (upd (σ 41) (ix x) (-1))) n (σ 41 (ix x)) (rkM σ n (ix x)) j)) + (nI (mhR σ_27 j)))) (y := nI ((muN (upA (thr σ 0) 41 (upd (σ 41) (ix x) (-1))) n (σ 41 (ix x)) (rkM σ n (ix x)) j) + (mhR σ_27 j))) (nI_add _ _) ?_
                            have q_41 : (nI ((muN (upA (thr σ 0) 41 (upd (σ 41) (ix x) (-1))) n (σ 41 (ix x)) (rkM σ n (ix x)) j) + (mhR σ_27 j))) = (nI (muN (upA (thr σ 0) 41 (upd (σ 41) (ix x) (-1))) n (σ 41 (ix x)) (rkM σ n (ix x)) (j + 1))) := by subst_vars; first | exact congrArg nI (muN_t (by assumption)).symm | exact congrArg nI (muN_f (by assumption)).symm
                            refine lv_rep0 q_41 ?_
                            have q_42 : σ_40 = muL (upA (thr σ 0) 41 (upd (σ 41) (ix x) (-1))) n (σ 41 (ix x)) (rkM σ n (ix x)) (j + 1) := by subst eσ_40 eσ_27; first | exact muL_5 (by assumption) (by assumption) | exact muL_2 (by assumption) (by assumption) | exact muL_f (by assumption)
                            rw [q_42] at hw
                            exact lab_191   _ _ _ hw (lv_c (lv_at hl 1 rfl) (lv_c (lv_at hl 2 rfl) (lv_c (lv_at hl 3 rfl) (lv_c (lv_at hl 4 rfl) (lv_c (lv_at hl 6 rfl) (lv_c0 hl))))))
                          · skip
                            refine lv_iconst (v := 5) hx hb dX6_use_178 (by decide) ?_
                            refine lv_goto (tgt := 183) hx hb dX6_use_179 (by decide) ?_
                            refine rCallI (C := RX6) (As := [.int (nI j), .int 5]) (rest := [.int (nI (muN (upA (thr σ 0) 41 (upd (σ 41) (ix x) (-1))) n (σ 41 (ix x)) (rkM σ n (ix x)) j))]) ⟨hx, hb, hml, hown, hts⟩ fx hw (kX6_hits l G hG hF σ_27 j (by omega) 5) (cwV 2 hts gX6_use_X6_hits rfl rfl rfl (by decide +kernel) ⟨Nat.le_of_ble_eq_true rfl, Nat.le_of_ble_eq_true rfl⟩) (hF.1 31 (by decide)) rfl rfl rfl rfl hl.1 rfl (Nat.le_of_ble_eq_true rfl) dX6_use_183 ⟨Nat.zero_le _, Nat.zero_le _⟩ ?_
                            intro r_44 σ_45 H locs p_43 hw
                            obtain ⟨er_44, eσ_45⟩ := p_43
                            have er_44 := er_44.symm; subst er_44
                            have hh9 := mhR_le (σ := σ_27) (k := j)
                            have hn8 := muN_le (σ := (upA (thr σ 0) 41 (upd (σ 41) (ix x) (-1)))) (n := n) (its := σ 41 (ix x)) (w := rkM σ n (ix x)) j
                            refine lv_goto (tgt := 190) hx hb dX6_use_186 (by decide) ?_
                            refine lv_iadd hx hb dX6_use_190 ?_
                            refine lv_rep0 (x := ((nI (muN (upA (thr σ 0) 41 (upd (σ 41) (ix x) (-1))) n (σ 41 (ix x)) (rkM σ n (ix x)) j)) + (nI (mhR σ_27 j)))) (y := nI ((muN (upA (thr σ 0) 41 (upd (σ 41) (ix x) (-1))) n (σ 41 (ix x)) (rkM σ n (ix x)) j) + (mhR σ_27 j))) (nI_add _ _) ?_
                            have q_46 : (nI ((muN (upA (thr σ 0) 41 (upd (σ 41) (ix x) (-1))) n (σ 41 (ix x)) (rkM σ n (ix x)) j) + (mhR σ_27 j))) = (nI (muN (upA (thr σ 0) 41 (upd (σ 41) (ix x) (-1))) n (σ 41 (ix x)) (rkM σ n (ix x)) (j + 1))) := by subst_vars; first | exact congrArg nI (muN_t (by assumption)).symm | exact congrArg nI (muN_f (by assumption)).symm
                            refine lv_rep0 q_46 ?_
                            have q_47 : σ_45 = muL (upA (thr σ 0) 41 (upd (σ 41) (ix x) (-1))) n (σ 41 (ix x)) (rkM σ n (ix x)) (j + 1) := by subst eσ_45 eσ_27; first | exact muL_5 (by assumption) (by assumption) | exact muL_2 (by assumption) (by assumption) | exact muL_f (by assumption)
                            rw [q_47] at hw
                            exact lab_191   _ _ _ hw (lv_c (lv_at hl 1 rfl) (lv_c (lv_at hl 2 rfl) (lv_c (lv_at hl 3 rfl) (lv_c (lv_at hl 4 rfl) (lv_c (lv_at hl 6 rfl) (lv_c0 hl))))))
                      refine lv_iload_n hx hb dX6_use_127 rfl (lv_at hl 3 rfl) ?_
                      refine lv_iconst (v := 1) hx hb dX6_use_128 (by decide) ?_
                      refine lv_icmp_ne (tgt := 149) hx hb dX6_use_129 (by decide) (fun c_48 => ?_) (fun c_48 => ?_)
                      · skip
                        refine lv_iload hx hb dX6_use_149 (lv_at hl 0 rfl) ?_
                        refine lv_iload hx hb dX6_use_151 (lv_at hl 4 rfl) ?_
                        refine lv_icmp_ge (tgt := 160) hx hb dX6_use_153 (by decide) (fun c_49 => ?_) (fun c_49 => ?_)
                        · skip
                          have c_49 : (rkM σ n (ix x)) ≤ (rkM (upA (thr σ 0) 41 (upd (σ 41) (ix x) (-1))) n j) := (nI_leI (by omega) (by omega)).mp c_49
                          refine lv_iconst (v := 0) hx hb dX6_use_160 (by decide) ?_
                          have q_50 : 0 = (bI (muB (upA (thr σ 0) 41 (upd (σ 41) (ix x) (-1))) n (σ 41 (ix x)) (rkM σ n (ix x)) j)) := by first | rfl | (unfold muB; first | (rw [if_pos (show σ 41 (ix x) = 1 by assumption), decide_eq_true c_49]; rfl) | (rw [if_pos (show σ 41 (ix x) = 1 by assumption), decide_eq_false c_49]; rfl) | (rw [if_neg (show ¬ σ 41 (ix x) = 1 by assumption), decide_eq_true (Nat.lt_of_not_le c_49)]; rfl) | (rw [if_neg (show ¬ σ 41 (ix x) = 1 by assumption), decide_eq_false (Nat.not_lt.mpr c_49)]; rfl))
                          refine lv_rep0 q_50 ?_
                          exact lab_161   _ _ _ hw (lv_c (lv_at hl 1 rfl) (lv_c (lv_at hl 2 rfl) (lv_c (lv_at hl 3 rfl) (lv_c (lv_at hl 4 rfl) (lv_c (lv_at hl 5 rfl) (lv_c (lv_at hl 6 rfl) (lv_c0 hl)))))))
                        · skip
                          have c_49 : ¬ (rkM σ n (ix x)) ≤ (rkM (upA (thr σ 0) 41 (upd (σ 41) (ix x) (-1))) n j) := fun h9 => c_49 ((nI_leI (by omega) (by omega)).mpr h9)
                          refine lv_iconst (v := 1) hx hb dX6_use_156 (by decide) ?_
                          refine lv_goto (tgt := 161) hx hb dX6_use_157 (by decide) ?_
                          have q_51 : 1 = (bI (muB (upA (thr σ 0) 41 (upd (σ 41) (ix x) (-1))) n (σ 41 (ix x)) (rkM σ n (ix x)) j)) := by first | rfl | (unfold muB; first | (rw [if_pos (show σ 41 (ix x) = 1 by assumption), decide_eq_true c_49]; rfl) | (rw [if_pos (show σ 41 (ix x) = 1 by assumption), decide_eq_false c_49]; rfl) | (rw [if_neg (show ¬ σ 41 (ix x) = 1 by assumption), decide_eq_true (Nat.lt_of_not_le c_49)]; rfl) | (rw [if_neg (show ¬ σ 41 (ix x) = 1 by assumption), decide_eq_false (Nat.not_lt.mpr c_49)]; rfl))
                          refine lv_rep0 q_51 ?_
                          exact lab_161   _ _ _ hw (lv_c (lv_at hl 1 rfl) (lv_c (lv_at hl 2 rfl) (lv_c (lv_at hl 3 rfl) (lv_c (lv_at hl 4 rfl) (lv_c (lv_at hl 5 rfl) (lv_c (lv_at hl 6 rfl) (lv_c0 hl)))))))
                      · skip
                        refine lv_iload hx hb dX6_use_132 (lv_at hl 0 rfl) ?_
                        refine lv_iload hx hb dX6_use_134 (lv_at hl 4 rfl) ?_
                        refine lv_iconst (v := 1) hx hb dX6_use_136 (by decide) ?_
                        refine lv_rep0 (x := 1) (y := nI 1) rfl ?_
                        refine lv_isub hx hb dX6_use_137 ?_
                        refine lv_rep0 (x := ((nI (rkM σ n (ix x))) - (nI 1))) (y := (nI (rkM σ n (ix x)) - 1)) (by rfl) ?_
                        refine lv_icmp_ne (tgt := 145) hx hb dX6_use_138 (by decide) (fun c_52 => ?_) (fun c_52 => ?_)
                        · skip
                          refine lv_iconst (v := 0) hx hb dX6_use_145 (by decide) ?_
                          refine lv_goto (tgt := 161) hx hb dX6_use_146 (by decide) ?_
                          have q_53 : 0 = (bI (muB (upA (thr σ 0) 41 (upd (σ 41) (ix x) (-1))) n (σ 41 (ix x)) (rkM σ n (ix x)) j)) := by first | rfl | (unfold muB; first | (rw [if_pos (show σ 41 (ix x) = 1 by assumption), decide_eq_true c_52]; rfl) | (rw [if_pos (show σ 41 (ix x) = 1 by assumption), decide_eq_false c_52]; rfl) | (rw [if_neg (show ¬ σ 41 (ix x) = 1 by assumption), decide_eq_true (Nat.lt_of_not_le c_52)]; rfl) | (rw [if_neg (show ¬ σ 41 (ix x) = 1 by assumption), decide_eq_false (Nat.not_lt.mpr c_52)]; rfl))
                          refine lv_rep0 q_53 ?_
                          exact lab_161   _ _ _ hw (lv_c (lv_at hl 1 rfl) (lv_c (lv_at hl 2 rfl) (lv_c (lv_at hl 3 rfl) (lv_c (lv_at hl 4 rfl) (lv_c (lv_at hl 5 rfl) (lv_c (lv_at hl 6 rfl) (lv_c0 hl)))))))
                        · skip
                          refine lv_iconst (v := 1) hx hb dX6_use_141 (by decide) ?_
                          refine lv_goto (tgt := 161) hx hb dX6_use_142 (by decide) ?_
                          have q_54 : 1 = (bI (muB (upA (thr σ 0) 41 (upd (σ 41) (ix x) (-1))) n (σ 41 (ix x)) (rkM σ n (ix x)) j)) := by first | rfl | (unfold muB; first | (rw [if_pos (show σ 41 (ix x) = 1 by assumption), decide_eq_true c_52]; rfl) | (rw [if_pos (show σ 41 (ix x) = 1 by assumption), decide_eq_false c_52]; rfl) | (rw [if_neg (show ¬ σ 41 (ix x) = 1 by assumption), decide_eq_true (Nat.lt_of_not_le c_52)]; rfl) | (rw [if_neg (show ¬ σ 41 (ix x) = 1 by assumption), decide_eq_false (Nat.not_lt.mpr c_52)]; rfl))
                          refine lv_rep0 q_54 ?_
                          exact lab_161   _ _ _ hw (lv_c (lv_at hl 1 rfl) (lv_c (lv_at hl 2 rfl) (lv_c (lv_at hl 3 rfl) (lv_c (lv_at hl 4 rfl) (lv_c (lv_at hl 5 rfl) (lv_c (lv_at hl 6 rfl) (lv_c0 hl)))))))
                have q_55 : 0 = (nI (muN (upA (thr σ 0) 41 (upd (σ 41) (ix x) (-1))) n (σ 41 (ix x)) (rkM σ n (ix x)) 0)) := by first | rfl | (simp)
                have q_56 : 0 = (nI 0) := by first | rfl | (simp)
                have q_57 : σ_21 = muL (upA (thr σ 0) 41 (upd (σ 41) (ix x) (-1))) n (σ 41 (ix x)) (rkM σ n (ix x)) 0 := by subst eσ_21 eσ_19; simp [muL, thr, upA_n, upA_s, upA_upA, upA_self, upd_self, upd_upd, pk_us, bI]
                rw [q_57] at hw
                exact lab_110 (n - 0 + 1) 0 (by omega) (by omega) _ _ _ hw (lv_c (lv_at hl 5 rfl) (lv_c (lv_at hl 6 rfl) (lv_c (lv_at hl 3 rfl) (lv_c (lv_at hl 2 rfl) (lv_c (lv_atq hl 1 rfl q_55) (lv_c (lv_atq hl 0 rfl q_56) (lv_c0 hl)))))))
              · skip
                refine lv_aload_n hx hb dX6_use_97 rfl (lv_at hl 4 rfl) ?_
                refine rGet (v := .ref (gad G 42)) (C := RX6) (T := TX6) (N := 26) hx hb fx hown hts hin hw 31 (hF.1 31 (by decide)) rfl rfl 20 (by decide) (hts (.fieldLink RX6 44 "LeaguewheelModel" "isShielded" "[Z") (by decide +kernel)) (fun _ h9 => h9) rfl dX6_use_98 ?_
                refine lv_iload_n hx hb dX6_use_101 rfl (lv_at hl 5 rfl) ?_
                refine lv_iconst (v := 1) hx hb dX6_use_102 (by decide) ?_
                refine rZst (x := 1) hx hb fx hw 42 (hF.1 42 (by decide)) hF.2.2.1 (fun _ => rfl) (ix x) rfl (by omega) (by decide) (by decide) dX6_use_103 (fun H locs hw => ?_)
                obtain ⟨σ_58, eσ_58⟩ : ∃ w9, w9 = upA σ_21 42 (upd (σ_21 42) (ix x) 1) := ⟨_, rfl⟩
                rw [← eσ_58] at hw
                refine lv_goto (tgt := 199) hx hb dX6_use_104 (by decide) ?_
                refine lv_iload hx hb dX6_use_199 (lv_at hl 0 rfl) ?_
                subst eσ_58
                subst eσ_21
                subst eσ_19
                exact rRetI hx hb hr hw (by first | (exact Or.inl ⟨c_4, by (first | assumption | (simp [c_4, c_6]; done) | (simp [c_4, c_6, c_11, c_16, c_25, c_26]; done) | (simp [c_4, c_6, c_11, c_16, c_25, c_26]; omega)), (if_pos c_26).symm, by refine Eq.trans ?_ (if_pos c_26).symm; first | rfl | (simp [thr, upA_n, upA_s, upA_upA, upA_self, upd_self, upd_upd, pk_us, bI]; done)⟩) | (exact Or.inl ⟨c_4, by (first | assumption | (simp [c_4, c_6]; done) | (simp [c_4, c_6, c_11, c_16, c_25, c_26]; done) | (simp [c_4, c_6, c_11, c_16, c_25, c_26]; omega)), ((if_neg (by assumption)).trans (if_pos c_26)).symm, by refine Eq.trans ?_ ((if_neg (by assumption)).trans (if_pos c_26)).symm; first | rfl | (simp [thr, upA_n, upA_s, upA_upA, upA_self, upd_self, upd_upd, pk_us, bI]; done)⟩) | (rw [show j = n by omega]; exact Or.inl ⟨c_4, by (first | assumption | (simp [c_4, c_6]; done) | (simp [c_4, c_6, c_11, c_16, c_25, c_26]; done) | (simp [c_4, c_6, c_11, c_16, c_25, c_26]; omega)), by rw [if_neg c_25, if_neg c_26], by rw [if_neg c_25, if_neg c_26]⟩)) hlocks dX6_use_201
            · skip
              refine lv_aload_n hx hb dX6_use_82 rfl (lv_at hl 4 rfl) ?_
              refine rGet (v := .ref (gad G 43)) (C := RX6) (T := TX6) (N := 26) hx hb fx hown hts hin hw 31 (hF.1 31 (by decide)) rfl rfl 21 (by decide) (hts (.fieldLink RX6 48 "LeaguewheelModel" "until" "[I") (by decide +kernel)) (fun _ h9 => h9) rfl dX6_use_83 ?_
              refine lv_iload_n hx hb dX6_use_86 rfl (lv_at hl 5 rfl) ?_
              refine lv_iconst (v := 0) hx hb dX6_use_87 (by decide) ?_
              refine rAst (x := 0) hx hb fx hw 43 (hF.1 43 (by decide)) hF.2.1 (fun _ => rfl) (ix x) rfl (by omega) (by decide) dX6_use_88 (fun H locs hw => ?_)
              obtain ⟨σ_59, eσ_59⟩ : ∃ w9, w9 = upA σ_21 43 (upd (σ_21 43) (ix x) 0) := ⟨_, rfl⟩
              rw [← eσ_59] at hw
              refine lv_goto (tgt := 199) hx hb dX6_use_89 (by decide) ?_
              refine lv_iload hx hb dX6_use_199 (lv_at hl 0 rfl) ?_
              subst eσ_59
              subst eσ_21
              subst eσ_19
              exact rRetI hx hb hr hw (by first | (exact Or.inl ⟨c_4, by (first | assumption | (simp [c_4, c_6]; done) | (simp [c_4, c_6, c_11, c_16, c_25]; done) | (simp [c_4, c_6, c_11, c_16, c_25]; omega)), (if_pos c_25).symm, by refine Eq.trans ?_ (if_pos c_25).symm; first | rfl | (simp [thr, upA_n, upA_s, upA_upA, upA_self, upd_self, upd_upd, pk_us, bI]; done)⟩) | (exact Or.inl ⟨c_4, by (first | assumption | (simp [c_4, c_6]; done) | (simp [c_4, c_6, c_11, c_16, c_25]; done) | (simp [c_4, c_6, c_11, c_16, c_25]; omega)), ((if_neg (by assumption)).trans (if_pos c_25)).symm, by refine Eq.trans ?_ ((if_neg (by assumption)).trans (if_pos c_25)).symm; first | rfl | (simp [thr, upA_n, upA_s, upA_upA, upA_self, upd_self, upd_upd, pk_us, bI]; done)⟩) | (rw [show j = n by omega]; exact Or.inl ⟨c_4, by (first | assumption | (simp [c_4, c_6]; done) | (simp [c_4, c_6, c_11, c_16, c_25]; done) | (simp [c_4, c_6, c_11, c_16, c_25]; omega)), by rw [if_neg c_25, if_neg hl], by rw [if_neg c_25, if_neg hl]⟩)) hlocks dX6_use_201
          · skip
            exact absurd c_20 (by decide)
        · skip
          refine lv_iconst (v := 2) hx hb dX6_use_41 (by decide) ?_
          refine lv_goto (tgt := 46) hx hb dX6_use_42 (by decide) ?_
          refine lv_rep0 (x := 2) (y := nI 2) rfl ?_
          refine rCallI (C := RX6) (As := [.int (nI 2)]) (rest := []) ⟨hx, hb, hml, hown, hts⟩ fx hw (kX6_fails l G hG hF σ 2 (by omega)) (cwV 1 hts gX6_use_X6_fails rfl rfl rfl (by decide +kernel) ⟨Nat.le_of_ble_eq_true rfl, Nat.le_of_ble_eq_true rfl⟩) (hF.1 31 (by decide)) rfl rfl rfl rfl hl.1 rfl (Nat.le_of_ble_eq_true rfl) dX6_use_46 ⟨Nat.zero_le _, Nat.zero_le _⟩ ?_
          intro r_61 σ_62 H locs p_60 hw
          obtain ⟨er_61, eσ_62⟩ := p_60
          have er_61 := er_61.symm; subst er_61
          refine lv_b_eq (tgt := 54) hx hb dX6_use_49 (by decide) (fun c_63 => ?_) (fun c_63 => ?_)
          · skip
            exact absurd c_63 (by decide)
          · skip
            refine lv_iconst (v := 0) hx hb dX6_use_52 (by decide) ?_
            subst eσ_62
            exact rRetI hx hb hr hw (by first | exact Or.inr (Or.inl ⟨by (first | assumption | (simp [c_4, c_6]; done) | (simp [c_4, c_6, c_11, c_16]; done) | (simp [c_4, c_6, c_11, c_16]; omega)), by rfl⟩) | exact Or.inr (Or.inr ⟨by (first | assumption | (simp [c_4, c_6]; done) | (simp [c_4, c_6, c_11, c_16]; done) | (simp [c_4, c_6, c_11, c_16]; omega)), by (first | assumption | (simp [c_4, c_6]; done) | (simp [c_4, c_6, c_11, c_16]; done) | (simp [c_4, c_6, c_11, c_16]; omega)), by rfl⟩)) hlocks dX6_use_53
  · skip
    refine lv_iconst (v := 1) hx hb dX6_use_11 (by decide) ?_
    refine lv_goto (tgt := 46) hx hb dX6_use_12 (by decide) ?_
    refine lv_rep0 (x := 1) (y := nI 1) rfl ?_
    refine rCallI (C := RX6) (As := [.int (nI 1)]) (rest := []) ⟨hx, hb, hml, hown, hts⟩ fx hw (kX6_fails l G hG hF σ 1 (by omega)) (cwV 1 hts gX6_use_X6_fails rfl rfl rfl (by decide +kernel) ⟨Nat.le_of_ble_eq_true rfl, Nat.le_of_ble_eq_true rfl⟩) (hF.1 31 (by decide)) rfl rfl rfl rfl hl.1 rfl (Nat.le_of_ble_eq_true rfl) dX6_use_46 ⟨Nat.zero_le _, Nat.zero_le _⟩ ?_
    intro r_65 σ_66 H locs p_64 hw
    obtain ⟨er_65, eσ_66⟩ := p_64
    have er_65 := er_65.symm; subst er_65
    refine lv_b_eq (tgt := 54) hx hb dX6_use_49 (by decide) (fun c_67 => ?_) (fun c_67 => ?_)
    · skip
      exact absurd c_67 (by decide)
    · skip
      refine lv_iconst (v := 0) hx hb dX6_use_52 (by decide) ?_
      subst eσ_66
      exact rRetI hx hb hr hw (by first | exact Or.inr (Or.inl ⟨by (first | assumption | (simp [c_4]; done) | (simp [c_4]; done) | (simp [c_4]; omega)), by rfl⟩) | exact Or.inr (Or.inr ⟨by (first | assumption | (simp [c_4]; done) | (simp [c_4]; done) | (simp [c_4]; omega)), by (first | assumption | (simp [c_4]; done) | (simp [c_4]; done) | (simp [c_4]; omega)), by rfl⟩)) hlocks dX6_use_53
