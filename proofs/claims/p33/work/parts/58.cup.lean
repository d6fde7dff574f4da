def rmL_isCup : Room := ({ frames := 9, cells := 9, slots := 60, locals := 169 } : Room)
set_option maxHeartbeats 4000000 in
set_option maxRecDepth 100000 in
theorem kL_isCup (l : Launch) (hlt : l.stackTraces = false) (G : Gx) (hG : gOk G) (hF : Full G) (σ : St) {g n e9 z d t j : Nat} {b : Bool} (hA : PAll σ g n e9 z d t b j)  : CmI l yL_isCup wsL_isCup rmL_isCup G σ [.ref (gad G 0), .ref (gad G 32), .ref (gad G 33)] (fun r σ' => r = 1 ∧ σ' = σ) 9 60 := by
  refine bgM (cc := cL_isCup) (maxL := 10) (ret := (some .boolean)) (own := RL) (by decide) rfl rfl hG (Nat.le_of_ble_eq_true rfl) rfl ?_
  intro p e s m args below meth c ls Bd hl
  obtain ⟨hx, hb, hr, hml, hts, hown, hlocks, fx, hw⟩ := Bd
  have hl : lv_has ls 10 [(0, .ref (gad G 0)), (1, .ref (gad G 32)), (2, .ref (gad G 33))] := hl
  have hg5 := (pg hA).2
  have hn6 := (pn hA).2
  have he8 := (pe hA).2
  have hd3 := (pdr hA).2.2
  rcases Nat.eq_zero_or_pos n with hn0 | hn0
  · skip
    refine lv_iconst (v := 0) hx hb dL_isCup_0 (by decide) ?_
    refine lv_istore_n (lv' := [(3, .int 0), (0, .ref (gad G 0)), (1, .ref (gad G 32)), (2, .ref (gad G 33))]) hx hb dL_isCup_1 rfl hl (by decide) rfl (fun ls hl => ?_)
    refine lv_iconst (v := 0) hx hb dL_isCup_2 (by decide) ?_
    refine lv_istore (lv' := [(4, .int 0), (3, .int 0), (0, .ref (gad G 0)), (1, .ref (gad G 32)), (2, .ref (gad G 33))]) hx hb dL_isCup_3 hl (by decide) rfl (fun ls hl => ?_)
    refine lv_aload_n hx hb dL_isCup_5 rfl (lv_at hl 2 rfl) ?_
    refine rCallI (C := RX5) (As := []) (rest := []) ⟨hx, hb, hml, hown, hts⟩ fx hw (kX5_races l G hG hF σ g n e9 z b (pcv hA)) (cwV 0 hts gL_isCup_X5_races rfl rfl rfl (by decide +kernel) ⟨Nat.le_of_ble_eq_true rfl, Nat.le_of_ble_eq_true rfl⟩) (hF.1 0 (by decide)) rfl rfl rfl rfl hl.1 rfl (Nat.le_of_ble_eq_true rfl) dL_isCup_6 ⟨Nat.le_trans (show _ ≤ 9 by omega) (Nat.le_of_ble_eq_true rfl), Nat.le_trans (show _ ≤ 60 by omega) (Nat.le_of_ble_eq_true rfl)⟩ (fun r_1 σ_2 H locs p_3 hw => ?_)
    obtain ⟨er_1, eσ_2⟩ := p_3
    have er_1 := er_1.symm; subst er_1
    have eσ_2 := eσ_2.symm; subst eσ_2
    refine lv_aload_n hx hb dL_isCup_9 rfl (lv_at hl 4 rfl) ?_
    refine lv_bipush (v := 6) hx hb dL_isCup_10 (by decide) ?_
    refine lv_rep0 (x := 6) (y := nI 6) rfl ?_
    refine rAld hx hb fx hw 33 (hF.1 33 (by decide)) hF.2.1 (fun _ => rfl) 6 rfl (by omega) (by decide) dL_isCup_12 ?_
    refine lv_rep0 (x := (σ 33 6)) (y := (nI e9)) (pe hA).1 ?_
    refine lv_icmp_ne (tgt := 97) hx hb dL_isCup_13 (by decide) (fun c_4 => ?_) (fun c_4 => ?_)
    · skip
      exact absurd rfl c_4
    · skip
      refine lv_aload_n hx hb dL_isCup_16 rfl (lv_at hl 2 rfl) ?_
      refine lv_bipush (v := 9) hx hb dL_isCup_17 (by decide) ?_
      refine lv_aload_n hx hb dL_isCup_19 rfl (lv_at hl 4 rfl) ?_
      refine lv_bipush (v := 6) hx hb dL_isCup_20 (by decide) ?_
      refine lv_rep0 (x := 6) (y := nI 6) rfl ?_
      refine rAld hx hb fx hw 33 (hF.1 33 (by decide)) hF.2.1 (fun _ => rfl) 6 rfl (by omega) (by decide) dL_isCup_22 ?_
      refine lv_rep0 (x := (σ 33 6)) (y := (nI e9)) (pe hA).1 ?_
      refine lv_iconst (v := 0) hx hb dL_isCup_23 (by decide) ?_
      refine rCallLS (As := [.ref (gad G 0), .int 9, .int (nI e9), .int 0]) (rest := []) ⟨hx, hb, hml, hown, hts⟩ fx hw (a_9T l hlt G hG hF σ hA ((nI e9)) 0 (by rw [inB_no (Nat.le_refl e9) (by omega)]; rfl)) (vx_cwSW 4 hts gL_isCup_L_asks rfl rfl rfl (by decide +kernel) ⟨Nat.le_of_ble_eq_true rfl, Nat.le_of_ble_eq_true rfl⟩) rfl hl.1 rfl (Nat.le_of_ble_eq_true rfl) dL_isCup_24 ⟨Nat.le_trans (show _ ≤ 9 by omega) (Nat.le_of_ble_eq_true rfl), Nat.le_trans (show _ ≤ 60 by omega) (Nat.le_of_ble_eq_true rfl)⟩ (fun r_5 σ_6 H locs p_7 hw => ?_)
      obtain ⟨er_5, eσ_6⟩ := p_7
      have er_5 := er_5.symm; subst er_5
      have eσ_6 := eσ_6.symm; subst eσ_6
      refine lv_sipush (v := (-3000)) hx hb dL_isCup_27 (by decide) ?_
      refine lv_icmp_ne (tgt := 97) hx hb dL_isCup_30 (by decide) (fun c_8 => ?_) (fun c_8 => ?_)
      · skip
        exact absurd c_8 (by decide)
      · skip
        refine lv_aload_n hx hb dL_isCup_33 rfl (lv_at hl 2 rfl) ?_
        refine lv_bipush (v := 9) hx hb dL_isCup_34 (by decide) ?_
        refine lv_iconst (v := 0) hx hb dL_isCup_36 (by decide) ?_
        refine lv_aload_n hx hb dL_isCup_37 rfl (lv_at hl 4 rfl) ?_
        refine lv_iconst (v := 2) hx hb dL_isCup_38 (by decide) ?_
        refine lv_rep0 (x := 2) (y := nI 2) rfl ?_
        refine rAld hx hb fx hw 33 (hF.1 33 (by decide)) hF.2.1 (fun _ => rfl) 2 rfl (by omega) (by decide) dL_isCup_39 ?_
        refine lv_rep0 (x := (σ 33 2)) (y := (nI n)) (pn hA).1 ?_
        refine rCallLS (As := [.ref (gad G 0), .int 9, .int 0, .int (nI n)]) (rest := []) ⟨hx, hb, hml, hown, hts⟩ fx hw (a_9T l hlt G hG hF σ hA 0 ((nI n)) (by rw [inB_no (Nat.le_refl n) (by omega), Bool.and_false])) (vx_cwSW 4 hts gL_isCup_L_asks rfl rfl rfl (by decide +kernel) ⟨Nat.le_of_ble_eq_true rfl, Nat.le_of_ble_eq_true rfl⟩) rfl hl.1 rfl (Nat.le_of_ble_eq_true rfl) dL_isCup_40 ⟨Nat.le_trans (show _ ≤ 9 by omega) (Nat.le_of_ble_eq_true rfl), Nat.le_trans (show _ ≤ 60 by omega) (Nat.le_of_ble_eq_true rfl)⟩ (fun r_9 σ_10 H locs p_11 hw => ?_)
        obtain ⟨er_9, eσ_10⟩ := p_11
        have er_9 := er_9.symm; subst er_9
        have eσ_10 := eσ_10.symm; subst eσ_10
        refine lv_sipush (v := (-3000)) hx hb dL_isCup_43 (by decide) ?_
        refine lv_icmp_ne (tgt := 97) hx hb dL_isCup_46 (by decide) (fun c_12 => ?_) (fun c_12 => ?_)
        · skip
          exact absurd c_12 (by decide)
        · skip
          refine lv_aload_n hx hb dL_isCup_49 rfl (lv_at hl 2 rfl) ?_
          refine lv_bipush (v := 10) hx hb dL_isCup_50 (by decide) ?_
          refine lv_aload_n hx hb dL_isCup_52 rfl (lv_at hl 4 rfl) ?_
          refine lv_iconst (v := 2) hx hb dL_isCup_53 (by decide) ?_
          refine lv_rep0 (x := 2) (y := nI 2) rfl ?_
          refine rAld hx hb fx hw 33 (hF.1 33 (by decide)) hF.2.1 (fun _ => rfl) 2 rfl (by omega) (by decide) dL_isCup_54 ?_
          refine lv_rep0 (x := (σ 33 2)) (y := (nI n)) (pn hA).1 ?_
          refine lv_iconst (v := 0) hx hb dL_isCup_55 (by decide) ?_
          refine rCallLS (As := [.ref (gad G 0), .int 10, .int (nI n), .int 0]) (rest := []) ⟨hx, hb, hml, hown, hts⟩ fx hw (a_10T l hlt G hG hF σ hA ((nI n)) 0 (inB_no (Nat.le_refl n) (by omega))) (vx_cwSW 4 hts gL_isCup_L_asks rfl rfl rfl (by decide +kernel) ⟨Nat.le_of_ble_eq_true rfl, Nat.le_of_ble_eq_true rfl⟩) rfl hl.1 rfl (Nat.le_of_ble_eq_true rfl) dL_isCup_56 ⟨Nat.le_trans (show _ ≤ 9 by omega) (Nat.le_of_ble_eq_true rfl), Nat.le_trans (show _ ≤ 60 by omega) (Nat.le_of_ble_eq_true rfl)⟩ (fun r_13 σ_14 H locs p_15 hw => ?_)
          obtain ⟨er_13, eσ_14⟩ := p_15
          have er_13 := er_13.symm; subst er_13
          have eσ_14 := eσ_14.symm; subst eσ_14
          refine lv_sipush (v := (-3000)) hx hb dL_isCup_59 (by decide) ?_
          refine lv_icmp_ne (tgt := 97) hx hb dL_isCup_62 (by decide) (fun c_16 => ?_) (fun c_16 => ?_)
          · skip
            exact absurd c_16 (by decide)
          · skip
            refine lv_aload_n hx hb dL_isCup_65 rfl (lv_at hl 2 rfl) ?_
            refine lv_bipush (v := 11) hx hb dL_isCup_66 (by decide) ?_
            refine lv_iconst (v := 4) hx hb dL_isCup_68 (by decide) ?_
            refine lv_iconst (v := 0) hx hb dL_isCup_69 (by decide) ?_
            refine rCallLS (As := [.ref (gad G 0), .int 11, .int 4, .int 0]) (rest := []) ⟨hx, hb, hml, hown, hts⟩ fx hw (a_11T l hlt G hG hF σ hA 4 0 (by decide)) (vx_cwSW 4 hts gL_isCup_L_asks rfl rfl rfl (by decide +kernel) ⟨Nat.le_of_ble_eq_true rfl, Nat.le_of_ble_eq_true rfl⟩) rfl hl.1 rfl (Nat.le_of_ble_eq_true rfl) dL_isCup_70 ⟨Nat.le_trans (show _ ≤ 9 by omega) (Nat.le_of_ble_eq_true rfl), Nat.le_trans (show _ ≤ 60 by omega) (Nat.le_of_ble_eq_true rfl)⟩ (fun r_17 σ_18 H locs p_19 hw => ?_)
            obtain ⟨er_17, eσ_18⟩ := p_19
            have er_17 := er_17.symm; subst er_17
            have eσ_18 := eσ_18.symm; subst eσ_18
            refine lv_sipush (v := (-3000)) hx hb dL_isCup_73 (by decide) ?_
            refine lv_icmp_ne (tgt := 97) hx hb dL_isCup_76 (by decide) (fun c_20 => ?_) (fun c_20 => ?_)
            · skip
              exact absurd c_20 (by decide)
            · skip
              refine lv_aload_n hx hb dL_isCup_79 rfl (lv_at hl 2 rfl) ?_
              refine lv_bipush (v := 12) hx hb dL_isCup_80 (by decide) ?_
              refine lv_iconst (v := (-1)) hx hb dL_isCup_82 (by decide) ?_
              refine lv_iconst (v := 0) hx hb dL_isCup_83 (by decide) ?_
              refine rCallLS (As := [.ref (gad G 0), .int 12, .int (-1), .int 0]) (rest := []) ⟨hx, hb, hml, hown, hts⟩ fx hw (a_12T l hlt G hG hF σ hA (-1) 0 (inB_m1 n)) (vx_cwSW 4 hts gL_isCup_L_asks rfl rfl rfl (by decide +kernel) ⟨Nat.le_of_ble_eq_true rfl, Nat.le_of_ble_eq_true rfl⟩) rfl hl.1 rfl (Nat.le_of_ble_eq_true rfl) dL_isCup_84 ⟨Nat.le_trans (show _ ≤ 9 by omega) (Nat.le_of_ble_eq_true rfl), Nat.le_trans (show _ ≤ 60 by omega) (Nat.le_of_ble_eq_true rfl)⟩ (fun r_21 σ_22 H locs p_23 hw => ?_)
              obtain ⟨er_21, eσ_22⟩ := p_23
              have er_21 := er_21.symm; subst er_21
              have eσ_22 := eσ_22.symm; subst eσ_22
              refine lv_sipush (v := (-3000)) hx hb dL_isCup_87 (by decide) ?_
              refine lv_icmp_ne (tgt := 97) hx hb dL_isCup_90 (by decide) (fun c_24 => ?_) (fun c_24 => ?_)
              · skip
                exact absurd c_24 (by decide)
              · skip
                refine lv_iconst (v := 1) hx hb dL_isCup_93 (by decide) ?_
                refine lv_goto (tgt := 98) hx hb dL_isCup_94 (by decide) ?_
                refine lv_istore (lv' := [(5, .int 1), (4, .int 0), (3, .int 0), (0, .ref (gad G 0)), (1, .ref (gad G 32)), (2, .ref (gad G 33))]) hx hb dL_isCup_98 hl (by decide) rfl (fun ls hl => ?_)
                refine lv_iconst (v := 0) hx hb dL_isCup_100 (by decide) ?_
                refine lv_istore (lv' := [(6, .int 0), (5, .int 1), (4, .int 0), (3, .int 0), (0, .ref (gad G 0)), (1, .ref (gad G 32)), (2, .ref (gad G 33))]) hx hb dL_isCup_101 hl (by decide) rfl (fun ls hl => ?_)
                have lab_103 : ∀ (n9 : Nat), ∀ (i : Nat), e9 - i < n9 → i ≤ e9 → ∀ (H : Heap) (locs : List Loc) (ls : Array Slot), Wd G s σ H locs → lv_has ls 10 [(0, .ref (gad G 0)), (1, .ref (gad G 32)), (2, .ref (gad G 33)), (3, .int 0), (4, .int 0), (5, .int 1), (6, .int (nI i))] → W p l e rmL_isCup s m args below meth c H locs (5) (30) (MQ below (va_Qi (fun r σ' => r = 1 ∧ σ' = σ) (BW G) (gA G)) args s 9 60 (gA G)) (F0 m 103 ls []) := by
                  intro n9
                  induction n9 with
                  | zero => intro i hn9; exact absurd hn9 (Nat.not_lt_zero _)
                  | succ n9 ih103 =>
                    intro i hn9 h103_0 H locs ls hw hl
                    refine lv_iload hx hb dL_isCup_103 (lv_at hl 6 rfl) ?_
                    refine lv_aload_n hx hb dL_isCup_105 rfl (lv_at hl 2 rfl) ?_
                    refine lv_bipush (v := 6) hx hb dL_isCup_106 (by decide) ?_
                    refine lv_rep0 (x := 6) (y := nI 6) rfl ?_
                    refine rAld hx hb fx hw 33 (hF.1 33 (by decide)) hF.2.1 (fun _ => rfl) 6 rfl (by omega) (by decide) dL_isCup_108 ?_
                    refine lv_rep0 (x := (σ 33 6)) (y := (nI e9)) (pe hA).1 ?_
                    refine lv_icmp_ge (tgt := 177) hx hb dL_isCup_109 (by decide) (fun c_25 => ?_) (fun c_25 => ?_)
                    · skip
                      have c_25 : e9 ≤ i := (nI_leI (by omega) (by omega)).mp c_25
                      refine lv_iconst (v := 0) hx hb dL_isCup_177 (by decide) ?_
                      refine lv_istore (lv' := [(6, .int 0), (0, .ref (gad G 0)), (1, .ref (gad G 32)), (2, .ref (gad G 33)), (3, .int 0), (4, .int 0), (5, .int 1)]) hx hb dL_isCup_178 hl (by decide) rfl (fun ls hl => ?_)
                      have lab_180 : ∀ (n9 : Nat), ∀ (k : Nat), n - k < n9 → k ≤ n → ∀ (H : Heap) (locs : List Loc) (ls : Array Slot), Wd G s σ H locs → lv_has ls 10 [(0, .ref (gad G 0)), (1, .ref (gad G 32)), (2, .ref (gad G 33)), (3, .int (mskA (snN σ n e9) k)), (4, .int (nI (totN σ e9 k))), (5, .int 1), (6, .int (nI k))] → W p l e rmL_isCup s m args below meth c H locs (5) (30) (MQ below (va_Qi (fun r σ' => r = 1 ∧ σ' = σ) (BW G) (gA G)) args s 9 60 (gA G)) (F0 m 180 ls []) := by
                        intro n9
                        induction n9 with
                        | zero => intro k hn9; exact absurd hn9 (Nat.not_lt_zero _)
                        | succ n9 ih180 =>
                          intro k hn9 h180_0 H locs ls hw hl
                          refine lv_iload hx hb dL_isCup_180 (lv_at hl 6 rfl) ?_
                          refine lv_aload_n hx hb dL_isCup_182 rfl (lv_at hl 2 rfl) ?_
                          refine lv_iconst (v := 2) hx hb dL_isCup_183 (by decide) ?_
                          refine lv_rep0 (x := 2) (y := nI 2) rfl ?_
                          refine rAld hx hb fx hw 33 (hF.1 33 (by decide)) hF.2.1 (fun _ => rfl) 2 rfl (by omega) (by decide) dL_isCup_184 ?_
                          refine lv_rep0 (x := (σ 33 2)) (y := (nI n)) (pn hA).1 ?_
                          refine lv_icmp_ge (tgt := 393) hx hb dL_isCup_185 (by decide) (fun c_26 => ?_) (fun c_26 => ?_)
                          · skip
                            have c_26 : n ≤ k := (nI_leI (by omega) (by omega)).mp c_26
                            refine lv_iconst (v := 1) hx hb dL_isCup_393 (by decide) ?_
                            refine lv_istore (lv' := [(6, .int 1), (0, .ref (gad G 0)), (1, .ref (gad G 32)), (2, .ref (gad G 33)), (3, .int (mskA (snN σ n e9) k)), (4, .int (nI (totN σ e9 k))), (5, .int 1)]) hx hb dL_isCup_394 hl (by decide) rfl (fun ls hl => ?_)
                            refine lv_iload hx hb dL_isCup_396 (lv_at hl 0 rfl) ?_
                            refine lv_iconst (v := 2) hx hb dL_isCup_398 (by decide) ?_
                            refine lv_aload_n hx hb dL_isCup_399 rfl (lv_at hl 3 rfl) ?_
                            refine lv_iconst (v := 2) hx hb dL_isCup_400 (by decide) ?_
                            refine lv_rep0 (x := 2) (y := nI 2) rfl ?_
                            refine rAld hx hb fx hw 33 (hF.1 33 (by decide)) hF.2.1 (fun _ => rfl) 2 rfl (by omega) (by decide) dL_isCup_401 ?_
                            refine lv_rep0 (x := (σ 33 2)) (y := (nI n)) (pn hA).1 ?_
                            refine lv_rep1 (x := 2) (y := nI 2) rfl ?_
                            refine lv_imul hx hb dL_isCup_402 ?_
                            refine lv_rep0 (x := ((nI 2) * (nI n))) (y := nI (2 * n)) (pk_mul _ _) ?_
                            refine lv_iconst (v := 1) hx hb dL_isCup_403 (by decide) ?_
                            refine lv_isub hx hb dL_isCup_404 ?_
                            refine lv_icmp_ge (tgt := 437) hx hb dL_isCup_405 (by decide) (fun c_27 => ?_) (fun c_27 => ?_)
                            · skip
                              have htt9 := totN_le hA k (by omega)
                              refine lv_iload hx hb dL_isCup_437 (lv_at hl 6 rfl) ?_
                              refine lv_if_eq (tgt := 540) hx hb dL_isCup_439 (by decide) (fun c_28 => ?_) (fun c_28 => ?_)
                              · skip
                                exact absurd c_28 (by decide)
                              · skip
                                refine lv_iload_n hx hb dL_isCup_442 rfl (lv_at hl 4 rfl) ?_
                                refine lv_iconst (v := 1) hx hb dL_isCup_443 (by decide) ?_
                                refine lv_aload_n hx hb dL_isCup_444 rfl (lv_at hl 3 rfl) ?_
                                refine lv_iconst (v := 2) hx hb dL_isCup_445 (by decide) ?_
                                refine lv_rep0 (x := 2) (y := nI 2) rfl ?_
                                refine rAld hx hb fx hw 33 (hF.1 33 (by decide)) hF.2.1 (fun _ => rfl) 2 rfl (by omega) (by decide) dL_isCup_446 ?_
                                refine lv_rep0 (x := (σ 33 2)) (y := (nI n)) (pn hA).1 ?_
                                refine lv_ishl hx hb dL_isCup_447 ?_
                                refine lv_iconst (v := 1) hx hb dL_isCup_448 (by decide) ?_
                                refine lv_isub hx hb dL_isCup_449 ?_
                                refine lv_icmp_ne (tgt := 540) hx hb dL_isCup_450 (by decide) (fun c_29 => ?_) (fun c_29 => ?_)
                                · skip
                                  exact absurd (by rw [show k = n by omega]; exact fsn_mask (by omega)) c_29
                                · skip
                                  refine lv_aload_n hx hb dL_isCup_453 rfl (lv_at hl 1 rfl) ?_
                                  refine lv_iconst (v := 0) hx hb dL_isCup_454 (by decide) ?_
                                  refine lv_rep0 (x := 0) (y := nI 0) rfl ?_
                                  refine rCallN (C := RX5) (As := [.int (nI 0)]) (rest := []) ⟨hx, hb, hml, hown, hts⟩ fx hw (n_teamPoints l hlt G hG hF σ hA 0 (by omega)) (cwV 1 hts gL_isCup_X5_teamPoints rfl rfl rfl (by decide +kernel) ⟨Nat.le_of_ble_eq_true rfl, Nat.le_of_ble_eq_true rfl⟩) (hF.1 0 (by decide)) rfl rfl rfl rfl hl.1 rfl (Nat.le_of_ble_eq_true rfl) dL_isCup_455 ⟨Nat.le_trans (show _ ≤ 9 by omega) (Nat.le_of_ble_eq_true rfl), Nat.le_trans (show _ ≤ 60 by omega) (Nat.le_of_ble_eq_true rfl)⟩ (fun r_30 σ_31 H locs p_32 hw => ?_)
                                  obtain ⟨er_30, eσ_31, p_32_0⟩ := p_32
                                  have er_30 := er_30.symm; subst er_30
                                  have eσ_31 := eσ_31.symm; subst eσ_31
                                  refine lv_aload_n hx hb dL_isCup_458 rfl (lv_at hl 1 rfl) ?_
                                  refine lv_iconst (v := 1) hx hb dL_isCup_459 (by decide) ?_
                                  refine lv_rep0 (x := 1) (y := nI 1) rfl ?_
                                  refine rCallN (C := RX5) (As := [.int (nI 1)]) (rest := [.int (nI (tpN σ 0 e9 n))]) ⟨hx, hb, hml, hown, hts⟩ fx hw (n_teamPoints l hlt G hG hF σ hA 1 (by omega)) (cwV 1 hts gL_isCup_X5_teamPoints rfl rfl rfl (by decide +kernel) ⟨Nat.le_of_ble_eq_true rfl, Nat.le_of_ble_eq_true rfl⟩) (hF.1 0 (by decide)) rfl rfl rfl rfl hl.1 rfl (Nat.le_of_ble_eq_true rfl) dL_isCup_460 ⟨Nat.le_trans (show _ ≤ 9 by omega) (Nat.le_of_ble_eq_true rfl), Nat.le_trans (show _ ≤ 60 by omega) (Nat.le_of_ble_eq_true rfl)⟩ (fun r_33 σ_34 H locs p_35 hw => ?_)
                                  obtain ⟨er_33, eσ_34, p_35_0⟩ := p_35
                                  have er_33 := er_33.symm; subst er_33
                                  have eσ_34 := eσ_34.symm; subst eσ_34
                                  refine lv_iadd hx hb dL_isCup_463 ?_
                                  refine lv_rep0 (x := ((nI (tpN σ 0 e9 n)) + (nI (tpN σ 1 e9 n)))) (y := nI ((tpN σ 0 e9 n) + (tpN σ 1 e9 n))) (nI_add _ _) ?_
                                  refine lv_aload_n hx hb dL_isCup_464 rfl (lv_at hl 1 rfl) ?_
                                  refine lv_iconst (v := 2) hx hb dL_isCup_465 (by decide) ?_
                                  refine lv_rep0 (x := 2) (y := nI 2) rfl ?_
                                  refine rCallN (C := RX5) (As := [.int (nI 2)]) (rest := [.int (nI ((tpN σ 0 e9 n) + (tpN σ 1 e9 n)))]) ⟨hx, hb, hml, hown, hts⟩ fx hw (n_teamPoints l hlt G hG hF σ hA 2 (by omega)) (cwV 1 hts gL_isCup_X5_teamPoints rfl rfl rfl (by decide +kernel) ⟨Nat.le_of_ble_eq_true rfl, Nat.le_of_ble_eq_true rfl⟩) (hF.1 0 (by decide)) rfl rfl rfl rfl hl.1 rfl (Nat.le_of_ble_eq_true rfl) dL_isCup_466 ⟨Nat.le_trans (show _ ≤ 9 by omega) (Nat.le_of_ble_eq_true rfl), Nat.le_trans (show _ ≤ 60 by omega) (Nat.le_of_ble_eq_true rfl)⟩ (fun r_36 σ_37 H locs p_38 hw => ?_)
                                  obtain ⟨er_36, eσ_37, p_38_0⟩ := p_38
                                  have er_36 := er_36.symm; subst er_36
                                  have eσ_37 := eσ_37.symm; subst eσ_37
                                  refine lv_iadd hx hb dL_isCup_469 ?_
                                  refine lv_rep0 (x := ((nI ((tpN σ 0 e9 n) + (tpN σ 1 e9 n))) + (nI (tpN σ 2 e9 n)))) (y := nI (((tpN σ 0 e9 n) + (tpN σ 1 e9 n)) + (tpN σ 2 e9 n))) (nI_add _ _) ?_
                                  refine lv_aload_n hx hb dL_isCup_470 rfl (lv_at hl 1 rfl) ?_
                                  refine lv_iconst (v := 3) hx hb dL_isCup_471 (by decide) ?_
                                  refine lv_rep0 (x := 3) (y := nI 3) rfl ?_
                                  refine rCallN (C := RX5) (As := [.int (nI 3)]) (rest := [.int (nI (((tpN σ 0 e9 n) + (tpN σ 1 e9 n)) + (tpN σ 2 e9 n)))]) ⟨hx, hb, hml, hown, hts⟩ fx hw (n_teamPoints l hlt G hG hF σ hA 3 (by omega)) (cwV 1 hts gL_isCup_X5_teamPoints rfl rfl rfl (by decide +kernel) ⟨Nat.le_of_ble_eq_true rfl, Nat.le_of_ble_eq_true rfl⟩) (hF.1 0 (by decide)) rfl rfl rfl rfl hl.1 rfl (Nat.le_of_ble_eq_true rfl) dL_isCup_472 ⟨Nat.le_trans (show _ ≤ 9 by omega) (Nat.le_of_ble_eq_true rfl), Nat.le_trans (show _ ≤ 60 by omega) (Nat.le_of_ble_eq_true rfl)⟩ (fun r_39 σ_40 H locs p_41 hw => ?_)
                                  obtain ⟨er_39, eσ_40, p_41_0⟩ := p_41
                                  have er_39 := er_39.symm; subst er_39
                                  have eσ_40 := eσ_40.symm; subst eσ_40
                                  refine lv_iadd hx hb dL_isCup_475 ?_
                                  refine lv_rep0 (x := ((nI (((tpN σ 0 e9 n) + (tpN σ 1 e9 n)) + (tpN σ 2 e9 n))) + (nI (tpN σ 3 e9 n)))) (y := nI ((((tpN σ 0 e9 n) + (tpN σ 1 e9 n)) + (tpN σ 2 e9 n)) + (tpN σ 3 e9 n))) (nI_add _ _) ?_
                                  refine lv_iload hx hb dL_isCup_476 (lv_at hl 5 rfl) ?_
                                  refine lv_icmp_ne (tgt := 540) hx hb dL_isCup_478 (by decide) (fun c_42 => ?_) (fun c_42 => ?_)
                                  · skip
                                    have c_42 : ¬ ((((tpN σ 0 e9 n) + (tpN σ 1 e9 n)) + (tpN σ 2 e9 n)) + (tpN σ 3 e9 n)) = (totN σ e9 k) := fun h9 => c_42 ((nI_eq (by omega) (by omega)).mpr h9)
                                    have h9 := ftp_sum hA n (Nat.le_refl n); rw [show k = n by omega] at c_42; omega
                                  · skip
                                    have c_42 : ((((tpN σ 0 e9 n) + (tpN σ 1 e9 n)) + (tpN σ 2 e9 n)) + (tpN σ 3 e9 n)) = (totN σ e9 k) := (nI_eq (by omega) (by omega)).mp c_42
                                    refine lv_aload_n hx hb dL_isCup_481 rfl (lv_at hl 1 rfl) ?_
                                    refine rCallI (C := RX5) (As := []) (rest := []) ⟨hx, hb, hml, hown, hts⟩ fx hw (kX5_textLength l G hG hF σ g n e9 z b (pcv hA)) (cwV 0 hts gL_isCup_X5_textLength rfl rfl rfl (by decide +kernel) ⟨Nat.le_of_ble_eq_true rfl, Nat.le_of_ble_eq_true rfl⟩) (hF.1 0 (by decide)) rfl rfl rfl rfl hl.1 rfl (Nat.le_of_ble_eq_true rfl) dL_isCup_482 ⟨Nat.le_trans (show _ ≤ 9 by omega) (Nat.le_of_ble_eq_true rfl), Nat.le_trans (show _ ≤ 60 by omega) (Nat.le_of_ble_eq_true rfl)⟩ (fun r_43 σ_44 H locs p_45 hw => ?_)
                                    obtain ⟨er_43, eσ_44⟩ := p_45
                                    have er_43 := er_43.symm; subst er_43
                                    have eσ_44 := eσ_44.symm; subst eσ_44
                                    refine lv_rep0 (x := (nI (if n = 0 then 0 else 2 * n - 1))) (y := nI 0) (by rw [if_pos hn0]) ?_
                                    refine lv_aload_n hx hb dL_isCup_485 rfl (lv_at hl 3 rfl) ?_
                                    refine lv_iconst (v := 2) hx hb dL_isCup_486 (by decide) ?_
                                    refine lv_rep0 (x := 2) (y := nI 2) rfl ?_
                                    refine rAld hx hb fx hw 33 (hF.1 33 (by decide)) hF.2.1 (fun _ => rfl) 2 rfl (by omega) (by decide) dL_isCup_487 ?_
                                    refine lv_rep0 (x := (σ 33 2)) (y := (nI n)) (pn hA).1 ?_
                                    refine lv_if_ne (tgt := 495) hx hb dL_isCup_488 (by decide) (fun c_46 => ?_) (fun c_46 => ?_)
                                    · skip
                                      have c_46 : ¬ n = 0 := n0_net (by omega) c_46
                                      refine lv_iconst (v := 2) hx hb dL_isCup_495 (by decide) ?_
                                      refine lv_aload_n hx hb dL_isCup_496 rfl (lv_at hl 3 rfl) ?_
                                      refine lv_iconst (v := 2) hx hb dL_isCup_497 (by decide) ?_
                                      refine lv_rep0 (x := 2) (y := nI 2) rfl ?_
                                      refine rAld hx hb fx hw 33 (hF.1 33 (by decide)) hF.2.1 (fun _ => rfl) 2 rfl (by omega) (by decide) dL_isCup_498 ?_
                                      refine lv_rep0 (x := (σ 33 2)) (y := (nI n)) (pn hA).1 ?_
                                      refine lv_rep1 (x := 2) (y := nI 2) rfl ?_
                                      refine lv_imul hx hb dL_isCup_499 ?_
                                      refine lv_rep0 (x := ((nI 2) * (nI n))) (y := nI (2 * n)) (pk_mul _ _) ?_
                                      refine lv_iconst (v := 1) hx hb dL_isCup_500 (by decide) ?_
                                      refine lv_rep0 (x := 1) (y := nI 1) rfl ?_
                                      refine lv_isub hx hb dL_isCup_501 ?_
                                      refine lv_rep0 (x := ((nI (2 * n)) - (nI 1))) (y := nI ((2 * n) - 1)) (pk_sub (by omega)) ?_
                                      refine lv_icmp_ne (tgt := 540) hx hb dL_isCup_502 (by decide) (fun c_47 => ?_) (fun c_47 => ?_)
                                      · skip
                                        have c_47 : ¬ 0 = ((2 * n) - 1) := fun h9 => c_47 ((nI_eq (by omega) (by omega)).mpr h9)
                                        omega
                                      · skip
                                        have c_47 : 0 = ((2 * n) - 1) := (nI_eq (by omega) (by omega)).mp c_47
                                        refine lv_aload_n hx hb dL_isCup_505 rfl (lv_at hl 1 rfl) ?_
                                        refine lv_bipush (v := 13) hx hb dL_isCup_506 (by decide) ?_
                                        refine lv_aload_n hx hb dL_isCup_508 rfl (lv_at hl 1 rfl) ?_
                                        refine rCallI (C := RX5) (As := []) (rest := [.int 13, .ref (gad G 0)]) ⟨hx, hb, hml, hown, hts⟩ fx hw (kX5_textLength l G hG hF σ g n e9 z b (pcv hA)) (cwV 0 hts gL_isCup_X5_textLength rfl rfl rfl (by decide +kernel) ⟨Nat.le_of_ble_eq_true rfl, Nat.le_of_ble_eq_true rfl⟩) (hF.1 0 (by decide)) rfl rfl rfl rfl hl.1 rfl (Nat.le_of_ble_eq_true rfl) dL_isCup_509 ⟨Nat.le_trans (show _ ≤ 9 by omega) (Nat.le_of_ble_eq_true rfl), Nat.le_trans (show _ ≤ 60 by omega) (Nat.le_of_ble_eq_true rfl)⟩ (fun r_48 σ_49 H locs p_50 hw => ?_)
                                        obtain ⟨er_48, eσ_49⟩ := p_50
                                        have er_48 := er_48.symm; subst er_48
                                        have eσ_49 := eσ_49.symm; subst eσ_49
                                        refine lv_rep0 (x := (nI (if n = 0 then 0 else 2 * n - 1))) (y := nI 0) (by rw [if_pos hn0]) ?_
                                        refine lv_iconst (v := 0) hx hb dL_isCup_512 (by decide) ?_
                                        refine rCallLS (As := [.ref (gad G 0), .int 13, .int (nI 0), .int 0]) (rest := []) ⟨hx, hb, hml, hown, hts⟩ fx hw (a_13T l hlt G hG hF σ hA ((nI 0)) 0 (inT_n (by omega) (by omega) (by omega))) (vx_cwSW 4 hts gL_isCup_L_asks rfl rfl rfl (by decide +kernel) ⟨Nat.le_of_ble_eq_true rfl, Nat.le_of_ble_eq_true rfl⟩) rfl hl.1 rfl (Nat.le_of_ble_eq_true rfl) dL_isCup_513 ⟨Nat.le_trans (show _ ≤ 9 by omega) (Nat.le_of_ble_eq_true rfl), Nat.le_trans (show _ ≤ 60 by omega) (Nat.le_of_ble_eq_true rfl)⟩ (fun r_51 σ_52 H locs p_53 hw => ?_)
                                        obtain ⟨er_51, eσ_52⟩ := p_53
                                        have er_51 := er_51.symm; subst er_51
                                        have eσ_52 := eσ_52.symm; subst eσ_52
                                        refine lv_sipush (v := (-3000)) hx hb dL_isCup_516 (by decide) ?_
                                        refine lv_icmp_ne (tgt := 540) hx hb dL_isCup_519 (by decide) (fun c_54 => ?_) (fun c_54 => ?_)
                                        · skip
                                          exact absurd c_54 (by decide)
                                        · skip
                                          refine lv_aload_n hx hb dL_isCup_522 rfl (lv_at hl 1 rfl) ?_
                                          refine lv_bipush (v := 13) hx hb dL_isCup_523 (by decide) ?_
                                          refine lv_iconst (v := (-1)) hx hb dL_isCup_525 (by decide) ?_
                                          refine lv_iconst (v := 0) hx hb dL_isCup_526 (by decide) ?_
                                          refine rCallLS (As := [.ref (gad G 0), .int 13, .int (-1), .int 0]) (rest := []) ⟨hx, hb, hml, hown, hts⟩ fx hw (a_13T l hlt G hG hF σ hA (-1) 0 (inT_f1 (by decide))) (vx_cwSW 4 hts gL_isCup_L_asks rfl rfl rfl (by decide +kernel) ⟨Nat.le_of_ble_eq_true rfl, Nat.le_of_ble_eq_true rfl⟩) rfl hl.1 rfl (Nat.le_of_ble_eq_true rfl) dL_isCup_527 ⟨Nat.le_trans (show _ ≤ 9 by omega) (Nat.le_of_ble_eq_true rfl), Nat.le_trans (show _ ≤ 60 by omega) (Nat.le_of_ble_eq_true rfl)⟩ (fun r_55 σ_56 H locs p_57 hw => ?_)
                                          obtain ⟨er_55, eσ_56⟩ := p_57
                                          have er_55 := er_55.symm; subst er_55
                                          have eσ_56 := eσ_56.symm; subst eσ_56
                                          refine lv_sipush (v := (-3000)) hx hb dL_isCup_530 (by decide) ?_
                                          refine lv_icmp_ne (tgt := 540) hx hb dL_isCup_533 (by decide) (fun c_58 => ?_) (fun c_58 => ?_)
                                          · skip
                                            exact absurd c_58 (by decide)
                                          · skip
                                            refine lv_iconst (v := 1) hx hb dL_isCup_536 (by decide) ?_
                                            refine lv_goto (tgt := 541) hx hb dL_isCup_537 (by decide) ?_
                                            exact rRetZw hx hb hr hw (by decide) (by exact ⟨rfl, rfl⟩) hlocks dL_isCup_541 (by omega) (by omega)
                                    · skip
                                      have c_46 : n = 0 := n0_nef (by omega) c_46
                                      refine lv_iconst (v := 0) hx hb dL_isCup_491 (by decide) ?_
                                      refine lv_goto (tgt := 502) hx hb dL_isCup_492 (by decide) ?_
                                      refine lv_rep0 (x := 0) (y := nI 0) rfl ?_
                                      refine lv_icmp_ne (tgt := 540) hx hb dL_isCup_502 (by decide) (fun c_59 => ?_) (fun c_59 => ?_)
                                      · skip
                                        have c_59 : ¬ 0 = 0 := fun h9 => c_59 ((nI_eq (by omega) (by omega)).mpr h9)
                                        omega
                                      · skip
                                        have c_59 : 0 = 0 := (nI_eq (by omega) (by omega)).mp c_59
                                        refine lv_aload_n hx hb dL_isCup_505 rfl (lv_at hl 1 rfl) ?_
                                        refine lv_bipush (v := 13) hx hb dL_isCup_506 (by decide) ?_
                                        refine lv_aload_n hx hb dL_isCup_508 rfl (lv_at hl 1 rfl) ?_
                                        refine rCallI (C := RX5) (As := []) (rest := [.int 13, .ref (gad G 0)]) ⟨hx, hb, hml, hown, hts⟩ fx hw (kX5_textLength l G hG hF σ g n e9 z b (pcv hA)) (cwV 0 hts gL_isCup_X5_textLength rfl rfl rfl (by decide +kernel) ⟨Nat.le_of_ble_eq_true rfl, Nat.le_of_ble_eq_true rfl⟩) (hF.1 0 (by decide)) rfl rfl rfl rfl hl.1 rfl (Nat.le_of_ble_eq_true rfl) dL_isCup_509 ⟨Nat.le_trans (show _ ≤ 9 by omega) (Nat.le_of_ble_eq_true rfl), Nat.le_trans (show _ ≤ 60 by omega) (Nat.le_of_ble_eq_true rfl)⟩ (fun r_60 σ_61 H locs p_62 hw => ?_)
                                        obtain ⟨er_60, eσ_61⟩ := p_62
                                        have er_60 := er_60.symm; subst er_60
                                        have eσ_61 := eσ_61.symm; subst eσ_61
                                        refine lv_rep0 (x := (nI (if n = 0 then 0 else 2 * n - 1))) (y := nI 0) (by rw [if_pos hn0]) ?_
                                        refine lv_iconst (v := 0) hx hb dL_isCup_512 (by decide) ?_
                                        refine rCallLS (As := [.ref (gad G 0), .int 13, .int (nI 0), .int 0]) (rest := []) ⟨hx, hb, hml, hown, hts⟩ fx hw (a_13T l hlt G hG hF σ hA ((nI 0)) 0 (inT_n (by omega) (by omega) (by omega))) (vx_cwSW 4 hts gL_isCup_L_asks rfl rfl rfl (by decide +kernel) ⟨Nat.le_of_ble_eq_true rfl, Nat.le_of_ble_eq_true rfl⟩) rfl hl.1 rfl (Nat.le_of_ble_eq_true rfl) dL_isCup_513 ⟨Nat.le_trans (show _ ≤ 9 by omega) (Nat.le_of_ble_eq_true rfl), Nat.le_trans (show _ ≤ 60 by omega) (Nat.le_of_ble_eq_true rfl)⟩ (fun r_63 σ_64 H locs p_65 hw => ?_)
                                        obtain ⟨er_63, eσ_64⟩ := p_65
                                        have er_63 := er_63.symm; subst er_63
                                        have eσ_64 := eσ_64.symm; subst eσ_64
                                        refine lv_sipush (v := (-3000)) hx hb dL_isCup_516 (by decide) ?_
                                        refine lv_icmp_ne (tgt := 540) hx hb dL_isCup_519 (by decide) (fun c_66 => ?_) (fun c_66 => ?_)
                                        · skip
                                          exact absurd c_66 (by decide)
                                        · skip
                                          refine lv_aload_n hx hb dL_isCup_522 rfl (lv_at hl 1 rfl) ?_
                                          refine lv_bipush (v := 13) hx hb dL_isCup_523 (by decide) ?_
                                          refine lv_iconst (v := (-1)) hx hb dL_isCup_525 (by decide) ?_
                                          refine lv_iconst (v := 0) hx hb dL_isCup_526 (by decide) ?_
                                          refine rCallLS (As := [.ref (gad G 0), .int 13, .int (-1), .int 0]) (rest := []) ⟨hx, hb, hml, hown, hts⟩ fx hw (a_13T l hlt G hG hF σ hA (-1) 0 (inT_f1 (by decide))) (vx_cwSW 4 hts gL_isCup_L_asks rfl rfl rfl (by decide +kernel) ⟨Nat.le_of_ble_eq_true rfl, Nat.le_of_ble_eq_true rfl⟩) rfl hl.1 rfl (Nat.le_of_ble_eq_true rfl) dL_isCup_527 ⟨Nat.le_trans (show _ ≤ 9 by omega) (Nat.le_of_ble_eq_true rfl), Nat.le_trans (show _ ≤ 60 by omega) (Nat.le_of_ble_eq_true rfl)⟩ (fun r_67 σ_68 H locs p_69 hw => ?_)
                                          obtain ⟨er_67, eσ_68⟩ := p_69
                                          have er_67 := er_67.symm; subst er_67
                                          have eσ_68 := eσ_68.symm; subst eσ_68
                                          refine lv_sipush (v := (-3000)) hx hb dL_isCup_530 (by decide) ?_
                                          refine lv_icmp_ne (tgt := 540) hx hb dL_isCup_533 (by decide) (fun c_70 => ?_) (fun c_70 => ?_)
                                          · skip
                                            exact absurd c_70 (by decide)
                                          · skip
                                            refine lv_iconst (v := 1) hx hb dL_isCup_536 (by decide) ?_
                                            refine lv_goto (tgt := 541) hx hb dL_isCup_537 (by decide) ?_
                                            exact rRetZw hx hb hr hw (by decide) (by exact ⟨rfl, rfl⟩) hlocks dL_isCup_541 (by omega) (by omega)
                            · skip
                              exact absurd (by rw [hn0]; decide) c_27
                          · skip
                            have c_26 : ¬ n ≤ k := fun h9 => c_26 ((nI_leI (by omega) (by omega)).mpr h9)
                            omega
                      have q_71 : 0 = (mskA (snN σ n e9) 0) := by first | rfl | (rw [decide_eq_true (by omega)]; rfl) | (rw [decide_eq_false (by omega)]; rfl) | (congr 1; omega)
                      have q_72 : 0 = (nI (totN σ e9 0)) := by first | rfl | (rw [decide_eq_true (by omega)]; rfl) | (rw [decide_eq_false (by omega)]; rfl) | (congr 1; omega)
                      have q_73 : 0 = (nI 0) := by first | rfl | (rw [decide_eq_true (by omega)]; rfl) | (rw [decide_eq_false (by omega)]; rfl) | (congr 1; omega)
                      exact W.widen (by omega) (by omega) (lab_180 (n - 0 + 1) 0 (by omega) (by omega) _ _ _ hw (lv_c (lv_at hl 1 rfl) (lv_c (lv_at hl 2 rfl) (lv_c (lv_at hl 3 rfl) (lv_c (lv_atq hl 4 rfl q_71) (lv_c (lv_atq hl 5 rfl q_72) (lv_c (lv_at hl 6 rfl) (lv_c (lv_atq hl 0 rfl q_73) (lv_c0 hl)))))))))
                    · skip
                      have c_25 : ¬ e9 ≤ i := fun h9 => c_25 ((nI_leI (by omega) (by omega)).mpr h9)
                      refine lv_iload hx hb dL_isCup_112 (lv_at hl 5 rfl) ?_
                      refine lv_if_eq (tgt := 177) hx hb dL_isCup_114 (by decide) (fun c_74 => ?_) (fun c_74 => ?_)
                      · skip
                        exact absurd c_74 (by decide)
                      · skip
                        refine lv_iconst (v := 0) hx hb dL_isCup_117 (by decide) ?_
                        refine lv_istore (lv' := [(7, .int 0), (0, .ref (gad G 0)), (1, .ref (gad G 32)), (2, .ref (gad G 33)), (3, .int 0), (4, .int 0), (5, .int 1), (6, .int (nI i))]) hx hb dL_isCup_118 hl (by decide) rfl (fun ls hl => ?_)
                        refine lv_iconst (v := 0) hx hb dL_isCup_120 (by decide) ?_
                        refine lv_istore (lv' := [(8, .int 0), (7, .int 0), (0, .ref (gad G 0)), (1, .ref (gad G 32)), (2, .ref (gad G 33)), (3, .int 0), (4, .int 0), (5, .int 1), (6, .int (nI i))]) hx hb dL_isCup_121 hl (by decide) rfl (fun ls hl => ?_)
                        have lab_123 : ∀ (n9 : Nat), ∀ (k : Nat), n - k < n9 → k ≤ n → ∀ (H : Heap) (locs : List Loc) (ls : Array Slot), Wd G s σ H locs → lv_has ls 10 [(0, .ref (gad G 0)), (1, .ref (gad G 32)), (2, .ref (gad G 33)), (3, .int 0), (4, .int 0), (5, .int 1), (6, .int (nI i)), (7, .int (mskA (plN σ i) k)), (8, .int (nI k))] → W p l e rmL_isCup s m args below meth c H locs (5) (30) (MQ below (va_Qi (fun r σ' => r = 1 ∧ σ' = σ) (BW G) (gA G)) args s 9 60 (gA G)) (F0 m 123 ls []) := by
                          intro n9
                          induction n9 with
                          | zero => intro k hn9; exact absurd hn9 (Nat.not_lt_zero _)
                          | succ n9 ih123 =>
                            intro k hn9 h123_0 H locs ls hw hl
                            refine lv_iload hx hb dL_isCup_123 (lv_at hl 8 rfl) ?_
                            refine lv_aload_n hx hb dL_isCup_125 rfl (lv_at hl 2 rfl) ?_
                            refine lv_iconst (v := 2) hx hb dL_isCup_126 (by decide) ?_
                            refine lv_rep0 (x := 2) (y := nI 2) rfl ?_
                            refine rAld hx hb fx hw 33 (hF.1 33 (by decide)) hF.2.1 (fun _ => rfl) 2 rfl (by omega) (by decide) dL_isCup_127 ?_
                            refine lv_rep0 (x := (σ 33 2)) (y := (nI n)) (pn hA).1 ?_
                            refine lv_icmp_ge (tgt := 152) hx hb dL_isCup_128 (by decide) (fun c_75 => ?_) (fun c_75 => ?_)
                            · skip
                              have c_75 : n ≤ k := (nI_leI (by omega) (by omega)).mp c_75
                              refine lv_iload hx hb dL_isCup_152 (lv_at hl 7 rfl) ?_
                              refine lv_iconst (v := 1) hx hb dL_isCup_154 (by decide) ?_
                              refine lv_aload_n hx hb dL_isCup_155 rfl (lv_at hl 2 rfl) ?_
                              refine lv_iconst (v := 2) hx hb dL_isCup_156 (by decide) ?_
                              refine lv_rep0 (x := 2) (y := nI 2) rfl ?_
                              refine rAld hx hb fx hw 33 (hF.1 33 (by decide)) hF.2.1 (fun _ => rfl) 2 rfl (by omega) (by decide) dL_isCup_157 ?_
                              refine lv_rep0 (x := (σ 33 2)) (y := (nI n)) (pn hA).1 ?_
                              refine lv_ishl hx hb dL_isCup_158 ?_
                              refine lv_iconst (v := 1) hx hb dL_isCup_159 (by decide) ?_
                              refine lv_isub hx hb dL_isCup_160 ?_
                              refine lv_icmp_ne (tgt := 168) hx hb dL_isCup_161 (by decide) (fun c_76 => ?_) (fun c_76 => ?_)
                              · skip
                                exact absurd (by rw [show k = n by omega]; exact fpl_mask hA (by omega)) c_76
                              · skip
                                refine lv_iconst (v := 1) hx hb dL_isCup_164 (by decide) ?_
                                refine lv_goto (tgt := 169) hx hb dL_isCup_165 (by decide) ?_
                                refine lv_istore (lv' := [(5, .int 1), (0, .ref (gad G 0)), (1, .ref (gad G 32)), (2, .ref (gad G 33)), (3, .int 0), (4, .int 0), (6, .int (nI i)), (7, .int (mskA (plN σ i) k)), (8, .int (nI k))]) hx hb dL_isCup_169 hl (by decide) rfl (fun ls hl => ?_)
                                refine lv_iinc (v := (nI (i + 1))) (lv' := [(6, .int (nI (i + 1))), (5, .int 1), (0, .ref (gad G 0)), (1, .ref (gad G 32)), (2, .ref (gad G 33)), (3, .int 0), (4, .int 0), (7, .int (mskA (plN σ i) k)), (8, .int (nI k))]) hx hb dL_isCup_171 hl (k := 6) rfl (nI_1 _) (by decide) rfl (fun ls hl => ?_)
                                refine lv_goto (tgt := 103) hx hb dL_isCup_174 (by decide) ?_
                                exact W.widen (by omega) (by omega) (ih103 (i + 1) (by omega) (by omega) _ _ _ hw (lv_c (lv_at hl 2 rfl) (lv_c (lv_at hl 3 rfl) (lv_c (lv_at hl 4 rfl) (lv_c (lv_at hl 5 rfl) (lv_c (lv_at hl 6 rfl) (lv_c (lv_at hl 1 rfl) (lv_c (lv_at hl 0 rfl) (lv_c0 hl)))))))))
                            · skip
                              have c_75 : ¬ n ≤ k := fun h9 => c_75 ((nI_leI (by omega) (by omega)).mpr h9)
                              refine lv_iload hx hb dL_isCup_131 (lv_at hl 7 rfl) ?_
                              refine lv_iconst (v := 1) hx hb dL_isCup_133 (by decide) ?_
                              refine lv_aload_n hx hb dL_isCup_134 rfl (lv_at hl 0 rfl) ?_
                              refine lv_iload hx hb dL_isCup_135 (lv_at hl 6 rfl) ?_
                              refine lv_iload hx hb dL_isCup_137 (lv_at hl 8 rfl) ?_
                              refine rCallN (C := RX5) (As := [.int (nI i), .int (nI k)]) (rest := [.int 1, .int (mskA (plN σ i) k)]) ⟨hx, hb, hml, hown, hts⟩ fx hw (n_place l hlt G hG hF σ hA i k (by omega) (by omega)) (cwV 2 hts gL_isCup_X5_place rfl rfl rfl (by decide +kernel) ⟨Nat.le_of_ble_eq_true rfl, Nat.le_of_ble_eq_true rfl⟩) (hF.1 0 (by decide)) rfl rfl rfl rfl hl.1 rfl (Nat.le_of_ble_eq_true rfl) dL_isCup_139 ⟨Nat.le_trans (show _ ≤ 9 by omega) (Nat.le_of_ble_eq_true rfl), Nat.le_trans (show _ ≤ 60 by omega) (Nat.le_of_ble_eq_true rfl)⟩ (fun r_77 σ_78 H locs p_79 hw => ?_)
                              obtain ⟨er_77, eσ_78, p_79_0⟩ := p_79
                              have er_77 := er_77.symm; subst er_77
                              have eσ_78 := eσ_78.symm; subst eσ_78
                              refine lv_ishl hx hb dL_isCup_142 ?_
                              refine lv_ior hx hb dL_isCup_143 ?_
                              refine lv_istore (lv' := [(7, .int ((mskA (plN σ i) k) ||| ((1 : Int32) <<< ((nI (plN σ i k)) &&& 31)))), (0, .ref (gad G 0)), (1, .ref (gad G 32)), (2, .ref (gad G 33)), (3, .int 0), (4, .int 0), (5, .int 1), (6, .int (nI i)), (8, .int (nI k))]) hx hb dL_isCup_144 hl (by decide) rfl (fun ls hl => ?_)
                              refine lv_iinc (v := (nI (k + 1))) (lv' := [(8, .int (nI (k + 1))), (7, .int ((mskA (plN σ i) k) ||| ((1 : Int32) <<< ((nI (plN σ i k)) &&& 31)))), (0, .ref (gad G 0)), (1, .ref (gad G 32)), (2, .ref (gad G 33)), (3, .int 0), (4, .int 0), (5, .int 1), (6, .int (nI i))]) hx hb dL_isCup_146 hl (k := 8) rfl (nI_1 _) (by decide) rfl (fun ls hl => ?_)
                              refine lv_goto (tgt := 123) hx hb dL_isCup_149 (by decide) ?_
                              have q_80 : ((mskA (plN σ i) k) ||| ((1 : Int32) <<< ((nI (plN σ i k)) &&& 31))) = (mskA (plN σ i) (k + 1)) := by exact mskA_s (fun k9 hk9 => by have := (fpl hA (i := i) (k := k9) (by omega) (by omega)).2; omega)
                              exact W.widen (by omega) (by omega) (ih123 (k + 1) (by omega) (by omega) _ _ _ hw (lv_c (lv_at hl 2 rfl) (lv_c (lv_at hl 3 rfl) (lv_c (lv_at hl 4 rfl) (lv_c (lv_at hl 5 rfl) (lv_c (lv_at hl 6 rfl) (lv_c (lv_at hl 7 rfl) (lv_c (lv_at hl 8 rfl) (lv_c (lv_atq hl 1 rfl q_80) (lv_c (lv_at hl 0 rfl) (lv_c0 hl)))))))))))
                        have q_81 : 0 = (mskA (plN σ i) 0) := by first | rfl | (rw [decide_eq_true (by omega)]; rfl) | (rw [decide_eq_false (by omega)]; rfl) | (congr 1; omega)
                        have q_82 : 0 = (nI 0) := by first | rfl | (rw [decide_eq_true (by omega)]; rfl) | (rw [decide_eq_false (by omega)]; rfl) | (congr 1; omega)
                        exact W.widen (by omega) (by omega) (lab_123 (n - 0 + 1) 0 (by omega) (by omega) _ _ _ hw (lv_c (lv_at hl 2 rfl) (lv_c (lv_at hl 3 rfl) (lv_c (lv_at hl 4 rfl) (lv_c (lv_at hl 5 rfl) (lv_c (lv_at hl 6 rfl) (lv_c (lv_at hl 7 rfl) (lv_c (lv_at hl 8 rfl) (lv_c (lv_atq hl 1 rfl q_81) (lv_c (lv_atq hl 0 rfl q_82) (lv_c0 hl)))))))))))
                have q_83 : 0 = (nI 0) := by first | rfl | (rw [decide_eq_true (by omega)]; rfl) | (rw [decide_eq_false (by omega)]; rfl) | (congr 1; omega)
                exact W.widen (by omega) (by omega) (lab_103 (e9 - 0 + 1) 0 (by omega) (by omega) _ _ _ hw (lv_c (lv_at hl 4 rfl) (lv_c (lv_at hl 5 rfl) (lv_c (lv_at hl 6 rfl) (lv_c (lv_at hl 3 rfl) (lv_c (lv_at hl 2 rfl) (lv_c (lv_at hl 1 rfl) (lv_c (lv_atq hl 0 rfl q_83) (lv_c0 hl)))))))))
  · skip
    refine lv_iconst (v := 0) hx hb dL_isCup_0 (by decide) ?_
    refine lv_istore_n (lv' := [(3, .int 0), (0, .ref (gad G 0)), (1, .ref (gad G 32)), (2, .ref (gad G 33))]) hx hb dL_isCup_1 rfl hl (by decide) rfl (fun ls hl => ?_)
    refine lv_iconst (v := 0) hx hb dL_isCup_2 (by decide) ?_
    refine lv_istore (lv' := [(4, .int 0), (3, .int 0), (0, .ref (gad G 0)), (1, .ref (gad G 32)), (2, .ref (gad G 33))]) hx hb dL_isCup_3 hl (by decide) rfl (fun ls hl => ?_)
    refine lv_aload_n hx hb dL_isCup_5 rfl (lv_at hl 2 rfl) ?_
    refine rCallI (C := RX5) (As := []) (rest := []) ⟨hx, hb, hml, hown, hts⟩ fx hw (kX5_races l G hG hF σ g n e9 z b (pcv hA)) (cwV 0 hts gL_isCup_X5_races rfl rfl rfl (by decide +kernel) ⟨Nat.le_of_ble_eq_true rfl, Nat.le_of_ble_eq_true rfl⟩) (hF.1 0 (by decide)) rfl rfl rfl rfl hl.1 rfl (Nat.le_of_ble_eq_true rfl) dL_isCup_6 ⟨Nat.le_trans (show _ ≤ 9 by omega) (Nat.le_of_ble_eq_true rfl), Nat.le_trans (show _ ≤ 60 by omega) (Nat.le_of_ble_eq_true rfl)⟩ (fun r_84 σ_85 H locs p_86 hw => ?_)
    obtain ⟨er_84, eσ_85⟩ := p_86
    have er_84 := er_84.symm; subst er_84
    have eσ_85 := eσ_85.symm; subst eσ_85
    refine lv_aload_n hx hb dL_isCup_9 rfl (lv_at hl 4 rfl) ?_
    refine lv_bipush (v := 6) hx hb dL_isCup_10 (by decide) ?_
    refine lv_rep0 (x := 6) (y := nI 6) rfl ?_
    refine rAld hx hb fx hw 33 (hF.1 33 (by decide)) hF.2.1 (fun _ => rfl) 6 rfl (by omega) (by decide) dL_isCup_12 ?_
    refine lv_rep0 (x := (σ 33 6)) (y := (nI e9)) (pe hA).1 ?_
    refine lv_icmp_ne (tgt := 97) hx hb dL_isCup_13 (by decide) (fun c_87 => ?_) (fun c_87 => ?_)
    · skip
      exact absurd rfl c_87
    · skip
      refine lv_aload_n hx hb dL_isCup_16 rfl (lv_at hl 2 rfl) ?_
      refine lv_bipush (v := 9) hx hb dL_isCup_17 (by decide) ?_
      refine lv_aload_n hx hb dL_isCup_19 rfl (lv_at hl 4 rfl) ?_
      refine lv_bipush (v := 6) hx hb dL_isCup_20 (by decide) ?_
      refine lv_rep0 (x := 6) (y := nI 6) rfl ?_
      refine rAld hx hb fx hw 33 (hF.1 33 (by decide)) hF.2.1 (fun _ => rfl) 6 rfl (by omega) (by decide) dL_isCup_22 ?_
      refine lv_rep0 (x := (σ 33 6)) (y := (nI e9)) (pe hA).1 ?_
      refine lv_iconst (v := 0) hx hb dL_isCup_23 (by decide) ?_
      refine rCallLS (As := [.ref (gad G 0), .int 9, .int (nI e9), .int 0]) (rest := []) ⟨hx, hb, hml, hown, hts⟩ fx hw (a_9T l hlt G hG hF σ hA ((nI e9)) 0 (by rw [inB_no (Nat.le_refl e9) (by omega)]; rfl)) (vx_cwSW 4 hts gL_isCup_L_asks rfl rfl rfl (by decide +kernel) ⟨Nat.le_of_ble_eq_true rfl, Nat.le_of_ble_eq_true rfl⟩) rfl hl.1 rfl (Nat.le_of_ble_eq_true rfl) dL_isCup_24 ⟨Nat.le_trans (show _ ≤ 9 by omega) (Nat.le_of_ble_eq_true rfl), Nat.le_trans (show _ ≤ 60 by omega) (Nat.le_of_ble_eq_true rfl)⟩ (fun r_88 σ_89 H locs p_90 hw => ?_)
      obtain ⟨er_88, eσ_89⟩ := p_90
      have er_88 := er_88.symm; subst er_88
      have eσ_89 := eσ_89.symm; subst eσ_89
      refine lv_sipush (v := (-3000)) hx hb dL_isCup_27 (by decide) ?_
      refine lv_icmp_ne (tgt := 97) hx hb dL_isCup_30 (by decide) (fun c_91 => ?_) (fun c_91 => ?_)
      · skip
        exact absurd c_91 (by decide)
      · skip
        refine lv_aload_n hx hb dL_isCup_33 rfl (lv_at hl 2 rfl) ?_
        refine lv_bipush (v := 9) hx hb dL_isCup_34 (by decide) ?_
        refine lv_iconst (v := 0) hx hb dL_isCup_36 (by decide) ?_
        refine lv_aload_n hx hb dL_isCup_37 rfl (lv_at hl 4 rfl) ?_
        refine lv_iconst (v := 2) hx hb dL_isCup_38 (by decide) ?_
        refine lv_rep0 (x := 2) (y := nI 2) rfl ?_
        refine rAld hx hb fx hw 33 (hF.1 33 (by decide)) hF.2.1 (fun _ => rfl) 2 rfl (by omega) (by decide) dL_isCup_39 ?_
        refine lv_rep0 (x := (σ 33 2)) (y := (nI n)) (pn hA).1 ?_
        refine rCallLS (As := [.ref (gad G 0), .int 9, .int 0, .int (nI n)]) (rest := []) ⟨hx, hb, hml, hown, hts⟩ fx hw (a_9T l hlt G hG hF σ hA 0 ((nI n)) (by rw [inB_no (Nat.le_refl n) (by omega), Bool.and_false])) (vx_cwSW 4 hts gL_isCup_L_asks rfl rfl rfl (by decide +kernel) ⟨Nat.le_of_ble_eq_true rfl, Nat.le_of_ble_eq_true rfl⟩) rfl hl.1 rfl (Nat.le_of_ble_eq_true rfl) dL_isCup_40 ⟨Nat.le_trans (show _ ≤ 9 by omega) (Nat.le_of_ble_eq_true rfl), Nat.le_trans (show _ ≤ 60 by omega) (Nat.le_of_ble_eq_true rfl)⟩ (fun r_92 σ_93 H locs p_94 hw => ?_)
        obtain ⟨er_92, eσ_93⟩ := p_94
        have er_92 := er_92.symm; subst er_92
        have eσ_93 := eσ_93.symm; subst eσ_93
        refine lv_sipush (v := (-3000)) hx hb dL_isCup_43 (by decide) ?_
        refine lv_icmp_ne (tgt := 97) hx hb dL_isCup_46 (by decide) (fun c_95 => ?_) (fun c_95 => ?_)
        · skip
          exact absurd c_95 (by decide)
        · skip
          refine lv_aload_n hx hb dL_isCup_49 rfl (lv_at hl 2 rfl) ?_
          refine lv_bipush (v := 10) hx hb dL_isCup_50 (by decide) ?_
          refine lv_aload_n hx hb dL_isCup_52 rfl (lv_at hl 4 rfl) ?_
          refine lv_iconst (v := 2) hx hb dL_isCup_53 (by decide) ?_
          refine lv_rep0 (x := 2) (y := nI 2) rfl ?_
          refine rAld hx hb fx hw 33 (hF.1 33 (by decide)) hF.2.1 (fun _ => rfl) 2 rfl (by omega) (by decide) dL_isCup_54 ?_
          refine lv_rep0 (x := (σ 33 2)) (y := (nI n)) (pn hA).1 ?_
          refine lv_iconst (v := 0) hx hb dL_isCup_55 (by decide) ?_
          refine rCallLS (As := [.ref (gad G 0), .int 10, .int (nI n), .int 0]) (rest := []) ⟨hx, hb, hml, hown, hts⟩ fx hw (a_10T l hlt G hG hF σ hA ((nI n)) 0 (inB_no (Nat.le_refl n) (by omega))) (vx_cwSW 4 hts gL_isCup_L_asks rfl rfl rfl (by decide +kernel) ⟨Nat.le_of_ble_eq_true rfl, Nat.le_of_ble_eq_true rfl⟩) rfl hl.1 rfl (Nat.le_of_ble_eq_true rfl) dL_isCup_56 ⟨Nat.le_trans (show _ ≤ 9 by omega) (Nat.le_of_ble_eq_true rfl), Nat.le_trans (show _ ≤ 60 by omega) (Nat.le_of_ble_eq_true rfl)⟩ (fun r_96 σ_97 H locs p_98 hw => ?_)
          obtain ⟨er_96, eσ_97⟩ := p_98
          have er_96 := er_96.symm; subst er_96
          have eσ_97 := eσ_97.symm; subst eσ_97
          refine lv_sipush (v := (-3000)) hx hb dL_isCup_59 (by decide) ?_
          refine lv_icmp_ne (tgt := 97) hx hb dL_isCup_62 (by decide) (fun c_99 => ?_) (fun c_99 => ?_)
          · skip
            exact absurd c_99 (by decide)
          · skip
            refine lv_aload_n hx hb dL_isCup_65 rfl (lv_at hl 2 rfl) ?_
            refine lv_bipush (v := 11) hx hb dL_isCup_66 (by decide) ?_
            refine lv_iconst (v := 4) hx hb dL_isCup_68 (by decide) ?_
            refine lv_iconst (v := 0) hx hb dL_isCup_69 (by decide) ?_
            refine rCallLS (As := [.ref (gad G 0), .int 11, .int 4, .int 0]) (rest := []) ⟨hx, hb, hml, hown, hts⟩ fx hw (a_11T l hlt G hG hF σ hA 4 0 (by decide)) (vx_cwSW 4 hts gL_isCup_L_asks rfl rfl rfl (by decide +kernel) ⟨Nat.le_of_ble_eq_true rfl, Nat.le_of_ble_eq_true rfl⟩) rfl hl.1 rfl (Nat.le_of_ble_eq_true rfl) dL_isCup_70 ⟨Nat.le_trans (show _ ≤ 9 by omega) (Nat.le_of_ble_eq_true rfl), Nat.le_trans (show _ ≤ 60 by omega) (Nat.le_of_ble_eq_true rfl)⟩ (fun r_100 σ_101 H locs p_102 hw => ?_)
            obtain ⟨er_100, eσ_101⟩ := p_102
            have er_100 := er_100.symm; subst er_100
            have eσ_101 := eσ_101.symm; subst eσ_101
            refine lv_sipush (v := (-3000)) hx hb dL_isCup_73 (by decide) ?_
            refine lv_icmp_ne (tgt := 97) hx hb dL_isCup_76 (by decide) (fun c_103 => ?_) (fun c_103 => ?_)
            · skip
              exact absurd c_103 (by decide)
            · skip
              refine lv_aload_n hx hb dL_isCup_79 rfl (lv_at hl 2 rfl) ?_
              refine lv_bipush (v := 12) hx hb dL_isCup_80 (by decide) ?_
              refine lv_iconst (v := (-1)) hx hb dL_isCup_82 (by decide) ?_
              refine lv_iconst (v := 0) hx hb dL_isCup_83 (by decide) ?_
              refine rCallLS (As := [.ref (gad G 0), .int 12, .int (-1), .int 0]) (rest := []) ⟨hx, hb, hml, hown, hts⟩ fx hw (a_12T l hlt G hG hF σ hA (-1) 0 (inB_m1 n)) (vx_cwSW 4 hts gL_isCup_L_asks rfl rfl rfl (by decide +kernel) ⟨Nat.le_of_ble_eq_true rfl, Nat.le_of_ble_eq_true rfl⟩) rfl hl.1 rfl (Nat.le_of_ble_eq_true rfl) dL_isCup_84 ⟨Nat.le_trans (show _ ≤ 9 by omega) (Nat.le_of_ble_eq_true rfl), Nat.le_trans (show _ ≤ 60 by omega) (Nat.le_of_ble_eq_true rfl)⟩ (fun r_104 σ_105 H locs p_106 hw => ?_)
              obtain ⟨er_104, eσ_105⟩ := p_106
              have er_104 := er_104.symm; subst er_104
              have eσ_105 := eσ_105.symm; subst eσ_105
              refine lv_sipush (v := (-3000)) hx hb dL_isCup_87 (by decide) ?_
              refine lv_icmp_ne (tgt := 97) hx hb dL_isCup_90 (by decide) (fun c_107 => ?_) (fun c_107 => ?_)
              · skip
                exact absurd c_107 (by decide)
              · skip
                refine lv_iconst (v := 1) hx hb dL_isCup_93 (by decide) ?_
                refine lv_goto (tgt := 98) hx hb dL_isCup_94 (by decide) ?_
                refine lv_istore (lv' := [(5, .int 1), (4, .int 0), (3, .int 0), (0, .ref (gad G 0)), (1, .ref (gad G 32)), (2, .ref (gad G 33))]) hx hb dL_isCup_98 hl (by decide) rfl (fun ls hl => ?_)
                refine lv_iconst (v := 0) hx hb dL_isCup_100 (by decide) ?_
                refine lv_istore (lv' := [(6, .int 0), (5, .int 1), (4, .int 0), (3, .int 0), (0, .ref (gad G 0)), (1, .ref (gad G 32)), (2, .ref (gad G 33))]) hx hb dL_isCup_101 hl (by decide) rfl (fun ls hl => ?_)
                have lab_103 : ∀ (n9 : Nat), ∀ (i : Nat), e9 - i < n9 → i ≤ e9 → ∀ (H : Heap) (locs : List Loc) (ls : Array Slot), Wd G s σ H locs → lv_has ls 10 [(0, .ref (gad G 0)), (1, .ref (gad G 32)), (2, .ref (gad G 33)), (3, .int 0), (4, .int 0), (5, .int 1), (6, .int (nI i))] → W p l e rmL_isCup s m args below meth c H locs (5) (30) (MQ below (va_Qi (fun r σ' => r = 1 ∧ σ' = σ) (BW G) (gA G)) args s 9 60 (gA G)) (F0 m 103 ls []) := by
                  intro n9
                  induction n9 with
                  | zero => intro i hn9; exact absurd hn9 (Nat.not_lt_zero _)
                  | succ n9 ih103 =>
                    intro i hn9 h103_0 H locs ls hw hl
                    refine lv_iload hx hb dL_isCup_103 (lv_at hl 6 rfl) ?_
                    refine lv_aload_n hx hb dL_isCup_105 rfl (lv_at hl 2 rfl) ?_
                    refine lv_bipush (v := 6) hx hb dL_isCup_106 (by decide) ?_
                    refine lv_rep0 (x := 6) (y := nI 6) rfl ?_
                    refine rAld hx hb fx hw 33 (hF.1 33 (by decide)) hF.2.1 (fun _ => rfl) 6 rfl (by omega) (by decide) dL_isCup_108 ?_
                    refine lv_rep0 (x := (σ 33 6)) (y := (nI e9)) (pe hA).1 ?_
                    refine lv_icmp_ge (tgt := 177) hx hb dL_isCup_109 (by decide) (fun c_108 => ?_) (fun c_108 => ?_)
                    · skip
                      have c_108 : e9 ≤ i := (nI_leI (by omega) (by omega)).mp c_108
                      refine lv_iconst (v := 0) hx hb dL_isCup_177 (by decide) ?_
                      refine lv_istore (lv' := [(6, .int 0), (0, .ref (gad G 0)), (1, .ref (gad G 32)), (2, .ref (gad G 33)), (3, .int 0), (4, .int 0), (5, .int 1)]) hx hb dL_isCup_178 hl (by decide) rfl (fun ls hl => ?_)
                      have lab_180 : ∀ (n9 : Nat), ∀ (k : Nat), n - k < n9 → k ≤ n → ∀ (H : Heap) (locs : List Loc) (ls : Array Slot), Wd G s σ H locs → lv_has ls 10 [(0, .ref (gad G 0)), (1, .ref (gad G 32)), (2, .ref (gad G 33)), (3, .int (mskA (snN σ n e9) k)), (4, .int (nI (totN σ e9 k))), (5, .int 1), (6, .int (nI k))] → W p l e rmL_isCup s m args below meth c H locs (5) (30) (MQ below (va_Qi (fun r σ' => r = 1 ∧ σ' = σ) (BW G) (gA G)) args s 9 60 (gA G)) (F0 m 180 ls []) := by
                        intro n9
                        induction n9 with
                        | zero => intro k hn9; exact absurd hn9 (Nat.not_lt_zero _)
                        | succ n9 ih180 =>
                          intro k hn9 h180_0 H locs ls hw hl
                          refine lv_iload hx hb dL_isCup_180 (lv_at hl 6 rfl) ?_
                          refine lv_aload_n hx hb dL_isCup_182 rfl (lv_at hl 2 rfl) ?_
                          refine lv_iconst (v := 2) hx hb dL_isCup_183 (by decide) ?_
                          refine lv_rep0 (x := 2) (y := nI 2) rfl ?_
                          refine rAld hx hb fx hw 33 (hF.1 33 (by decide)) hF.2.1 (fun _ => rfl) 2 rfl (by omega) (by decide) dL_isCup_184 ?_
                          refine lv_rep0 (x := (σ 33 2)) (y := (nI n)) (pn hA).1 ?_
                          refine lv_icmp_ge (tgt := 393) hx hb dL_isCup_185 (by decide) (fun c_109 => ?_) (fun c_109 => ?_)
                          · skip
                            have c_109 : n ≤ k := (nI_leI (by omega) (by omega)).mp c_109
                            refine lv_iconst (v := 1) hx hb dL_isCup_393 (by decide) ?_
                            refine lv_istore (lv' := [(6, .int 1), (0, .ref (gad G 0)), (1, .ref (gad G 32)), (2, .ref (gad G 33)), (3, .int (mskA (snN σ n e9) k)), (4, .int (nI (totN σ e9 k))), (5, .int 1)]) hx hb dL_isCup_394 hl (by decide) rfl (fun ls hl => ?_)
                            have lab_396 : ∀ (n9 : Nat), ∀ (q : Nat), 2 * n - q < n9 → q ≤ 2 * n + 1 → q % 2 = 1 → ∀ (H : Heap) (locs : List Loc) (ls : Array Slot), Wd G s σ H locs → lv_has ls 10 [(0, .ref (gad G 0)), (1, .ref (gad G 32)), (2, .ref (gad G 33)), (3, .int (mskA (snN σ n e9) k)), (4, .int (nI (totN σ e9 k))), (5, .int 1), (6, .int (nI q))] → W p l e rmL_isCup s m args below meth c H locs (5) (30) (MQ below (va_Qi (fun r σ' => r = 1 ∧ σ' = σ) (BW G) (gA G)) args s 9 60 (gA G)) (F0 m 396 ls []) := by
                              intro n9
                              induction n9 with
                              | zero => intro q hn9; exact absurd hn9 (Nat.not_lt_zero _)
                              | succ n9 ih396 =>
                                intro q hn9 h396_0 h396_1 H locs ls hw hl
                                refine lv_iload hx hb dL_isCup_396 (lv_at hl 6 rfl) ?_
                                refine lv_iconst (v := 2) hx hb dL_isCup_398 (by decide) ?_
                                refine lv_aload_n hx hb dL_isCup_399 rfl (lv_at hl 2 rfl) ?_
                                refine lv_iconst (v := 2) hx hb dL_isCup_400 (by decide) ?_
                                refine lv_rep0 (x := 2) (y := nI 2) rfl ?_
                                refine rAld hx hb fx hw 33 (hF.1 33 (by decide)) hF.2.1 (fun _ => rfl) 2 rfl (by omega) (by decide) dL_isCup_401 ?_
                                refine lv_rep0 (x := (σ 33 2)) (y := (nI n)) (pn hA).1 ?_
                                refine lv_rep1 (x := 2) (y := nI 2) rfl ?_
                                refine lv_imul hx hb dL_isCup_402 ?_
                                refine lv_rep0 (x := ((nI 2) * (nI n))) (y := nI (2 * n)) (pk_mul _ _) ?_
                                refine lv_iconst (v := 1) hx hb dL_isCup_403 (by decide) ?_
                                refine lv_rep0 (x := 1) (y := nI 1) rfl ?_
                                refine lv_isub hx hb dL_isCup_404 ?_
                                refine lv_rep0 (x := ((nI (2 * n)) - (nI 1))) (y := nI ((2 * n) - 1)) (pk_sub (by omega)) ?_
                                refine lv_icmp_ge (tgt := 437) hx hb dL_isCup_405 (by decide) (fun c_110 => ?_) (fun c_110 => ?_)
                                · skip
                                  have c_110 : ((2 * n) - 1) ≤ q := (nI_leI (by omega) (by omega)).mp c_110
                                  have htt9 := totN_le hA k (by omega)
                                  refine lv_iload hx hb dL_isCup_437 (lv_at hl 5 rfl) ?_
                                  refine lv_if_eq (tgt := 540) hx hb dL_isCup_439 (by decide) (fun c_111 => ?_) (fun c_111 => ?_)
                                  · skip
                                    exact absurd c_111 (by decide)
                                  · skip
                                    refine lv_iload_n hx hb dL_isCup_442 rfl (lv_at hl 3 rfl) ?_
                                    refine lv_iconst (v := 1) hx hb dL_isCup_443 (by decide) ?_
                                    refine lv_aload_n hx hb dL_isCup_444 rfl (lv_at hl 2 rfl) ?_
                                    refine lv_iconst (v := 2) hx hb dL_isCup_445 (by decide) ?_
                                    refine lv_rep0 (x := 2) (y := nI 2) rfl ?_
                                    refine rAld hx hb fx hw 33 (hF.1 33 (by decide)) hF.2.1 (fun _ => rfl) 2 rfl (by omega) (by decide) dL_isCup_446 ?_
                                    refine lv_rep0 (x := (σ 33 2)) (y := (nI n)) (pn hA).1 ?_
                                    refine lv_ishl hx hb dL_isCup_447 ?_
                                    refine lv_iconst (v := 1) hx hb dL_isCup_448 (by decide) ?_
                                    refine lv_isub hx hb dL_isCup_449 ?_
                                    refine lv_icmp_ne (tgt := 540) hx hb dL_isCup_450 (by decide) (fun c_112 => ?_) (fun c_112 => ?_)
                                    · skip
                                      exact absurd (by rw [show k = n by omega]; exact fsn_mask (by omega)) c_112
                                    · skip
                                      refine lv_aload_n hx hb dL_isCup_453 rfl (lv_at hl 0 rfl) ?_
                                      refine lv_iconst (v := 0) hx hb dL_isCup_454 (by decide) ?_
                                      refine lv_rep0 (x := 0) (y := nI 0) rfl ?_
                                      refine rCallN (C := RX5) (As := [.int (nI 0)]) (rest := []) ⟨hx, hb, hml, hown, hts⟩ fx hw (n_teamPoints l hlt G hG hF σ hA 0 (by omega)) (cwV 1 hts gL_isCup_X5_teamPoints rfl rfl rfl (by decide +kernel) ⟨Nat.le_of_ble_eq_true rfl, Nat.le_of_ble_eq_true rfl⟩) (hF.1 0 (by decide)) rfl rfl rfl rfl hl.1 rfl (Nat.le_of_ble_eq_true rfl) dL_isCup_455 ⟨Nat.le_trans (show _ ≤ 9 by omega) (Nat.le_of_ble_eq_true rfl), Nat.le_trans (show _ ≤ 60 by omega) (Nat.le_of_ble_eq_true rfl)⟩ (fun r_113 σ_114 H locs p_115 hw => ?_)
                                      obtain ⟨er_113, eσ_114, p_115_0⟩ := p_115
                                      have er_113 := er_113.symm; subst er_113
                                      have eσ_114 := eσ_114.symm; subst eσ_114
                                      refine lv_aload_n hx hb dL_isCup_458 rfl (lv_at hl 0 rfl) ?_
                                      refine lv_iconst (v := 1) hx hb dL_isCup_459 (by decide) ?_
                                      refine lv_rep0 (x := 1) (y := nI 1) rfl ?_
                                      refine rCallN (C := RX5) (As := [.int (nI 1)]) (rest := [.int (nI (tpN σ 0 e9 n))]) ⟨hx, hb, hml, hown, hts⟩ fx hw (n_teamPoints l hlt G hG hF σ hA 1 (by omega)) (cwV 1 hts gL_isCup_X5_teamPoints rfl rfl rfl (by decide +kernel) ⟨Nat.le_of_ble_eq_true rfl, Nat.le_of_ble_eq_true rfl⟩) (hF.1 0 (by decide)) rfl rfl rfl rfl hl.1 rfl (Nat.le_of_ble_eq_true rfl) dL_isCup_460 ⟨Nat.le_trans (show _ ≤ 9 by omega) (Nat.le_of_ble_eq_true rfl), Nat.le_trans (show _ ≤ 60 by omega) (Nat.le_of_ble_eq_true rfl)⟩ (fun r_116 σ_117 H locs p_118 hw => ?_)
                                      obtain ⟨er_116, eσ_117, p_118_0⟩ := p_118
                                      have er_116 := er_116.symm; subst er_116
                                      have eσ_117 := eσ_117.symm; subst eσ_117
                                      refine lv_iadd hx hb dL_isCup_463 ?_
                                      refine lv_rep0 (x := ((nI (tpN σ 0 e9 n)) + (nI (tpN σ 1 e9 n)))) (y := nI ((tpN σ 0 e9 n) + (tpN σ 1 e9 n))) (nI_add _ _) ?_
                                      refine lv_aload_n hx hb dL_isCup_464 rfl (lv_at hl 0 rfl) ?_
                                      refine lv_iconst (v := 2) hx hb dL_isCup_465 (by decide) ?_
                                      refine lv_rep0 (x := 2) (y := nI 2) rfl ?_
                                      refine rCallN (C := RX5) (As := [.int (nI 2)]) (rest := [.int (nI ((tpN σ 0 e9 n) + (tpN σ 1 e9 n)))]) ⟨hx, hb, hml, hown, hts⟩ fx hw (n_teamPoints l hlt G hG hF σ hA 2 (by omega)) (cwV 1 hts gL_isCup_X5_teamPoints rfl rfl rfl (by decide +kernel) ⟨Nat.le_of_ble_eq_true rfl, Nat.le_of_ble_eq_true rfl⟩) (hF.1 0 (by decide)) rfl rfl rfl rfl hl.1 rfl (Nat.le_of_ble_eq_true rfl) dL_isCup_466 ⟨Nat.le_trans (show _ ≤ 9 by omega) (Nat.le_of_ble_eq_true rfl), Nat.le_trans (show _ ≤ 60 by omega) (Nat.le_of_ble_eq_true rfl)⟩ (fun r_119 σ_120 H locs p_121 hw => ?_)
                                      obtain ⟨er_119, eσ_120, p_121_0⟩ := p_121
                                      have er_119 := er_119.symm; subst er_119
                                      have eσ_120 := eσ_120.symm; subst eσ_120
                                      refine lv_iadd hx hb dL_isCup_469 ?_
                                      refine lv_rep0 (x := ((nI ((tpN σ 0 e9 n) + (tpN σ 1 e9 n))) + (nI (tpN σ 2 e9 n)))) (y := nI (((tpN σ 0 e9 n) + (tpN σ 1 e9 n)) + (tpN σ 2 e9 n))) (nI_add _ _) ?_
                                      refine lv_aload_n hx hb dL_isCup_470 rfl (lv_at hl 0 rfl) ?_
                                      refine lv_iconst (v := 3) hx hb dL_isCup_471 (by decide) ?_
                                      refine lv_rep0 (x := 3) (y := nI 3) rfl ?_
                                      refine rCallN (C := RX5) (As := [.int (nI 3)]) (rest := [.int (nI (((tpN σ 0 e9 n) + (tpN σ 1 e9 n)) + (tpN σ 2 e9 n)))]) ⟨hx, hb, hml, hown, hts⟩ fx hw (n_teamPoints l hlt G hG hF σ hA 3 (by omega)) (cwV 1 hts gL_isCup_X5_teamPoints rfl rfl rfl (by decide +kernel) ⟨Nat.le_of_ble_eq_true rfl, Nat.le_of_ble_eq_true rfl⟩) (hF.1 0 (by decide)) rfl rfl rfl rfl hl.1 rfl (Nat.le_of_ble_eq_true rfl) dL_isCup_472 ⟨Nat.le_trans (show _ ≤ 9 by omega) (Nat.le_of_ble_eq_true rfl), Nat.le_trans (show _ ≤ 60 by omega) (Nat.le_of_ble_eq_true rfl)⟩ (fun r_122 σ_123 H locs p_124 hw => ?_)
                                      obtain ⟨er_122, eσ_123, p_124_0⟩ := p_124
                                      have er_122 := er_122.symm; subst er_122
                                      have eσ_123 := eσ_123.symm; subst eσ_123
                                      refine lv_iadd hx hb dL_isCup_475 ?_
                                      refine lv_rep0 (x := ((nI (((tpN σ 0 e9 n) + (tpN σ 1 e9 n)) + (tpN σ 2 e9 n))) + (nI (tpN σ 3 e9 n)))) (y := nI ((((tpN σ 0 e9 n) + (tpN σ 1 e9 n)) + (tpN σ 2 e9 n)) + (tpN σ 3 e9 n))) (nI_add _ _) ?_
                                      refine lv_iload hx hb dL_isCup_476 (lv_at hl 4 rfl) ?_
                                      refine lv_icmp_ne (tgt := 540) hx hb dL_isCup_478 (by decide) (fun c_125 => ?_) (fun c_125 => ?_)
                                      · skip
                                        have c_125 : ¬ ((((tpN σ 0 e9 n) + (tpN σ 1 e9 n)) + (tpN σ 2 e9 n)) + (tpN σ 3 e9 n)) = (totN σ e9 k) := fun h9 => c_125 ((nI_eq (by omega) (by omega)).mpr h9)
                                        have h9 := ftp_sum hA n (Nat.le_refl n); rw [show k = n by omega] at c_125; omega
                                      · skip
                                        have c_125 : ((((tpN σ 0 e9 n) + (tpN σ 1 e9 n)) + (tpN σ 2 e9 n)) + (tpN σ 3 e9 n)) = (totN σ e9 k) := (nI_eq (by omega) (by omega)).mp c_125
                                        refine lv_aload_n hx hb dL_isCup_481 rfl (lv_at hl 0 rfl) ?_
                                        refine rCallI (C := RX5) (As := []) (rest := []) ⟨hx, hb, hml, hown, hts⟩ fx hw (kX5_textLength l G hG hF σ g n e9 z b (pcv hA)) (cwV 0 hts gL_isCup_X5_textLength rfl rfl rfl (by decide +kernel) ⟨Nat.le_of_ble_eq_true rfl, Nat.le_of_ble_eq_true rfl⟩) (hF.1 0 (by decide)) rfl rfl rfl rfl hl.1 rfl (Nat.le_of_ble_eq_true rfl) dL_isCup_482 ⟨Nat.le_trans (show _ ≤ 9 by omega) (Nat.le_of_ble_eq_true rfl), Nat.le_trans (show _ ≤ 60 by omega) (Nat.le_of_ble_eq_true rfl)⟩ (fun r_126 σ_127 H locs p_128 hw => ?_)
                                        obtain ⟨er_126, eσ_127⟩ := p_128
                                        have er_126 := er_126.symm; subst er_126
                                        have eσ_127 := eσ_127.symm; subst eσ_127
                                        refine lv_rep0 (x := (nI (if n = 0 then 0 else 2 * n - 1))) (y := nI (2 * n - 1)) (by rw [if_neg (by omega)]) ?_
                                        refine lv_aload_n hx hb dL_isCup_485 rfl (lv_at hl 2 rfl) ?_
                                        refine lv_iconst (v := 2) hx hb dL_isCup_486 (by decide) ?_
                                        refine lv_rep0 (x := 2) (y := nI 2) rfl ?_
                                        refine rAld hx hb fx hw 33 (hF.1 33 (by decide)) hF.2.1 (fun _ => rfl) 2 rfl (by omega) (by decide) dL_isCup_487 ?_
                                        refine lv_rep0 (x := (σ 33 2)) (y := (nI n)) (pn hA).1 ?_
                                        refine lv_if_ne (tgt := 495) hx hb dL_isCup_488 (by decide) (fun c_129 => ?_) (fun c_129 => ?_)
                                        · skip
                                          have c_129 : ¬ n = 0 := n0_net (by omega) c_129
                                          refine lv_iconst (v := 2) hx hb dL_isCup_495 (by decide) ?_
                                          refine lv_aload_n hx hb dL_isCup_496 rfl (lv_at hl 2 rfl) ?_
                                          refine lv_iconst (v := 2) hx hb dL_isCup_497 (by decide) ?_
                                          refine lv_rep0 (x := 2) (y := nI 2) rfl ?_
                                          refine rAld hx hb fx hw 33 (hF.1 33 (by decide)) hF.2.1 (fun _ => rfl) 2 rfl (by omega) (by decide) dL_isCup_498 ?_
                                          refine lv_rep0 (x := (σ 33 2)) (y := (nI n)) (pn hA).1 ?_
                                          refine lv_rep1 (x := 2) (y := nI 2) rfl ?_
                                          refine lv_imul hx hb dL_isCup_499 ?_
                                          refine lv_rep0 (x := ((nI 2) * (nI n))) (y := nI (2 * n)) (pk_mul _ _) ?_
                                          refine lv_iconst (v := 1) hx hb dL_isCup_500 (by decide) ?_
                                          refine lv_rep0 (x := 1) (y := nI 1) rfl ?_
                                          refine lv_isub hx hb dL_isCup_501 ?_
                                          refine lv_rep0 (x := ((nI (2 * n)) - (nI 1))) (y := nI ((2 * n) - 1)) (pk_sub (by omega)) ?_
                                          refine lv_icmp_ne (tgt := 540) hx hb dL_isCup_502 (by decide) (fun c_130 => ?_) (fun c_130 => ?_)
                                          · skip
                                            have c_130 : ¬ (2 * n - 1) = ((2 * n) - 1) := fun h9 => c_130 ((nI_eq (by omega) (by omega)).mpr h9)
                                            omega
                                          · skip
                                            have c_130 : (2 * n - 1) = ((2 * n) - 1) := (nI_eq (by omega) (by omega)).mp c_130
                                            refine lv_aload_n hx hb dL_isCup_505 rfl (lv_at hl 0 rfl) ?_
                                            refine lv_bipush (v := 13) hx hb dL_isCup_506 (by decide) ?_
                                            refine lv_aload_n hx hb dL_isCup_508 rfl (lv_at hl 0 rfl) ?_
                                            refine rCallI (C := RX5) (As := []) (rest := [.int 13, .ref (gad G 0)]) ⟨hx, hb, hml, hown, hts⟩ fx hw (kX5_textLength l G hG hF σ g n e9 z b (pcv hA)) (cwV 0 hts gL_isCup_X5_textLength rfl rfl rfl (by decide +kernel) ⟨Nat.le_of_ble_eq_true rfl, Nat.le_of_ble_eq_true rfl⟩) (hF.1 0 (by decide)) rfl rfl rfl rfl hl.1 rfl (Nat.le_of_ble_eq_true rfl) dL_isCup_509 ⟨Nat.le_trans (show _ ≤ 9 by omega) (Nat.le_of_ble_eq_true rfl), Nat.le_trans (show _ ≤ 60 by omega) (Nat.le_of_ble_eq_true rfl)⟩ (fun r_131 σ_132 H locs p_133 hw => ?_)
                                            obtain ⟨er_131, eσ_132⟩ := p_133
                                            have er_131 := er_131.symm; subst er_131
                                            have eσ_132 := eσ_132.symm; subst eσ_132
                                            refine lv_rep0 (x := (nI (if n = 0 then 0 else 2 * n - 1))) (y := nI (2 * n - 1)) (by rw [if_neg (by omega)]) ?_
                                            refine lv_iconst (v := 0) hx hb dL_isCup_512 (by decide) ?_
                                            refine rCallLS (As := [.ref (gad G 0), .int 13, .int (nI (2 * n - 1)), .int 0]) (rest := []) ⟨hx, hb, hml, hown, hts⟩ fx hw (a_13T l hlt G hG hF σ hA ((nI (2 * n - 1))) 0 (inT_n (by omega) (by omega) (by omega))) (vx_cwSW 4 hts gL_isCup_L_asks rfl rfl rfl (by decide +kernel) ⟨Nat.le_of_ble_eq_true rfl, Nat.le_of_ble_eq_true rfl⟩) rfl hl.1 rfl (Nat.le_of_ble_eq_true rfl) dL_isCup_513 ⟨Nat.le_trans (show _ ≤ 9 by omega) (Nat.le_of_ble_eq_true rfl), Nat.le_trans (show _ ≤ 60 by omega) (Nat.le_of_ble_eq_true rfl)⟩ (fun r_134 σ_135 H locs p_136 hw => ?_)
                                            obtain ⟨er_134, eσ_135⟩ := p_136
                                            have er_134 := er_134.symm; subst er_134
                                            have eσ_135 := eσ_135.symm; subst eσ_135
                                            refine lv_sipush (v := (-3000)) hx hb dL_isCup_516 (by decide) ?_
                                            refine lv_icmp_ne (tgt := 540) hx hb dL_isCup_519 (by decide) (fun c_137 => ?_) (fun c_137 => ?_)
                                            · skip
                                              exact absurd c_137 (by decide)
                                            · skip
                                              refine lv_aload_n hx hb dL_isCup_522 rfl (lv_at hl 0 rfl) ?_
                                              refine lv_bipush (v := 13) hx hb dL_isCup_523 (by decide) ?_
                                              refine lv_iconst (v := (-1)) hx hb dL_isCup_525 (by decide) ?_
                                              refine lv_iconst (v := 0) hx hb dL_isCup_526 (by decide) ?_
                                              refine rCallLS (As := [.ref (gad G 0), .int 13, .int (-1), .int 0]) (rest := []) ⟨hx, hb, hml, hown, hts⟩ fx hw (a_13T l hlt G hG hF σ hA (-1) 0 (inT_f1 (by decide))) (vx_cwSW 4 hts gL_isCup_L_asks rfl rfl rfl (by decide +kernel) ⟨Nat.le_of_ble_eq_true rfl, Nat.le_of_ble_eq_true rfl⟩) rfl hl.1 rfl (Nat.le_of_ble_eq_true rfl) dL_isCup_527 ⟨Nat.le_trans (show _ ≤ 9 by omega) (Nat.le_of_ble_eq_true rfl), Nat.le_trans (show _ ≤ 60 by omega) (Nat.le_of_ble_eq_true rfl)⟩ (fun r_138 σ_139 H locs p_140 hw => ?_)
                                              obtain ⟨er_138, eσ_139⟩ := p_140
                                              have er_138 := er_138.symm; subst er_138
                                              have eσ_139 := eσ_139.symm; subst eσ_139
                                              refine lv_sipush (v := (-3000)) hx hb dL_isCup_530 (by decide) ?_
                                              refine lv_icmp_ne (tgt := 540) hx hb dL_isCup_533 (by decide) (fun c_141 => ?_) (fun c_141 => ?_)
                                              · skip
                                                exact absurd c_141 (by decide)
                                              · skip
                                                refine lv_iconst (v := 1) hx hb dL_isCup_536 (by decide) ?_
                                                refine lv_goto (tgt := 541) hx hb dL_isCup_537 (by decide) ?_
                                                exact rRetZw hx hb hr hw (by decide) (by exact ⟨rfl, rfl⟩) hlocks dL_isCup_541 (by omega) (by omega)
                                        · skip
                                          have c_129 : n = 0 := n0_nef (by omega) c_129
                                          refine lv_iconst (v := 0) hx hb dL_isCup_491 (by decide) ?_
                                          refine lv_goto (tgt := 502) hx hb dL_isCup_492 (by decide) ?_
                                          refine lv_rep0 (x := 0) (y := nI 0) rfl ?_
                                          refine lv_icmp_ne (tgt := 540) hx hb dL_isCup_502 (by decide) (fun c_142 => ?_) (fun c_142 => ?_)
                                          · skip
                                            have c_142 : ¬ (2 * n - 1) = 0 := fun h9 => c_142 ((nI_eq (by omega) (by omega)).mpr h9)
                                            omega
                                          · skip
                                            have c_142 : (2 * n - 1) = 0 := (nI_eq (by omega) (by omega)).mp c_142
                                            refine lv_aload_n hx hb dL_isCup_505 rfl (lv_at hl 0 rfl) ?_
                                            refine lv_bipush (v := 13) hx hb dL_isCup_506 (by decide) ?_
                                            refine lv_aload_n hx hb dL_isCup_508 rfl (lv_at hl 0 rfl) ?_
                                            refine rCallI (C := RX5) (As := []) (rest := [.int 13, .ref (gad G 0)]) ⟨hx, hb, hml, hown, hts⟩ fx hw (kX5_textLength l G hG hF σ g n e9 z b (pcv hA)) (cwV 0 hts gL_isCup_X5_textLength rfl rfl rfl (by decide +kernel) ⟨Nat.le_of_ble_eq_true rfl, Nat.le_of_ble_eq_true rfl⟩) (hF.1 0 (by decide)) rfl rfl rfl rfl hl.1 rfl (Nat.le_of_ble_eq_true rfl) dL_isCup_509 ⟨Nat.le_trans (show _ ≤ 9 by omega) (Nat.le_of_ble_eq_true rfl), Nat.le_trans (show _ ≤ 60 by omega) (Nat.le_of_ble_eq_true rfl)⟩ (fun r_143 σ_144 H locs p_145 hw => ?_)
                                            obtain ⟨er_143, eσ_144⟩ := p_145
                                            have er_143 := er_143.symm; subst er_143
                                            have eσ_144 := eσ_144.symm; subst eσ_144
                                            refine lv_rep0 (x := (nI (if n = 0 then 0 else 2 * n - 1))) (y := nI (2 * n - 1)) (by rw [if_neg (by omega)]) ?_
                                            refine lv_iconst (v := 0) hx hb dL_isCup_512 (by decide) ?_
                                            refine rCallLS (As := [.ref (gad G 0), .int 13, .int (nI (2 * n - 1)), .int 0]) (rest := []) ⟨hx, hb, hml, hown, hts⟩ fx hw (a_13T l hlt G hG hF σ hA ((nI (2 * n - 1))) 0 (inT_n (by omega) (by omega) (by omega))) (vx_cwSW 4 hts gL_isCup_L_asks rfl rfl rfl (by decide +kernel) ⟨Nat.le_of_ble_eq_true rfl, Nat.le_of_ble_eq_true rfl⟩) rfl hl.1 rfl (Nat.le_of_ble_eq_true rfl) dL_isCup_513 ⟨Nat.le_trans (show _ ≤ 9 by omega) (Nat.le_of_ble_eq_true rfl), Nat.le_trans (show _ ≤ 60 by omega) (Nat.le_of_ble_eq_true rfl)⟩ (fun r_146 σ_147 H locs p_148 hw => ?_)
                                            obtain ⟨er_146, eσ_147⟩ := p_148
                                            have er_146 := er_146.symm; subst er_146
                                            have eσ_147 := eσ_147.symm; subst eσ_147
                                            refine lv_sipush (v := (-3000)) hx hb dL_isCup_516 (by decide) ?_
                                            refine lv_icmp_ne (tgt := 540) hx hb dL_isCup_519 (by decide) (fun c_149 => ?_) (fun c_149 => ?_)
                                            · skip
                                              exact absurd c_149 (by decide)
                                            · skip
                                              refine lv_aload_n hx hb dL_isCup_522 rfl (lv_at hl 0 rfl) ?_
                                              refine lv_bipush (v := 13) hx hb dL_isCup_523 (by decide) ?_
                                              refine lv_iconst (v := (-1)) hx hb dL_isCup_525 (by decide) ?_
                                              refine lv_iconst (v := 0) hx hb dL_isCup_526 (by decide) ?_
                                              refine rCallLS (As := [.ref (gad G 0), .int 13, .int (-1), .int 0]) (rest := []) ⟨hx, hb, hml, hown, hts⟩ fx hw (a_13T l hlt G hG hF σ hA (-1) 0 (inT_f1 (by decide))) (vx_cwSW 4 hts gL_isCup_L_asks rfl rfl rfl (by decide +kernel) ⟨Nat.le_of_ble_eq_true rfl, Nat.le_of_ble_eq_true rfl⟩) rfl hl.1 rfl (Nat.le_of_ble_eq_true rfl) dL_isCup_527 ⟨Nat.le_trans (show _ ≤ 9 by omega) (Nat.le_of_ble_eq_true rfl), Nat.le_trans (show _ ≤ 60 by omega) (Nat.le_of_ble_eq_true rfl)⟩ (fun r_150 σ_151 H locs p_152 hw => ?_)
                                              obtain ⟨er_150, eσ_151⟩ := p_152
                                              have er_150 := er_150.symm; subst er_150
                                              have eσ_151 := eσ_151.symm; subst eσ_151
                                              refine lv_sipush (v := (-3000)) hx hb dL_isCup_530 (by decide) ?_
                                              refine lv_icmp_ne (tgt := 540) hx hb dL_isCup_533 (by decide) (fun c_153 => ?_) (fun c_153 => ?_)
                                              · skip
                                                exact absurd c_153 (by decide)
                                              · skip
                                                refine lv_iconst (v := 1) hx hb dL_isCup_536 (by decide) ?_
                                                refine lv_goto (tgt := 541) hx hb dL_isCup_537 (by decide) ?_
                                                exact rRetZw hx hb hr hw (by decide) (by exact ⟨rfl, rfl⟩) hlocks dL_isCup_541 (by omega) (by omega)
                                · skip
                                  have c_110 : ¬ ((2 * n) - 1) ≤ q := fun h9 => c_110 ((nI_leI (by omega) (by omega)).mpr h9)
                                  refine lv_iload hx hb dL_isCup_408 (lv_at hl 5 rfl) ?_
                                  refine lv_if_eq (tgt := 437) hx hb dL_isCup_410 (by decide) (fun c_154 => ?_) (fun c_154 => ?_)
                                  · skip
                                    exact absurd c_154 (by decide)
                                  · skip
                                    refine lv_aload_n hx hb dL_isCup_413 rfl (lv_at hl 0 rfl) ?_
                                    refine lv_iload hx hb dL_isCup_414 (lv_at hl 6 rfl) ?_
                                    refine rCallN (C := RX5) (As := [.int (nI q)]) (rest := []) ⟨hx, hb, hml, hown, hts⟩ fx hw (n_textAt1 l hlt G hG hF σ hA q (by omega) (by omega)) (cwV 1 hts gL_isCup_X5_textAt rfl rfl rfl (by decide +kernel) ⟨Nat.le_of_ble_eq_true rfl, Nat.le_of_ble_eq_true rfl⟩) (hF.1 0 (by decide)) rfl rfl rfl rfl hl.1 rfl (Nat.le_of_ble_eq_true rfl) dL_isCup_416 ⟨Nat.le_trans (show _ ≤ 9 by omega) (Nat.le_of_ble_eq_true rfl), Nat.le_trans (show _ ≤ 60 by omega) (Nat.le_of_ble_eq_true rfl)⟩ (fun r_155 σ_156 H locs p_157 hw => ?_)
                                    obtain ⟨er_155, eσ_156⟩ := p_157
                                    have er_155 := er_155.symm; subst er_155
                                    have eσ_156 := eσ_156.symm; subst eσ_156
                                    refine lv_bipush (v := 62) hx hb dL_isCup_419 (by decide) ?_
                                    refine lv_icmp_ne (tgt := 428) hx hb dL_isCup_421 (by decide) (fun c_158 => ?_) (fun c_158 => ?_)
                                    · skip
                                      exact absurd c_158 (by decide)
                                    · skip
                                      refine lv_iconst (v := 1) hx hb dL_isCup_424 (by decide) ?_
                                      refine lv_goto (tgt := 429) hx hb dL_isCup_425 (by decide) ?_
                                      refine lv_istore (lv' := [(5, .int 1), (0, .ref (gad G 0)), (1, .ref (gad G 32)), (2, .ref (gad G 33)), (3, .int (mskA (snN σ n e9) k)), (4, .int (nI (totN σ e9 k))), (6, .int (nI q))]) hx hb dL_isCup_429 hl (by decide) rfl (fun ls hl => ?_)
                                      refine lv_iinc (v := (nI (q + 2))) (lv' := [(6, .int (nI (q + 2))), (5, .int 1), (0, .ref (gad G 0)), (1, .ref (gad G 32)), (2, .ref (gad G 33)), (3, .int (mskA (snN σ n e9) k)), (4, .int (nI (totN σ e9 k)))]) hx hb dL_isCup_431 hl (k := 6) rfl (nI_add _ _) (by decide) rfl (fun ls hl => ?_)
                                      refine lv_goto (tgt := 396) hx hb dL_isCup_434 (by decide) ?_
                                      exact W.widen (by omega) (by omega) (ih396 (q + 2) (by omega) (by omega) (by omega) _ _ _ hw (lv_c (lv_at hl 2 rfl) (lv_c (lv_at hl 3 rfl) (lv_c (lv_at hl 4 rfl) (lv_c (lv_at hl 5 rfl) (lv_c (lv_at hl 6 rfl) (lv_c (lv_at hl 1 rfl) (lv_c (lv_at hl 0 rfl) (lv_c0 hl)))))))))
                            have q_159 : 1 = (nI 1) := by first | rfl | (rw [decide_eq_true (by omega)]; rfl) | (rw [decide_eq_false (by omega)]; rfl) | (congr 1; omega)
                            exact W.widen (by omega) (by omega) (lab_396 (2 * n - 1 + 1) 1 (by omega) (by omega) (by omega) _ _ _ hw (lv_c (lv_at hl 1 rfl) (lv_c (lv_at hl 2 rfl) (lv_c (lv_at hl 3 rfl) (lv_c (lv_at hl 4 rfl) (lv_c (lv_at hl 5 rfl) (lv_c (lv_at hl 6 rfl) (lv_c (lv_atq hl 0 rfl q_159) (lv_c0 hl)))))))))
                          · skip
                            have c_109 : ¬ n ≤ k := fun h9 => c_109 ((nI_leI (by omega) (by omega)).mpr h9)
                            refine lv_iload hx hb dL_isCup_188 (lv_at hl 5 rfl) ?_
                            refine lv_if_eq (tgt := 393) hx hb dL_isCup_190 (by decide) (fun c_160 => ?_) (fun c_160 => ?_)
                            · skip
                              exact absurd c_160 (by decide)
                            · skip
                              refine lv_iconst (v := 0) hx hb dL_isCup_193 (by decide) ?_
                              refine lv_istore (lv' := [(7, .int 0), (0, .ref (gad G 0)), (1, .ref (gad G 32)), (2, .ref (gad G 33)), (3, .int (mskA (snN σ n e9) k)), (4, .int (nI (totN σ e9 k))), (5, .int 1), (6, .int (nI k))]) hx hb dL_isCup_194 hl (by decide) rfl (fun ls hl => ?_)
                              refine lv_iconst (v := 0) hx hb dL_isCup_196 (by decide) ?_
                              refine lv_istore (lv' := [(8, .int 0), (7, .int 0), (0, .ref (gad G 0)), (1, .ref (gad G 32)), (2, .ref (gad G 33)), (3, .int (mskA (snN σ n e9) k)), (4, .int (nI (totN σ e9 k))), (5, .int 1), (6, .int (nI k))]) hx hb dL_isCup_197 hl (by decide) rfl (fun ls hl => ?_)
                              have lab_199 : ∀ (n9 : Nat), ∀ (r9 : Nat), e9 - r9 < n9 → r9 ≤ e9 → ∀ (H : Heap) (locs : List Loc) (ls : Array Slot), Wd G s σ H locs → lv_has ls 10 [(0, .ref (gad G 0)), (1, .ref (gad G 32)), (2, .ref (gad G 33)), (3, .int (mskA (snN σ n e9) k)), (4, .int (nI (totN σ e9 k))), (5, .int 1), (6, .int (nI k)), (7, .int (nI (mosN σ k r9))), (8, .int (nI r9))] → W p l e rmL_isCup s m args below meth c H locs (5) (30) (MQ below (va_Qi (fun r σ' => r = 1 ∧ σ' = σ) (BW G) (gA G)) args s 9 60 (gA G)) (F0 m 199 ls []) := by
                                intro n9
                                induction n9 with
                                | zero => intro r9 hn9; exact absurd hn9 (Nat.not_lt_zero _)
                                | succ n9 ih199 =>
                                  intro r9 hn9 h199_0 H locs ls hw hl
                                  have hmo9 := mosN_le (σ := σ) (k := k) r9
                                  refine lv_iload hx hb dL_isCup_199 (lv_at hl 8 rfl) ?_
                                  refine lv_aload_n hx hb dL_isCup_201 rfl (lv_at hl 2 rfl) ?_
                                  refine lv_bipush (v := 6) hx hb dL_isCup_202 (by decide) ?_
                                  refine lv_rep0 (x := 6) (y := nI 6) rfl ?_
                                  refine rAld hx hb fx hw 33 (hF.1 33 (by decide)) hF.2.1 (fun _ => rfl) 6 rfl (by omega) (by decide) dL_isCup_204 ?_
                                  refine lv_rep0 (x := (σ 33 6)) (y := (nI e9)) (pe hA).1 ?_
                                  refine lv_icmp_ge (tgt := 230) hx hb dL_isCup_205 (by decide) (fun c_161 => ?_) (fun c_161 => ?_)
                                  · skip
                                    have c_161 : e9 ≤ r9 := (nI_leI (by omega) (by omega)).mp c_161
                                    refine lv_aload_n hx hb dL_isCup_230 rfl (lv_at hl 0 rfl) ?_
                                    refine lv_iload hx hb dL_isCup_231 (lv_at hl 6 rfl) ?_
                                    refine rCallN (C := RX5) (As := [.int (nI k)]) (rest := []) ⟨hx, hb, hml, hown, hts⟩ fx hw (n_standing l hlt G hG hF σ hA k (by omega)) (cwV 1 hts gL_isCup_X5_standing rfl rfl rfl (by decide +kernel) ⟨Nat.le_of_ble_eq_true rfl, Nat.le_of_ble_eq_true rfl⟩) (hF.1 0 (by decide)) rfl rfl rfl rfl hl.1 rfl (Nat.le_of_ble_eq_true rfl) dL_isCup_233 ⟨Nat.le_trans (show _ ≤ 9 by omega) (Nat.le_of_ble_eq_true rfl), Nat.le_trans (show _ ≤ 60 by omega) (Nat.le_of_ble_eq_true rfl)⟩ (fun r_162 σ_163 H locs p_164 hw => ?_)
                                    obtain ⟨er_162, eσ_163, p_164_0⟩ := p_164
                                    have er_162 := er_162.symm; subst er_162
                                    have eσ_163 := eσ_163.symm; subst eσ_163
                                    refine lv_istore (lv' := [(8, .int (nI (snN σ n e9 k))), (0, .ref (gad G 0)), (1, .ref (gad G 32)), (2, .ref (gad G 33)), (3, .int (mskA (snN σ n e9) k)), (4, .int (nI (totN σ e9 k))), (5, .int 1), (6, .int (nI k)), (7, .int (nI (mosN σ k r9)))]) hx hb dL_isCup_236 hl (by decide) rfl (fun ls hl => ?_)
                                    refine lv_iload_n hx hb dL_isCup_238 rfl (lv_at hl 4 rfl) ?_
                                    refine lv_iconst (v := 1) hx hb dL_isCup_239 (by decide) ?_
                                    refine lv_iload hx hb dL_isCup_240 (lv_at hl 0 rfl) ?_
                                    refine lv_ishl hx hb dL_isCup_242 ?_
                                    refine lv_ior hx hb dL_isCup_243 ?_
                                    refine lv_istore_n (lv' := [(3, .int ((mskA (snN σ n e9) k) ||| ((1 : Int32) <<< ((nI (snN σ n e9 k)) &&& 31)))), (8, .int (nI (snN σ n e9 k))), (0, .ref (gad G 0)), (1, .ref (gad G 32)), (2, .ref (gad G 33)), (4, .int (nI (totN σ e9 k))), (5, .int 1), (6, .int (nI k)), (7, .int (nI (mosN σ k r9)))]) hx hb dL_isCup_244 rfl hl (by decide) rfl (fun ls hl => ?_)
                                    refine lv_iload hx hb dL_isCup_245 (lv_at hl 5 rfl) ?_
                                    refine lv_aload_n hx hb dL_isCup_247 rfl (lv_at hl 2 rfl) ?_
                                    refine lv_iload hx hb dL_isCup_248 (lv_at hl 7 rfl) ?_
                                    refine rCallN (C := RX5) (As := [.int (nI k)]) (rest := [.int (nI (totN σ e9 k))]) ⟨hx, hb, hml, hown, hts⟩ fx hw (n_points l hlt G hG hF σ hA k (by omega)) (cwV 1 hts gL_isCup_X5_points rfl rfl rfl (by decide +kernel) ⟨Nat.le_of_ble_eq_true rfl, Nat.le_of_ble_eq_true rfl⟩) (hF.1 0 (by decide)) rfl rfl rfl rfl hl.1 rfl (Nat.le_of_ble_eq_true rfl) dL_isCup_250 ⟨Nat.le_trans (show _ ≤ 9 by omega) (Nat.le_of_ble_eq_true rfl), Nat.le_trans (show _ ≤ 60 by omega) (Nat.le_of_ble_eq_true rfl)⟩ (fun r_165 σ_166 H locs p_167 hw => ?_)
                                    obtain ⟨er_165, eσ_166, p_167_0⟩ := p_167
                                    have er_165 := er_165.symm; subst er_165
                                    have eσ_166 := eσ_166.symm; subst eσ_166
                                    refine lv_iadd hx hb dL_isCup_253 ?_
                                    refine lv_rep0 (x := ((nI (totN σ e9 k)) + (nI (ptN σ e9 k)))) (y := nI ((totN σ e9 k) + (ptN σ e9 k))) (nI_add _ _) ?_
                                    refine lv_istore (lv' := [(4, .int (nI ((totN σ e9 k) + (ptN σ e9 k)))), (3, .int ((mskA (snN σ n e9) k) ||| ((1 : Int32) <<< ((nI (snN σ n e9 k)) &&& 31)))), (8, .int (nI (snN σ n e9 k))), (0, .ref (gad G 0)), (1, .ref (gad G 32)), (2, .ref (gad G 33)), (5, .int 1), (6, .int (nI k)), (7, .int (nI (mosN σ k r9)))]) hx hb dL_isCup_254 hl (by decide) rfl (fun ls hl => ?_)
                                    refine lv_aload_n hx hb dL_isCup_256 rfl (lv_at hl 3 rfl) ?_
                                    refine lv_iload hx hb dL_isCup_257 (lv_at hl 7 rfl) ?_
                                    refine rCallN (C := RX5) (As := [.int (nI k)]) (rest := []) ⟨hx, hb, hml, hown, hts⟩ fx hw (n_points l hlt G hG hF σ hA k (by omega)) (cwV 1 hts gL_isCup_X5_points rfl rfl rfl (by decide +kernel) ⟨Nat.le_of_ble_eq_true rfl, Nat.le_of_ble_eq_true rfl⟩) (hF.1 0 (by decide)) rfl rfl rfl rfl hl.1 rfl (Nat.le_of_ble_eq_true rfl) dL_isCup_259 ⟨Nat.le_trans (show _ ≤ 9 by omega) (Nat.le_of_ble_eq_true rfl), Nat.le_trans (show _ ≤ 60 by omega) (Nat.le_of_ble_eq_true rfl)⟩ (fun r_168 σ_169 H locs p_170 hw => ?_)
                                    obtain ⟨er_168, eσ_169, p_170_0⟩ := p_170
                                    have er_168 := er_168.symm; subst er_168
                                    have eσ_169 := eσ_169.symm; subst eσ_169
                                    refine lv_if_lt (tgt := 329) hx hb dL_isCup_262 (by decide) (fun c_171 => ?_) (fun c_171 => ?_)
                                    · skip
                                      exact (n0_ltt (by omega) c_171).elim
                                    · skip
                                      have c_171 : True := n0_ltf (by omega) c_171
                                      refine lv_aload_n hx hb dL_isCup_265 rfl (lv_at hl 3 rfl) ?_
                                      refine lv_iload hx hb dL_isCup_266 (lv_at hl 7 rfl) ?_
                                      refine rCallN (C := RX5) (As := [.int (nI k)]) (rest := []) ⟨hx, hb, hml, hown, hts⟩ fx hw (n_points l hlt G hG hF σ hA k (by omega)) (cwV 1 hts gL_isCup_X5_points rfl rfl rfl (by decide +kernel) ⟨Nat.le_of_ble_eq_true rfl, Nat.le_of_ble_eq_true rfl⟩) (hF.1 0 (by decide)) rfl rfl rfl rfl hl.1 rfl (Nat.le_of_ble_eq_true rfl) dL_isCup_268 ⟨Nat.le_trans (show _ ≤ 9 by omega) (Nat.le_of_ble_eq_true rfl), Nat.le_trans (show _ ≤ 60 by omega) (Nat.le_of_ble_eq_true rfl)⟩ (fun r_172 σ_173 H locs p_174 hw => ?_)
                                      obtain ⟨er_172, eσ_173, p_174_0⟩ := p_174
                                      have er_172 := er_172.symm; subst er_172
                                      have eσ_173 := eσ_173.symm; subst eσ_173
                                      refine lv_iload hx hb dL_isCup_271 (lv_at hl 8 rfl) ?_
                                      refine lv_icmp_gt (tgt := 329) hx hb dL_isCup_273 (by decide) (fun c_175 => ?_) (fun c_175 => ?_)
                                      · skip
                                        have c_175 : (mosN σ k r9) < (ptN σ e9 k) := (nI_ltI (by omega) (by omega)).mp c_175
                                        have h9 := fpt_mos hA (show k < n by omega); rw [show r9 = e9 by omega] at c_175; omega
                                      · skip
                                        have c_175 : ¬ (mosN σ k r9) < (ptN σ e9 k) := fun h9 => c_175 ((nI_ltI (by omega) (by omega)).mpr h9)
                                        refine lv_aload_n hx hb dL_isCup_276 rfl (lv_at hl 5 rfl) ?_
                                        refine lv_bipush (v := 7) hx hb dL_isCup_277 (by decide) ?_
                                        refine lv_rep0 (x := 7) (y := nI 7) rfl ?_
                                        refine rAld hx hb fx hw 33 (hF.1 33 (by decide)) hF.2.1 (fun _ => rfl) 7 rfl (by omega) (by decide) dL_isCup_279 ?_
                                        refine lv_rep0 (x := (σ 33 7)) (y := (nI d)) (pdr hA).1 ?_
                                        refine lv_aload_n hx hb dL_isCup_280 rfl (lv_at hl 5 rfl) ?_
                                        refine lv_bipush (v := 6) hx hb dL_isCup_281 (by decide) ?_
                                        refine lv_rep0 (x := 6) (y := nI 6) rfl ?_
                                        refine rAld hx hb fx hw 33 (hF.1 33 (by decide)) hF.2.1 (fun _ => rfl) 6 rfl (by omega) (by decide) dL_isCup_283 ?_
                                        refine lv_rep0 (x := (σ 33 6)) (y := (nI e9)) (pe hA).1 ?_
                                        refine lv_icmp_lt (tgt := 296) hx hb dL_isCup_284 (by decide) (fun c_176 => ?_) (fun c_176 => ?_)
                                        · skip
                                          have c_176 : d < e9 := (nI_ltI (by omega) (by omega)).mp c_176
                                          refine lv_iload hx hb dL_isCup_296 (lv_at hl 2 rfl) ?_
                                          refine lv_if_lt (tgt := 329) hx hb dL_isCup_298 (by decide) (fun c_177 => ?_) (fun c_177 => ?_)
                                          · skip
                                            exact (n0_ltt (by omega) c_177).elim
                                          · skip
                                            have c_177 : True := n0_ltf (by omega) c_177
                                            refine lv_iload hx hb dL_isCup_301 (lv_at hl 2 rfl) ?_
                                            refine lv_aload_n hx hb dL_isCup_303 rfl (lv_at hl 5 rfl) ?_
                                            refine lv_iconst (v := 2) hx hb dL_isCup_304 (by decide) ?_
                                            refine lv_rep0 (x := 2) (y := nI 2) rfl ?_
                                            refine rAld hx hb fx hw 33 (hF.1 33 (by decide)) hF.2.1 (fun _ => rfl) 2 rfl (by omega) (by decide) dL_isCup_305 ?_
                                            refine lv_rep0 (x := (σ 33 2)) (y := (nI n)) (pn hA).1 ?_
                                            refine lv_icmp_ge (tgt := 329) hx hb dL_isCup_306 (by decide) (fun c_178 => ?_) (fun c_178 => ?_)
                                            · skip
                                              have c_178 : n ≤ (snN σ n e9 k) := (nI_leI (by omega) (by omega)).mp c_178
                                              omega
                                            · skip
                                              have c_178 : ¬ n ≤ (snN σ n e9 k) := fun h9 => c_178 ((nI_leI (by omega) (by omega)).mpr h9)
                                              refine lv_aload_n hx hb dL_isCup_309 rfl (lv_at hl 3 rfl) ?_
                                              refine lv_iconst (v := 2) hx hb dL_isCup_310 (by decide) ?_
                                              refine lv_iload hx hb dL_isCup_311 (lv_at hl 2 rfl) ?_
                                              refine lv_rep1 (x := 2) (y := nI 2) rfl ?_
                                              refine lv_imul hx hb dL_isCup_313 ?_
                                              refine lv_rep0 (x := ((nI 2) * (nI (snN σ n e9 k)))) (y := nI (2 * (snN σ n e9 k))) (pk_mul _ _) ?_
                                              refine rCallN (C := RX5) (As := [.int (nI (2 * (snN σ n e9 k)))]) (rest := []) ⟨hx, hb, hml, hown, hts⟩ fx hw (n_textAt2 l hlt G hG hF σ hA k (by omega)) (cwV 1 hts gL_isCup_X5_textAt rfl rfl rfl (by decide +kernel) ⟨Nat.le_of_ble_eq_true rfl, Nat.le_of_ble_eq_true rfl⟩) (hF.1 0 (by decide)) rfl rfl rfl rfl hl.1 rfl (Nat.le_of_ble_eq_true rfl) dL_isCup_314 ⟨Nat.le_trans (show _ ≤ 9 by omega) (Nat.le_of_ble_eq_true rfl), Nat.le_trans (show _ ≤ 60 by omega) (Nat.le_of_ble_eq_true rfl)⟩ (fun r_179 σ_180 H locs p_181 hw => ?_)
                                              obtain ⟨er_179, eσ_180⟩ := p_181
                                              have er_179 := er_179.symm; subst er_179
                                              have eσ_180 := eσ_180.symm; subst eσ_180
                                              refine lv_bipush (v := 48) hx hb dL_isCup_317 (by decide) ?_
                                              refine lv_iload hx hb dL_isCup_319 (lv_at hl 7 rfl) ?_
                                              refine lv_rep1 (x := 48) (y := nI 48) rfl ?_
                                              refine lv_iadd hx hb dL_isCup_321 ?_
                                              refine lv_rep0 (x := ((nI 48) + (nI k))) (y := nI (48 + k)) (nI_add _ _) ?_
                                              refine lv_icmp_ne (tgt := 329) hx hb dL_isCup_322 (by decide) (fun c_182 => ?_) (fun c_182 => ?_)
                                              · skip
                                                exact absurd rfl c_182
                                              · skip
                                                refine lv_iconst (v := 1) hx hb dL_isCup_325 (by decide) ?_
                                                refine lv_goto (tgt := 330) hx hb dL_isCup_326 (by decide) ?_
                                                refine lv_istore (lv' := [(5, .int 1), (4, .int (nI ((totN σ e9 k) + (ptN σ e9 k)))), (3, .int ((mskA (snN σ n e9) k) ||| ((1 : Int32) <<< ((nI (snN σ n e9 k)) &&& 31)))), (8, .int (nI (snN σ n e9 k))), (0, .ref (gad G 0)), (1, .ref (gad G 32)), (2, .ref (gad G 33)), (6, .int (nI k)), (7, .int (nI (mosN σ k r9)))]) hx hb dL_isCup_330 hl (by decide) rfl (fun ls hl => ?_)
                                                refine lv_iconst (v := 0) hx hb dL_isCup_332 (by decide) ?_
                                                refine lv_istore (lv' := [(9, .int 0), (5, .int 1), (4, .int (nI ((totN σ e9 k) + (ptN σ e9 k)))), (3, .int ((mskA (snN σ n e9) k) ||| ((1 : Int32) <<< ((nI (snN σ n e9 k)) &&& 31)))), (8, .int (nI (snN σ n e9 k))), (0, .ref (gad G 0)), (1, .ref (gad G 32)), (2, .ref (gad G 33)), (6, .int (nI k)), (7, .int (nI (mosN σ k r9)))]) hx hb dL_isCup_333 hl (by decide) rfl (fun ls hl => ?_)
                                                have lab_335 : ∀ (n9 : Nat), ∀ (i : Nat), n - i < n9 → i ≤ n → ∀ (H : Heap) (locs : List Loc) (ls : Array Slot), Wd G s σ H locs → lv_has ls 10 [(0, .ref (gad G 0)), (1, .ref (gad G 32)), (2, .ref (gad G 33)), (3, .int (mskA (snN σ n e9) (k + 1))), (4, .int (nI ((totN σ e9 k) + (ptN σ e9 k)))), (5, .int 1), (6, .int (nI k)), (8, .int (nI (snN σ n e9 k))), (9, .int (nI i))] → W p l e rmL_isCup s m args below meth c H locs (5) (30) (MQ below (va_Qi (fun r σ' => r = 1 ∧ σ' = σ) (BW G) (gA G)) args s 9 60 (gA G)) (F0 m 335 ls []) := by
                                                  intro n9
                                                  induction n9 with
                                                  | zero => intro i hn9; exact absurd hn9 (Nat.not_lt_zero _)
                                                  | succ n9 ih335 =>
                                                    intro i hn9 h335_0 H locs ls hw hl
                                                    refine lv_iload hx hb dL_isCup_335 (lv_at hl 8 rfl) ?_
                                                    refine lv_aload_n hx hb dL_isCup_337 rfl (lv_at hl 2 rfl) ?_
                                                    refine lv_iconst (v := 2) hx hb dL_isCup_338 (by decide) ?_
                                                    refine lv_rep0 (x := 2) (y := nI 2) rfl ?_
                                                    refine rAld hx hb fx hw 33 (hF.1 33 (by decide)) hF.2.1 (fun _ => rfl) 2 rfl (by omega) (by decide) dL_isCup_339 ?_
                                                    refine lv_rep0 (x := (σ 33 2)) (y := (nI n)) (pn hA).1 ?_
                                                    refine lv_icmp_ge (tgt := 387) hx hb dL_isCup_340 (by decide) (fun c_183 => ?_) (fun c_183 => ?_)
                                                    · skip
                                                      have c_183 : n ≤ i := (nI_leI (by omega) (by omega)).mp c_183
                                                      refine lv_iinc (v := (nI (k + 1))) (lv' := [(6, .int (nI (k + 1))), (0, .ref (gad G 0)), (1, .ref (gad G 32)), (2, .ref (gad G 33)), (3, .int (mskA (snN σ n e9) (k + 1))), (4, .int (nI ((totN σ e9 k) + (ptN σ e9 k)))), (5, .int 1), (8, .int (nI (snN σ n e9 k))), (9, .int (nI i))]) hx hb dL_isCup_387 hl (k := 6) rfl (nI_1 _) (by decide) rfl (fun ls hl => ?_)
                                                      refine lv_goto (tgt := 180) hx hb dL_isCup_390 (by decide) ?_
                                                      have q_184 : (nI ((totN σ e9 k) + (ptN σ e9 k))) = (nI (totN σ e9 (k + 1))) := by first | rfl | (rw [decide_eq_true (by omega)]; rfl) | (rw [decide_eq_false (by omega)]; rfl) | (congr 1; omega)
                                                      exact W.widen (by omega) (by omega) (ih180 (k + 1) (by omega) (by omega) _ _ _ hw (lv_c (lv_at hl 1 rfl) (lv_c (lv_at hl 2 rfl) (lv_c (lv_at hl 3 rfl) (lv_c (lv_at hl 4 rfl) (lv_c (lv_atq hl 5 rfl q_184) (lv_c (lv_at hl 6 rfl) (lv_c (lv_at hl 0 rfl) (lv_c0 hl)))))))))
                                                    · skip
                                                      have c_183 : ¬ n ≤ i := fun h9 => c_183 ((nI_leI (by omega) (by omega)).mpr h9)
                                                      refine lv_iload hx hb dL_isCup_343 (lv_at hl 5 rfl) ?_
                                                      refine lv_if_eq (tgt := 387) hx hb dL_isCup_345 (by decide) (fun c_185 => ?_) (fun c_185 => ?_)
                                                      · skip
                                                        exact absurd c_185 (by decide)
                                                      · skip
                                                        refine lv_aload_n hx hb dL_isCup_348 rfl (lv_at hl 0 rfl) ?_
                                                        refine lv_iload hx hb dL_isCup_349 (lv_at hl 8 rfl) ?_
                                                        refine rCallN (C := RX5) (As := [.int (nI i)]) (rest := []) ⟨hx, hb, hml, hown, hts⟩ fx hw (n_points l hlt G hG hF σ hA i (by omega)) (cwV 1 hts gL_isCup_X5_points rfl rfl rfl (by decide +kernel) ⟨Nat.le_of_ble_eq_true rfl, Nat.le_of_ble_eq_true rfl⟩) (hF.1 0 (by decide)) rfl rfl rfl rfl hl.1 rfl (Nat.le_of_ble_eq_true rfl) dL_isCup_351 ⟨Nat.le_trans (show _ ≤ 9 by omega) (Nat.le_of_ble_eq_true rfl), Nat.le_trans (show _ ≤ 60 by omega) (Nat.le_of_ble_eq_true rfl)⟩ (fun r_186 σ_187 H locs p_188 hw => ?_)
                                                        obtain ⟨er_186, eσ_187, p_188_0⟩ := p_188
                                                        have er_186 := er_186.symm; subst er_186
                                                        have eσ_187 := eσ_187.symm; subst eσ_187
                                                        refine lv_aload_n hx hb dL_isCup_354 rfl (lv_at hl 0 rfl) ?_
                                                        refine lv_iload hx hb dL_isCup_355 (lv_at hl 6 rfl) ?_
                                                        refine rCallN (C := RX5) (As := [.int (nI k)]) (rest := [.int (nI (ptN σ e9 i))]) ⟨hx, hb, hml, hown, hts⟩ fx hw (n_points l hlt G hG hF σ hA k (by omega)) (cwV 1 hts gL_isCup_X5_points rfl rfl rfl (by decide +kernel) ⟨Nat.le_of_ble_eq_true rfl, Nat.le_of_ble_eq_true rfl⟩) (hF.1 0 (by decide)) rfl rfl rfl rfl hl.1 rfl (Nat.le_of_ble_eq_true rfl) dL_isCup_357 ⟨Nat.le_trans (show _ ≤ 9 by omega) (Nat.le_of_ble_eq_true rfl), Nat.le_trans (show _ ≤ 60 by omega) (Nat.le_of_ble_eq_true rfl)⟩ (fun r_189 σ_190 H locs p_191 hw => ?_)
                                                        obtain ⟨er_189, eσ_190, p_191_0⟩ := p_191
                                                        have er_189 := er_189.symm; subst er_189
                                                        have eσ_190 := eσ_190.symm; subst eσ_190
                                                        refine lv_icmp_le (tgt := 374) hx hb dL_isCup_360 (by decide) (fun c_192 => ?_) (fun c_192 => ?_)
                                                        · skip
                                                          have c_192 : (ptN σ e9 i) ≤ (ptN σ e9 k) := (nI_leI (by omega) (by omega)).mp c_192
                                                          refine lv_iconst (v := 1) hx hb dL_isCup_374 (by decide) ?_
                                                          refine lv_goto (tgt := 379) hx hb dL_isCup_375 (by decide) ?_
                                                          refine lv_istore (lv' := [(5, .int 1), (0, .ref (gad G 0)), (1, .ref (gad G 32)), (2, .ref (gad G 33)), (3, .int (mskA (snN σ n e9) (k + 1))), (4, .int (nI ((totN σ e9 k) + (ptN σ e9 k)))), (6, .int (nI k)), (8, .int (nI (snN σ n e9 k))), (9, .int (nI i))]) hx hb dL_isCup_379 hl (by decide) rfl (fun ls hl => ?_)
                                                          refine lv_iinc (v := (nI (i + 1))) (lv' := [(9, .int (nI (i + 1))), (5, .int 1), (0, .ref (gad G 0)), (1, .ref (gad G 32)), (2, .ref (gad G 33)), (3, .int (mskA (snN σ n e9) (k + 1))), (4, .int (nI ((totN σ e9 k) + (ptN σ e9 k)))), (6, .int (nI k)), (8, .int (nI (snN σ n e9 k)))]) hx hb dL_isCup_381 hl (k := 8) rfl (nI_1 _) (by decide) rfl (fun ls hl => ?_)
                                                          refine lv_goto (tgt := 335) hx hb dL_isCup_384 (by decide) ?_
                                                          exact W.widen (by omega) (by omega) (ih335 (i + 1) (by omega) (by omega) _ _ _ hw (lv_c (lv_at hl 2 rfl) (lv_c (lv_at hl 3 rfl) (lv_c (lv_at hl 4 rfl) (lv_c (lv_at hl 5 rfl) (lv_c (lv_at hl 6 rfl) (lv_c (lv_at hl 1 rfl) (lv_c (lv_at hl 7 rfl) (lv_c (lv_at hl 8 rfl) (lv_c (lv_at hl 0 rfl) (lv_c0 hl)))))))))))
                                                        · skip
                                                          have c_192 : ¬ (ptN σ e9 i) ≤ (ptN σ e9 k) := fun h9 => c_192 ((nI_leI (by omega) (by omega)).mpr h9)
                                                          refine lv_aload_n hx hb dL_isCup_363 rfl (lv_at hl 0 rfl) ?_
                                                          refine lv_iload hx hb dL_isCup_364 (lv_at hl 8 rfl) ?_
                                                          refine rCallN (C := RX5) (As := [.int (nI i)]) (rest := []) ⟨hx, hb, hml, hown, hts⟩ fx hw (n_standing l hlt G hG hF σ hA i (by omega)) (cwV 1 hts gL_isCup_X5_standing rfl rfl rfl (by decide +kernel) ⟨Nat.le_of_ble_eq_true rfl, Nat.le_of_ble_eq_true rfl⟩) (hF.1 0 (by decide)) rfl rfl rfl rfl hl.1 rfl (Nat.le_of_ble_eq_true rfl) dL_isCup_366 ⟨Nat.le_trans (show _ ≤ 9 by omega) (Nat.le_of_ble_eq_true rfl), Nat.le_trans (show _ ≤ 60 by omega) (Nat.le_of_ble_eq_true rfl)⟩ (fun r_193 σ_194 H locs p_195 hw => ?_)
                                                          obtain ⟨er_193, eσ_194, p_195_0⟩ := p_195
                                                          have er_193 := er_193.symm; subst er_193
                                                          have eσ_194 := eσ_194.symm; subst eσ_194
                                                          refine lv_iload hx hb dL_isCup_369 (lv_at hl 7 rfl) ?_
                                                          refine lv_icmp_ge (tgt := 378) hx hb dL_isCup_371 (by decide) (fun c_196 => ?_) (fun c_196 => ?_)
                                                          · skip
                                                            have c_196 : (snN σ n e9 k) ≤ (snN σ n e9 i) := (nI_leI (by omega) (by omega)).mp c_196
                                                            have h9 := fpt_sn hA (show i < n by omega) (show k < n by omega) (by omega); omega
                                                          · skip
                                                            have c_196 : ¬ (snN σ n e9 k) ≤ (snN σ n e9 i) := fun h9 => c_196 ((nI_leI (by omega) (by omega)).mpr h9)
                                                            refine lv_iconst (v := 1) hx hb dL_isCup_374 (by decide) ?_
                                                            refine lv_goto (tgt := 379) hx hb dL_isCup_375 (by decide) ?_
                                                            refine lv_istore (lv' := [(5, .int 1), (0, .ref (gad G 0)), (1, .ref (gad G 32)), (2, .ref (gad G 33)), (3, .int (mskA (snN σ n e9) (k + 1))), (4, .int (nI ((totN σ e9 k) + (ptN σ e9 k)))), (6, .int (nI k)), (8, .int (nI (snN σ n e9 k))), (9, .int (nI i))]) hx hb dL_isCup_379 hl (by decide) rfl (fun ls hl => ?_)
                                                            refine lv_iinc (v := (nI (i + 1))) (lv' := [(9, .int (nI (i + 1))), (5, .int 1), (0, .ref (gad G 0)), (1, .ref (gad G 32)), (2, .ref (gad G 33)), (3, .int (mskA (snN σ n e9) (k + 1))), (4, .int (nI ((totN σ e9 k) + (ptN σ e9 k)))), (6, .int (nI k)), (8, .int (nI (snN σ n e9 k)))]) hx hb dL_isCup_381 hl (k := 8) rfl (nI_1 _) (by decide) rfl (fun ls hl => ?_)
                                                            refine lv_goto (tgt := 335) hx hb dL_isCup_384 (by decide) ?_
                                                            exact W.widen (by omega) (by omega) (ih335 (i + 1) (by omega) (by omega) _ _ _ hw (lv_c (lv_at hl 2 rfl) (lv_c (lv_at hl 3 rfl) (lv_c (lv_at hl 4 rfl) (lv_c (lv_at hl 5 rfl) (lv_c (lv_at hl 6 rfl) (lv_c (lv_at hl 1 rfl) (lv_c (lv_at hl 7 rfl) (lv_c (lv_at hl 8 rfl) (lv_c (lv_at hl 0 rfl) (lv_c0 hl)))))))))))
                                                have q_197 : ((mskA (snN σ n e9) k) ||| ((1 : Int32) <<< ((nI (snN σ n e9 k)) &&& 31))) = (mskA (snN σ n e9) (k + 1)) := by exact mskA_s (fun k9 hk9 => by have := fsn_lt (σ := σ) (n := n) (e := e9) (k := k9) (by omega); omega)
                                                have q_198 : 0 = (nI 0) := by first | rfl | (rw [decide_eq_true (by omega)]; rfl) | (rw [decide_eq_false (by omega)]; rfl) | (congr 1; omega)
                                                exact W.widen (by omega) (by omega) (lab_335 (n - 0 + 1) 0 (by omega) (by omega) _ _ _ hw (lv_c (lv_at hl 5 rfl) (lv_c (lv_at hl 6 rfl) (lv_c (lv_at hl 7 rfl) (lv_c (lv_atq hl 3 rfl q_197) (lv_c (lv_at hl 2 rfl) (lv_c (lv_at hl 1 rfl) (lv_c (lv_at hl 8 rfl) (lv_c (lv_at hl 4 rfl) (lv_c (lv_atq hl 0 rfl q_198) (lv_c0 hl)))))))))))
                                        · skip
                                          have c_176 : ¬ d < e9 := fun h9 => c_176 ((nI_ltI (by omega) (by omega)).mpr h9)
                                          refine lv_aload_n hx hb dL_isCup_287 rfl (lv_at hl 3 rfl) ?_
                                          refine lv_iload hx hb dL_isCup_288 (lv_at hl 7 rfl) ?_
                                          refine rCallN (C := RX5) (As := [.int (nI k)]) (rest := []) ⟨hx, hb, hml, hown, hts⟩ fx hw (n_points l hlt G hG hF σ hA k (by omega)) (cwV 1 hts gL_isCup_X5_points rfl rfl rfl (by decide +kernel) ⟨Nat.le_of_ble_eq_true rfl, Nat.le_of_ble_eq_true rfl⟩) (hF.1 0 (by decide)) rfl rfl rfl rfl hl.1 rfl (Nat.le_of_ble_eq_true rfl) dL_isCup_290 ⟨Nat.le_trans (show _ ≤ 9 by omega) (Nat.le_of_ble_eq_true rfl), Nat.le_trans (show _ ≤ 60 by omega) (Nat.le_of_ble_eq_true rfl)⟩ (fun r_199 σ_200 H locs p_201 hw => ?_)
                                          obtain ⟨er_199, eσ_200, p_201_0⟩ := p_201
                                          have er_199 := er_199.symm; subst er_199
                                          have eσ_200 := eσ_200.symm; subst eσ_200
                                          refine lv_if_ne (tgt := 329) hx hb dL_isCup_293 (by decide) (fun c_202 => ?_) (fun c_202 => ?_)
                                          · skip
                                            have c_202 : ¬ (ptN σ e9 k) = 0 := n0_net (by omega) c_202
                                            exact absurd (fpt_0 hA (show k < n by omega) (by omega)) c_202
                                          · skip
                                            have c_202 : (ptN σ e9 k) = 0 := n0_nef (by omega) c_202
                                            refine lv_iload hx hb dL_isCup_296 (lv_at hl 2 rfl) ?_
                                            refine lv_if_lt (tgt := 329) hx hb dL_isCup_298 (by decide) (fun c_203 => ?_) (fun c_203 => ?_)
                                            · skip
                                              exact (n0_ltt (by omega) c_203).elim
                                            · skip
                                              have c_203 : True := n0_ltf (by omega) c_203
                                              refine lv_iload hx hb dL_isCup_301 (lv_at hl 2 rfl) ?_
                                              refine lv_aload_n hx hb dL_isCup_303 rfl (lv_at hl 5 rfl) ?_
                                              refine lv_iconst (v := 2) hx hb dL_isCup_304 (by decide) ?_
                                              refine lv_rep0 (x := 2) (y := nI 2) rfl ?_
                                              refine rAld hx hb fx hw 33 (hF.1 33 (by decide)) hF.2.1 (fun _ => rfl) 2 rfl (by omega) (by decide) dL_isCup_305 ?_
                                              refine lv_rep0 (x := (σ 33 2)) (y := (nI n)) (pn hA).1 ?_
                                              refine lv_icmp_ge (tgt := 329) hx hb dL_isCup_306 (by decide) (fun c_204 => ?_) (fun c_204 => ?_)
                                              · skip
                                                have c_204 : n ≤ (snN σ n e9 k) := (nI_leI (by omega) (by omega)).mp c_204
                                                omega
                                              · skip
                                                have c_204 : ¬ n ≤ (snN σ n e9 k) := fun h9 => c_204 ((nI_leI (by omega) (by omega)).mpr h9)
                                                refine lv_aload_n hx hb dL_isCup_309 rfl (lv_at hl 3 rfl) ?_
                                                refine lv_iconst (v := 2) hx hb dL_isCup_310 (by decide) ?_
                                                refine lv_iload hx hb dL_isCup_311 (lv_at hl 2 rfl) ?_
                                                refine lv_rep1 (x := 2) (y := nI 2) rfl ?_
                                                refine lv_imul hx hb dL_isCup_313 ?_
                                                refine lv_rep0 (x := ((nI 2) * (nI (snN σ n e9 k)))) (y := nI (2 * (snN σ n e9 k))) (pk_mul _ _) ?_
                                                refine rCallN (C := RX5) (As := [.int (nI (2 * (snN σ n e9 k)))]) (rest := []) ⟨hx, hb, hml, hown, hts⟩ fx hw (n_textAt2 l hlt G hG hF σ hA k (by omega)) (cwV 1 hts gL_isCup_X5_textAt rfl rfl rfl (by decide +kernel) ⟨Nat.le_of_ble_eq_true rfl, Nat.le_of_ble_eq_true rfl⟩) (hF.1 0 (by decide)) rfl rfl rfl rfl hl.1 rfl (Nat.le_of_ble_eq_true rfl) dL_isCup_314 ⟨Nat.le_trans (show _ ≤ 9 by omega) (Nat.le_of_ble_eq_true rfl), Nat.le_trans (show _ ≤ 60 by omega) (Nat.le_of_ble_eq_true rfl)⟩ (fun r_205 σ_206 H locs p_207 hw => ?_)
                                                obtain ⟨er_205, eσ_206⟩ := p_207
                                                have er_205 := er_205.symm; subst er_205
                                                have eσ_206 := eσ_206.symm; subst eσ_206
                                                refine lv_bipush (v := 48) hx hb dL_isCup_317 (by decide) ?_
                                                refine lv_iload hx hb dL_isCup_319 (lv_at hl 7 rfl) ?_
                                                refine lv_rep1 (x := 48) (y := nI 48) rfl ?_
                                                refine lv_iadd hx hb dL_isCup_321 ?_
                                                refine lv_rep0 (x := ((nI 48) + (nI k))) (y := nI (48 + k)) (nI_add _ _) ?_
                                                refine lv_icmp_ne (tgt := 329) hx hb dL_isCup_322 (by decide) (fun c_208 => ?_) (fun c_208 => ?_)
                                                · skip
                                                  exact absurd rfl c_208
                                                · skip
                                                  refine lv_iconst (v := 1) hx hb dL_isCup_325 (by decide) ?_
                                                  refine lv_goto (tgt := 330) hx hb dL_isCup_326 (by decide) ?_
                                                  refine lv_istore (lv' := [(5, .int 1), (4, .int (nI ((totN σ e9 k) + (ptN σ e9 k)))), (3, .int ((mskA (snN σ n e9) k) ||| ((1 : Int32) <<< ((nI (snN σ n e9 k)) &&& 31)))), (8, .int (nI (snN σ n e9 k))), (0, .ref (gad G 0)), (1, .ref (gad G 32)), (2, .ref (gad G 33)), (6, .int (nI k)), (7, .int (nI (mosN σ k r9)))]) hx hb dL_isCup_330 hl (by decide) rfl (fun ls hl => ?_)
                                                  refine lv_iconst (v := 0) hx hb dL_isCup_332 (by decide) ?_
                                                  refine lv_istore (lv' := [(9, .int 0), (5, .int 1), (4, .int (nI ((totN σ e9 k) + (ptN σ e9 k)))), (3, .int ((mskA (snN σ n e9) k) ||| ((1 : Int32) <<< ((nI (snN σ n e9 k)) &&& 31)))), (8, .int (nI (snN σ n e9 k))), (0, .ref (gad G 0)), (1, .ref (gad G 32)), (2, .ref (gad G 33)), (6, .int (nI k)), (7, .int (nI (mosN σ k r9)))]) hx hb dL_isCup_333 hl (by decide) rfl (fun ls hl => ?_)
                                                  have lab_335 : ∀ (n9 : Nat), ∀ (i : Nat), n - i < n9 → i ≤ n → ∀ (H : Heap) (locs : List Loc) (ls : Array Slot), Wd G s σ H locs → lv_has ls 10 [(0, .ref (gad G 0)), (1, .ref (gad G 32)), (2, .ref (gad G 33)), (3, .int (mskA (snN σ n e9) (k + 1))), (4, .int (nI ((totN σ e9 k) + (ptN σ e9 k)))), (5, .int 1), (6, .int (nI k)), (8, .int (nI (snN σ n e9 k))), (9, .int (nI i))] → W p l e rmL_isCup s m args below meth c H locs (5) (30) (MQ below (va_Qi (fun r σ' => r = 1 ∧ σ' = σ) (BW G) (gA G)) args s 9 60 (gA G)) (F0 m 335 ls []) := by
                                                    intro n9
                                                    induction n9 with
                                                    | zero => intro i hn9; exact absurd hn9 (Nat.not_lt_zero _)
                                                    | succ n9 ih335 =>
                                                      intro i hn9 h335_0 H locs ls hw hl
                                                      refine lv_iload hx hb dL_isCup_335 (lv_at hl 8 rfl) ?_
                                                      refine lv_aload_n hx hb dL_isCup_337 rfl (lv_at hl 2 rfl) ?_
                                                      refine lv_iconst (v := 2) hx hb dL_isCup_338 (by decide) ?_
                                                      refine lv_rep0 (x := 2) (y := nI 2) rfl ?_
                                                      refine rAld hx hb fx hw 33 (hF.1 33 (by decide)) hF.2.1 (fun _ => rfl) 2 rfl (by omega) (by decide) dL_isCup_339 ?_
                                                      refine lv_rep0 (x := (σ 33 2)) (y := (nI n)) (pn hA).1 ?_
                                                      refine lv_icmp_ge (tgt := 387) hx hb dL_isCup_340 (by decide) (fun c_209 => ?_) (fun c_209 => ?_)
                                                      · skip
                                                        have c_209 : n ≤ i := (nI_leI (by omega) (by omega)).mp c_209
                                                        refine lv_iinc (v := (nI (k + 1))) (lv' := [(6, .int (nI (k + 1))), (0, .ref (gad G 0)), (1, .ref (gad G 32)), (2, .ref (gad G 33)), (3, .int (mskA (snN σ n e9) (k + 1))), (4, .int (nI ((totN σ e9 k) + (ptN σ e9 k)))), (5, .int 1), (8, .int (nI (snN σ n e9 k))), (9, .int (nI i))]) hx hb dL_isCup_387 hl (k := 6) rfl (nI_1 _) (by decide) rfl (fun ls hl => ?_)
                                                        refine lv_goto (tgt := 180) hx hb dL_isCup_390 (by decide) ?_
                                                        have q_210 : (nI ((totN σ e9 k) + (ptN σ e9 k))) = (nI (totN σ e9 (k + 1))) := by first | rfl | (rw [decide_eq_true (by omega)]; rfl) | (rw [decide_eq_false (by omega)]; rfl) | (congr 1; omega)
                                                        exact W.widen (by omega) (by omega) (ih180 (k + 1) (by omega) (by omega) _ _ _ hw (lv_c (lv_at hl 1 rfl) (lv_c (lv_at hl 2 rfl) (lv_c (lv_at hl 3 rfl) (lv_c (lv_at hl 4 rfl) (lv_c (lv_atq hl 5 rfl q_210) (lv_c (lv_at hl 6 rfl) (lv_c (lv_at hl 0 rfl) (lv_c0 hl)))))))))
                                                      · skip
                                                        have c_209 : ¬ n ≤ i := fun h9 => c_209 ((nI_leI (by omega) (by omega)).mpr h9)
                                                        refine lv_iload hx hb dL_isCup_343 (lv_at hl 5 rfl) ?_
                                                        refine lv_if_eq (tgt := 387) hx hb dL_isCup_345 (by decide) (fun c_211 => ?_) (fun c_211 => ?_)
                                                        · skip
                                                          exact absurd c_211 (by decide)
                                                        · skip
                                                          refine lv_aload_n hx hb dL_isCup_348 rfl (lv_at hl 0 rfl) ?_
                                                          refine lv_iload hx hb dL_isCup_349 (lv_at hl 8 rfl) ?_
                                                          refine rCallN (C := RX5) (As := [.int (nI i)]) (rest := []) ⟨hx, hb, hml, hown, hts⟩ fx hw (n_points l hlt G hG hF σ hA i (by omega)) (cwV 1 hts gL_isCup_X5_points rfl rfl rfl (by decide +kernel) ⟨Nat.le_of_ble_eq_true rfl, Nat.le_of_ble_eq_true rfl⟩) (hF.1 0 (by decide)) rfl rfl rfl rfl hl.1 rfl (Nat.le_of_ble_eq_true rfl) dL_isCup_351 ⟨Nat.le_trans (show _ ≤ 9 by omega) (Nat.le_of_ble_eq_true rfl), Nat.le_trans (show _ ≤ 60 by omega) (Nat.le_of_ble_eq_true rfl)⟩ (fun r_212 σ_213 H locs p_214 hw => ?_)
                                                          obtain ⟨er_212, eσ_213, p_214_0⟩ := p_214
                                                          have er_212 := er_212.symm; subst er_212
                                                          have eσ_213 := eσ_213.symm; subst eσ_213
                                                          refine lv_aload_n hx hb dL_isCup_354 rfl (lv_at hl 0 rfl) ?_
                                                          refine lv_iload hx hb dL_isCup_355 (lv_at hl 6 rfl) ?_
                                                          refine rCallN (C := RX5) (As := [.int (nI k)]) (rest := [.int (nI (ptN σ e9 i))]) ⟨hx, hb, hml, hown, hts⟩ fx hw (n_points l hlt G hG hF σ hA k (by omega)) (cwV 1 hts gL_isCup_X5_points rfl rfl rfl (by decide +kernel) ⟨Nat.le_of_ble_eq_true rfl, Nat.le_of_ble_eq_true rfl⟩) (hF.1 0 (by decide)) rfl rfl rfl rfl hl.1 rfl (Nat.le_of_ble_eq_true rfl) dL_isCup_357 ⟨Nat.le_trans (show _ ≤ 9 by omega) (Nat.le_of_ble_eq_true rfl), Nat.le_trans (show _ ≤ 60 by omega) (Nat.le_of_ble_eq_true rfl)⟩ (fun r_215 σ_216 H locs p_217 hw => ?_)
                                                          obtain ⟨er_215, eσ_216, p_217_0⟩ := p_217
                                                          have er_215 := er_215.symm; subst er_215
                                                          have eσ_216 := eσ_216.symm; subst eσ_216
                                                          refine lv_icmp_le (tgt := 374) hx hb dL_isCup_360 (by decide) (fun c_218 => ?_) (fun c_218 => ?_)
                                                          · skip
                                                            have c_218 : (ptN σ e9 i) ≤ (ptN σ e9 k) := (nI_leI (by omega) (by omega)).mp c_218
                                                            refine lv_iconst (v := 1) hx hb dL_isCup_374 (by decide) ?_
                                                            refine lv_goto (tgt := 379) hx hb dL_isCup_375 (by decide) ?_
                                                            refine lv_istore (lv' := [(5, .int 1), (0, .ref (gad G 0)), (1, .ref (gad G 32)), (2, .ref (gad G 33)), (3, .int (mskA (snN σ n e9) (k + 1))), (4, .int (nI ((totN σ e9 k) + (ptN σ e9 k)))), (6, .int (nI k)), (8, .int (nI (snN σ n e9 k))), (9, .int (nI i))]) hx hb dL_isCup_379 hl (by decide) rfl (fun ls hl => ?_)
                                                            refine lv_iinc (v := (nI (i + 1))) (lv' := [(9, .int (nI (i + 1))), (5, .int 1), (0, .ref (gad G 0)), (1, .ref (gad G 32)), (2, .ref (gad G 33)), (3, .int (mskA (snN σ n e9) (k + 1))), (4, .int (nI ((totN σ e9 k) + (ptN σ e9 k)))), (6, .int (nI k)), (8, .int (nI (snN σ n e9 k)))]) hx hb dL_isCup_381 hl (k := 8) rfl (nI_1 _) (by decide) rfl (fun ls hl => ?_)
                                                            refine lv_goto (tgt := 335) hx hb dL_isCup_384 (by decide) ?_
                                                            exact W.widen (by omega) (by omega) (ih335 (i + 1) (by omega) (by omega) _ _ _ hw (lv_c (lv_at hl 2 rfl) (lv_c (lv_at hl 3 rfl) (lv_c (lv_at hl 4 rfl) (lv_c (lv_at hl 5 rfl) (lv_c (lv_at hl 6 rfl) (lv_c (lv_at hl 1 rfl) (lv_c (lv_at hl 7 rfl) (lv_c (lv_at hl 8 rfl) (lv_c (lv_at hl 0 rfl) (lv_c0 hl)))))))))))
                                                          · skip
                                                            have c_218 : ¬ (ptN σ e9 i) ≤ (ptN σ e9 k) := fun h9 => c_218 ((nI_leI (by omega) (by omega)).mpr h9)
                                                            refine lv_aload_n hx hb dL_isCup_363 rfl (lv_at hl 0 rfl) ?_
                                                            refine lv_iload hx hb dL_isCup_364 (lv_at hl 8 rfl) ?_
                                                            refine rCallN (C := RX5) (As := [.int (nI i)]) (rest := []) ⟨hx, hb, hml, hown, hts⟩ fx hw (n_standing l hlt G hG hF σ hA i (by omega)) (cwV 1 hts gL_isCup_X5_standing rfl rfl rfl (by decide +kernel) ⟨Nat.le_of_ble_eq_true rfl, Nat.le_of_ble_eq_true rfl⟩) (hF.1 0 (by decide)) rfl rfl rfl rfl hl.1 rfl (Nat.le_of_ble_eq_true rfl) dL_isCup_366 ⟨Nat.le_trans (show _ ≤ 9 by omega) (Nat.le_of_ble_eq_true rfl), Nat.le_trans (show _ ≤ 60 by omega) (Nat.le_of_ble_eq_true rfl)⟩ (fun r_219 σ_220 H locs p_221 hw => ?_)
                                                            obtain ⟨er_219, eσ_220, p_221_0⟩ := p_221
                                                            have er_219 := er_219.symm; subst er_219
                                                            have eσ_220 := eσ_220.symm; subst eσ_220
                                                            refine lv_iload hx hb dL_isCup_369 (lv_at hl 7 rfl) ?_
                                                            refine lv_icmp_ge (tgt := 378) hx hb dL_isCup_371 (by decide) (fun c_222 => ?_) (fun c_222 => ?_)
                                                            · skip
                                                              have c_222 : (snN σ n e9 k) ≤ (snN σ n e9 i) := (nI_leI (by omega) (by omega)).mp c_222
                                                              have h9 := fpt_sn hA (show i < n by omega) (show k < n by omega) (by omega); omega
                                                            · skip
                                                              have c_222 : ¬ (snN σ n e9 k) ≤ (snN σ n e9 i) := fun h9 => c_222 ((nI_leI (by omega) (by omega)).mpr h9)
                                                              refine lv_iconst (v := 1) hx hb dL_isCup_374 (by decide) ?_
                                                              refine lv_goto (tgt := 379) hx hb dL_isCup_375 (by decide) ?_
                                                              refine lv_istore (lv' := [(5, .int 1), (0, .ref (gad G 0)), (1, .ref (gad G 32)), (2, .ref (gad G 33)), (3, .int (mskA (snN σ n e9) (k + 1))), (4, .int (nI ((totN σ e9 k) + (ptN σ e9 k)))), (6, .int (nI k)), (8, .int (nI (snN σ n e9 k))), (9, .int (nI i))]) hx hb dL_isCup_379 hl (by decide) rfl (fun ls hl => ?_)
                                                              refine lv_iinc (v := (nI (i + 1))) (lv' := [(9, .int (nI (i + 1))), (5, .int 1), (0, .ref (gad G 0)), (1, .ref (gad G 32)), (2, .ref (gad G 33)), (3, .int (mskA (snN σ n e9) (k + 1))), (4, .int (nI ((totN σ e9 k) + (ptN σ e9 k)))), (6, .int (nI k)), (8, .int (nI (snN σ n e9 k)))]) hx hb dL_isCup_381 hl (k := 8) rfl (nI_1 _) (by decide) rfl (fun ls hl => ?_)
                                                              refine lv_goto (tgt := 335) hx hb dL_isCup_384 (by decide) ?_
                                                              exact W.widen (by omega) (by omega) (ih335 (i + 1) (by omega) (by omega) _ _ _ hw (lv_c (lv_at hl 2 rfl) (lv_c (lv_at hl 3 rfl) (lv_c (lv_at hl 4 rfl) (lv_c (lv_at hl 5 rfl) (lv_c (lv_at hl 6 rfl) (lv_c (lv_at hl 1 rfl) (lv_c (lv_at hl 7 rfl) (lv_c (lv_at hl 8 rfl) (lv_c (lv_at hl 0 rfl) (lv_c0 hl)))))))))))
                                                  have q_223 : ((mskA (snN σ n e9) k) ||| ((1 : Int32) <<< ((nI (snN σ n e9 k)) &&& 31))) = (mskA (snN σ n e9) (k + 1)) := by exact mskA_s (fun k9 hk9 => by have := fsn_lt (σ := σ) (n := n) (e := e9) (k := k9) (by omega); omega)
                                                  have q_224 : 0 = (nI 0) := by first | rfl | (rw [decide_eq_true (by omega)]; rfl) | (rw [decide_eq_false (by omega)]; rfl) | (congr 1; omega)
                                                  exact W.widen (by omega) (by omega) (lab_335 (n - 0 + 1) 0 (by omega) (by omega) _ _ _ hw (lv_c (lv_at hl 5 rfl) (lv_c (lv_at hl 6 rfl) (lv_c (lv_at hl 7 rfl) (lv_c (lv_atq hl 3 rfl q_223) (lv_c (lv_at hl 2 rfl) (lv_c (lv_at hl 1 rfl) (lv_c (lv_at hl 8 rfl) (lv_c (lv_at hl 4 rfl) (lv_c (lv_atq hl 0 rfl q_224) (lv_c0 hl)))))))))))
                                  · skip
                                    have c_161 : ¬ e9 ≤ r9 := fun h9 => c_161 ((nI_leI (by omega) (by omega)).mpr h9)
                                    refine lv_iload hx hb dL_isCup_208 (lv_at hl 7 rfl) ?_
                                    refine lv_aload_n hx hb dL_isCup_210 rfl (lv_at hl 0 rfl) ?_
                                    refine lv_iload hx hb dL_isCup_211 (lv_at hl 8 rfl) ?_
                                    refine lv_iload hx hb dL_isCup_213 (lv_at hl 6 rfl) ?_
                                    refine rCallN (C := RX5) (As := [.int (nI r9), .int (nI k)]) (rest := [.int (nI (mosN σ k r9))]) ⟨hx, hb, hml, hown, hts⟩ fx hw (n_place l hlt G hG hF σ hA r9 k (by omega) (by omega)) (cwV 2 hts gL_isCup_X5_place rfl rfl rfl (by decide +kernel) ⟨Nat.le_of_ble_eq_true rfl, Nat.le_of_ble_eq_true rfl⟩) (hF.1 0 (by decide)) rfl rfl rfl rfl hl.1 rfl (Nat.le_of_ble_eq_true rfl) dL_isCup_215 ⟨Nat.le_trans (show _ ≤ 9 by omega) (Nat.le_of_ble_eq_true rfl), Nat.le_trans (show _ ≤ 60 by omega) (Nat.le_of_ble_eq_true rfl)⟩ (fun r_225 σ_226 H locs p_227 hw => ?_)
                                    obtain ⟨er_225, eσ_226, p_227_0⟩ := p_227
                                    have er_225 := er_225.symm; subst er_225
                                    have eσ_226 := eσ_226.symm; subst eσ_226
                                    refine rCallM (As := [.int (nI (plN σ r9 k))]) (rest := [.int (nI (mosN σ k r9))]) ⟨hx, hb, hml, hown, hts⟩ fx hw (kL_worth l hlt G hG hF σ ((plN σ r9 k)) (by omega)) (va_cwS 1 hts gL_isCup_L_worth rfl rfl rfl (by decide +kernel) ⟨Nat.le_of_ble_eq_true rfl, Nat.le_of_ble_eq_true rfl⟩) rfl hl.1 rfl (Nat.le_of_ble_eq_true rfl) dL_isCup_218 ⟨Nat.le_trans (show _ ≤ 9 by omega) (Nat.le_of_ble_eq_true rfl), Nat.le_trans (show _ ≤ 60 by omega) (Nat.le_of_ble_eq_true rfl)⟩ (fun r_228 σ_229 H locs p_230 hw => ?_)
                                    obtain ⟨er_228, eσ_229⟩ := p_230
                                    have er_228 := er_228.symm; subst er_228
                                    have eσ_229 := eσ_229.symm; subst eσ_229
                                    refine lv_iadd hx hb dL_isCup_221 ?_
                                    refine lv_rep0 (x := ((nI (mosN σ k r9)) + (nI (wtN (plN σ r9 k))))) (y := nI ((mosN σ k r9) + (wtN (plN σ r9 k)))) (nI_add _ _) ?_
                                    refine lv_istore (lv' := [(7, .int (nI ((mosN σ k r9) + (wtN (plN σ r9 k))))), (0, .ref (gad G 0)), (1, .ref (gad G 32)), (2, .ref (gad G 33)), (3, .int (mskA (snN σ n e9) k)), (4, .int (nI (totN σ e9 k))), (5, .int 1), (6, .int (nI k)), (8, .int (nI r9))]) hx hb dL_isCup_222 hl (by decide) rfl (fun ls hl => ?_)
                                    refine lv_iinc (v := (nI (r9 + 1))) (lv' := [(8, .int (nI (r9 + 1))), (7, .int (nI ((mosN σ k r9) + (wtN (plN σ r9 k))))), (0, .ref (gad G 0)), (1, .ref (gad G 32)), (2, .ref (gad G 33)), (3, .int (mskA (snN σ n e9) k)), (4, .int (nI (totN σ e9 k))), (5, .int 1), (6, .int (nI k))]) hx hb dL_isCup_224 hl (k := 8) rfl (nI_1 _) (by decide) rfl (fun ls hl => ?_)
                                    refine lv_goto (tgt := 199) hx hb dL_isCup_227 (by decide) ?_
                                    have q_231 : (nI ((mosN σ k r9) + (wtN (plN σ r9 k)))) = (nI (mosN σ k (r9 + 1))) := by first | rfl | (rw [decide_eq_true (by omega)]; rfl) | (rw [decide_eq_false (by omega)]; rfl) | (congr 1; omega)
                                    exact W.widen (by omega) (by omega) (ih199 (r9 + 1) (by omega) (by omega) _ _ _ hw (lv_c (lv_at hl 2 rfl) (lv_c (lv_at hl 3 rfl) (lv_c (lv_at hl 4 rfl) (lv_c (lv_at hl 5 rfl) (lv_c (lv_at hl 6 rfl) (lv_c (lv_at hl 7 rfl) (lv_c (lv_at hl 8 rfl) (lv_c (lv_atq hl 1 rfl q_231) (lv_c (lv_at hl 0 rfl) (lv_c0 hl)))))))))))
                              have q_232 : 0 = (nI (mosN σ k 0)) := by first | rfl | (rw [decide_eq_true (by omega)]; rfl) | (rw [decide_eq_false (by omega)]; rfl) | (congr 1; omega)
                              have q_233 : 0 = (nI 0) := by first | rfl | (rw [decide_eq_true (by omega)]; rfl) | (rw [decide_eq_false (by omega)]; rfl) | (congr 1; omega)
                              exact W.widen (by omega) (by omega) (lab_199 (e9 - 0 + 1) 0 (by omega) (by omega) _ _ _ hw (lv_c (lv_at hl 2 rfl) (lv_c (lv_at hl 3 rfl) (lv_c (lv_at hl 4 rfl) (lv_c (lv_at hl 5 rfl) (lv_c (lv_at hl 6 rfl) (lv_c (lv_at hl 7 rfl) (lv_c (lv_at hl 8 rfl) (lv_c (lv_atq hl 1 rfl q_232) (lv_c (lv_atq hl 0 rfl q_233) (lv_c0 hl)))))))))))
                      have q_234 : 0 = (mskA (snN σ n e9) 0) := by first | rfl | (rw [decide_eq_true (by omega)]; rfl) | (rw [decide_eq_false (by omega)]; rfl) | (congr 1; omega)
                      have q_235 : 0 = (nI (totN σ e9 0)) := by first | rfl | (rw [decide_eq_true (by omega)]; rfl) | (rw [decide_eq_false (by omega)]; rfl) | (congr 1; omega)
                      have q_236 : 0 = (nI 0) := by first | rfl | (rw [decide_eq_true (by omega)]; rfl) | (rw [decide_eq_false (by omega)]; rfl) | (congr 1; omega)
                      exact W.widen (by omega) (by omega) (lab_180 (n - 0 + 1) 0 (by omega) (by omega) _ _ _ hw (lv_c (lv_at hl 1 rfl) (lv_c (lv_at hl 2 rfl) (lv_c (lv_at hl 3 rfl) (lv_c (lv_atq hl 4 rfl q_234) (lv_c (lv_atq hl 5 rfl q_235) (lv_c (lv_at hl 6 rfl) (lv_c (lv_atq hl 0 rfl q_236) (lv_c0 hl)))))))))
                    · skip
                      have c_108 : ¬ e9 ≤ i := fun h9 => c_108 ((nI_leI (by omega) (by omega)).mpr h9)
                      refine lv_iload hx hb dL_isCup_112 (lv_at hl 5 rfl) ?_
                      refine lv_if_eq (tgt := 177) hx hb dL_isCup_114 (by decide) (fun c_237 => ?_) (fun c_237 => ?_)
                      · skip
                        exact absurd c_237 (by decide)
                      · skip
                        refine lv_iconst (v := 0) hx hb dL_isCup_117 (by decide) ?_
                        refine lv_istore (lv' := [(7, .int 0), (0, .ref (gad G 0)), (1, .ref (gad G 32)), (2, .ref (gad G 33)), (3, .int 0), (4, .int 0), (5, .int 1), (6, .int (nI i))]) hx hb dL_isCup_118 hl (by decide) rfl (fun ls hl => ?_)
                        refine lv_iconst (v := 0) hx hb dL_isCup_120 (by decide) ?_
                        refine lv_istore (lv' := [(8, .int 0), (7, .int 0), (0, .ref (gad G 0)), (1, .ref (gad G 32)), (2, .ref (gad G 33)), (3, .int 0), (4, .int 0), (5, .int 1), (6, .int (nI i))]) hx hb dL_isCup_121 hl (by decide) rfl (fun ls hl => ?_)
                        have lab_123 : ∀ (n9 : Nat), ∀ (k : Nat), n - k < n9 → k ≤ n → ∀ (H : Heap) (locs : List Loc) (ls : Array Slot), Wd G s σ H locs → lv_has ls 10 [(0, .ref (gad G 0)), (1, .ref (gad G 32)), (2, .ref (gad G 33)), (3, .int 0), (4, .int 0), (5, .int 1), (6, .int (nI i)), (7, .int (mskA (plN σ i) k)), (8, .int (nI k))] → W p l e rmL_isCup s m args below meth c H locs (5) (30) (MQ below (va_Qi (fun r σ' => r = 1 ∧ σ' = σ) (BW G) (gA G)) args s 9 60 (gA G)) (F0 m 123 ls []) := by
                          intro n9
                          induction n9 with
                          | zero => intro k hn9; exact absurd hn9 (Nat.not_lt_zero _)
                          | succ n9 ih123 =>
                            intro k hn9 h123_0 H locs ls hw hl
                            refine lv_iload hx hb dL_isCup_123 (lv_at hl 8 rfl) ?_
                            refine lv_aload_n hx hb dL_isCup_125 rfl (lv_at hl 2 rfl) ?_
                            refine lv_iconst (v := 2) hx hb dL_isCup_126 (by decide) ?_
                            refine lv_rep0 (x := 2) (y := nI 2) rfl ?_
                            refine rAld hx hb fx hw 33 (hF.1 33 (by decide)) hF.2.1 (fun _ => rfl) 2 rfl (by omega) (by decide) dL_isCup_127 ?_
                            refine lv_rep0 (x := (σ 33 2)) (y := (nI n)) (pn hA).1 ?_
                            refine lv_icmp_ge (tgt := 152) hx hb dL_isCup_128 (by decide) (fun c_238 => ?_) (fun c_238 => ?_)
                            · skip
                              have c_238 : n ≤ k := (nI_leI (by omega) (by omega)).mp c_238
                              refine lv_iload hx hb dL_isCup_152 (lv_at hl 7 rfl) ?_
                              refine lv_iconst (v := 1) hx hb dL_isCup_154 (by decide) ?_
                              refine lv_aload_n hx hb dL_isCup_155 rfl (lv_at hl 2 rfl) ?_
                              refine lv_iconst (v := 2) hx hb dL_isCup_156 (by decide) ?_
                              refine lv_rep0 (x := 2) (y := nI 2) rfl ?_
                              refine rAld hx hb fx hw 33 (hF.1 33 (by decide)) hF.2.1 (fun _ => rfl) 2 rfl (by omega) (by decide) dL_isCup_157 ?_
                              refine lv_rep0 (x := (σ 33 2)) (y := (nI n)) (pn hA).1 ?_
                              refine lv_ishl hx hb dL_isCup_158 ?_
                              refine lv_iconst (v := 1) hx hb dL_isCup_159 (by decide) ?_
                              refine lv_isub hx hb dL_isCup_160 ?_
                              refine lv_icmp_ne (tgt := 168) hx hb dL_isCup_161 (by decide) (fun c_239 => ?_) (fun c_239 => ?_)
                              · skip
                                exact absurd (by rw [show k = n by omega]; exact fpl_mask hA (by omega)) c_239
                              · skip
                                refine lv_iconst (v := 1) hx hb dL_isCup_164 (by decide) ?_
                                refine lv_goto (tgt := 169) hx hb dL_isCup_165 (by decide) ?_
                                refine lv_istore (lv' := [(5, .int 1), (0, .ref (gad G 0)), (1, .ref (gad G 32)), (2, .ref (gad G 33)), (3, .int 0), (4, .int 0), (6, .int (nI i)), (7, .int (mskA (plN σ i) k)), (8, .int (nI k))]) hx hb dL_isCup_169 hl (by decide) rfl (fun ls hl => ?_)
                                refine lv_iinc (v := (nI (i + 1))) (lv' := [(6, .int (nI (i + 1))), (5, .int 1), (0, .ref (gad G 0)), (1, .ref (gad G 32)), (2, .ref (gad G 33)), (3, .int 0), (4, .int 0), (7, .int (mskA (plN σ i) k)), (8, .int (nI k))]) hx hb dL_isCup_171 hl (k := 6) rfl (nI_1 _) (by decide) rfl (fun ls hl => ?_)
                                refine lv_goto (tgt := 103) hx hb dL_isCup_174 (by decide) ?_
                                exact W.widen (by omega) (by omega) (ih103 (i + 1) (by omega) (by omega) _ _ _ hw (lv_c (lv_at hl 2 rfl) (lv_c (lv_at hl 3 rfl) (lv_c (lv_at hl 4 rfl) (lv_c (lv_at hl 5 rfl) (lv_c (lv_at hl 6 rfl) (lv_c (lv_at hl 1 rfl) (lv_c (lv_at hl 0 rfl) (lv_c0 hl)))))))))
                            · skip
                              have c_238 : ¬ n ≤ k := fun h9 => c_238 ((nI_leI (by omega) (by omega)).mpr h9)
                              refine lv_iload hx hb dL_isCup_131 (lv_at hl 7 rfl) ?_
                              refine lv_iconst (v := 1) hx hb dL_isCup_133 (by decide) ?_
                              refine lv_aload_n hx hb dL_isCup_134 rfl (lv_at hl 0 rfl) ?_
                              refine lv_iload hx hb dL_isCup_135 (lv_at hl 6 rfl) ?_
                              refine lv_iload hx hb dL_isCup_137 (lv_at hl 8 rfl) ?_
                              refine rCallN (C := RX5) (As := [.int (nI i), .int (nI k)]) (rest := [.int 1, .int (mskA (plN σ i) k)]) ⟨hx, hb, hml, hown, hts⟩ fx hw (n_place l hlt G hG hF σ hA i k (by omega) (by omega)) (cwV 2 hts gL_isCup_X5_place rfl rfl rfl (by decide +kernel) ⟨Nat.le_of_ble_eq_true rfl, Nat.le_of_ble_eq_true rfl⟩) (hF.1 0 (by decide)) rfl rfl rfl rfl hl.1 rfl (Nat.le_of_ble_eq_true rfl) dL_isCup_139 ⟨Nat.le_trans (show _ ≤ 9 by omega) (Nat.le_of_ble_eq_true rfl), Nat.le_trans (show _ ≤ 60 by omega) (Nat.le_of_ble_eq_true rfl)⟩ (fun r_240 σ_241 H locs p_242 hw => ?_)
                              obtain ⟨er_240, eσ_241, p_242_0⟩ := p_242
                              have er_240 := er_240.symm; subst er_240
                              have eσ_241 := eσ_241.symm; subst eσ_241
                              refine lv_ishl hx hb dL_isCup_142 ?_
                              refine lv_ior hx hb dL_isCup_143 ?_
                              refine lv_istore (lv' := [(7, .int ((mskA (plN σ i) k) ||| ((1 : Int32) <<< ((nI (plN σ i k)) &&& 31)))), (0, .ref (gad G 0)), (1, .ref (gad G 32)), (2, .ref (gad G 33)), (3, .int 0), (4, .int 0), (5, .int 1), (6, .int (nI i)), (8, .int (nI k))]) hx hb dL_isCup_144 hl (by decide) rfl (fun ls hl => ?_)
                              refine lv_iinc (v := (nI (k + 1))) (lv' := [(8, .int (nI (k + 1))), (7, .int ((mskA (plN σ i) k) ||| ((1 : Int32) <<< ((nI (plN σ i k)) &&& 31)))), (0, .ref (gad G 0)), (1, .ref (gad G 32)), (2, .ref (gad G 33)), (3, .int 0), (4, .int 0), (5, .int 1), (6, .int (nI i))]) hx hb dL_isCup_146 hl (k := 8) rfl (nI_1 _) (by decide) rfl (fun ls hl => ?_)
                              refine lv_goto (tgt := 123) hx hb dL_isCup_149 (by decide) ?_
                              have q_243 : ((mskA (plN σ i) k) ||| ((1 : Int32) <<< ((nI (plN σ i k)) &&& 31))) = (mskA (plN σ i) (k + 1)) := by exact mskA_s (fun k9 hk9 => by have := (fpl hA (i := i) (k := k9) (by omega) (by omega)).2; omega)
                              exact W.widen (by omega) (by omega) (ih123 (k + 1) (by omega) (by omega) _ _ _ hw (lv_c (lv_at hl 2 rfl) (lv_c (lv_at hl 3 rfl) (lv_c (lv_at hl 4 rfl) (lv_c (lv_at hl 5 rfl) (lv_c (lv_at hl 6 rfl) (lv_c (lv_at hl 7 rfl) (lv_c (lv_at hl 8 rfl) (lv_c (lv_atq hl 1 rfl q_243) (lv_c (lv_at hl 0 rfl) (lv_c0 hl)))))))))))
                        have q_244 : 0 = (mskA (plN σ i) 0) := by first | rfl | (rw [decide_eq_true (by omega)]; rfl) | (rw [decide_eq_false (by omega)]; rfl) | (congr 1; omega)
                        have q_245 : 0 = (nI 0) := by first | rfl | (rw [decide_eq_true (by omega)]; rfl) | (rw [decide_eq_false (by omega)]; rfl) | (congr 1; omega)
                        exact W.widen (by omega) (by omega) (lab_123 (n - 0 + 1) 0 (by omega) (by omega) _ _ _ hw (lv_c (lv_at hl 2 rfl) (lv_c (lv_at hl 3 rfl) (lv_c (lv_at hl 4 rfl) (lv_c (lv_at hl 5 rfl) (lv_c (lv_at hl 6 rfl) (lv_c (lv_at hl 7 rfl) (lv_c (lv_at hl 8 rfl) (lv_c (lv_atq hl 1 rfl q_244) (lv_c (lv_atq hl 0 rfl q_245) (lv_c0 hl)))))))))))
                have q_246 : 0 = (nI 0) := by first | rfl | (rw [decide_eq_true (by omega)]; rfl) | (rw [decide_eq_false (by omega)]; rfl) | (congr 1; omega)
                exact W.widen (by omega) (by omega) (lab_103 (e9 - 0 + 1) 0 (by omega) (by omega) _ _ _ hw (lv_c (lv_at hl 4 rfl) (lv_c (lv_at hl 5 rfl) (lv_c (lv_at hl 6 rfl) (lv_c (lv_at hl 3 rfl) (lv_c (lv_at hl 2 rfl) (lv_c (lv_at hl 1 rfl) (lv_c (lv_atq hl 0 rfl q_246) (lv_c0 hl)))))))))
