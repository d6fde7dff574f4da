def rmX6_pass : Room := ({ frames := 2, cells := 0, slots := 0, locals := 43 } : Room)
set_option maxHeartbeats 4000000 in
set_option maxRecDepth 100000 in
theorem kX6_pass (l : Launch) (G : Gx) (hG : gOk G) (hF : Full G) (σ : St) (x y : Int32) (g n sd e9 z : Nat) (b : Bool) (hMv : MIv σ g n sd b e9 z)  : CtI l yX6_pass wsX6_pass rmX6_pass G σ [.ref (gad G 31), .int x, .int y] (fun r σ' => ((inB x n && inB y g) = true ∧ mcan σ b (ix x) (ix y) = true ∧ r = mpR (thr σ 0) z (ix x) (ix y) ∧ σ' = mpS (thr σ 0) z (ix x) (ix y)) ∨ ((inB x n && inB y g) = false ∧ σ' = thr σ 1) ∨ ((inB x n && inB y g) = true ∧ mcan σ b (ix x) (ix y) = false ∧ σ' = thr σ 2)) := by
  refine bgMet (cc := cX6_pass) (maxL := 7) (ret := (some .int)) (own := RX6) (by decide) rfl rfl hG (Nat.le_of_ble_eq_true rfl) rfl ?_
  intro p e s m args below meth c ls Bd hl
  obtain ⟨hx, hb, hr, hml, hts, hown, hlocks, fx, hw⟩ := Bd
  have hl : lv_has ls 7 [(0, .ref (gad G 31)), (1, .int x), (2, .int y)] := hl
  have hin : ∀ w ∈ wsX60, w ∈ wsX6_pass := by decide +kernel
  obtain ⟨⟨hmg, hmg1, hmg2⟩, ⟨hmn, hmn6⟩, ⟨hms, hms8⟩, ⟨hme, hme8⟩, hmo, ⟨hmz, hmz5⟩, hgm, hme9⟩ := id hMv
  have lab_21 : ∀ (H : Heap) (locs : List Loc) (ls : Array Slot), Wd G s σ H locs → lv_has ls 7 [(0, .ref (gad G 31)), (1, .int x), (2, .int y)] → W p l e rmX6_pass s m args below meth c H locs 0 0 (MQ below (va_Qi (fun r σ' => ((inB x n && inB y g) = true ∧ mcan σ b (ix x) (ix y) = true ∧ r = mpR (thr σ 0) z (ix x) (ix y) ∧ σ' = mpS (thr σ 0) z (ix x) (ix y)) ∨ ((inB x n && inB y g) = false ∧ σ' = thr σ 1) ∨ ((inB x n && inB y g) = true ∧ mcan σ b (ix x) (ix y) = false ∧ σ' = thr σ 2)) (BW G) (gA G)) args s 0 0 (gA G)) (F0 m 21 ls [.int (bI (inB x n && inB y g))]) := by
    intro   H locs ls hw hl
    refine lv_istore_n (lv' := [(3, .int (bI (inB x n && inB y g))), (0, .ref (gad G 31)), (1, .int x), (2, .int y)]) hx hb dX6_pass_21 rfl hl (by decide) rfl (fun ls hl => ?_)
    refine lv_iload_n hx hb dX6_pass_22 rfl (lv_at hl 0 rfl) ?_
    refine lv_b_eq (tgt := 35) hx hb dX6_pass_23 (by decide) (fun c_1 => ?_) (fun c_1 => ?_)
    · skip
      refine lv_iconst (v := 0) hx hb dX6_pass_35 (by decide) ?_
      refine lv_istore (lv' := [(4, .int 0), (3, .int (bI (inB x n && inB y g))), (0, .ref (gad G 31)), (1, .int x), (2, .int y)]) hx hb dX6_pass_36 hl (by decide) rfl (fun ls hl => ?_)
      refine lv_iload_n hx hb dX6_pass_38 rfl (lv_at hl 1 rfl) ?_
      refine lv_b_eq (tgt := 61) hx hb dX6_pass_39 (by decide) (fun c_2 => ?_) (fun c_2 => ?_)
      · skip
        refine lv_iconst (v := 0) hx hb dX6_pass_61 (by decide) ?_
        refine lv_istore (lv' := [(5, .int 0), (4, .int 0), (3, .int (bI (inB x n && inB y g))), (0, .ref (gad G 31)), (1, .int x), (2, .int y)]) hx hb dX6_pass_62 hl (by decide) rfl (fun ls hl => ?_)
        refine lv_iload_n hx hb dX6_pass_64 rfl (lv_at hl 2 rfl) ?_
        refine lv_b_eq (tgt := 121) hx hb dX6_pass_65 (by decide) (fun c_3 => ?_) (fun c_3 => ?_)
        · skip
          refine lv_iconst (v := 0) hx hb dX6_pass_121 (by decide) ?_
          refine lv_istore (lv' := [(6, .int 0), (5, .int 0), (4, .int 0), (3, .int (bI (inB x n && inB y g))), (0, .ref (gad G 31)), (1, .int x), (2, .int y)]) hx hb dX6_pass_122 hl (by decide) rfl (fun ls hl => ?_)
          refine lv_aload_n hx hb dX6_pass_124 rfl (lv_at hl 4 rfl) ?_
          refine lv_iload_n hx hb dX6_pass_125 rfl (lv_at hl 3 rfl) ?_
          refine lv_b_ne (tgt := 133) hx hb dX6_pass_126 (by decide) (fun c_4 => ?_) (fun c_4 => ?_)
          · skip
            exact absurd (c_1.symm.trans c_4) (by decide)
          · skip
            refine lv_iconst (v := 1) hx hb dX6_pass_129 (by decide) ?_
            refine lv_goto (tgt := 143) hx hb dX6_pass_130 (by decide) ?_
            refine lv_rep0 (x := 1) (y := nI 1) rfl ?_
            refine rCallI (C := RX6) (As := [.int (nI 1)]) (rest := []) ⟨hx, hb, hml, hown, hts⟩ fx hw (kX6_fails l G hG hF σ 1 (by omega)) (cwV 1 hts gX6_pass_X6_fails rfl rfl rfl (by decide +kernel) ⟨Nat.le_of_ble_eq_true rfl, Nat.le_of_ble_eq_true rfl⟩) (hF.1 31 (by decide)) rfl rfl rfl rfl hl.1 rfl (Nat.le_of_ble_eq_true rfl) dX6_pass_143 ⟨Nat.zero_le _, Nat.zero_le _⟩ ?_
            intro r_6 σ_7 H locs p_5 hw
            obtain ⟨er_6, eσ_7⟩ := p_5
            have er_6 := er_6.symm; subst er_6
            refine lv_b_eq (tgt := 151) hx hb dX6_pass_146 (by decide) (fun c_8 => ?_) (fun c_8 => ?_)
            · skip
              exact absurd c_8 (by decide)
            · skip
              refine lv_iconst (v := 0) hx hb dX6_pass_149 (by decide) ?_
              subst eσ_7
              exact rRetI hx hb hr hw (by first | exact Or.inr (Or.inl ⟨by assumption, rfl⟩) | exact Or.inr (Or.inr ⟨by assumption, by assumption, rfl⟩)) hlocks dX6_pass_150
        · skip
          exact absurd (c_1.symm.trans c_3) (by decide)
      · skip
        exact absurd (c_1.symm.trans c_2) (by decide)
    · skip
      have hq9 := (Bool.and_eq_true _ _).mp c_1
      have hx9 := inB_ix (by omega) hq9.1
      have q_9 : x = (nI (ix x)) := by exact hx9.1
      have hl : lv_has ls 7 [(3, .int (bI (inB x n && inB y g))), (0, .ref (gad G 31)), (1, .int (nI (ix x))), (2, .int y)] := (lv_c (lv_at hl 0 rfl) (lv_c (lv_at hl 1 rfl) (lv_c (lv_atq hl 2 rfl q_9) (lv_c (lv_at hl 3 rfl) (lv_c0 hl)))))
      have hy9 := inB_ix (by omega) hq9.2
      have q_10 : y = (nI (ix y)) := by exact hy9.1
      have hl : lv_has ls 7 [(3, .int (bI (inB x n && inB y g))), (0, .ref (gad G 31)), (1, .int (nI (ix x))), (2, .int (nI (ix y)))] := (lv_c (lv_at hl 0 rfl) (lv_c (lv_at hl 1 rfl) (lv_c (lv_at hl 2 rfl) (lv_c (lv_atq hl 3 rfl q_10) (lv_c0 hl)))))
      refine lv_aload_n hx hb dX6_pass_26 rfl (lv_at hl 1 rfl) ?_
      refine rGet (v := .ref (gad G 35)) (C := RX6) (T := TX6) (N := 26) hx hb fx hown hts hin hw 31 (hF.1 31 (by decide)) rfl rfl 13 (by decide) (hts (.fieldLink RX6 23 "LeaguewheelModel" "gate" "[I") (by decide +kernel)) (fun _ h9 => h9) rfl dX6_pass_27 ?_
      refine lv_iload_n hx hb dX6_pass_30 rfl (lv_at hl 2 rfl) ?_
      refine rAld hx hb fx hw 35 (hF.1 35 (by decide)) hF.2.1 (fun _ => rfl) (ix x) rfl (by omega) (by decide) dX6_pass_31 ?_
      refine lv_rep0 (x := (σ 35 (ix x))) (y := nI (ix (σ 35 (ix x)))) (by exact (hgm (ix x) (by omega)).1) ?_
      have hf9 := (hgm (ix x) (by omega)).2
      refine lv_goto (tgt := 36) hx hb dX6_pass_32 (by decide) ?_
      refine lv_istore (lv' := [(4, .int (nI (ix (σ 35 (ix x))))), (3, .int (bI (inB x n && inB y g))), (0, .ref (gad G 31)), (1, .int (nI (ix x))), (2, .int (nI (ix y)))]) hx hb dX6_pass_36 hl (by decide) rfl (fun ls hl => ?_)
      refine lv_iload_n hx hb dX6_pass_38 rfl (lv_at hl 1 rfl) ?_
      refine lv_b_eq (tgt := 61) hx hb dX6_pass_39 (by decide) (fun c_11 => ?_) (fun c_11 => ?_)
      · skip
        exact absurd (c_1.symm.trans c_11) (by decide)
      · skip
        have lab_62 : ∀ (H : Heap) (locs : List Loc) (ls : Array Slot), Wd G s σ H locs → lv_has ls 7 [(0, .ref (gad G 31)), (1, .int (nI (ix x))), (2, .int (nI (ix y))), (3, .int (bI (inB x n && inB y g))), (4, .int (nI (ix (σ 35 (ix x)))))] → W p l e rmX6_pass s m args below meth c H locs 0 0 (MQ below (va_Qi (fun r σ' => ((inB x n && inB y g) = true ∧ mcan σ b (ix x) (ix y) = true ∧ r = mpR (thr σ 0) z (ix x) (ix y) ∧ σ' = mpS (thr σ 0) z (ix x) (ix y)) ∨ ((inB x n && inB y g) = false ∧ σ' = thr σ 1) ∨ ((inB x n && inB y g) = true ∧ mcan σ b (ix x) (ix y) = false ∧ σ' = thr σ 2)) (BW G) (gA G)) args s 0 0 (gA G)) (F0 m 62 ls [.int (bI (ldB (σ 32) (ix (σ 35 (ix x))) (ix y)))]) := by
          intro   H locs ls hw hl
          refine lv_istore (lv' := [(5, .int (bI (ldB (σ 32) (ix (σ 35 (ix x))) (ix y)))), (0, .ref (gad G 31)), (1, .int (nI (ix x))), (2, .int (nI (ix y))), (3, .int (bI (inB x n && inB y g))), (4, .int (nI (ix (σ 35 (ix x)))))]) hx hb dX6_pass_62 hl (by decide) rfl (fun ls hl => ?_)
          refine lv_iload_n hx hb dX6_pass_64 rfl (lv_at hl 4 rfl) ?_
          refine lv_b_eq (tgt := 121) hx hb dX6_pass_65 (by decide) (fun c_12 => ?_) (fun c_12 => ?_)
          · skip
            exact absurd (c_1.symm.trans c_12) (by decide)
          · skip
            have lab_122 : ∀ (H : Heap) (locs : List Loc) (ls : Array Slot), Wd G s σ H locs → lv_has ls 7 [(0, .ref (gad G 31)), (1, .int (nI (ix x))), (2, .int (nI (ix y))), (3, .int (bI (inB x n && inB y g))), (4, .int (nI (ix (σ 35 (ix x))))), (5, .int (bI (ldB (σ 32) (ix (σ 35 (ix x))) (ix y))))] → W p l e rmX6_pass s m args below meth c H locs 0 0 (MQ below (va_Qi (fun r σ' => ((inB x n && inB y g) = true ∧ mcan σ b (ix x) (ix y) = true ∧ r = mpR (thr σ 0) z (ix x) (ix y) ∧ σ' = mpS (thr σ 0) z (ix x) (ix y)) ∨ ((inB x n && inB y g) = false ∧ σ' = thr σ 1) ∨ ((inB x n && inB y g) = true ∧ mcan σ b (ix x) (ix y) = false ∧ σ' = thr σ 2)) (BW G) (gA G)) args s 0 0 (gA G)) (F0 m 122 ls [.int (bI (mcan σ b (ix x) (ix y)))]) := by
              intro   H locs ls hw hl
              refine lv_istore (lv' := [(6, .int (bI (mcan σ b (ix x) (ix y)))), (0, .ref (gad G 31)), (1, .int (nI (ix x))), (2, .int (nI (ix y))), (3, .int (bI (inB x n && inB y g))), (4, .int (nI (ix (σ 35 (ix x))))), (5, .int (bI (ldB (σ 32) (ix (σ 35 (ix x))) (ix y))))]) hx hb dX6_pass_122 hl (by decide) rfl (fun ls hl => ?_)
              refine lv_aload_n hx hb dX6_pass_124 rfl (lv_at hl 1 rfl) ?_
              refine lv_iload_n hx hb dX6_pass_125 rfl (lv_at hl 4 rfl) ?_
              refine lv_b_ne (tgt := 133) hx hb dX6_pass_126 (by decide) (fun c_13 => ?_) (fun c_13 => ?_)
              · skip
                refine lv_iload hx hb dX6_pass_133 (lv_at hl 0 rfl) ?_
                refine lv_b_eq (tgt := 142) hx hb dX6_pass_135 (by decide) (fun c_14 => ?_) (fun c_14 => ?_)
                · skip
                  refine lv_iconst (v := 2) hx hb dX6_pass_142 (by decide) ?_
                  refine lv_rep0 (x := 2) (y := nI 2) rfl ?_
                  refine rCallI (C := RX6) (As := [.int (nI 2)]) (rest := []) ⟨hx, hb, hml, hown, hts⟩ fx hw (kX6_fails l G hG hF σ 2 (by omega)) (cwV 1 hts gX6_pass_X6_fails rfl rfl rfl (by decide +kernel) ⟨Nat.le_of_ble_eq_true rfl, Nat.le_of_ble_eq_true rfl⟩) (hF.1 31 (by decide)) rfl rfl rfl rfl hl.1 rfl (Nat.le_of_ble_eq_true rfl) dX6_pass_143 ⟨Nat.zero_le _, Nat.zero_le _⟩ ?_
                  intro r_16 σ_17 H locs p_15 hw
                  obtain ⟨er_16, eσ_17⟩ := p_15
                  have er_16 := er_16.symm; subst er_16
                  refine lv_b_eq (tgt := 151) hx hb dX6_pass_146 (by decide) (fun c_18 => ?_) (fun c_18 => ?_)
                  · skip
                    exact absurd c_18 (by decide)
                  · skip
                    refine lv_iconst (v := 0) hx hb dX6_pass_149 (by decide) ?_
                    subst eσ_17
                    exact rRetI hx hb hr hw (by first | exact Or.inr (Or.inl ⟨by assumption, rfl⟩) | exact Or.inr (Or.inr ⟨by assumption, by assumption, rfl⟩)) hlocks dX6_pass_150
                · skip
                  refine lv_iconst (v := 0) hx hb dX6_pass_138 (by decide) ?_
                  refine lv_goto (tgt := 143) hx hb dX6_pass_139 (by decide) ?_
                  refine lv_rep0 (x := 0) (y := nI 0) rfl ?_
                  refine rCallI (C := RX6) (As := [.int (nI 0)]) (rest := []) ⟨hx, hb, hml, hown, hts⟩ fx hw (kX6_fails l G hG hF σ 0 (by omega)) (cwV 1 hts gX6_pass_X6_fails rfl rfl rfl (by decide +kernel) ⟨Nat.le_of_ble_eq_true rfl, Nat.le_of_ble_eq_true rfl⟩) (hF.1 31 (by decide)) rfl rfl rfl rfl hl.1 rfl (Nat.le_of_ble_eq_true rfl) dX6_pass_143 ⟨Nat.zero_le _, Nat.zero_le _⟩ ?_
                  intro r_20 σ_21 H locs p_19 hw
                  obtain ⟨er_20, eσ_21⟩ := p_19
                  have er_20 := er_20.symm; subst er_20
                  refine lv_b_eq (tgt := 151) hx hb dX6_pass_146 (by decide) (fun c_22 => ?_) (fun c_22 => ?_)
                  · skip
                    refine lv_aload_n hx hb dX6_pass_151 rfl (lv_at hl 1 rfl) ?_
                    refine lv_dup hx hb dX6_pass_152 rfl ?_
                    refine rGet (v := .int (σ_21 31 11)) (C := RX6) (T := TX6) (N := 26) hx hb fx hown hts hin hw 31 (hF.1 31 (by decide)) rfl rfl 11 (by decide) (hts (.fieldLink RX6 98 "LeaguewheelModel" "passings" "I") (by decide +kernel)) (fun _ h9 => h9) rfl dX6_pass_153 ?_
                    refine lv_rep0 (x := (σ_21 31 11)) (y := nI z) (by subst_vars; exact hmz) ?_
                    refine lv_iconst (v := 1) hx hb dX6_pass_156 (by decide) ?_
                    refine lv_rep0 (x := 1) (y := nI 1) rfl ?_
                    refine lv_iadd hx hb dX6_pass_157 ?_
                    refine lv_rep0 (x := ((nI z) + (nI 1))) (y := nI (z + 1)) (nI_add _ _) ?_
                    refine rPut (v := (nI (z + 1))) (ty := .int) (C := RX6) (T := TX6) (N := 26) hx hb fx hown hts hin tyX6 tyX6_ok nmX6 hw 31 (hF.1 31 (by decide)) rfl rfl 11 (by decide) (hts (.fieldLink RX6 98 "LeaguewheelModel" "passings" "I") (by decide +kernel)) (fun _ h9 => h9) rfl (by decide +kernel) rfl rfl (Nat.le_of_ble_eq_true rfl) rfl dX6_pass_158 (fun H locs hw => ?_)
                    obtain ⟨σ_23, eσ_23⟩ : ∃ w9, w9 = upA σ_21 31 (upd (σ_21 31) 11 (nI (z + 1))) := ⟨_, rfl⟩
                    rw [← eσ_23] at hw
                    refine lv_aload_n hx hb dX6_pass_161 rfl (lv_at hl 1 rfl) ?_
                    refine rGet (v := .ref (gad G 39)) (C := RX6) (T := TX6) (N := 26) hx hb fx hown hts hin hw 31 (hF.1 31 (by decide)) rfl rfl 17 (by decide) (hts (.fieldLink RX6 35 "LeaguewheelModel" "last" "[I") (by decide +kernel)) (fun _ h9 => h9) rfl dX6_pass_162 ?_
                    refine lv_iload_n hx hb dX6_pass_165 rfl (lv_at hl 2 rfl) ?_
                    refine lv_aload_n hx hb dX6_pass_166 rfl (lv_at hl 1 rfl) ?_
                    refine rGet (v := .int (σ_23 31 11)) (C := RX6) (T := TX6) (N := 26) hx hb fx hown hts hin hw 31 (hF.1 31 (by decide)) rfl rfl 11 (by decide) (hts (.fieldLink RX6 98 "LeaguewheelModel" "passings" "I") (by decide +kernel)) (fun _ h9 => h9) rfl dX6_pass_167 ?_
                    refine lv_rep0 (x := (σ_23 31 11)) (y := (nI (z + 1))) (by subst_vars; simp [upA_n, upA_s, upA_upA, upA_self, upd_self, upd_upd, pk_us, bI]) ?_
                    refine rAst (x := (nI (z + 1))) hx hb fx hw 39 (hF.1 39 (by decide)) hF.2.1 (fun _ => rfl) (ix x) rfl (by omega) (by decide) dX6_pass_170 (fun H locs hw => ?_)
                    obtain ⟨σ_24, eσ_24⟩ : ∃ w9, w9 = upA σ_23 39 (upd (σ_23 39) (ix x) (nI (z + 1))) := ⟨_, rfl⟩
                    rw [← eσ_24] at hw
                    refine lv_aload_n hx hb dX6_pass_171 rfl (lv_at hl 1 rfl) ?_
                    refine rGet (v := .ref (gad G 35)) (C := RX6) (T := TX6) (N := 26) hx hb fx hown hts hin hw 31 (hF.1 31 (by decide)) rfl rfl 13 (by decide) (hts (.fieldLink RX6 23 "LeaguewheelModel" "gate" "[I") (by decide +kernel)) (fun _ h9 => h9) rfl dX6_pass_172 ?_
                    refine lv_iload_n hx hb dX6_pass_175 rfl (lv_at hl 2 rfl) ?_
                    refine lv_iload_n hx hb dX6_pass_176 rfl (lv_at hl 3 rfl) ?_
                    refine rAst (x := (nI (ix y))) hx hb fx hw 35 (hF.1 35 (by decide)) hF.2.1 (fun _ => rfl) (ix x) rfl (by omega) (by decide) dX6_pass_177 (fun H locs hw => ?_)
                    obtain ⟨σ_25, eσ_25⟩ : ∃ w9, w9 = upA σ_24 35 (upd (σ_24 35) (ix x) (nI (ix y))) := ⟨_, rfl⟩
                    rw [← eσ_25] at hw
                    refine lv_iload hx hb dX6_pass_178 (lv_at hl 6 rfl) ?_
                    refine lv_b_ne (tgt := 219) hx hb dX6_pass_180 (by decide) (fun c_26 => ?_) (fun c_26 => ?_)
                    · skip
                      refine lv_iload_n hx hb dX6_pass_219 rfl (lv_at hl 3 rfl) ?_
                      refine lv_if_ne (tgt := 229) hx hb dX6_pass_220 (by decide) (fun c_27 => ?_) (fun c_27 => ?_)
                      · skip
                        have c_27 : ¬ (ix y) = 0 := n0_net (by omega) c_27
                        refine lv_aload_n hx hb dX6_pass_229 rfl (lv_at hl 1 rfl) ?_
                        refine rGet (v := .ref (gad G 38)) (C := RX6) (T := TX6) (N := 26) hx hb fx hown hts hin hw 31 (hF.1 31 (by decide)) rfl rfl 16 (by decide) (hts (.fieldLink RX6 32 "LeaguewheelModel" "passed" "[I") (by decide +kernel)) (fun _ h9 => h9) rfl dX6_pass_230 ?_
                        refine lv_iload_n hx hb dX6_pass_233 rfl (lv_at hl 2 rfl) ?_
                        refine lv_dup2_11 hx hb dX6_pass_234 rfl rfl ?_
                        refine rAld hx hb fx hw 38 (hF.1 38 (by decide)) hF.2.1 (fun _ => rfl) (ix x) rfl (by omega) (by decide) dX6_pass_235 ?_
                        refine lv_aload_n hx hb dX6_pass_236 rfl (lv_at hl 1 rfl) ?_
                        refine rGet (v := .ref (gad G 37)) (C := RX6) (T := TX6) (N := 26) hx hb fx hown hts hin hw 31 (hF.1 31 (by decide)) rfl rfl 15 (by decide) (hts (.fieldLink RX6 29 "LeaguewheelModel" "debt" "[I") (by decide +kernel)) (fun _ h9 => h9) rfl dX6_pass_237 ?_
                        refine lv_iload_n hx hb dX6_pass_240 rfl (lv_at hl 2 rfl) ?_
                        refine rAld hx hb fx hw 37 (hF.1 37 (by decide)) hF.2.1 (fun _ => rfl) (ix x) rfl (by omega) (by decide) dX6_pass_241 ?_
                        refine lv_rep0 (x := (σ_25 37 (ix x))) (y := (σ 37 (ix x))) (by subst_vars; rfl) ?_
                        refine lv_if_ne (tgt := 263) hx hb dX6_pass_242 (by decide) (fun c_28 => ?_) (fun c_28 => ?_)
                        · skip
                          refine lv_iconst (v := 0) hx hb dX6_pass_263 (by decide) ?_
                          refine lv_rep0 (x := 0) (y := (if σ 37 (ix x) = 0 ∧ nedB σ (ix y) = true then (1 : Int32) <<< (nI (ix y) &&& 31) else 0)) (by first | (rw [if_neg (fun h9 => c_28 h9.1)]; done) | (rw [if_neg (fun h9 => c_28 (of_decide_eq_true h9.2))]; done) | (rw [if_pos ⟨by assumption, decide_eq_true c_28⟩]; done)) ?_
                          refine lv_ior hx hb dX6_pass_264 ?_
                          refine rAst (x := ((σ_25 38 (ix x)) ||| (if σ 37 (ix x) = 0 ∧ nedB σ (ix y) = true then (1 : Int32) <<< (nI (ix y) &&& 31) else 0))) hx hb fx hw 38 (hF.1 38 (by decide)) hF.2.1 (fun _ => rfl) (ix x) rfl (by omega) (by decide) dX6_pass_265 (fun H locs hw => ?_)
                          obtain ⟨σ_29, eσ_29⟩ : ∃ w9, w9 = upA σ_25 38 (upd (σ_25 38) (ix x) ((σ_25 38 (ix x)) ||| (if σ 37 (ix x) = 0 ∧ nedB σ (ix y) = true then (1 : Int32) <<< (nI (ix y) &&& 31) else 0))) := ⟨_, rfl⟩
                          rw [← eσ_29] at hw
                          refine lv_iconst (v := 0) hx hb dX6_pass_266 (by decide) ?_
                          subst eσ_29
                          subst eσ_25
                          subst eσ_24
                          subst eσ_23
                          subst eσ_21
                          exact rRetI hx hb hr hw (by exact Or.inl ⟨by assumption, by assumption, by rw [mpR_r (by assumption) (by assumption)], by rw [mpS_r (by assumption) (by assumption)]; rfl⟩) hlocks dX6_pass_267
                        · skip
                          refine lv_aload_n hx hb dX6_pass_245 rfl (lv_at hl 1 rfl) ?_
                          refine rGet (v := .int (σ_25 31 1)) (C := RX6) (T := TX6) (N := 26) hx hb fx hown hts hin hw 31 (hF.1 31 (by decide)) rfl rfl 1 (by decide) (hts (.fieldLink RX6 74 "LeaguewheelModel" "needed" "I") (by decide +kernel)) (fun _ h9 => h9) rfl dX6_pass_246 ?_
                          refine lv_rep0 (x := (σ_25 31 1)) (y := (σ 31 1)) (by subst_vars; rfl) ?_
                          refine lv_iload_n hx hb dX6_pass_249 rfl (lv_at hl 3 rfl) ?_
                          refine lv_ishr hx hb dX6_pass_250 ?_
                          refine lv_iconst (v := 1) hx hb dX6_pass_251 (by decide) ?_
                          refine lv_iand hx hb dX6_pass_252 ?_
                          refine lv_iconst (v := 1) hx hb dX6_pass_253 (by decide) ?_
                          refine lv_icmp_ne (tgt := 263) hx hb dX6_pass_254 (by decide) (fun c_30 => ?_) (fun c_30 => ?_)
                          · skip
                            refine lv_iconst (v := 0) hx hb dX6_pass_263 (by decide) ?_
                            refine lv_rep0 (x := 0) (y := (if σ 37 (ix x) = 0 ∧ nedB σ (ix y) = true then (1 : Int32) <<< (nI (ix y) &&& 31) else 0)) (by first | (rw [if_neg (fun h9 => c_30 h9.1)]; done) | (rw [if_neg (fun h9 => c_30 (of_decide_eq_true h9.2))]; done) | (rw [if_pos ⟨by assumption, decide_eq_true c_30⟩]; done)) ?_
                            refine lv_ior hx hb dX6_pass_264 ?_
                            refine rAst (x := ((σ_25 38 (ix x)) ||| (if σ 37 (ix x) = 0 ∧ nedB σ (ix y) = true then (1 : Int32) <<< (nI (ix y) &&& 31) else 0))) hx hb fx hw 38 (hF.1 38 (by decide)) hF.2.1 (fun _ => rfl) (ix x) rfl (by omega) (by decide) dX6_pass_265 (fun H locs hw => ?_)
                            obtain ⟨σ_31, eσ_31⟩ : ∃ w9, w9 = upA σ_25 38 (upd (σ_25 38) (ix x) ((σ_25 38 (ix x)) ||| (if σ 37 (ix x) = 0 ∧ nedB σ (ix y) = true then (1 : Int32) <<< (nI (ix y) &&& 31) else 0))) := ⟨_, rfl⟩
                            rw [← eσ_31] at hw
                            refine lv_iconst (v := 0) hx hb dX6_pass_266 (by decide) ?_
                            subst eσ_31
                            subst eσ_25
                            subst eσ_24
                            subst eσ_23
                            subst eσ_21
                            exact rRetI hx hb hr hw (by exact Or.inl ⟨by assumption, by assumption, by rw [mpR_r (by assumption) (by assumption)], by rw [mpS_r (by assumption) (by assumption)]; rfl⟩) hlocks dX6_pass_267
                          · skip
                            refine lv_iconst (v := 1) hx hb dX6_pass_257 (by decide) ?_
                            refine lv_iload_n hx hb dX6_pass_258 rfl (lv_at hl 3 rfl) ?_
                            refine lv_ishl hx hb dX6_pass_259 ?_
                            refine lv_goto (tgt := 264) hx hb dX6_pass_260 (by decide) ?_
                            refine lv_rep0 (x := (1 <<< ((nI (ix y)) &&& 31))) (y := (if σ 37 (ix x) = 0 ∧ nedB σ (ix y) = true then (1 : Int32) <<< (nI (ix y) &&& 31) else 0)) (by first | (rw [if_neg (fun h9 => c_30 h9.1)]; done) | (rw [if_neg (fun h9 => c_30 (of_decide_eq_true h9.2))]; done) | (rw [if_pos ⟨by assumption, decide_eq_true c_30⟩]; done)) ?_
                            refine lv_ior hx hb dX6_pass_264 ?_
                            refine rAst (x := ((σ_25 38 (ix x)) ||| (if σ 37 (ix x) = 0 ∧ nedB σ (ix y) = true then (1 : Int32) <<< (nI (ix y) &&& 31) else 0))) hx hb fx hw 38 (hF.1 38 (by decide)) hF.2.1 (fun _ => rfl) (ix x) rfl (by omega) (by decide) dX6_pass_265 (fun H locs hw => ?_)
                            obtain ⟨σ_32, eσ_32⟩ : ∃ w9, w9 = upA σ_25 38 (upd (σ_25 38) (ix x) ((σ_25 38 (ix x)) ||| (if σ 37 (ix x) = 0 ∧ nedB σ (ix y) = true then (1 : Int32) <<< (nI (ix y) &&& 31) else 0))) := ⟨_, rfl⟩
                            rw [← eσ_32] at hw
                            refine lv_iconst (v := 0) hx hb dX6_pass_266 (by decide) ?_
                            subst eσ_32
                            subst eσ_25
                            subst eσ_24
                            subst eσ_23
                            subst eσ_21
                            exact rRetI hx hb hr hw (by exact Or.inl ⟨by assumption, by assumption, by rw [mpR_r (by assumption) (by assumption)], by rw [mpS_r (by assumption) (by assumption)]; rfl⟩) hlocks dX6_pass_267
                      · skip
                        have c_27 : (ix y) = 0 := n0_nef (by omega) c_27
                        refine lv_aload_n hx hb dX6_pass_223 rfl (lv_at hl 1 rfl) ?_
                        refine lv_iload_n hx hb dX6_pass_224 rfl (lv_at hl 2 rfl) ?_
                        refine rCallI (C := RX6) (As := [.int (nI (ix x))]) (rest := []) ⟨hx, hb, hml, hown, hts⟩ fx hw (kX6_crosses l G hG hF σ_25 ((ix x)) (by omega)) (cwV 1 hts gX6_pass_X6_crosses rfl rfl rfl (by decide +kernel) ⟨Nat.le_of_ble_eq_true rfl, Nat.le_of_ble_eq_true rfl⟩) (hF.1 31 (by decide)) rfl rfl rfl rfl hl.1 rfl (Nat.le_of_ble_eq_true rfl) dX6_pass_225 ⟨Nat.zero_le _, Nat.zero_le _⟩ ?_
                        intro r_34 σ_35 H locs p_33 hw
                        obtain ⟨er_34, eσ_35⟩ := p_33
                        have er_34 := er_34.symm; subst er_34
                        subst eσ_35
                        subst eσ_25
                        subst eσ_24
                        subst eσ_23
                        subst eσ_21
                        exact rRetI hx hb hr hw (by exact Or.inl ⟨by assumption, by assumption, by rw [mpR_c (by assumption) c_27]; rfl, by rw [mpS_c (by assumption) c_27]; rfl⟩) hlocks dX6_pass_228
                    · skip
                      refine lv_aload_n hx hb dX6_pass_183 rfl (lv_at hl 1 rfl) ?_
                      refine rGet (v := .ref (gad G 37)) (C := RX6) (T := TX6) (N := 26) hx hb fx hown hts hin hw 31 (hF.1 31 (by decide)) rfl rfl 15 (by decide) (hts (.fieldLink RX6 29 "LeaguewheelModel" "debt" "[I") (by decide +kernel)) (fun _ h9 => h9) rfl dX6_pass_184 ?_
                      refine lv_iload_n hx hb dX6_pass_187 rfl (lv_at hl 2 rfl) ?_
                      refine lv_dup2_11 hx hb dX6_pass_188 rfl rfl ?_
                      refine rAld hx hb fx hw 37 (hF.1 37 (by decide)) hF.2.1 (fun _ => rfl) (ix x) rfl (by omega) (by decide) dX6_pass_189 ?_
                      refine lv_iload hx hb dX6_pass_190 (lv_at hl 5 rfl) ?_
                      refine lv_if_ne (tgt := 199) hx hb dX6_pass_192 (by decide) (fun c_36 => ?_) (fun c_36 => ?_)
                      · skip
                        have c_36 : ¬ (ix (σ 35 (ix x))) = 0 := n0_net (by omega) c_36
                        refine lv_iconst (v := 0) hx hb dX6_pass_199 (by decide) ?_
                        refine lv_rep0 (x := 0) (y := (if (ix (σ 35 (ix x))) = 0 then 1 else 0)) (by first | rw [if_pos c_36] | rw [if_neg c_36]) ?_
                        refine lv_iadd hx hb dX6_pass_200 ?_
                        refine rAst (x := ((σ_25 37 (ix x)) + (if (ix (σ 35 (ix x))) = 0 then 1 else 0))) hx hb fx hw 37 (hF.1 37 (by decide)) hF.2.1 (fun _ => rfl) (ix x) rfl (by omega) (by decide) dX6_pass_201 (fun H locs hw => ?_)
                        obtain ⟨σ_37, eσ_37⟩ : ∃ w9, w9 = upA σ_25 37 (upd (σ_25 37) (ix x) ((σ_25 37 (ix x)) + (if (ix (σ 35 (ix x))) = 0 then 1 else 0))) := ⟨_, rfl⟩
                        rw [← eσ_37] at hw
                        refine lv_aload_n hx hb dX6_pass_202 rfl (lv_at hl 1 rfl) ?_
                        refine rGet (v := .ref (gad G 38)) (C := RX6) (T := TX6) (N := 26) hx hb fx hown hts hin hw 31 (hF.1 31 (by decide)) rfl rfl 16 (by decide) (hts (.fieldLink RX6 32 "LeaguewheelModel" "passed" "[I") (by decide +kernel)) (fun _ h9 => h9) rfl dX6_pass_203 ?_
                        refine lv_iload_n hx hb dX6_pass_206 rfl (lv_at hl 2 rfl) ?_
                        refine lv_dup2_11 hx hb dX6_pass_207 rfl rfl ?_
                        refine rAld hx hb fx hw 38 (hF.1 38 (by decide)) hF.2.1 (fun _ => rfl) (ix x) rfl (by omega) (by decide) dX6_pass_208 ?_
                        refine lv_iconst (v := 1) hx hb dX6_pass_209 (by decide) ?_
                        refine lv_iload hx hb dX6_pass_210 (lv_at hl 5 rfl) ?_
                        refine lv_ishl hx hb dX6_pass_212 ?_
                        refine lv_iconst (v := (-1)) hx hb dX6_pass_213 (by decide) ?_
                        refine lv_ixor hx hb dX6_pass_214 ?_
                        refine lv_iand hx hb dX6_pass_215 ?_
                        refine rAst (x := ((σ_37 38 (ix x)) &&& ((1 <<< ((nI (ix (σ 35 (ix x)))) &&& 31)) ^^^ (-1)))) hx hb fx hw 38 (hF.1 38 (by decide)) hF.2.1 (fun _ => rfl) (ix x) rfl (by omega) (by decide) dX6_pass_216 (fun H locs hw => ?_)
                        obtain ⟨σ_38, eσ_38⟩ : ∃ w9, w9 = upA σ_37 38 (upd (σ_37 38) (ix x) ((σ_37 38 (ix x)) &&& ((1 <<< ((nI (ix (σ 35 (ix x)))) &&& 31)) ^^^ (-1)))) := ⟨_, rfl⟩
                        rw [← eσ_38] at hw
                        refine lv_iconst (v := 3) hx hb dX6_pass_217 (by decide) ?_
                        subst eσ_38
                        subst eσ_37
                        subst eσ_25
                        subst eσ_24
                        subst eσ_23
                        subst eσ_21
                        exact rRetI hx hb hr hw (by exact Or.inl ⟨by assumption, by assumption, by rw [mpR_b (by assumption)], by rw [mpS_b (by assumption)]; rfl⟩) hlocks dX6_pass_218
                      · skip
                        have c_36 : (ix (σ 35 (ix x))) = 0 := n0_nef (by omega) c_36
                        refine lv_iconst (v := 1) hx hb dX6_pass_195 (by decide) ?_
                        refine lv_goto (tgt := 200) hx hb dX6_pass_196 (by decide) ?_
                        refine lv_rep0 (x := 1) (y := (if (ix (σ 35 (ix x))) = 0 then 1 else 0)) (by first | rw [if_pos c_36] | rw [if_neg c_36]) ?_
                        refine lv_iadd hx hb dX6_pass_200 ?_
                        refine rAst (x := ((σ_25 37 (ix x)) + (if (ix (σ 35 (ix x))) = 0 then 1 else 0))) hx hb fx hw 37 (hF.1 37 (by decide)) hF.2.1 (fun _ => rfl) (ix x) rfl (by omega) (by decide) dX6_pass_201 (fun H locs hw => ?_)
                        obtain ⟨σ_39, eσ_39⟩ : ∃ w9, w9 = upA σ_25 37 (upd (σ_25 37) (ix x) ((σ_25 37 (ix x)) + (if (ix (σ 35 (ix x))) = 0 then 1 else 0))) := ⟨_, rfl⟩
                        rw [← eσ_39] at hw
                        refine lv_aload_n hx hb dX6_pass_202 rfl (lv_at hl 1 rfl) ?_
                        refine rGet (v := .ref (gad G 38)) (C := RX6) (T := TX6) (N := 26) hx hb fx hown hts hin hw 31 (hF.1 31 (by decide)) rfl rfl 16 (by decide) (hts (.fieldLink RX6 32 "LeaguewheelModel" "passed" "[I") (by decide +kernel)) (fun _ h9 => h9) rfl dX6_pass_203 ?_
                        refine lv_iload_n hx hb dX6_pass_206 rfl (lv_at hl 2 rfl) ?_
                        refine lv_dup2_11 hx hb dX6_pass_207 rfl rfl ?_
                        refine rAld hx hb fx hw 38 (hF.1 38 (by decide)) hF.2.1 (fun _ => rfl) (ix x) rfl (by omega) (by decide) dX6_pass_208 ?_
                        refine lv_iconst (v := 1) hx hb dX6_pass_209 (by decide) ?_
                        refine lv_iload hx hb dX6_pass_210 (lv_at hl 5 rfl) ?_
                        refine lv_ishl hx hb dX6_pass_212 ?_
                        refine lv_iconst (v := (-1)) hx hb dX6_pass_213 (by decide) ?_
                        refine lv_ixor hx hb dX6_pass_214 ?_
                        refine lv_iand hx hb dX6_pass_215 ?_
                        refine rAst (x := ((σ_39 38 (ix x)) &&& ((1 <<< ((nI (ix (σ 35 (ix x)))) &&& 31)) ^^^ (-1)))) hx hb fx hw 38 (hF.1 38 (by decide)) hF.2.1 (fun _ => rfl) (ix x) rfl (by omega) (by decide) dX6_pass_216 (fun H locs hw => ?_)
                        obtain ⟨σ_40, eσ_40⟩ : ∃ w9, w9 = upA σ_39 38 (upd (σ_39 38) (ix x) ((σ_39 38 (ix x)) &&& ((1 <<< ((nI (ix (σ 35 (ix x)))) &&& 31)) ^^^ (-1)))) := ⟨_, rfl⟩
                        rw [← eσ_40] at hw
                        refine lv_iconst (v := 3) hx hb dX6_pass_217 (by decide) ?_
                        subst eσ_40
                        subst eσ_39
                        subst eσ_25
                        subst eσ_24
                        subst eσ_23
                        subst eσ_21
                        exact rRetI hx hb hr hw (by exact Or.inl ⟨by assumption, by assumption, by rw [mpR_b (by assumption)], by rw [mpS_b (by assumption)]; rfl⟩) hlocks dX6_pass_218
                  · skip
                    exact absurd c_22 (by decide)
              · skip
                exact absurd (c_1.symm.trans c_13) (by decide)
            refine lv_aload_n hx hb dX6_pass_68 rfl (lv_at hl 1 rfl) ?_
            refine rGet (v := .int (σ 31 8)) (C := RX6) (T := TX6) (N := 26) hx hb fx hown hts hin hw 31 (hF.1 31 (by decide)) rfl rfl 8 (by decide) (hts (.fieldLink RX6 87 "LeaguewheelModel" "isOn" "Z") (by decide +kernel)) (fun _ h9 => h9) rfl dX6_pass_69 ?_
            refine lv_rep0 (x := (σ 31 8)) (y := (bI b)) (by exact hmo) ?_
            refine lv_b_eq (tgt := 121) hx hb dX6_pass_72 (by decide) (fun c_41 => ?_) (fun c_41 => ?_)
            · skip
              refine lv_iconst (v := 0) hx hb dX6_pass_121 (by decide) ?_
              have q_42 : 0 = (bI (mcan σ b (ix x) (ix y))) := by first | rfl | (first | (unfold mcan; rw [decide_eq_false c_41]; simp [bI]; done) | (unfold mcan; rw [show b = false from c_41]; simp [bI]; done) | (unfold mcan; rw [show b = true by assumption, decide_eq_true (show σ 40 (ix x) = 0 by assumption), decide_eq_true (show σ 43 (ix x) ≤ σ 31 10 by assumption)]; first | (rw [show (ldB (σ 32) (ix (σ 35 (ix x))) (ix y)) = true from c_41]; rfl) | (rw [show (ldB (σ 32) (ix (σ 35 (ix x))) (ix y)) = false by assumption, show ldB (σ 32) (ix y) (ix (σ 35 (ix x))) = true from by unfold ldB; rw [decide_eq_false c_41]; rfl]; rfl) | (rw [show (ldB (σ 32) (ix (σ 35 (ix x))) (ix y)) = false by assumption, show ldB (σ 32) (ix y) (ix (σ 35 (ix x))) = false from by unfold ldB; rw [decide_eq_true c_41]; rfl]; rfl)))
              refine lv_rep0 q_42 ?_
              exact lab_122   _ _ _ hw (lv_c (lv_at hl 1 rfl) (lv_c (lv_at hl 2 rfl) (lv_c (lv_at hl 3 rfl) (lv_c (lv_at hl 4 rfl) (lv_c (lv_at hl 5 rfl) (lv_c (lv_at hl 0 rfl) (lv_c0 hl)))))))
            · skip
              refine lv_aload_n hx hb dX6_pass_75 rfl (lv_at hl 1 rfl) ?_
              refine rGet (v := .ref (gad G 40)) (C := RX6) (T := TX6) (N := 26) hx hb fx hown hts hin hw 31 (hF.1 31 (by decide)) rfl rfl 18 (by decide) (hts (.fieldLink RX6 38 "LeaguewheelModel" "finish" "[I") (by decide +kernel)) (fun _ h9 => h9) rfl dX6_pass_76 ?_
              refine lv_iload_n hx hb dX6_pass_79 rfl (lv_at hl 2 rfl) ?_
              refine rAld hx hb fx hw 40 (hF.1 40 (by decide)) hF.2.1 (fun _ => rfl) (ix x) rfl (by omega) (by decide) dX6_pass_80 ?_
              refine lv_if_ne (tgt := 121) hx hb dX6_pass_81 (by decide) (fun c_43 => ?_) (fun c_43 => ?_)
              · skip
                refine lv_iconst (v := 0) hx hb dX6_pass_121 (by decide) ?_
                have q_44 : 0 = (bI (mcan σ b (ix x) (ix y))) := by first | rfl | (first | (unfold mcan; rw [decide_eq_false c_43]; simp [bI]; done) | (unfold mcan; rw [show b = false from c_43]; simp [bI]; done) | (unfold mcan; rw [show b = true by assumption, decide_eq_true (show σ 40 (ix x) = 0 by assumption), decide_eq_true (show σ 43 (ix x) ≤ σ 31 10 by assumption)]; first | (rw [show (ldB (σ 32) (ix (σ 35 (ix x))) (ix y)) = true from c_43]; rfl) | (rw [show (ldB (σ 32) (ix (σ 35 (ix x))) (ix y)) = false by assumption, show ldB (σ 32) (ix y) (ix (σ 35 (ix x))) = true from by unfold ldB; rw [decide_eq_false c_43]; rfl]; rfl) | (rw [show (ldB (σ 32) (ix (σ 35 (ix x))) (ix y)) = false by assumption, show ldB (σ 32) (ix y) (ix (σ 35 (ix x))) = false from by unfold ldB; rw [decide_eq_true c_43]; rfl]; rfl)))
                refine lv_rep0 q_44 ?_
                exact lab_122   _ _ _ hw (lv_c (lv_at hl 1 rfl) (lv_c (lv_at hl 2 rfl) (lv_c (lv_at hl 3 rfl) (lv_c (lv_at hl 4 rfl) (lv_c (lv_at hl 5 rfl) (lv_c (lv_at hl 0 rfl) (lv_c0 hl)))))))
              · skip
                refine lv_aload_n hx hb dX6_pass_84 rfl (lv_at hl 1 rfl) ?_
                refine rGet (v := .ref (gad G 43)) (C := RX6) (T := TX6) (N := 26) hx hb fx hown hts hin hw 31 (hF.1 31 (by decide)) rfl rfl 21 (by decide) (hts (.fieldLink RX6 48 "LeaguewheelModel" "until" "[I") (by decide +kernel)) (fun _ h9 => h9) rfl dX6_pass_85 ?_
                refine lv_iload_n hx hb dX6_pass_88 rfl (lv_at hl 2 rfl) ?_
                refine rAld hx hb fx hw 43 (hF.1 43 (by decide)) hF.2.1 (fun _ => rfl) (ix x) rfl (by omega) (by decide) dX6_pass_89 ?_
                refine lv_aload_n hx hb dX6_pass_90 rfl (lv_at hl 1 rfl) ?_
                refine rGet (v := .int (σ 31 10)) (C := RX6) (T := TX6) (N := 26) hx hb fx hown hts hin hw 31 (hF.1 31 (by decide)) rfl rfl 10 (by decide) (hts (.fieldLink RX6 104 "LeaguewheelModel" "time" "I") (by decide +kernel)) (fun _ h9 => h9) rfl dX6_pass_91 ?_
                refine lv_icmp_gt (tgt := 121) hx hb dX6_pass_94 (by decide) (fun c_45 => ?_) (fun c_45 => ?_)
                · skip
                  have c_45 := Int32.not_le.mpr c_45
                  refine lv_iconst (v := 0) hx hb dX6_pass_121 (by decide) ?_
                  have q_46 : 0 = (bI (mcan σ b (ix x) (ix y))) := by first | rfl | (first | (unfold mcan; rw [decide_eq_false c_45]; simp [bI]; done) | (unfold mcan; rw [show b = false from c_45]; simp [bI]; done) | (unfold mcan; rw [show b = true by assumption, decide_eq_true (show σ 40 (ix x) = 0 by assumption), decide_eq_true (show σ 43 (ix x) ≤ σ 31 10 by assumption)]; first | (rw [show (ldB (σ 32) (ix (σ 35 (ix x))) (ix y)) = true from c_45]; rfl) | (rw [show (ldB (σ 32) (ix (σ 35 (ix x))) (ix y)) = false by assumption, show ldB (σ 32) (ix y) (ix (σ 35 (ix x))) = true from by unfold ldB; rw [decide_eq_false c_45]; rfl]; rfl) | (rw [show (ldB (σ 32) (ix (σ 35 (ix x))) (ix y)) = false by assumption, show ldB (σ 32) (ix y) (ix (σ 35 (ix x))) = false from by unfold ldB; rw [decide_eq_true c_45]; rfl]; rfl)))
                  refine lv_rep0 q_46 ?_
                  exact lab_122   _ _ _ hw (lv_c (lv_at hl 1 rfl) (lv_c (lv_at hl 2 rfl) (lv_c (lv_at hl 3 rfl) (lv_c (lv_at hl 4 rfl) (lv_c (lv_at hl 5 rfl) (lv_c (lv_at hl 0 rfl) (lv_c0 hl)))))))
                · skip
                  have c_45 := Int32.not_lt.mp c_45
                  refine lv_iload hx hb dX6_pass_97 (lv_at hl 0 rfl) ?_
                  refine lv_b_ne (tgt := 117) hx hb dX6_pass_99 (by decide) (fun c_47 => ?_) (fun c_47 => ?_)
                  · skip
                    refine lv_iconst (v := 1) hx hb dX6_pass_117 (by decide) ?_
                    refine lv_goto (tgt := 122) hx hb dX6_pass_118 (by decide) ?_
                    have q_48 : 1 = (bI (mcan σ b (ix x) (ix y))) := by first | rfl | (first | (unfold mcan; rw [decide_eq_false c_47]; simp [bI]; done) | (unfold mcan; rw [show b = false from c_47]; simp [bI]; done) | (unfold mcan; rw [show b = true by assumption, decide_eq_true (show σ 40 (ix x) = 0 by assumption), decide_eq_true (show σ 43 (ix x) ≤ σ 31 10 by assumption)]; first | (rw [show (ldB (σ 32) (ix (σ 35 (ix x))) (ix y)) = true from c_47]; rfl) | (rw [show (ldB (σ 32) (ix (σ 35 (ix x))) (ix y)) = false by assumption, show ldB (σ 32) (ix y) (ix (σ 35 (ix x))) = true from by unfold ldB; rw [decide_eq_false c_47]; rfl]; rfl) | (rw [show (ldB (σ 32) (ix (σ 35 (ix x))) (ix y)) = false by assumption, show ldB (σ 32) (ix y) (ix (σ 35 (ix x))) = false from by unfold ldB; rw [decide_eq_true c_47]; rfl]; rfl)))
                    refine lv_rep0 q_48 ?_
                    exact lab_122   _ _ _ hw (lv_c (lv_at hl 1 rfl) (lv_c (lv_at hl 2 rfl) (lv_c (lv_at hl 3 rfl) (lv_c (lv_at hl 4 rfl) (lv_c (lv_at hl 5 rfl) (lv_c (lv_at hl 0 rfl) (lv_c0 hl)))))))
                  · skip
                    refine lv_aload_n hx hb dX6_pass_102 rfl (lv_at hl 1 rfl) ?_
                    refine rGet (v := .ref (gad G 32)) (C := RX6) (T := TX6) (N := 26) hx hb fx hown hts hin hw 31 (hF.1 31 (by decide)) rfl rfl 2 (by decide) (hts (.fieldLink RX6 13 "LeaguewheelModel" "length" "[I") (by decide +kernel)) (fun _ h9 => h9) rfl dX6_pass_103 ?_
                    refine lv_bipush (v := 12) hx hb dX6_pass_106 (by decide) ?_
                    refine lv_iload_n hx hb dX6_pass_108 rfl (lv_at hl 3 rfl) ?_
                    refine lv_rep1 (x := 12) (y := nI 12) rfl ?_
                    refine lv_imul hx hb dX6_pass_109 ?_
                    refine lv_rep0 (x := ((nI 12) * (nI (ix y)))) (y := nI (12 * (ix y))) (pk_mul _ _) ?_
                    refine lv_iload hx hb dX6_pass_110 (lv_at hl 5 rfl) ?_
                    refine lv_iadd hx hb dX6_pass_112 ?_
                    refine lv_rep0 (x := ((nI (12 * (ix y))) + (nI (ix (σ 35 (ix x)))))) (y := nI ((12 * (ix y)) + (ix (σ 35 (ix x))))) (nI_add _ _) ?_
                    refine lv_rep0 (x := (nI ((12 * (ix y)) + (ix (σ 35 (ix x)))))) (y := nI (ix y * 12 + (ix (σ 35 (ix x))))) (by rw [Nat.mul_comm 12]) ?_
                    refine rAld hx hb fx hw 32 (hF.1 32 (by decide)) hF.2.1 (fun _ => rfl) (ix y * 12 + (ix (σ 35 (ix x)))) rfl (by omega) (by decide) dX6_pass_113 ?_
                    refine lv_if_le (tgt := 121) hx hb dX6_pass_114 (by decide) (fun c_49 => ?_) (fun c_49 => ?_)
                    · skip
                      refine lv_iconst (v := 0) hx hb dX6_pass_121 (by decide) ?_
                      have q_50 : 0 = (bI (mcan σ b (ix x) (ix y))) := by first | rfl | (first | (unfold mcan; rw [decide_eq_false c_49]; simp [bI]; done) | (unfold mcan; rw [show b = false from c_49]; simp [bI]; done) | (unfold mcan; rw [show b = true by assumption, decide_eq_true (show σ 40 (ix x) = 0 by assumption), decide_eq_true (show σ 43 (ix x) ≤ σ 31 10 by assumption)]; first | (rw [show (ldB (σ 32) (ix (σ 35 (ix x))) (ix y)) = true from c_49]; rfl) | (rw [show (ldB (σ 32) (ix (σ 35 (ix x))) (ix y)) = false by assumption, show ldB (σ 32) (ix y) (ix (σ 35 (ix x))) = true from by unfold ldB; rw [decide_eq_false c_49]; rfl]; rfl) | (rw [show (ldB (σ 32) (ix (σ 35 (ix x))) (ix y)) = false by assumption, show ldB (σ 32) (ix y) (ix (σ 35 (ix x))) = false from by unfold ldB; rw [decide_eq_true c_49]; rfl]; rfl)))
                      refine lv_rep0 q_50 ?_
                      exact lab_122   _ _ _ hw (lv_c (lv_at hl 1 rfl) (lv_c (lv_at hl 2 rfl) (lv_c (lv_at hl 3 rfl) (lv_c (lv_at hl 4 rfl) (lv_c (lv_at hl 5 rfl) (lv_c (lv_at hl 0 rfl) (lv_c0 hl)))))))
                    · skip
                      refine lv_iconst (v := 1) hx hb dX6_pass_117 (by decide) ?_
                      refine lv_goto (tgt := 122) hx hb dX6_pass_118 (by decide) ?_
                      have q_51 : 1 = (bI (mcan σ b (ix x) (ix y))) := by first | rfl | (first | (unfold mcan; rw [decide_eq_false c_49]; simp [bI]; done) | (unfold mcan; rw [show b = false from c_49]; simp [bI]; done) | (unfold mcan; rw [show b = true by assumption, decide_eq_true (show σ 40 (ix x) = 0 by assumption), decide_eq_true (show σ 43 (ix x) ≤ σ 31 10 by assumption)]; first | (rw [show (ldB (σ 32) (ix (σ 35 (ix x))) (ix y)) = true from c_49]; rfl) | (rw [show (ldB (σ 32) (ix (σ 35 (ix x))) (ix y)) = false by assumption, show ldB (σ 32) (ix y) (ix (σ 35 (ix x))) = true from by unfold ldB; rw [decide_eq_false c_49]; rfl]; rfl) | (rw [show (ldB (σ 32) (ix (σ 35 (ix x))) (ix y)) = false by assumption, show ldB (σ 32) (ix y) (ix (σ 35 (ix x))) = false from by unfold ldB; rw [decide_eq_true c_49]; rfl]; rfl)))
                      refine lv_rep0 q_51 ?_
                      exact lab_122   _ _ _ hw (lv_c (lv_at hl 1 rfl) (lv_c (lv_at hl 2 rfl) (lv_c (lv_at hl 3 rfl) (lv_c (lv_at hl 4 rfl) (lv_c (lv_at hl 5 rfl) (lv_c (lv_at hl 0 rfl) (lv_c0 hl)))))))
        refine lv_aload_n hx hb dX6_pass_42 rfl (lv_at hl 2 rfl) ?_
        refine rGet (v := .ref (gad G 32)) (C := RX6) (T := TX6) (N := 26) hx hb fx hown hts hin hw 31 (hF.1 31 (by decide)) rfl rfl 2 (by decide) (hts (.fieldLink RX6 13 "LeaguewheelModel" "length" "[I") (by decide +kernel)) (fun _ h9 => h9) rfl dX6_pass_43 ?_
        refine lv_bipush (v := 12) hx hb dX6_pass_46 (by decide) ?_
        refine lv_iload hx hb dX6_pass_48 (lv_at hl 0 rfl) ?_
        refine lv_rep1 (x := 12) (y := nI 12) rfl ?_
        refine lv_imul hx hb dX6_pass_50 ?_
        refine lv_rep0 (x := ((nI 12) * (nI (ix (σ 35 (ix x)))))) (y := nI (12 * (ix (σ 35 (ix x))))) (pk_mul _ _) ?_
        refine lv_iload_n hx hb dX6_pass_51 rfl (lv_at hl 4 rfl) ?_
        refine lv_iadd hx hb dX6_pass_52 ?_
        refine lv_rep0 (x := ((nI (12 * (ix (σ 35 (ix x))))) + (nI (ix y)))) (y := nI ((12 * (ix (σ 35 (ix x)))) + (ix y))) (nI_add _ _) ?_
        refine lv_rep0 (x := (nI ((12 * (ix (σ 35 (ix x)))) + (ix y)))) (y := nI ((ix (σ 35 (ix x))) * 12 + ix y)) (by rw [Nat.mul_comm 12]) ?_
        refine rAld hx hb fx hw 32 (hF.1 32 (by decide)) hF.2.1 (fun _ => rfl) ((ix (σ 35 (ix x))) * 12 + ix y) rfl (by omega) (by decide) dX6_pass_53 ?_
        refine lv_if_le (tgt := 61) hx hb dX6_pass_54 (by decide) (fun c_52 => ?_) (fun c_52 => ?_)
        · skip
          refine lv_iconst (v := 0) hx hb dX6_pass_61 (by decide) ?_
          have q_53 : 0 = (bI (ldB (σ 32) (ix (σ 35 (ix x))) (ix y))) := by first | rfl | (unfold ldB; first | (rw [decide_eq_true c_52]; rfl) | (rw [decide_eq_false c_52]; rfl))
          refine lv_rep0 q_53 ?_
          exact lab_62   _ _ _ hw (lv_c (lv_at hl 2 rfl) (lv_c (lv_at hl 3 rfl) (lv_c (lv_at hl 4 rfl) (lv_c (lv_at hl 1 rfl) (lv_c (lv_at hl 0 rfl) (lv_c0 hl))))))
        · skip
          refine lv_iconst (v := 1) hx hb dX6_pass_57 (by decide) ?_
          refine lv_goto (tgt := 62) hx hb dX6_pass_58 (by decide) ?_
          have q_54 : 1 = (bI (ldB (σ 32) (ix (σ 35 (ix x))) (ix y))) := by first | rfl | (unfold ldB; first | (rw [decide_eq_true c_52]; rfl) | (rw [decide_eq_false c_52]; rfl))
          refine lv_rep0 q_54 ?_
          exact lab_62   _ _ _ hw (lv_c (lv_at hl 2 rfl) (lv_c (lv_at hl 3 rfl) (lv_c (lv_at hl 4 rfl) (lv_c (lv_at hl 1 rfl) (lv_c (lv_at hl 0 rfl) (lv_c0 hl))))))
  refine lv_aload_n hx hb dX6_pass_0 rfl (lv_at hl 0 rfl) ?_
  refine lv_iload_n hx hb dX6_pass_1 rfl (lv_at hl 1 rfl) ?_
  refine rCallI (C := RX6) (As := [.int x]) (rest := []) ⟨hx, hb, hml, hown, hts⟩ fx hw (kX6_isKart l G hG hF σ x n (by subst_vars; exact hmn) (by omega)) (cwV 1 hts gX6_pass_X6_isKart rfl rfl rfl (by decide +kernel) ⟨Nat.le_of_ble_eq_true rfl, Nat.le_of_ble_eq_true rfl⟩) (hF.1 31 (by decide)) rfl rfl rfl rfl hl.1 rfl (Nat.le_of_ble_eq_true rfl) dX6_pass_2 ⟨Nat.zero_le _, Nat.zero_le _⟩ ?_
  intro r_56 σ_57 H locs p_55 hw
  obtain ⟨er_56, eσ_57⟩ := p_55
  have er_56 := er_56.symm; subst er_56
  have eσ_57 := eσ_57.symm; subst eσ_57
  refine lv_b_eq (tgt := 20) hx hb dX6_pass_5 (by decide) (fun c_58 => ?_) (fun c_58 => ?_)
  · skip
    refine lv_iconst (v := 0) hx hb dX6_pass_20 (by decide) ?_
    have q_59 : 0 = (bI (inB x n && inB y g)) := by first | rfl | (simp [bI, c_58])
    refine lv_rep0 q_59 ?_
    exact lab_21   _ _ _ hw (lv_c (lv_at hl 0 rfl) (lv_c (lv_at hl 1 rfl) (lv_c (lv_at hl 2 rfl) (lv_c0 hl))))
  · skip
    refine lv_aload_n hx hb dX6_pass_8 rfl (lv_at hl 0 rfl) ?_
    refine lv_iload_n hx hb dX6_pass_9 rfl (lv_at hl 2 rfl) ?_
    refine rCallI (C := RX6) (As := [.int y]) (rest := []) ⟨hx, hb, hml, hown, hts⟩ fx hw (kX6_isGate l G hG hF σ y g (by subst_vars; exact hmg) (by omega)) (cwV 1 hts gX6_pass_X6_isGate rfl rfl rfl (by decide +kernel) ⟨Nat.le_of_ble_eq_true rfl, Nat.le_of_ble_eq_true rfl⟩) (hF.1 31 (by decide)) rfl rfl rfl rfl hl.1 rfl (Nat.le_of_ble_eq_true rfl) dX6_pass_10 ⟨Nat.zero_le _, Nat.zero_le _⟩ ?_
    intro r_61 σ_62 H locs p_60 hw
    obtain ⟨er_61, eσ_62⟩ := p_60
    have er_61 := er_61.symm; subst er_61
    have eσ_62 := eσ_62.symm; subst eσ_62
    refine lv_b_eq (tgt := 20) hx hb dX6_pass_13 (by decide) (fun c_63 => ?_) (fun c_63 => ?_)
    · skip
      refine lv_iconst (v := 0) hx hb dX6_pass_20 (by decide) ?_
      have q_64 : 0 = (bI (inB x n && inB y g)) := by first | rfl | (simp [bI, c_58, c_63])
      refine lv_rep0 q_64 ?_
      exact lab_21   _ _ _ hw (lv_c (lv_at hl 0 rfl) (lv_c (lv_at hl 1 rfl) (lv_c (lv_at hl 2 rfl) (lv_c0 hl))))
    · skip
      refine lv_iconst (v := 1) hx hb dX6_pass_16 (by decide) ?_
      refine lv_goto (tgt := 21) hx hb dX6_pass_17 (by decide) ?_
      have q_65 : 1 = (bI (inB x n && inB y g)) := by first | rfl | (simp [bI, c_58, c_63])
      refine lv_rep0 q_65 ?_
      exact lab_21   _ _ _ hw (lv_c (lv_at hl 0 rfl) (lv_c (lv_at hl 1 rfl) (lv_c (lv_at hl 2 rfl) (lv_c0 hl))))
