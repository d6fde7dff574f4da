def rmX6_end : Room := ({ frames := 3, cells := 0, slots := 0, locals := 72 } : Room)
set_option maxHeartbeats 4000000 in
set_option maxRecDepth 100000 in
theorem kX6_end (l : Launch) (G : Gx) (hG : gOk G) (hF : Full G) (σ : St) (g n sd e9 z : Nat) (b : Bool) (hMv : MIv σ g n sd b e9 z)  : CtI l yX6_end wsX6_end rmX6_end G σ [.ref (gad G 31)] (fun r σ' => (b = true ∧ r = mkA σ n 0 n ∧ σ' = meF (thr σ 0) n e9) ∨ (b = false ∧ σ' = thr σ 1)) := by
  refine bgMet (cc := cX6_end) (maxL := 5) (ret := (some .int)) (own := RX6) (by decide) rfl rfl hG (Nat.le_of_ble_eq_true rfl) rfl ?_
  intro p e s m args below meth c ls Bd hl
  obtain ⟨hx, hb, hr, hml, hts, hown, hlocks, fx, hw⟩ := Bd
  have hl : lv_has ls 5 [(0, .ref (gad G 31))] := hl
  have hin : ∀ w ∈ wsX60, w ∈ wsX6_end := by decide +kernel
  obtain ⟨⟨hmg, hmg1, hmg2⟩, ⟨hmn, hmn6⟩, ⟨hms, hms8⟩, ⟨hme, hme8⟩, hmo, ⟨hmz, hmz5⟩, hgm, hme9⟩ := id hMv
  have he8 := hme9
  refine lv_aload_n hx hb dX6_end_0 rfl (lv_at hl 0 rfl) ?_
  refine lv_aload_n hx hb dX6_end_1 rfl (lv_at hl 0 rfl) ?_
  refine rGet (v := .int (σ 31 8)) (C := RX6) (T := TX6) (N := 26) hx hb fx hown hts hin hw 31 (hF.1 31 (by decide)) rfl rfl 8 (by decide) (hts (.fieldLink RX6 87 "LeaguewheelModel" "isOn" "Z") (by decide +kernel)) (fun _ h9 => h9) rfl dX6_end_2 ?_
  refine lv_rep0 (x := (σ 31 8)) (y := (bI b)) (by exact hmo) ?_
  refine lv_b_eq (tgt := 12) hx hb dX6_end_5 (by decide) (fun c_1 => ?_) (fun c_1 => ?_)
  · skip
    refine lv_iconst (v := 1) hx hb dX6_end_12 (by decide) ?_
    refine lv_rep0 (x := 1) (y := nI 1) rfl ?_
    refine rCallI (C := RX6) (As := [.int (nI 1)]) (rest := []) ⟨hx, hb, hml, hown, hts⟩ fx hw (kX6_fails l G hG hF σ 1 (by omega)) (cwV 1 hts gX6_end_X6_fails rfl rfl rfl (by decide +kernel) ⟨Nat.le_of_ble_eq_true rfl, Nat.le_of_ble_eq_true rfl⟩) (hF.1 31 (by decide)) rfl rfl rfl rfl hl.1 rfl (Nat.le_of_ble_eq_true rfl) dX6_end_13 ⟨Nat.zero_le _, Nat.zero_le _⟩ ?_
    intro r_3 σ_4 H locs p_2 hw
    obtain ⟨er_3, eσ_4⟩ := p_2
    have er_3 := er_3.symm; subst er_3
    refine lv_b_eq (tgt := 21) hx hb dX6_end_16 (by decide) (fun c_5 => ?_) (fun c_5 => ?_)
    · skip
      exact absurd c_5 (by decide)
    · skip
      refine lv_iconst (v := 0) hx hb dX6_end_19 (by decide) ?_
      subst eσ_4
      exact rRetI hx hb hr hw (by exact Or.inr ⟨by assumption, rfl⟩) hlocks dX6_end_20
  · skip
    have he7 := hme9 c_1
    refine lv_iconst (v := 0) hx hb dX6_end_8 (by decide) ?_
    refine lv_goto (tgt := 13) hx hb dX6_end_9 (by decide) ?_
    refine lv_rep0 (x := 0) (y := nI 0) rfl ?_
    refine rCallI (C := RX6) (As := [.int (nI 0)]) (rest := []) ⟨hx, hb, hml, hown, hts⟩ fx hw (kX6_fails l G hG hF σ 0 (by omega)) (cwV 1 hts gX6_end_X6_fails rfl rfl rfl (by decide +kernel) ⟨Nat.le_of_ble_eq_true rfl, Nat.le_of_ble_eq_true rfl⟩) (hF.1 31 (by decide)) rfl rfl rfl rfl hl.1 rfl (Nat.le_of_ble_eq_true rfl) dX6_end_13 ⟨Nat.zero_le _, Nat.zero_le _⟩ ?_
    intro r_7 σ_8 H locs p_6 hw
    obtain ⟨er_7, eσ_8⟩ := p_6
    have er_7 := er_7.symm; subst er_7
    refine lv_b_eq (tgt := 21) hx hb dX6_end_16 (by decide) (fun c_9 => ?_) (fun c_9 => ?_)
    · skip
      refine lv_aload_n hx hb dX6_end_21 rfl (lv_at hl 0 rfl) ?_
      refine lv_iconst (v := 0) hx hb dX6_end_22 (by decide) ?_
      refine lv_rep0 (x := 0) (y := nI 0) rfl ?_
      refine rCallI (C := RX6) (As := [.int (nI 0)]) (rest := []) ⟨hx, hb, hml, hown, hts⟩ fx hw (kX6_atRank l G hG hF σ_8 0 (by omega) n (by subst_vars; exact hmn) (by omega) (by subst_vars; exact hgm)) (cwV 1 hts gX6_end_X6_atRank rfl rfl rfl (by decide +kernel) ⟨Nat.le_of_ble_eq_true rfl, Nat.le_of_ble_eq_true rfl⟩) (hF.1 31 (by decide)) rfl rfl rfl rfl hl.1 rfl (Nat.le_of_ble_eq_true rfl) dX6_end_23 ⟨Nat.zero_le _, Nat.zero_le _⟩ ?_
      intro r_11 σ_12 H locs p_10 hw
      obtain ⟨er_11, eσ_12⟩ := p_10
      have er_11 := er_11.symm; subst er_11
      have eσ_12 := eσ_12.symm; subst eσ_12
      refine lv_rep0 (x := (mkA σ_8 n 0 n)) (y := (mkA σ n 0 n)) (by subst_vars; exact mkA_cong rkM_thr n) ?_
      refine lv_istore_n (lv' := [(1, .int (mkA σ n 0 n)), (0, .ref (gad G 31))]) hx hb dX6_end_26 rfl hl (by decide) rfl (fun ls hl => ?_)
      refine lv_iconst (v := 0) hx hb dX6_end_27 (by decide) ?_
      refine lv_istore_n (lv' := [(2, .int 0), (1, .int (mkA σ n 0 n)), (0, .ref (gad G 31))]) hx hb dX6_end_28 rfl hl (by decide) rfl (fun ls hl => ?_)
      have lab_29 : ∀ (n9 : Nat), ∀ (i : Nat), n - i < n9 → i ≤ n → ∀ (H : Heap) (locs : List Loc) (ls : Array Slot), Wd G s (meS (thr σ 0) n e9 i) H locs → lv_has ls 5 [(0, .ref (gad G 31)), (1, .int (mkA σ n 0 n)), (2, .int (nI i))] → W p l e rmX6_end s m args below meth c H locs 0 0 (MQ below (va_Qi (fun r σ' => (b = true ∧ r = mkA σ n 0 n ∧ σ' = meF (thr σ 0) n e9) ∨ (b = false ∧ σ' = thr σ 1)) (BW G) (gA G)) args s 0 0 (gA G)) (F0 m 29 ls []) := by
        intro n9
        induction n9 with
        | zero => intro i hn9; exact absurd hn9 (Nat.not_lt_zero _)
        | succ n9 ih29 =>
          intro i hn9 h29_0 H locs ls hw hl
          obtain ⟨σ_13, eσ_13⟩ : ∃ w9, w9 = meS (thr σ 0) n e9 i := ⟨_, rfl⟩
          rw [← eσ_13] at hw
          refine lv_iload_n hx hb dX6_end_29 rfl (lv_at hl 2 rfl) ?_
          refine lv_aload_n hx hb dX6_end_30 rfl (lv_at hl 0 rfl) ?_
          refine rGet (v := .int (σ_13 31 4)) (C := RX6) (T := TX6) (N := 26) hx hb fx hown hts hin hw 31 (hF.1 31 (by decide)) rfl rfl 4 (by decide) (hts (.fieldLink RX6 64 "LeaguewheelModel" "karts" "I") (by decide +kernel)) (fun _ h9 => h9) rfl dX6_end_31 ?_
          refine lv_rep0 (x := (σ_13 31 4)) (y := nI n) (by subst_vars; exact (congrFun (meS_o (by decide) (by decide) _) 4).trans hmn) ?_
          refine lv_icmp_ge (tgt := 122) hx hb dX6_end_34 (by decide) (fun c_14 => ?_) (fun c_14 => ?_)
          · skip
            have c_14 : n ≤ i := (nI_leI (by omega) (by omega)).mp c_14
            refine lv_aload_n hx hb dX6_end_122 rfl (lv_at hl 0 rfl) ?_
            refine lv_dup hx hb dX6_end_123 rfl ?_
            refine rGet (v := .int (σ_13 31 7)) (C := RX6) (T := TX6) (N := 26) hx hb fx hown hts hin hw 31 (hF.1 31 (by decide)) rfl rfl 7 (by decide) (hts (.fieldLink RX6 138 "LeaguewheelModel" "ended" "I") (by decide +kernel)) (fun _ h9 => h9) rfl dX6_end_124 ?_
            refine lv_rep0 (x := (σ_13 31 7)) (y := nI e9) (by subst_vars; exact (congrFun (meS_o (by decide) (by decide) _) 7).trans hme) ?_
            refine lv_iconst (v := 1) hx hb dX6_end_127 (by decide) ?_
            refine lv_rep0 (x := 1) (y := nI 1) rfl ?_
            refine lv_iadd hx hb dX6_end_128 ?_
            refine lv_rep0 (x := ((nI e9) + (nI 1))) (y := nI (e9 + 1)) (nI_add _ _) ?_
            refine rPut (v := (nI (e9 + 1))) (ty := .int) (C := RX6) (T := TX6) (N := 26) hx hb fx hown hts hin tyX6 tyX6_ok nmX6 hw 31 (hF.1 31 (by decide)) rfl rfl 7 (by decide) (hts (.fieldLink RX6 138 "LeaguewheelModel" "ended" "I") (by decide +kernel)) (fun _ h9 => h9) rfl (by decide +kernel) rfl rfl (Nat.le_of_ble_eq_true rfl) rfl dX6_end_129 (fun H locs hw => ?_)
            obtain ⟨σ_15, eσ_15⟩ : ∃ w9, w9 = upA σ_13 31 (upd (σ_13 31) 7 (nI (e9 + 1))) := ⟨_, rfl⟩
            rw [← eσ_15] at hw
            refine lv_aload_n hx hb dX6_end_132 rfl (lv_at hl 0 rfl) ?_
            refine lv_iconst (v := 0) hx hb dX6_end_133 (by decide) ?_
            refine rPut (v := 0) (ty := .boolean) (C := RX6) (T := TX6) (N := 26) hx hb fx hown hts hin tyX6 tyX6_ok nmX6 hw 31 (hF.1 31 (by decide)) rfl rfl 8 (by decide) (hts (.fieldLink RX6 87 "LeaguewheelModel" "isOn" "Z") (by decide +kernel)) (fun _ h9 => h9) rfl (by decide +kernel) (by decide) rfl (Nat.le_of_ble_eq_true rfl) rfl dX6_end_134 (fun H locs hw => ?_)
            obtain ⟨σ_16, eσ_16⟩ : ∃ w9, w9 = upA σ_15 31 (upd (σ_15 31) 8 0) := ⟨_, rfl⟩
            rw [← eσ_16] at hw
            refine lv_iload_n hx hb dX6_end_137 rfl (lv_at hl 1 rfl) ?_
            subst eσ_16
            subst eσ_15
            subst eσ_13
            exact rRetI hx hb hr hw (by exact Or.inl ⟨by assumption, rfl, by rw [show n = i by omega, meF, upA_upA, upA_s, meS_o (c := 31) (by decide) (by decide)]⟩) hlocks dX6_end_138
          · skip
            have c_14 : ¬ n ≤ i := fun h9 => c_14 ((nI_leI (by omega) (by omega)).mpr h9)
            refine lv_aload_n hx hb dX6_end_37 rfl (lv_at hl 0 rfl) ?_
            refine lv_iload_n hx hb dX6_end_38 rfl (lv_at hl 2 rfl) ?_
            refine rCallI (C := RX6) (As := [.int (nI i)]) (rest := []) ⟨hx, hb, hml, hown, hts⟩ fx hw (kX6_ranked l G hG hF σ_13 i (by omega) n (by subst_vars; exact (congrFun (meS_o (by decide) (by decide) _) 4).trans hmn) (by omega) (by subst_vars; intro k9 hk9; rw [meS_o (by decide) (by decide)]; exact hgm k9 hk9)) (cwV 1 hts gX6_end_X6_ranked rfl rfl rfl (by decide +kernel) ⟨Nat.le_of_ble_eq_true rfl, Nat.le_of_ble_eq_true rfl⟩) (hF.1 31 (by decide)) rfl rfl rfl rfl hl.1 rfl (Nat.le_of_ble_eq_true rfl) dX6_end_39 ⟨Nat.zero_le _, Nat.zero_le _⟩ ?_
            intro r_18 σ_19 H locs p_17 hw
            obtain ⟨er_18, eσ_19⟩ := p_17
            have er_18 := er_18.symm; subst er_18
            have eσ_19 := eσ_19.symm; subst eσ_19
            have hr8 := rkM_lt (σ := σ_13) (n := n) (k := i) (by omega)
            refine lv_rep0 (x := (nI (rkM σ_13 n i))) (y := (nI (rkM (thr σ 0) n i))) (by subst_vars; exact congrArg nI (rkM_cong (σ := thr σ 0) (meS_o (by decide) (by decide) _) (meS_o (by decide) (by decide) _) (meS_o (by decide) (by decide) _) (meS_o (by decide) (by decide) _) (meS_o (by decide) (by decide) _) (meS_o (by decide) (by decide) _) n i)) ?_
            refine lv_rep0 (x := (nI (rkM (thr σ 0) n i))) (y := nI (rkM (thr σ 0) n i)) (by rfl) ?_
            have hr9 := rkM_lt (σ := thr σ 0) (n := n) (k := i) (by omega)
            refine lv_istore_n (lv' := [(3, .int (nI (rkM (thr σ 0) n i))), (0, .ref (gad G 31)), (1, .int (mkA σ n 0 n)), (2, .int (nI i))]) hx hb dX6_end_42 rfl hl (by decide) rfl (fun ls hl => ?_)
            have lab_72 : ∀ (H : Heap) (locs : List Loc) (ls : Array Slot), Wd G s σ_13 H locs → lv_has ls 5 [(0, .ref (gad G 31)), (1, .int (mkA σ n 0 n)), (2, .int (nI i)), (3, .int (nI (rkM (thr σ 0) n i)))] → W p l e rmX6_end s m args below meth c H locs 0 0 (MQ below (va_Qi (fun r σ' => (b = true ∧ r = mkA σ n 0 n ∧ σ' = meF (thr σ 0) n e9) ∨ (b = false ∧ σ' = thr σ 1)) (BW G) (gA G)) args s 0 0 (gA G)) (F0 m 72 ls [.int (bI (mgB σ i))]) := by
              intro   H locs ls hw hl
              refine lv_istore (lv' := [(4, .int (bI (mgB σ i))), (0, .ref (gad G 31)), (1, .int (mkA σ n 0 n)), (2, .int (nI i)), (3, .int (nI (rkM (thr σ 0) n i)))]) hx hb dX6_end_72 hl (by decide) rfl (fun ls hl => ?_)
              refine lv_aload_n hx hb dX6_end_74 rfl (lv_at hl 1 rfl) ?_
              refine rGet (v := .ref (gad G 44)) (C := RX6) (T := TX6) (N := 26) hx hb fx hown hts hin hw 31 (hF.1 31 (by decide)) rfl rfl 22 (by decide) (hts (.fieldLink RX6 51 "LeaguewheelModel" "place" "[I") (by decide +kernel)) (fun _ h9 => h9) rfl dX6_end_75 ?_
              refine lv_bipush (v := 6) hx hb dX6_end_78 (by decide) ?_
              refine lv_aload_n hx hb dX6_end_80 rfl (lv_at hl 1 rfl) ?_
              refine rGet (v := .int (σ_13 31 7)) (C := RX6) (T := TX6) (N := 26) hx hb fx hown hts hin hw 31 (hF.1 31 (by decide)) rfl rfl 7 (by decide) (hts (.fieldLink RX6 138 "LeaguewheelModel" "ended" "I") (by decide +kernel)) (fun _ h9 => h9) rfl dX6_end_81 ?_
              refine lv_rep0 (x := (σ_13 31 7)) (y := nI e9) (by subst_vars; exact (congrFun (meS_o (by decide) (by decide) _) 7).trans hme) ?_
              refine lv_rep1 (x := 6) (y := nI 6) rfl ?_
              refine lv_imul hx hb dX6_end_84 ?_
              refine lv_rep0 (x := ((nI 6) * (nI e9))) (y := nI (6 * e9)) (pk_mul _ _) ?_
              refine lv_iload_n hx hb dX6_end_85 rfl (lv_at hl 3 rfl) ?_
              refine lv_iadd hx hb dX6_end_86 ?_
              refine lv_rep0 (x := ((nI (6 * e9)) + (nI i))) (y := nI ((6 * e9) + i)) (nI_add _ _) ?_
              refine lv_rep0 (x := (nI ((6 * e9) + i))) (y := nI (e9 * 6 + i)) (by rw [Nat.mul_comm 6]) ?_
              refine lv_iload_n hx hb dX6_end_87 rfl (lv_at hl 4 rfl) ?_
              refine rAst (x := (nI (rkM (thr σ 0) n i))) hx hb fx hw 44 (hF.1 44 (by decide)) hF.2.1 (fun _ => rfl) (e9 * 6 + i) rfl (by omega) (by decide) dX6_end_88 (fun H locs hw => ?_)
              obtain ⟨σ_20, eσ_20⟩ : ∃ w9, w9 = upA σ_13 44 (upd (σ_13 44) (e9 * 6 + i) (nI (rkM (thr σ 0) n i))) := ⟨_, rfl⟩
              rw [← eσ_20] at hw
              refine lv_aload_n hx hb dX6_end_89 rfl (lv_at hl 1 rfl) ?_
              refine rGet (v := .ref (gad G 45)) (C := RX6) (T := TX6) (N := 26) hx hb fx hown hts hin hw 31 (hF.1 31 (by decide)) rfl rfl 23 (by decide) (hts (.fieldLink RX6 54 "LeaguewheelModel" "point" "[I") (by decide +kernel)) (fun _ h9 => h9) rfl dX6_end_90 ?_
              refine lv_bipush (v := 6) hx hb dX6_end_93 (by decide) ?_
              refine lv_aload_n hx hb dX6_end_95 rfl (lv_at hl 1 rfl) ?_
              refine rGet (v := .int (σ_20 31 7)) (C := RX6) (T := TX6) (N := 26) hx hb fx hown hts hin hw 31 (hF.1 31 (by decide)) rfl rfl 7 (by decide) (hts (.fieldLink RX6 138 "LeaguewheelModel" "ended" "I") (by decide +kernel)) (fun _ h9 => h9) rfl dX6_end_96 ?_
              refine lv_rep0 (x := (σ_20 31 7)) (y := nI e9) (by subst_vars; exact (congrFun (meS_o (by decide) (by decide) _) 7).trans hme) ?_
              refine lv_rep1 (x := 6) (y := nI 6) rfl ?_
              refine lv_imul hx hb dX6_end_99 ?_
              refine lv_rep0 (x := ((nI 6) * (nI e9))) (y := nI (6 * e9)) (pk_mul _ _) ?_
              refine lv_iload_n hx hb dX6_end_100 rfl (lv_at hl 3 rfl) ?_
              refine lv_iadd hx hb dX6_end_101 ?_
              refine lv_rep0 (x := ((nI (6 * e9)) + (nI i))) (y := nI ((6 * e9) + i)) (nI_add _ _) ?_
              refine lv_rep0 (x := (nI ((6 * e9) + i))) (y := nI (e9 * 6 + i)) (by rw [Nat.mul_comm 6]) ?_
              refine lv_iload hx hb dX6_end_102 (lv_at hl 0 rfl) ?_
              refine lv_b_eq (tgt := 114) hx hb dX6_end_104 (by decide) (fun c_21 => ?_) (fun c_21 => ?_)
              · skip
                refine lv_iconst (v := 0) hx hb dX6_end_114 (by decide) ?_
                refine lv_rep0 (x := 0) (y := (if mgB σ i = true then tPts (rkM (thr σ 0) n i) else 0)) (by first | (rw [if_pos c_21]; done) | (rw [if_neg (by rw [c_21]; decide)]; done)) ?_
                refine rAst (x := (if mgB σ i = true then tPts (rkM (thr σ 0) n i) else 0)) hx hb fx hw 45 (hF.1 45 (by decide)) hF.2.1 (fun _ => rfl) (e9 * 6 + i) rfl (by omega) (by decide) dX6_end_115 (fun H locs hw => ?_)
                obtain ⟨σ_22, eσ_22⟩ : ∃ w9, w9 = upA σ_20 45 (upd (σ_20 45) (e9 * 6 + i) (if mgB σ i = true then tPts (rkM (thr σ 0) n i) else 0)) := ⟨_, rfl⟩
                rw [← eσ_22] at hw
                refine lv_iinc (v := (nI (i + 1))) (lv' := [(2, .int (nI (i + 1))), (4, .int (bI (mgB σ i))), (0, .ref (gad G 31)), (1, .int (mkA σ n 0 n)), (3, .int (nI (rkM (thr σ 0) n i)))]) hx hb dX6_end_116 hl (k := 3) rfl (nI_1 _) (by decide) rfl (fun ls hl => ?_)
                refine lv_goto (tgt := 29) hx hb dX6_end_119 (by decide) ?_
                have q_23 : σ_22 = meS (thr σ 0) n e9 (i + 1) := by subst eσ_22 eσ_20 eσ_13; rfl
                rw [q_23] at hw
                exact ih29 (i + 1) (by omega) (by omega) _ _ _ hw (lv_c (lv_at hl 2 rfl) (lv_c (lv_at hl 3 rfl) (lv_c (lv_at hl 0 rfl) (lv_c0 hl))))
              · skip
                refine lv_iload_n hx hb dX6_end_107 rfl (lv_at hl 4 rfl) ?_
                refine rCallS (As := [.int (nI (rkM (thr σ 0) n i))]) (rest := [.int (nI (e9 * 6 + i)), .ref (gad G 45)]) ⟨hx, hb, hml, hown, hts⟩ fx hw (kX6_worth l G hG hF σ_20 ((rkM (thr σ 0) n i)) (by omega)) (va_cwS 1 hts gX6_end_X6_worth rfl rfl rfl (by decide +kernel) ⟨Nat.le_of_ble_eq_true rfl, Nat.le_of_ble_eq_true rfl⟩) rfl hl.1 rfl (Nat.le_of_ble_eq_true rfl) dX6_end_108 ⟨Nat.zero_le _, Nat.zero_le _⟩ ?_
                intro r_25 σ_26 H locs p_24 hw
                obtain ⟨er_25, eσ_26⟩ := p_24
                have er_25 := er_25.symm; subst er_25
                have eσ_26 := eσ_26.symm; subst eσ_26
                refine lv_goto (tgt := 115) hx hb dX6_end_111 (by decide) ?_
                refine lv_rep0 (x := (tPts (rkM (thr σ 0) n i))) (y := (if mgB σ i = true then tPts (rkM (thr σ 0) n i) else 0)) (by first | (rw [if_pos c_21]; done) | (rw [if_neg (by rw [c_21]; decide)]; done)) ?_
                refine rAst (x := (if mgB σ i = true then tPts (rkM (thr σ 0) n i) else 0)) hx hb fx hw 45 (hF.1 45 (by decide)) hF.2.1 (fun _ => rfl) (e9 * 6 + i) rfl (by omega) (by decide) dX6_end_115 (fun H locs hw => ?_)
                obtain ⟨σ_27, eσ_27⟩ : ∃ w9, w9 = upA σ_20 45 (upd (σ_20 45) (e9 * 6 + i) (if mgB σ i = true then tPts (rkM (thr σ 0) n i) else 0)) := ⟨_, rfl⟩
                rw [← eσ_27] at hw
                refine lv_iinc (v := (nI (i + 1))) (lv' := [(2, .int (nI (i + 1))), (4, .int (bI (mgB σ i))), (0, .ref (gad G 31)), (1, .int (mkA σ n 0 n)), (3, .int (nI (rkM (thr σ 0) n i)))]) hx hb dX6_end_116 hl (k := 3) rfl (nI_1 _) (by decide) rfl (fun ls hl => ?_)
                refine lv_goto (tgt := 29) hx hb dX6_end_119 (by decide) ?_
                have q_28 : σ_27 = meS (thr σ 0) n e9 (i + 1) := by subst eσ_27 eσ_20 eσ_13; rfl
                rw [q_28] at hw
                exact ih29 (i + 1) (by omega) (by omega) _ _ _ hw (lv_c (lv_at hl 2 rfl) (lv_c (lv_at hl 3 rfl) (lv_c (lv_at hl 0 rfl) (lv_c0 hl))))
            refine lv_aload_n hx hb dX6_end_43 rfl (lv_at hl 1 rfl) ?_
            refine rGet (v := .ref (gad G 40)) (C := RX6) (T := TX6) (N := 26) hx hb fx hown hts hin hw 31 (hF.1 31 (by decide)) rfl rfl 18 (by decide) (hts (.fieldLink RX6 38 "LeaguewheelModel" "finish" "[I") (by decide +kernel)) (fun _ h9 => h9) rfl dX6_end_44 ?_
            refine lv_iload_n hx hb dX6_end_47 rfl (lv_at hl 3 rfl) ?_
            refine rAld hx hb fx hw 40 (hF.1 40 (by decide)) hF.2.1 (fun _ => rfl) i rfl (by omega) (by decide) dX6_end_48 ?_
            refine lv_rep0 (x := (σ_13 40 i)) (y := (σ 40 i)) (by subst_vars; exact (congrFun (meS_o (σ := thr σ 0) (n := n) (e := e9) (c := 40) (by decide) (by decide) i) i)) ?_
            refine lv_if_gt (tgt := 67) hx hb dX6_end_49 (by decide) (fun c_29 => ?_) (fun c_29 => ?_)
            · skip
              have c_29 := Int32.not_le.mpr c_29
              refine lv_iconst (v := 1) hx hb dX6_end_67 (by decide) ?_
              refine lv_goto (tgt := 72) hx hb dX6_end_68 (by decide) ?_
              have q_30 : 1 = (bI (mgB σ i)) := by first | rfl | (unfold mgB; first | (rw [decide_eq_false (show ¬ σ 40 i ≤ 0 by assumption)]; rfl) | (rw [decide_eq_true (show σ 40 i ≤ 0 by assumption), decide_eq_true c_29]; rfl) | (rw [decide_eq_true (show σ 40 i ≤ 0 by assumption), decide_eq_false c_29]; rfl))
              refine lv_rep0 q_30 ?_
              exact lab_72   _ _ _ hw (lv_c (lv_at hl 1 rfl) (lv_c (lv_at hl 2 rfl) (lv_c (lv_at hl 3 rfl) (lv_c (lv_at hl 0 rfl) (lv_c0 hl)))))
            · skip
              have c_29 := Int32.not_lt.mp c_29
              refine lv_aload_n hx hb dX6_end_52 rfl (lv_at hl 1 rfl) ?_
              refine rGet (v := .ref (gad G 36)) (C := RX6) (T := TX6) (N := 26) hx hb fx hown hts hin hw 31 (hF.1 31 (by decide)) rfl rfl 14 (by decide) (hts (.fieldLink RX6 26 "LeaguewheelModel" "lap" "[I") (by decide +kernel)) (fun _ h9 => h9) rfl dX6_end_53 ?_
              refine lv_iload_n hx hb dX6_end_56 rfl (lv_at hl 3 rfl) ?_
              refine rAld hx hb fx hw 36 (hF.1 36 (by decide)) hF.2.1 (fun _ => rfl) i rfl (by omega) (by decide) dX6_end_57 ?_
              refine lv_aload_n hx hb dX6_end_58 rfl (lv_at hl 1 rfl) ?_
              refine rGet (v := .ref (gad G 37)) (C := RX6) (T := TX6) (N := 26) hx hb fx hown hts hin hw 31 (hF.1 31 (by decide)) rfl rfl 15 (by decide) (hts (.fieldLink RX6 29 "LeaguewheelModel" "debt" "[I") (by decide +kernel)) (fun _ h9 => h9) rfl dX6_end_59 ?_
              refine lv_iload_n hx hb dX6_end_62 rfl (lv_at hl 3 rfl) ?_
              refine rAld hx hb fx hw 37 (hF.1 37 (by decide)) hF.2.1 (fun _ => rfl) i rfl (by omega) (by decide) dX6_end_63 ?_
              refine lv_rep0 (x := (σ_13 37 i)) (y := (σ 37 i)) (by subst_vars; exact (congrFun (meS_o (σ := thr σ 0) (n := n) (e := e9) (c := 37) (by decide) (by decide) i) i)) ?_
              refine lv_rep1 (x := (σ_13 36 i)) (y := (σ 36 i)) (by subst_vars; exact (congrFun (meS_o (σ := thr σ 0) (n := n) (e := e9) (c := 36) (by decide) (by decide) i) i)) ?_
              refine lv_icmp_le (tgt := 71) hx hb dX6_end_64 (by decide) (fun c_31 => ?_) (fun c_31 => ?_)
              · skip
                refine lv_iconst (v := 0) hx hb dX6_end_71 (by decide) ?_
                have q_32 : 0 = (bI (mgB σ i)) := by first | rfl | (unfold mgB; first | (rw [decide_eq_false (show ¬ σ 40 i ≤ 0 by assumption)]; rfl) | (rw [decide_eq_true (show σ 40 i ≤ 0 by assumption), decide_eq_true c_31]; rfl) | (rw [decide_eq_true (show σ 40 i ≤ 0 by assumption), decide_eq_false c_31]; rfl))
                refine lv_rep0 q_32 ?_
                exact lab_72   _ _ _ hw (lv_c (lv_at hl 1 rfl) (lv_c (lv_at hl 2 rfl) (lv_c (lv_at hl 3 rfl) (lv_c (lv_at hl 0 rfl) (lv_c0 hl)))))
              · skip
                refine lv_iconst (v := 1) hx hb dX6_end_67 (by decide) ?_
                refine lv_goto (tgt := 72) hx hb dX6_end_68 (by decide) ?_
                have q_33 : 1 = (bI (mgB σ i)) := by first | rfl | (unfold mgB; first | (rw [decide_eq_false (show ¬ σ 40 i ≤ 0 by assumption)]; rfl) | (rw [decide_eq_true (show σ 40 i ≤ 0 by assumption), decide_eq_true c_31]; rfl) | (rw [decide_eq_true (show σ 40 i ≤ 0 by assumption), decide_eq_false c_31]; rfl))
                refine lv_rep0 q_33 ?_
                exact lab_72   _ _ _ hw (lv_c (lv_at hl 1 rfl) (lv_c (lv_at hl 2 rfl) (lv_c (lv_at hl 3 rfl) (lv_c (lv_at hl 0 rfl) (lv_c0 hl)))))
      have q_34 : 0 = (nI 0) := by first | rfl | (simp)
      have q_35 : σ_8 = meS (thr σ 0) n e9 0 := by subst eσ_8; rfl
      rw [q_35] at hw
      exact lab_29 (n - 0 + 1) 0 (by omega) (by omega) _ _ _ hw (lv_c (lv_at hl 2 rfl) (lv_c (lv_at hl 1 rfl) (lv_c (lv_atq hl 0 rfl q_34) (lv_c0 hl))))
    · skip
      exact absurd c_9 (by decide)

def rmX6_place : Room := ({ frames := 2, cells := 0, slots := 0, locals := 43 } : Room)
set_option maxHeartbeats 4000000 in
set_option maxRecDepth 100000 in
theorem kX6_place (l : Launch) (G : Gx) (hG : gOk G) (hF : Full G) (σ : St) (x y : Int32) (g n sd e9 z : Nat) (b : Bool) (hMv : MIv σ g n sd b e9 z)  : CtI l yX6_place wsX6_place rmX6_place G σ [.ref (gad G 31), .int x, .int y] (fun r σ' => ((inB x e9 && inB y n) = true ∧ r = σ 44 (ix x * 6 + ix y) ∧ σ' = thr σ 0) ∨ ((inB x e9 && inB y n) = false ∧ σ' = thr σ 1)) := by
  refine bgMet (cc := cX6_place) (maxL := 3) (ret := (some .int)) (own := RX6) (by decide) rfl rfl hG (Nat.le_of_ble_eq_true rfl) rfl ?_
  intro p e s m args below meth c ls Bd hl
  obtain ⟨hx, hb, hr, hml, hts, hown, hlocks, fx, hw⟩ := Bd
  have hl : lv_has ls 3 [(0, .ref (gad G 31)), (1, .int x), (2, .int y)] := hl
  have hin : ∀ w ∈ wsX60, w ∈ wsX6_place := by decide +kernel
  obtain ⟨⟨hmg, hmg1, hmg2⟩, ⟨hmn, hmn6⟩, ⟨hms, hms8⟩, ⟨hme, hme8⟩, hmo, ⟨hmz, hmz5⟩, hgm, hme9⟩ := id hMv
  refine lv_aload_n hx hb dX6_place_0 rfl (lv_at hl 0 rfl) ?_
  refine lv_iload_n hx hb dX6_place_1 rfl (lv_at hl 1 rfl) ?_
  refine lv_iconst (v := 0) hx hb dX6_place_2 (by decide) ?_
  refine lv_aload_n hx hb dX6_place_3 rfl (lv_at hl 0 rfl) ?_
  refine rGet (v := .int (σ 31 7)) (C := RX6) (T := TX6) (N := 26) hx hb fx hown hts hin hw 31 (hF.1 31 (by decide)) rfl rfl 7 (by decide) (hts (.fieldLink RX6 138 "LeaguewheelModel" "ended" "I") (by decide +kernel)) (fun _ h9 => h9) rfl dX6_place_4 ?_
  refine lv_rep0 (x := (σ 31 7)) (y := nI e9) (by exact hme) ?_
  refine lv_iconst (v := 1) hx hb dX6_place_7 (by decide) ?_
  refine lv_rep0 (x := 1) (y := nI 1) rfl ?_
  refine lv_isub hx hb dX6_place_8 ?_
  refine lv_rep0 (x := ((nI e9) - (nI 1))) (y := (nI e9 - 1)) (by rfl) ?_
  refine rCallS (As := [.int x, .int 0, .int (nI e9 - 1)]) (rest := [.ref (gad G 31)]) ⟨hx, hb, hml, hown, hts⟩ fx hw (kX6_isIn l G hG hF σ x 0 ((nI e9 - 1))) (va_cwS 3 hts gX6_place_X6_isIn rfl rfl rfl (by decide +kernel) ⟨Nat.le_of_ble_eq_true rfl, Nat.le_of_ble_eq_true rfl⟩) rfl hl.1 rfl (Nat.le_of_ble_eq_true rfl) dX6_place_9 ⟨Nat.zero_le _, Nat.zero_le _⟩ ?_
  intro r_2 σ_3 H locs p_1 hw
  obtain ⟨er_2, eσ_3⟩ := p_1
  have er_2 := er_2.symm; subst er_2
  have eσ_3 := eσ_3.symm; subst eσ_3
  refine lv_rep0 (x := (bI (inR x 0 (nI e9 - 1)))) (y := (bI (inB x e9))) (by rw [inR_inB (by omega)]) ?_
  refine lv_b_eq (tgt := 27) hx hb dX6_place_12 (by decide) (fun c_4 => ?_) (fun c_4 => ?_)
  · skip
    refine lv_iconst (v := 1) hx hb dX6_place_27 (by decide) ?_
    refine lv_rep0 (x := 1) (y := nI 1) rfl ?_
    refine rCallI (C := RX6) (As := [.int (nI 1)]) (rest := []) ⟨hx, hb, hml, hown, hts⟩ fx hw (kX6_fails l G hG hF σ 1 (by omega)) (cwV 1 hts gX6_place_X6_fails rfl rfl rfl (by decide +kernel) ⟨Nat.le_of_ble_eq_true rfl, Nat.le_of_ble_eq_true rfl⟩) (hF.1 31 (by decide)) rfl rfl rfl rfl hl.1 rfl (Nat.le_of_ble_eq_true rfl) dX6_place_28 ⟨Nat.zero_le _, Nat.zero_le _⟩ ?_
    intro r_6 σ_7 H locs p_5 hw
    obtain ⟨er_6, eσ_7⟩ := p_5
    have er_6 := er_6.symm; subst er_6
    refine lv_b_eq (tgt := 38) hx hb dX6_place_31 (by decide) (fun c_8 => ?_) (fun c_8 => ?_)
    · skip
      exact absurd c_8 (by decide)
    · skip
      refine lv_iconst (v := 0) hx hb dX6_place_34 (by decide) ?_
      refine lv_goto (tgt := 49) hx hb dX6_place_35 (by decide) ?_
      subst eσ_7
      exact rRetI hx hb hr hw (by first | exact Or.inr ⟨by (simp [c_4]; done), rfl⟩ | exact Or.inl ⟨by (simp [c_4]; done), by simp [thr, upA_n, upA_s, upA_upA, upA_self, upd_self, upd_upd, pk_us, bI], rfl⟩) hlocks dX6_place_49
  · skip
    refine lv_aload_n hx hb dX6_place_15 rfl (lv_at hl 0 rfl) ?_
    refine lv_iload_n hx hb dX6_place_16 rfl (lv_at hl 2 rfl) ?_
    refine rCallI (C := RX6) (As := [.int y]) (rest := [.ref (gad G 31)]) ⟨hx, hb, hml, hown, hts⟩ fx hw (kX6_isKart l G hG hF σ y n (by subst_vars; exact hmn) (by omega)) (cwV 1 hts gX6_place_X6_isKart rfl rfl rfl (by decide +kernel) ⟨Nat.le_of_ble_eq_true rfl, Nat.le_of_ble_eq_true rfl⟩) (hF.1 31 (by decide)) rfl rfl rfl rfl hl.1 rfl (Nat.le_of_ble_eq_true rfl) dX6_place_17 ⟨Nat.zero_le _, Nat.zero_le _⟩ ?_
    intro r_10 σ_11 H locs p_9 hw
    obtain ⟨er_10, eσ_11⟩ := p_9
    have er_10 := er_10.symm; subst er_10
    have eσ_11 := eσ_11.symm; subst eσ_11
    refine lv_b_eq (tgt := 27) hx hb dX6_place_20 (by decide) (fun c_12 => ?_) (fun c_12 => ?_)
    · skip
      refine lv_iconst (v := 1) hx hb dX6_place_27 (by decide) ?_
      refine lv_rep0 (x := 1) (y := nI 1) rfl ?_
      refine rCallI (C := RX6) (As := [.int (nI 1)]) (rest := []) ⟨hx, hb, hml, hown, hts⟩ fx hw (kX6_fails l G hG hF σ 1 (by omega)) (cwV 1 hts gX6_place_X6_fails rfl rfl rfl (by decide +kernel) ⟨Nat.le_of_ble_eq_true rfl, Nat.le_of_ble_eq_true rfl⟩) (hF.1 31 (by decide)) rfl rfl rfl rfl hl.1 rfl (Nat.le_of_ble_eq_true rfl) dX6_place_28 ⟨Nat.zero_le _, Nat.zero_le _⟩ ?_
      intro r_14 σ_15 H locs p_13 hw
      obtain ⟨er_14, eσ_15⟩ := p_13
      have er_14 := er_14.symm; subst er_14
      refine lv_b_eq (tgt := 38) hx hb dX6_place_31 (by decide) (fun c_16 => ?_) (fun c_16 => ?_)
      · skip
        exact absurd c_16 (by decide)
      · skip
        refine lv_iconst (v := 0) hx hb dX6_place_34 (by decide) ?_
        refine lv_goto (tgt := 49) hx hb dX6_place_35 (by decide) ?_
        subst eσ_15
        exact rRetI hx hb hr hw (by first | exact Or.inr ⟨by (simp [c_4, c_12]; done), rfl⟩ | exact Or.inl ⟨by (simp [c_4, c_12]; done), by simp [thr, upA_n, upA_s, upA_upA, upA_self, upd_self, upd_upd, pk_us, bI], rfl⟩) hlocks dX6_place_49
    · skip
      refine lv_iconst (v := 0) hx hb dX6_place_23 (by decide) ?_
      refine lv_goto (tgt := 28) hx hb dX6_place_24 (by decide) ?_
      refine lv_rep0 (x := 0) (y := nI 0) rfl ?_
      refine rCallI (C := RX6) (As := [.int (nI 0)]) (rest := []) ⟨hx, hb, hml, hown, hts⟩ fx hw (kX6_fails l G hG hF σ 0 (by omega)) (cwV 1 hts gX6_place_X6_fails rfl rfl rfl (by decide +kernel) ⟨Nat.le_of_ble_eq_true rfl, Nat.le_of_ble_eq_true rfl⟩) (hF.1 31 (by decide)) rfl rfl rfl rfl hl.1 rfl (Nat.le_of_ble_eq_true rfl) dX6_place_28 ⟨Nat.zero_le _, Nat.zero_le _⟩ ?_
      intro r_18 σ_19 H locs p_17 hw
      obtain ⟨er_18, eσ_19⟩ := p_17
      have er_18 := er_18.symm; subst er_18
      refine lv_b_eq (tgt := 38) hx hb dX6_place_31 (by decide) (fun c_20 => ?_) (fun c_20 => ?_)
      · skip
        have hx9 := inB_ix (by omega) c_4
        have q_21 : x = (nI (ix x)) := by exact hx9.1
        have hl : lv_has ls 3 [(0, .ref (gad G 31)), (1, .int (nI (ix x))), (2, .int y)] := (lv_c (lv_at hl 0 rfl) (lv_c (lv_atq hl 1 rfl q_21) (lv_c (lv_at hl 2 rfl) (lv_c0 hl))))
        have hy9 := inB_ix (by omega) c_12
        have q_22 : y = (nI (ix y)) := by exact hy9.1
        have hl : lv_has ls 3 [(0, .ref (gad G 31)), (1, .int (nI (ix x))), (2, .int (nI (ix y)))] := (lv_c (lv_at hl 0 rfl) (lv_c (lv_at hl 1 rfl) (lv_c (lv_atq hl 2 rfl q_22) (lv_c0 hl))))
        refine lv_aload_n hx hb dX6_place_38 rfl (lv_at hl 0 rfl) ?_
        refine rGet (v := .ref (gad G 44)) (C := RX6) (T := TX6) (N := 26) hx hb fx hown hts hin hw 31 (hF.1 31 (by decide)) rfl rfl 22 (by decide) (hts (.fieldLink RX6 51 "LeaguewheelModel" "place" "[I") (by decide +kernel)) (fun _ h9 => h9) rfl dX6_place_39 ?_
        refine lv_bipush (v := 6) hx hb dX6_place_42 (by decide) ?_
        refine lv_iload_n hx hb dX6_place_44 rfl (lv_at hl 1 rfl) ?_
        refine lv_rep1 (x := 6) (y := nI 6) rfl ?_
        refine lv_imul hx hb dX6_place_45 ?_
        refine lv_rep0 (x := ((nI 6) * (nI (ix x)))) (y := nI (6 * (ix x))) (pk_mul _ _) ?_
        refine lv_iload_n hx hb dX6_place_46 rfl (lv_at hl 2 rfl) ?_
        refine lv_iadd hx hb dX6_place_47 ?_
        refine lv_rep0 (x := ((nI (6 * (ix x))) + (nI (ix y)))) (y := nI ((6 * (ix x)) + (ix y))) (nI_add _ _) ?_
        refine lv_rep0 (x := (nI ((6 * (ix x)) + (ix y)))) (y := nI (ix x * 6 + ix y)) (by rw [Nat.mul_comm 6]) ?_
        refine rAld hx hb fx hw 44 (hF.1 44 (by decide)) hF.2.1 (fun _ => rfl) (ix x * 6 + ix y) rfl (by omega) (by decide) dX6_place_48 ?_
        subst eσ_19
        exact rRetI hx hb hr hw (by first | exact Or.inr ⟨by (simp [c_4, c_12]; done), rfl⟩ | exact Or.inl ⟨by (simp [c_4, c_12]; done), by simp [thr, upA_n, upA_s, upA_upA, upA_self, upd_self, upd_upd, pk_us, bI], rfl⟩) hlocks dX6_place_49
      · skip
        exact absurd c_20 (by decide)

def rmX6_setDropped : Room := ({ frames := 1, cells := 0, slots := 0, locals := 22 } : Room)
set_option maxHeartbeats 4000000 in
set_option maxRecDepth 100000 in
theorem kX6_setDropped (l : Launch) (G : Gx) (hG : gOk G) (hF : Full G) (σ : St) (x : Int32) (g n sd e9 z : Nat) (b : Bool) (hMv : MIv σ g n sd b e9 z)  : CtI l yX6_setDropped wsX6_setDropped rmX6_setDropped G σ [.ref (gad G 31), .int x] (fun r σ' => (inR x 0 3 = true ∧ r = σ 31 24 ∧ σ' = upA σ 31 (upd (upd (σ 31) 25 0) 24 x)) ∨ (inR x 0 3 = false ∧ σ' = thr σ 1)) := by
  refine bgMet (cc := cX6_setDropped) (maxL := 3) (ret := (some .int)) (own := RX6) (by decide) rfl rfl hG (Nat.le_of_ble_eq_true rfl) rfl ?_
  intro p e s m args below meth c ls Bd hl
  obtain ⟨hx, hb, hr, hml, hts, hown, hlocks, fx, hw⟩ := Bd
  have hl : lv_has ls 3 [(0, .ref (gad G 31)), (1, .int x)] := hl
  have hin : ∀ w ∈ wsX60, w ∈ wsX6_setDropped := by decide +kernel
  obtain ⟨⟨hmg, hmg1, hmg2⟩, ⟨hmn, hmn6⟩, ⟨hms, hms8⟩, ⟨hme, hme8⟩, hmo, ⟨hmz, hmz5⟩, hgm, hme9⟩ := id hMv
  refine lv_aload_n hx hb dX6_setDropped_0 rfl (lv_at hl 0 rfl) ?_
  refine lv_iload_n hx hb dX6_setDropped_1 rfl (lv_at hl 1 rfl) ?_
  refine lv_iconst (v := 0) hx hb dX6_setDropped_2 (by decide) ?_
  refine lv_iconst (v := 3) hx hb dX6_setDropped_3 (by decide) ?_
  refine rCallS (As := [.int x, .int 0, .int 3]) (rest := [.ref (gad G 31)]) ⟨hx, hb, hml, hown, hts⟩ fx hw (kX6_isIn l G hG hF σ x 0 3) (va_cwS 3 hts gX6_setDropped_X6_isIn rfl rfl rfl (by decide +kernel) ⟨Nat.le_of_ble_eq_true rfl, Nat.le_of_ble_eq_true rfl⟩) rfl hl.1 rfl (Nat.le_of_ble_eq_true rfl) dX6_setDropped_4 ⟨Nat.zero_le _, Nat.zero_le _⟩ ?_
  intro r_2 σ_3 H locs p_1 hw
  obtain ⟨er_2, eσ_3⟩ := p_1
  have er_2 := er_2.symm; subst er_2
  have eσ_3 := eσ_3.symm; subst eσ_3
  refine lv_b_eq (tgt := 14) hx hb dX6_setDropped_7 (by decide) (fun c_4 => ?_) (fun c_4 => ?_)
  · skip
    refine lv_iconst (v := 1) hx hb dX6_setDropped_14 (by decide) ?_
    refine lv_rep0 (x := 1) (y := nI 1) rfl ?_
    refine rCallI (C := RX6) (As := [.int (nI 1)]) (rest := []) ⟨hx, hb, hml, hown, hts⟩ fx hw (kX6_fails l G hG hF σ 1 (by omega)) (cwV 1 hts gX6_setDropped_X6_fails rfl rfl rfl (by decide +kernel) ⟨Nat.le_of_ble_eq_true rfl, Nat.le_of_ble_eq_true rfl⟩) (hF.1 31 (by decide)) rfl rfl rfl rfl hl.1 rfl (Nat.le_of_ble_eq_true rfl) dX6_setDropped_15 ⟨Nat.zero_le _, Nat.zero_le _⟩ ?_
    intro r_6 σ_7 H locs p_5 hw
    obtain ⟨er_6, eσ_7⟩ := p_5
    have er_6 := er_6.symm; subst er_6
    refine lv_b_eq (tgt := 23) hx hb dX6_setDropped_18 (by decide) (fun c_8 => ?_) (fun c_8 => ?_)
    · skip
      exact absurd c_8 (by decide)
    · skip
      refine lv_iconst (v := 0) hx hb dX6_setDropped_21 (by decide) ?_
      subst eσ_7
      exact rRetI hx hb hr hw (by first | exact Or.inr ⟨by (first | assumption | (simp [c_4]; done) | (simp [c_4]; done) | (simp [c_4]; omega)), by rfl⟩) hlocks dX6_setDropped_22
  · skip
    refine lv_iconst (v := 0) hx hb dX6_setDropped_10 (by decide) ?_
    refine lv_goto (tgt := 15) hx hb dX6_setDropped_11 (by decide) ?_
    refine lv_rep0 (x := 0) (y := nI 0) rfl ?_
    refine rCallI (C := RX6) (As := [.int (nI 0)]) (rest := []) ⟨hx, hb, hml, hown, hts⟩ fx hw (kX6_fails l G hG hF σ 0 (by omega)) (cwV 1 hts gX6_setDropped_X6_fails rfl rfl rfl (by decide +kernel) ⟨Nat.le_of_ble_eq_true rfl, Nat.le_of_ble_eq_true rfl⟩) (hF.1 31 (by decide)) rfl rfl rfl rfl hl.1 rfl (Nat.le_of_ble_eq_true rfl) dX6_setDropped_15 ⟨Nat.zero_le _, Nat.zero_le _⟩ ?_
    intro r_10 σ_11 H locs p_9 hw
    obtain ⟨er_10, eσ_11⟩ := p_9
    have er_10 := er_10.symm; subst er_10
    refine lv_b_eq (tgt := 23) hx hb dX6_setDropped_18 (by decide) (fun c_12 => ?_) (fun c_12 => ?_)
    · skip
      refine lv_aload_n hx hb dX6_setDropped_23 rfl (lv_at hl 0 rfl) ?_
      refine rGet (v := .int (σ_11 31 24)) (C := RX6) (T := TX6) (N := 26) hx hb fx hown hts hin hw 31 (hF.1 31 (by decide)) rfl rfl 24 (by decide) (hts (.fieldLink RX6 144 "LeaguewheelModel" "dropped" "I") (by decide +kernel)) (fun _ h9 => h9) rfl dX6_setDropped_24 ?_
      refine lv_istore_n (lv' := [(2, .int (σ_11 31 24)), (0, .ref (gad G 31)), (1, .int x)]) hx hb dX6_setDropped_27 rfl hl (by decide) rfl (fun ls hl => ?_)
      refine lv_aload_n hx hb dX6_setDropped_28 rfl (lv_at hl 1 rfl) ?_
      refine lv_iload_n hx hb dX6_setDropped_29 rfl (lv_at hl 2 rfl) ?_
      refine rPut (v := x) (ty := .int) (C := RX6) (T := TX6) (N := 26) hx hb fx hown hts hin tyX6 tyX6_ok nmX6 hw 31 (hF.1 31 (by decide)) rfl rfl 24 (by decide) (hts (.fieldLink RX6 144 "LeaguewheelModel" "dropped" "I") (by decide +kernel)) (fun _ h9 => h9) rfl (by decide +kernel) rfl rfl (Nat.le_of_ble_eq_true rfl) rfl dX6_setDropped_30 (fun H locs hw => ?_)
      obtain ⟨σ_13, eσ_13⟩ : ∃ w9, w9 = upA σ_11 31 (upd (σ_11 31) 24 x) := ⟨_, rfl⟩
      rw [← eσ_13] at hw
      refine lv_iload_n hx hb dX6_setDropped_33 rfl (lv_at hl 0 rfl) ?_
      subst eσ_13
      subst eσ_11
      exact rRetI hx hb hr hw (by exact Or.inl ⟨by (first | assumption | (simp [c_4]; done) | (simp [c_4]; done) | (simp [c_4]; omega)), by simp [thr, upA_n, upA_s, upA_upA, upA_self, upd_self, upd_upd, pk_us, bI]; try rfl, by simp [thr, upA_n, upA_s, upA_upA, upA_self, upd_self, upd_upd, pk_us, bI]; try rfl⟩) hlocks dX6_setDropped_34
    · skip
      exact absurd c_12 (by decide)

def rmX6_points : Room := ({ frames := 2, cells := 0, slots := 0, locals := 43 } : Room)
set_option maxHeartbeats 4000000 in
set_option maxRecDepth 100000 in
theorem kX6_points (l : Launch) (G : Gx) (hG : gOk G) (hF : Full G) (σ : St) (x : Int32) (g n sd e9 z : Nat) (b : Bool) (hMv : MIv σ g n sd b e9 z)  : CtI l yX6_points wsX6_points rmX6_points G σ [.ref (gad G 31), .int x] (fun r σ' => (inB x n = true ∧ r = sumA (σ 45) (σ 31 24) (ix x) e9 e9 ∧ σ' = thr σ 0) ∨ (inB x n = false ∧ σ' = thr σ 1)) := by
  refine bgMet (cc := cX6_points) (maxL := 2) (ret := (some .int)) (own := RX6) (by decide) rfl rfl hG (Nat.le_of_ble_eq_true rfl) rfl ?_
  intro p e s m args below meth c ls Bd hl
  obtain ⟨hx, hb, hr, hml, hts, hown, hlocks, fx, hw⟩ := Bd
  have hl : lv_has ls 2 [(0, .ref (gad G 31)), (1, .int x)] := hl
  obtain ⟨⟨hmg, hmg1, hmg2⟩, ⟨hmn, hmn6⟩, ⟨hms, hms8⟩, ⟨hme, hme8⟩, hmo, ⟨hmz, hmz5⟩, hgm, hme9⟩ := id hMv
  refine lv_aload_n hx hb dX6_points_0 rfl (lv_at hl 0 rfl) ?_
  refine lv_aload_n hx hb dX6_points_1 rfl (lv_at hl 0 rfl) ?_
  refine lv_iload_n hx hb dX6_points_2 rfl (lv_at hl 1 rfl) ?_
  refine rCallI (C := RX6) (As := [.int x]) (rest := [.ref (gad G 31)]) ⟨hx, hb, hml, hown, hts⟩ fx hw (kX6_isKart l G hG hF σ x n (by subst_vars; exact hmn) (by omega)) (cwV 1 hts gX6_points_X6_isKart rfl rfl rfl (by decide +kernel) ⟨Nat.le_of_ble_eq_true rfl, Nat.le_of_ble_eq_true rfl⟩) (hF.1 31 (by decide)) rfl rfl rfl rfl hl.1 rfl (Nat.le_of_ble_eq_true rfl) dX6_points_3 ⟨Nat.zero_le _, Nat.zero_le _⟩ ?_
  intro r_2 σ_3 H locs p_1 hw
  obtain ⟨er_2, eσ_3⟩ := p_1
  have er_2 := er_2.symm; subst er_2
  have eσ_3 := eσ_3.symm; subst eσ_3
  refine lv_b_eq (tgt := 13) hx hb dX6_points_6 (by decide) (fun c_4 => ?_) (fun c_4 => ?_)
  · skip
    refine lv_iconst (v := 1) hx hb dX6_points_13 (by decide) ?_
    refine lv_rep0 (x := 1) (y := nI 1) rfl ?_
    refine rCallI (C := RX6) (As := [.int (nI 1)]) (rest := []) ⟨hx, hb, hml, hown, hts⟩ fx hw (kX6_fails l G hG hF σ 1 (by omega)) (cwV 1 hts gX6_points_X6_fails rfl rfl rfl (by decide +kernel) ⟨Nat.le_of_ble_eq_true rfl, Nat.le_of_ble_eq_true rfl⟩) (hF.1 31 (by decide)) rfl rfl rfl rfl hl.1 rfl (Nat.le_of_ble_eq_true rfl) dX6_points_14 ⟨Nat.zero_le _, Nat.zero_le _⟩ ?_
    intro r_6 σ_7 H locs p_5 hw
    obtain ⟨er_6, eσ_7⟩ := p_5
    have er_6 := er_6.symm; subst er_6
    refine lv_b_eq (tgt := 24) hx hb dX6_points_17 (by decide) (fun c_8 => ?_) (fun c_8 => ?_)
    · skip
      exact absurd c_8 (by decide)
    · skip
      refine lv_iconst (v := 0) hx hb dX6_points_20 (by decide) ?_
      refine lv_goto (tgt := 29) hx hb dX6_points_21 (by decide) ?_
      subst eσ_7
      exact rRetI hx hb hr hw (by first | exact Or.inr ⟨by assumption, rfl⟩ | exact Or.inl ⟨by assumption, rfl, rfl⟩) hlocks dX6_points_29
  · skip
    refine lv_iconst (v := 0) hx hb dX6_points_9 (by decide) ?_
    refine lv_goto (tgt := 14) hx hb dX6_points_10 (by decide) ?_
    refine lv_rep0 (x := 0) (y := nI 0) rfl ?_
    refine rCallI (C := RX6) (As := [.int (nI 0)]) (rest := []) ⟨hx, hb, hml, hown, hts⟩ fx hw (kX6_fails l G hG hF σ 0 (by omega)) (cwV 1 hts gX6_points_X6_fails rfl rfl rfl (by decide +kernel) ⟨Nat.le_of_ble_eq_true rfl, Nat.le_of_ble_eq_true rfl⟩) (hF.1 31 (by decide)) rfl rfl rfl rfl hl.1 rfl (Nat.le_of_ble_eq_true rfl) dX6_points_14 ⟨Nat.zero_le _, Nat.zero_le _⟩ ?_
    intro r_10 σ_11 H locs p_9 hw
    obtain ⟨er_10, eσ_11⟩ := p_9
    have er_10 := er_10.symm; subst er_10
    refine lv_b_eq (tgt := 24) hx hb dX6_points_17 (by decide) (fun c_12 => ?_) (fun c_12 => ?_)
    · skip
      have hx9 := inB_ix (by omega) c_4
      have q_13 : x = (nI (ix x)) := by exact hx9.1
      have hl : lv_has ls 2 [(0, .ref (gad G 31)), (1, .int (nI (ix x)))] := (lv_c (lv_at hl 0 rfl) (lv_c (lv_atq hl 1 rfl q_13) (lv_c0 hl)))
      refine lv_aload_n hx hb dX6_points_24 rfl (lv_at hl 0 rfl) ?_
      refine lv_iload_n hx hb dX6_points_25 rfl (lv_at hl 1 rfl) ?_
      refine rCallI (C := RX6) (As := [.int (nI (ix x))]) (rest := []) ⟨hx, hb, hml, hown, hts⟩ fx hw (kX6_sum l G hG hF σ_11 ((ix x)) (by omega) e9 (by subst_vars; exact hme) (by omega)) (cwV 1 hts gX6_points_X6_sum rfl rfl rfl (by decide +kernel) ⟨Nat.le_of_ble_eq_true rfl, Nat.le_of_ble_eq_true rfl⟩) (hF.1 31 (by decide)) rfl rfl rfl rfl hl.1 rfl (Nat.le_of_ble_eq_true rfl) dX6_points_26 ⟨Nat.zero_le _, Nat.zero_le _⟩ ?_
      intro r_15 σ_16 H locs p_14 hw
      obtain ⟨er_15, eσ_16⟩ := p_14
      have er_15 := er_15.symm; subst er_15
      have eσ_16 := eσ_16.symm; subst eσ_16
      subst eσ_11
      exact rRetI hx hb hr hw (by first | exact Or.inr ⟨by assumption, rfl⟩ | exact Or.inl ⟨by assumption, rfl, rfl⟩) hlocks dX6_points_29
    · skip
      exact absurd c_12 (by decide)

def rmX6_teamPoints : Room := ({ frames := 1, cells := 0, slots := 0, locals := 27 } : Room)
set_option maxHeartbeats 4000000 in
set_option maxRecDepth 100000 in
theorem kX6_teamPoints (l : Launch) (G : Gx) (hG : gOk G) (hF : Full G) (σ : St) (x : Int32) (g n sd e9 z : Nat) (b : Bool) (hMv : MIv σ g n sd b e9 z)  : CtI l yX6_teamPoints wsX6_teamPoints rmX6_teamPoints G σ [.ref (gad G 31), .int x] (fun r σ' => (inR x 0 3 = true ∧ r = tpM (σ 34) (σ 45) (σ 31 24) x e9 n ∧ σ' = thr σ 0) ∨ (inR x 0 3 = false ∧ σ' = thr σ 1)) := by
  refine bgMet (cc := cX6_teamPoints) (maxL := 4) (ret := (some .int)) (own := RX6) (by decide) rfl rfl hG (Nat.le_of_ble_eq_true rfl) rfl ?_
  intro p e s m args below meth c ls Bd hl
  obtain ⟨hx, hb, hr, hml, hts, hown, hlocks, fx, hw⟩ := Bd
  have hl : lv_has ls 4 [(0, .ref (gad G 31)), (1, .int x)] := hl
  have hin : ∀ w ∈ wsX60, w ∈ wsX6_teamPoints := by decide +kernel
  obtain ⟨⟨hmg, hmg1, hmg2⟩, ⟨hmn, hmn6⟩, ⟨hms, hms8⟩, ⟨hme, hme8⟩, hmo, ⟨hmz, hmz5⟩, hgm, hme9⟩ := id hMv
  refine lv_aload_n hx hb dX6_teamPoints_0 rfl (lv_at hl 0 rfl) ?_
  refine lv_iload_n hx hb dX6_teamPoints_1 rfl (lv_at hl 1 rfl) ?_
  refine lv_iconst (v := 0) hx hb dX6_teamPoints_2 (by decide) ?_
  refine lv_iconst (v := 3) hx hb dX6_teamPoints_3 (by decide) ?_
  refine rCallS (As := [.int x, .int 0, .int 3]) (rest := [.ref (gad G 31)]) ⟨hx, hb, hml, hown, hts⟩ fx hw (kX6_isIn l G hG hF σ x 0 3) (va_cwS 3 hts gX6_teamPoints_X6_isIn rfl rfl rfl (by decide +kernel) ⟨Nat.le_of_ble_eq_true rfl, Nat.le_of_ble_eq_true rfl⟩) rfl hl.1 rfl (Nat.le_of_ble_eq_true rfl) dX6_teamPoints_4 ⟨Nat.zero_le _, Nat.zero_le _⟩ ?_
  intro r_2 σ_3 H locs p_1 hw
  obtain ⟨er_2, eσ_3⟩ := p_1
  have er_2 := er_2.symm; subst er_2
  have eσ_3 := eσ_3.symm; subst eσ_3
  refine lv_b_eq (tgt := 14) hx hb dX6_teamPoints_7 (by decide) (fun c_4 => ?_) (fun c_4 => ?_)
  · skip
    refine lv_iconst (v := 1) hx hb dX6_teamPoints_14 (by decide) ?_
    refine lv_rep0 (x := 1) (y := nI 1) rfl ?_
    refine rCallI (C := RX6) (As := [.int (nI 1)]) (rest := []) ⟨hx, hb, hml, hown, hts⟩ fx hw (kX6_fails l G hG hF σ 1 (by omega)) (cwV 1 hts gX6_teamPoints_X6_fails rfl rfl rfl (by decide +kernel) ⟨Nat.le_of_ble_eq_true rfl, Nat.le_of_ble_eq_true rfl⟩) (hF.1 31 (by decide)) rfl rfl rfl rfl hl.1 rfl (Nat.le_of_ble_eq_true rfl) dX6_teamPoints_15 ⟨Nat.zero_le _, Nat.zero_le _⟩ ?_
    intro r_6 σ_7 H locs p_5 hw
    obtain ⟨er_6, eσ_7⟩ := p_5
    have er_6 := er_6.symm; subst er_6
    refine lv_b_eq (tgt := 23) hx hb dX6_teamPoints_18 (by decide) (fun c_8 => ?_) (fun c_8 => ?_)
    · skip
      exact absurd c_8 (by decide)
    · skip
      refine lv_iconst (v := 0) hx hb dX6_teamPoints_21 (by decide) ?_
      subst eσ_7
      exact rRetI hx hb hr hw (by exact Or.inr ⟨by assumption, rfl⟩) hlocks dX6_teamPoints_22
  · skip
    refine lv_iconst (v := 0) hx hb dX6_teamPoints_10 (by decide) ?_
    refine lv_goto (tgt := 15) hx hb dX6_teamPoints_11 (by decide) ?_
    refine lv_rep0 (x := 0) (y := nI 0) rfl ?_
    refine rCallI (C := RX6) (As := [.int (nI 0)]) (rest := []) ⟨hx, hb, hml, hown, hts⟩ fx hw (kX6_fails l G hG hF σ 0 (by omega)) (cwV 1 hts gX6_teamPoints_X6_fails rfl rfl rfl (by decide +kernel) ⟨Nat.le_of_ble_eq_true rfl, Nat.le_of_ble_eq_true rfl⟩) (hF.1 31 (by decide)) rfl rfl rfl rfl hl.1 rfl (Nat.le_of_ble_eq_true rfl) dX6_teamPoints_15 ⟨Nat.zero_le _, Nat.zero_le _⟩ ?_
    intro r_10 σ_11 H locs p_9 hw
    obtain ⟨er_10, eσ_11⟩ := p_9
    have er_10 := er_10.symm; subst er_10
    refine lv_b_eq (tgt := 23) hx hb dX6_teamPoints_18 (by decide) (fun c_12 => ?_) (fun c_12 => ?_)
    · skip
      refine lv_iconst (v := 0) hx hb dX6_teamPoints_23 (by decide) ?_
      refine lv_istore_n (lv' := [(2, .int 0), (0, .ref (gad G 31)), (1, .int x)]) hx hb dX6_teamPoints_24 rfl hl (by decide) rfl (fun ls hl => ?_)
      refine lv_iconst (v := 0) hx hb dX6_teamPoints_25 (by decide) ?_
      refine lv_istore_n (lv' := [(3, .int 0), (2, .int 0), (0, .ref (gad G 31)), (1, .int x)]) hx hb dX6_teamPoints_26 rfl hl (by decide) rfl (fun ls hl => ?_)
      have lab_27 : ∀ (n9 : Nat), ∀ (i : Nat), n - i < n9 → i ≤ n → ∀ (H : Heap) (locs : List Loc) (ls : Array Slot), Wd G s σ_11 H locs → lv_has ls 4 [(0, .ref (gad G 31)), (1, .int x), (2, .int (tpM (σ 34) (σ 45) (σ 31 24) x e9 i)), (3, .int (nI i))] → W p l e rmX6_teamPoints s m args below meth c H locs 0 0 (MQ below (va_Qi (fun r σ' => (inR x 0 3 = true ∧ r = tpM (σ 34) (σ 45) (σ 31 24) x e9 n ∧ σ' = thr σ 0) ∨ (inR x 0 3 = false ∧ σ' = thr σ 1)) (BW G) (gA G)) args s 0 0 (gA G)) (F0 m 27 ls []) := by
        intro n9
        induction n9 with
        | zero => intro i hn9; exact absurd hn9 (Nat.not_lt_zero _)
        | succ n9 ih27 =>
          intro i hn9 h27_0 H locs ls hw hl
          refine lv_iload_n hx hb dX6_teamPoints_27 rfl (lv_at hl 3 rfl) ?_
          refine lv_aload_n hx hb dX6_teamPoints_28 rfl (lv_at hl 0 rfl) ?_
          refine rGet (v := .int (σ_11 31 4)) (C := RX6) (T := TX6) (N := 26) hx hb fx hown hts hin hw 31 (hF.1 31 (by decide)) rfl rfl 4 (by decide) (hts (.fieldLink RX6 64 "LeaguewheelModel" "karts" "I") (by decide +kernel)) (fun _ h9 => h9) rfl dX6_teamPoints_29 ?_
          refine lv_rep0 (x := (σ_11 31 4)) (y := nI n) (by subst_vars; exact hmn) ?_
          refine lv_icmp_ge (tgt := 63) hx hb dX6_teamPoints_32 (by decide) (fun c_13 => ?_) (fun c_13 => ?_)
          · skip
            have c_13 : n ≤ i := (nI_leI (by omega) (by omega)).mp c_13
            refine lv_iload_n hx hb dX6_teamPoints_63 rfl (lv_at hl 2 rfl) ?_
            subst eσ_11
            exact rRetI hx hb hr hw (by exact Or.inl ⟨by assumption, by rw [show n = i by omega], rfl⟩) hlocks dX6_teamPoints_64
          · skip
            have c_13 : ¬ n ≤ i := fun h9 => c_13 ((nI_leI (by omega) (by omega)).mpr h9)
            refine lv_iload_n hx hb dX6_teamPoints_35 rfl (lv_at hl 2 rfl) ?_
            refine lv_aload_n hx hb dX6_teamPoints_36 rfl (lv_at hl 0 rfl) ?_
            refine rGet (v := .ref (gad G 34)) (C := RX6) (T := TX6) (N := 26) hx hb fx hown hts hin hw 31 (hF.1 31 (by decide)) rfl rfl 5 (by decide) (hts (.fieldLink RX6 20 "LeaguewheelModel" "team" "[I") (by decide +kernel)) (fun _ h9 => h9) rfl dX6_teamPoints_37 ?_
            refine lv_iload_n hx hb dX6_teamPoints_40 rfl (lv_at hl 3 rfl) ?_
            refine rAld hx hb fx hw 34 (hF.1 34 (by decide)) hF.2.1 (fun _ => rfl) i rfl (by omega) (by decide) dX6_teamPoints_41 ?_
            refine lv_rep0 (x := (σ_11 34 i)) (y := (σ 34 i)) (by subst_vars; rfl) ?_
            refine lv_iload_n hx hb dX6_teamPoints_42 rfl (lv_at hl 1 rfl) ?_
            refine lv_icmp_ne (tgt := 54) hx hb dX6_teamPoints_43 (by decide) (fun c_14 => ?_) (fun c_14 => ?_)
            · skip
              refine lv_iconst (v := 0) hx hb dX6_teamPoints_54 (by decide) ?_
              refine lv_iadd hx hb dX6_teamPoints_55 ?_
              refine lv_istore_n (lv' := [(2, .int ((tpM (σ 34) (σ 45) (σ 31 24) x e9 i) + 0)), (0, .ref (gad G 31)), (1, .int x), (3, .int (nI i))]) hx hb dX6_teamPoints_56 rfl hl (by decide) rfl (fun ls hl => ?_)
              refine lv_iinc (v := (nI (i + 1))) (lv' := [(3, .int (nI (i + 1))), (2, .int ((tpM (σ 34) (σ 45) (σ 31 24) x e9 i) + 0)), (0, .ref (gad G 31)), (1, .int x)]) hx hb dX6_teamPoints_57 hl (k := 3) rfl (nI_1 _) (by decide) rfl (fun ls hl => ?_)
              refine lv_goto (tgt := 27) hx hb dX6_teamPoints_60 (by decide) ?_
              have q_15 : ((tpM (σ 34) (σ 45) (σ 31 24) x e9 i) + 0) = (tpM (σ 34) (σ 45) (σ 31 24) x e9 (i + 1)) := by first | rfl | (rw [tpM]; first | (rw [if_pos c_14]; done) | (rw [if_neg c_14]; exact Int32.add_zero _))
              exact ih27 (i + 1) (by omega) (by omega) _ _ _ hw (lv_c (lv_at hl 2 rfl) (lv_c (lv_at hl 3 rfl) (lv_c (lv_atq hl 1 rfl q_15) (lv_c (lv_at hl 0 rfl) (lv_c0 hl)))))
            · skip
              refine lv_aload_n hx hb dX6_teamPoints_46 rfl (lv_at hl 0 rfl) ?_
              refine lv_iload_n hx hb dX6_teamPoints_47 rfl (lv_at hl 3 rfl) ?_
              refine rCallI (C := RX6) (As := [.int (nI i)]) (rest := [.int (tpM (σ 34) (σ 45) (σ 31 24) x e9 i)]) ⟨hx, hb, hml, hown, hts⟩ fx hw (kX6_sum l G hG hF σ_11 i (by omega) e9 (by subst_vars; exact hme) (by omega)) (cwV 1 hts gX6_teamPoints_X6_sum rfl rfl rfl (by decide +kernel) ⟨Nat.le_of_ble_eq_true rfl, Nat.le_of_ble_eq_true rfl⟩) (hF.1 31 (by decide)) rfl rfl rfl rfl hl.1 rfl (Nat.le_of_ble_eq_true rfl) dX6_teamPoints_48 ⟨Nat.zero_le _, Nat.zero_le _⟩ ?_
              intro r_17 σ_18 H locs p_16 hw
              obtain ⟨er_17, eσ_18⟩ := p_16
              have er_17 := er_17.symm; subst er_17
              have eσ_18 := eσ_18.symm; subst eσ_18
              refine lv_rep0 (x := (sumA (σ_11 45) (σ_11 31 24) i e9 e9)) (y := (sumA (σ 45) (σ 31 24) i e9 e9)) (by subst_vars; rfl) ?_
              refine lv_goto (tgt := 55) hx hb dX6_teamPoints_51 (by decide) ?_
              refine lv_iadd hx hb dX6_teamPoints_55 ?_
              refine lv_istore_n (lv' := [(2, .int ((tpM (σ 34) (σ 45) (σ 31 24) x e9 i) + (sumA (σ 45) (σ 31 24) i e9 e9))), (0, .ref (gad G 31)), (1, .int x), (3, .int (nI i))]) hx hb dX6_teamPoints_56 rfl hl (by decide) rfl (fun ls hl => ?_)
              refine lv_iinc (v := (nI (i + 1))) (lv' := [(3, .int (nI (i + 1))), (2, .int ((tpM (σ 34) (σ 45) (σ 31 24) x e9 i) + (sumA (σ 45) (σ 31 24) i e9 e9))), (0, .ref (gad G 31)), (1, .int x)]) hx hb dX6_teamPoints_57 hl (k := 3) rfl (nI_1 _) (by decide) rfl (fun ls hl => ?_)
              refine lv_goto (tgt := 27) hx hb dX6_teamPoints_60 (by decide) ?_
              have q_19 : ((tpM (σ 34) (σ 45) (σ 31 24) x e9 i) + (sumA (σ 45) (σ 31 24) i e9 e9)) = (tpM (σ 34) (σ 45) (σ 31 24) x e9 (i + 1)) := by first | rfl | (rw [tpM]; first | (rw [if_pos c_14]; done) | (rw [if_neg c_14]; exact Int32.add_zero _))
              exact ih27 (i + 1) (by omega) (by omega) _ _ _ hw (lv_c (lv_at hl 2 rfl) (lv_c (lv_at hl 3 rfl) (lv_c (lv_atq hl 1 rfl q_19) (lv_c (lv_at hl 0 rfl) (lv_c0 hl)))))
      have q_20 : 0 = (tpM (σ 34) (σ 45) (σ 31 24) x e9 0) := by first | rfl | (rw [tpM]; first | (rw [if_pos c_4]; done) | (rw [if_neg c_4]; exact Int32.add_zero _))
      have q_21 : 0 = (nI 0) := by first | rfl | (rw [tpM]; first | (rw [if_pos c_4]; done) | (rw [if_neg c_4]; exact Int32.add_zero _))
      exact lab_27 (n - 0 + 1) 0 (by omega) (by omega) _ _ _ hw (lv_c (lv_at hl 2 rfl) (lv_c (lv_at hl 3 rfl) (lv_c (lv_atq hl 1 rfl q_20) (lv_c (lv_atq hl 0 rfl q_21) (lv_c0 hl)))))
    · skip
      exact absurd c_12 (by decide)

def rmX6_standing : Room := ({ frames := 3, cells := 0, slots := 0, locals := 73 } : Room)
set_option maxHeartbeats 4000000 in
set_option maxRecDepth 100000 in
theorem kX6_standing (l : Launch) (G : Gx) (hG : gOk G) (hF : Full G) (σ : St) (x : Int32) (g n sd e9 z : Nat) (b : Bool) (hMv : MIv σ g n sd b e9 z)  : CtI l yX6_standing wsX6_standing rmX6_standing G σ [.ref (gad G 31), .int x] (fun r σ' => (inB x n = true ∧ r = nI (snM (σ 44) (σ 45) (σ 31 24) e9 n (ix x)) ∧ σ' = thr σ 0) ∨ (inB x n = false ∧ σ' = thr σ 1)) := by
  refine bgMet (cc := cX6_standing) (maxL := 2) (ret := (some .int)) (own := RX6) (by decide) rfl rfl hG (Nat.le_of_ble_eq_true rfl) rfl ?_
  intro p e s m args below meth c ls Bd hl
  obtain ⟨hx, hb, hr, hml, hts, hown, hlocks, fx, hw⟩ := Bd
  have hl : lv_has ls 2 [(0, .ref (gad G 31)), (1, .int x)] := hl
  obtain ⟨⟨hmg, hmg1, hmg2⟩, ⟨hmn, hmn6⟩, ⟨hms, hms8⟩, ⟨hme, hme8⟩, hmo, ⟨hmz, hmz5⟩, hgm, hme9⟩ := id hMv
  refine lv_aload_n hx hb dX6_standing_0 rfl (lv_at hl 0 rfl) ?_
  refine lv_aload_n hx hb dX6_standing_1 rfl (lv_at hl 0 rfl) ?_
  refine lv_iload_n hx hb dX6_standing_2 rfl (lv_at hl 1 rfl) ?_
  refine rCallI (C := RX6) (As := [.int x]) (rest := [.ref (gad G 31)]) ⟨hx, hb, hml, hown, hts⟩ fx hw (kX6_isKart l G hG hF σ x n (by subst_vars; exact hmn) (by omega)) (cwV 1 hts gX6_standing_X6_isKart rfl rfl rfl (by decide +kernel) ⟨Nat.le_of_ble_eq_true rfl, Nat.le_of_ble_eq_true rfl⟩) (hF.1 31 (by decide)) rfl rfl rfl rfl hl.1 rfl (Nat.le_of_ble_eq_true rfl) dX6_standing_3 ⟨Nat.zero_le _, Nat.zero_le _⟩ ?_
  intro r_2 σ_3 H locs p_1 hw
  obtain ⟨er_2, eσ_3⟩ := p_1
  have er_2 := er_2.symm; subst er_2
  have eσ_3 := eσ_3.symm; subst eσ_3
  refine lv_b_eq (tgt := 13) hx hb dX6_standing_6 (by decide) (fun c_4 => ?_) (fun c_4 => ?_)
  · skip
    refine lv_iconst (v := 1) hx hb dX6_standing_13 (by decide) ?_
    refine lv_rep0 (x := 1) (y := nI 1) rfl ?_
    refine rCallI (C := RX6) (As := [.int (nI 1)]) (rest := []) ⟨hx, hb, hml, hown, hts⟩ fx hw (kX6_fails l G hG hF σ 1 (by omega)) (cwV 1 hts gX6_standing_X6_fails rfl rfl rfl (by decide +kernel) ⟨Nat.le_of_ble_eq_true rfl, Nat.le_of_ble_eq_true rfl⟩) (hF.1 31 (by decide)) rfl rfl rfl rfl hl.1 rfl (Nat.le_of_ble_eq_true rfl) dX6_standing_14 ⟨Nat.zero_le _, Nat.zero_le _⟩ ?_
    intro r_6 σ_7 H locs p_5 hw
    obtain ⟨er_6, eσ_7⟩ := p_5
    have er_6 := er_6.symm; subst er_6
    refine lv_b_eq (tgt := 24) hx hb dX6_standing_17 (by decide) (fun c_8 => ?_) (fun c_8 => ?_)
    · skip
      exact absurd c_8 (by decide)
    · skip
      refine lv_iconst (v := 0) hx hb dX6_standing_20 (by decide) ?_
      refine lv_goto (tgt := 29) hx hb dX6_standing_21 (by decide) ?_
      subst eσ_7
      exact rRetI hx hb hr hw (by first | exact Or.inr ⟨by assumption, rfl⟩ | exact Or.inl ⟨by assumption, rfl, rfl⟩) hlocks dX6_standing_29
  · skip
    refine lv_iconst (v := 0) hx hb dX6_standing_9 (by decide) ?_
    refine lv_goto (tgt := 14) hx hb dX6_standing_10 (by decide) ?_
    refine lv_rep0 (x := 0) (y := nI 0) rfl ?_
    refine rCallI (C := RX6) (As := [.int (nI 0)]) (rest := []) ⟨hx, hb, hml, hown, hts⟩ fx hw (kX6_fails l G hG hF σ 0 (by omega)) (cwV 1 hts gX6_standing_X6_fails rfl rfl rfl (by decide +kernel) ⟨Nat.le_of_ble_eq_true rfl, Nat.le_of_ble_eq_true rfl⟩) (hF.1 31 (by decide)) rfl rfl rfl rfl hl.1 rfl (Nat.le_of_ble_eq_true rfl) dX6_standing_14 ⟨Nat.zero_le _, Nat.zero_le _⟩ ?_
    intro r_10 σ_11 H locs p_9 hw
    obtain ⟨er_10, eσ_11⟩ := p_9
    have er_10 := er_10.symm; subst er_10
    refine lv_b_eq (tgt := 24) hx hb dX6_standing_17 (by decide) (fun c_12 => ?_) (fun c_12 => ?_)
    · skip
      have hx9 := inB_ix (by omega) c_4
      have q_13 : x = (nI (ix x)) := by exact hx9.1
      have hl : lv_has ls 2 [(0, .ref (gad G 31)), (1, .int (nI (ix x)))] := (lv_c (lv_at hl 0 rfl) (lv_c (lv_atq hl 1 rfl q_13) (lv_c0 hl)))
      refine lv_aload_n hx hb dX6_standing_24 rfl (lv_at hl 0 rfl) ?_
      refine lv_iload_n hx hb dX6_standing_25 rfl (lv_at hl 1 rfl) ?_
      refine rCallI (C := RX6) (As := [.int (nI (ix x))]) (rest := []) ⟨hx, hb, hml, hown, hts⟩ fx hw (kX6_stand l G hG hF σ_11 ((ix x)) (by omega) n (by subst_vars; exact hmn) (by omega) e9 (by subst_vars; exact hme) (by omega)) (cwV 1 hts gX6_standing_X6_stand rfl rfl rfl (by decide +kernel) ⟨Nat.le_of_ble_eq_true rfl, Nat.le_of_ble_eq_true rfl⟩) (hF.1 31 (by decide)) rfl rfl rfl rfl hl.1 rfl (Nat.le_of_ble_eq_true rfl) dX6_standing_26 ⟨Nat.zero_le _, Nat.zero_le _⟩ ?_
      intro r_15 σ_16 H locs p_14 hw
      obtain ⟨er_15, eσ_16⟩ := p_14
      have er_15 := er_15.symm; subst er_15
      have eσ_16 := eσ_16.symm; subst eσ_16
      subst eσ_11
      exact rRetI hx hb hr hw (by first | exact Or.inr ⟨by assumption, rfl⟩ | exact Or.inl ⟨by assumption, rfl, rfl⟩) hlocks dX6_standing_29
    · skip
      exact absurd c_12 (by decide)

def rmX6_textLength : Room := ({ frames := 1, cells := 0, slots := 0, locals := 21 } : Room)
set_option maxHeartbeats 4000000 in
set_option maxRecDepth 100000 in
theorem kX6_textLength (l : Launch) (G : Gx) (hG : gOk G) (hF : Full G) (σ : St) (g n sd e9 z : Nat) (b : Bool) (hMv : MIv σ g n sd b e9 z)  : CtI l yX6_textLength wsX6_textLength rmX6_textLength G σ [.ref (gad G 31)] (fun r σ' => r = nI (if n = 0 then 0 else 2 * n - 1) ∧ σ' = thr σ 0) := by
  refine bgMet (cc := cX6_textLength) (maxL := 1) (ret := (some .int)) (own := RX6) (by decide) rfl rfl hG (Nat.le_of_ble_eq_true rfl) rfl ?_
  intro p e s m args below meth c ls Bd hl
  obtain ⟨hx, hb, hr, hml, hts, hown, hlocks, fx, hw⟩ := Bd
  have hl : lv_has ls 1 [(0, .ref (gad G 31))] := hl
  have hin : ∀ w ∈ wsX60, w ∈ wsX6_textLength := by decide +kernel
  obtain ⟨⟨hmg, hmg1, hmg2⟩, ⟨hmn, hmn6⟩, ⟨hms, hms8⟩, ⟨hme, hme8⟩, hmo, ⟨hmz, hmz5⟩, hgm, hme9⟩ := id hMv
  refine lv_aload_n hx hb dX6_textLength_0 rfl (lv_at hl 0 rfl) ?_
  refine lv_aload_n hx hb dX6_textLength_1 rfl (lv_at hl 0 rfl) ?_
  refine rGet (v := .int (σ 31 4)) (C := RX6) (T := TX6) (N := 26) hx hb fx hown hts hin hw 31 (hF.1 31 (by decide)) rfl rfl 4 (by decide) (hts (.fieldLink RX6 64 "LeaguewheelModel" "karts" "I") (by decide +kernel)) (fun _ h9 => h9) rfl dX6_textLength_2 ?_
  refine lv_rep0 (x := (σ 31 4)) (y := nI n) (by exact hmn) ?_
  refine lv_if_ne (tgt := 12) hx hb dX6_textLength_5 (by decide) (fun c_1 => ?_) (fun c_1 => ?_)
  · skip
    have c_1 : ¬ n = 0 := n0_net (by omega) c_1
    refine lv_iconst (v := 2) hx hb dX6_textLength_12 (by decide) ?_
    refine lv_aload_n hx hb dX6_textLength_13 rfl (lv_at hl 0 rfl) ?_
    refine rGet (v := .int (σ 31 4)) (C := RX6) (T := TX6) (N := 26) hx hb fx hown hts hin hw 31 (hF.1 31 (by decide)) rfl rfl 4 (by decide) (hts (.fieldLink RX6 64 "LeaguewheelModel" "karts" "I") (by decide +kernel)) (fun _ h9 => h9) rfl dX6_textLength_14 ?_
    refine lv_rep0 (x := (σ 31 4)) (y := nI n) (by exact hmn) ?_
    refine lv_rep1 (x := 2) (y := nI 2) rfl ?_
    refine lv_imul hx hb dX6_textLength_17 ?_
    refine lv_rep0 (x := ((nI 2) * (nI n))) (y := nI (2 * n)) (pk_mul _ _) ?_
    refine lv_iconst (v := 1) hx hb dX6_textLength_18 (by decide) ?_
    refine lv_rep0 (x := 1) (y := nI 1) rfl ?_
    refine lv_isub hx hb dX6_textLength_19 ?_
    refine lv_rep0 (x := ((nI (2 * n)) - (nI 1))) (y := nI ((2 * n) - 1)) (pk_sub (by omega)) ?_
    refine rCallI (C := RX6) (As := [.int (nI ((2 * n) - 1))]) (rest := []) ⟨hx, hb, hml, hown, hts⟩ fx hw (kX6_tells l G hG hF σ ((nI ((2 * n) - 1)))) (cwV 1 hts gX6_textLength_X6_tells rfl rfl rfl (by decide +kernel) ⟨Nat.le_of_ble_eq_true rfl, Nat.le_of_ble_eq_true rfl⟩) (hF.1 31 (by decide)) rfl rfl rfl rfl hl.1 rfl (Nat.le_of_ble_eq_true rfl) dX6_textLength_20 ⟨Nat.zero_le _, Nat.zero_le _⟩ ?_
    intro r_3 σ_4 H locs p_2 hw
    obtain ⟨er_3, eσ_4⟩ := p_2
    have er_3 := er_3.symm; subst er_3
    subst eσ_4
    exact rRetI hx hb hr hw (by exact ⟨by first | (rw [if_pos c_1]; done) | (rw [if_pos c_1]; rfl) | (rw [if_neg c_1]; done), rfl⟩) hlocks dX6_textLength_23
  · skip
    have c_1 : n = 0 := n0_nef (by omega) c_1
    refine lv_iconst (v := 0) hx hb dX6_textLength_8 (by decide) ?_
    refine lv_goto (tgt := 20) hx hb dX6_textLength_9 (by decide) ?_
    refine rCallI (C := RX6) (As := [.int 0]) (rest := []) ⟨hx, hb, hml, hown, hts⟩ fx hw (kX6_tells l G hG hF σ 0) (cwV 1 hts gX6_textLength_X6_tells rfl rfl rfl (by decide +kernel) ⟨Nat.le_of_ble_eq_true rfl, Nat.le_of_ble_eq_true rfl⟩) (hF.1 31 (by decide)) rfl rfl rfl rfl hl.1 rfl (Nat.le_of_ble_eq_true rfl) dX6_textLength_20 ⟨Nat.zero_le _, Nat.zero_le _⟩ ?_
    intro r_6 σ_7 H locs p_5 hw
    obtain ⟨er_6, eσ_7⟩ := p_5
    have er_6 := er_6.symm; subst er_6
    subst eσ_7
    exact rRetI hx hb hr hw (by exact ⟨by first | (rw [if_pos c_1]; done) | (rw [if_pos c_1]; rfl) | (rw [if_neg c_1]; done), rfl⟩) hlocks dX6_textLength_23

def rmX6_textAt : Room := ({ frames := 3, cells := 0, slots := 0, locals := 73 } : Room)
set_option maxHeartbeats 4000000 in
set_option maxRecDepth 100000 in
theorem kX6_textAt (l : Launch) (G : Gx) (hG : gOk G) (hF : Full G) (σ : St) (x : Int32) (g n sd e9 z : Nat) (b : Bool) (hMv : MIv σ g n sd b e9 z)  : CtI l yX6_textAt wsX6_textAt rmX6_textAt G σ [.ref (gad G 31), .int x] (fun r σ' => (inT x n = true ∧ r = (if ix x % 2 = 1 then 62 else (Int32.toUInt32 (nI (48 + fsM (fun z9 => snM (σ 44) (σ 45) (σ 31 24) e9 n z9) (ix x) n)) % 65536).toInt32) ∧ σ' = thr σ 0) ∨ (inT x n = false ∧ σ' = thr σ 1)) := by
  refine bgMet (cc := cX6_textAt) (maxL := 4) (ret := (some .char)) (own := RX6) (by decide) rfl rfl hG (Nat.le_of_ble_eq_true rfl) rfl ?_
  intro p e s m args below meth c ls Bd hl
  obtain ⟨hx, hb, hr, hml, hts, hown, hlocks, fx, hw⟩ := Bd
  have hl : lv_has ls 4 [(0, .ref (gad G 31)), (1, .int x)] := hl
  have hin : ∀ w ∈ wsX60, w ∈ wsX6_textAt := by decide +kernel
  obtain ⟨⟨hmg, hmg1, hmg2⟩, ⟨hmn, hmn6⟩, ⟨hms, hms8⟩, ⟨hme, hme8⟩, hmo, ⟨hmz, hmz5⟩, hgm, hme9⟩ := id hMv
  refine lv_aload_n hx hb dX6_textAt_0 rfl (lv_at hl 0 rfl) ?_
  refine lv_iload_n hx hb dX6_textAt_1 rfl (lv_at hl 1 rfl) ?_
  refine lv_if_lt (tgt := 21) hx hb dX6_textAt_2 (by decide) (fun c_1 => ?_) (fun c_1 => ?_)
  · skip
    have c_1 := Int32.not_le.mpr c_1
    refine lv_iconst (v := 1) hx hb dX6_textAt_21 (by decide) ?_
    refine lv_rep0 (x := 1) (y := nI 1) rfl ?_
    refine rCallI (C := RX6) (As := [.int (nI 1)]) (rest := []) ⟨hx, hb, hml, hown, hts⟩ fx hw (kX6_fails l G hG hF σ 1 (by omega)) (cwV 1 hts gX6_textAt_X6_fails rfl rfl rfl (by decide +kernel) ⟨Nat.le_of_ble_eq_true rfl, Nat.le_of_ble_eq_true rfl⟩) (hF.1 31 (by decide)) rfl rfl rfl rfl hl.1 rfl (Nat.le_of_ble_eq_true rfl) dX6_textAt_22 ⟨Nat.zero_le _, Nat.zero_le _⟩ ?_
    intro r_3 σ_4 H locs p_2 hw
    obtain ⟨er_3, eσ_4⟩ := p_2
    have er_3 := er_3.symm; subst er_3
    refine lv_b_eq (tgt := 30) hx hb dX6_textAt_25 (by decide) (fun c_5 => ?_) (fun c_5 => ?_)
    · skip
      exact absurd c_5 (by decide)
    · skip
      refine lv_iconst (v := 0) hx hb dX6_textAt_28 (by decide) ?_
      subst eσ_4
      exact rRetZ hx hb hr hw (by decide) (by exact Or.inr ⟨by first | exact inT_mf1 c_1 | exact inT_mf2 hl, rfl⟩) hlocks dX6_textAt_29
  · skip
    have c_1 := Int32.not_lt.mp c_1
    refine lv_iload_n hx hb dX6_textAt_5 rfl (lv_at hl 1 rfl) ?_
    refine lv_iconst (v := 2) hx hb dX6_textAt_6 (by decide) ?_
    refine lv_aload_n hx hb dX6_textAt_7 rfl (lv_at hl 0 rfl) ?_
    refine rGet (v := .int (σ 31 4)) (C := RX6) (T := TX6) (N := 26) hx hb fx hown hts hin hw 31 (hF.1 31 (by decide)) rfl rfl 4 (by decide) (hts (.fieldLink RX6 64 "LeaguewheelModel" "karts" "I") (by decide +kernel)) (fun _ h9 => h9) rfl dX6_textAt_8 ?_
    refine lv_rep0 (x := (σ 31 4)) (y := nI n) (by exact hmn) ?_
    refine lv_rep1 (x := 2) (y := nI 2) rfl ?_
    refine lv_imul hx hb dX6_textAt_11 ?_
    refine lv_rep0 (x := ((nI 2) * (nI n))) (y := nI (2 * n)) (pk_mul _ _) ?_
    refine lv_iconst (v := 1) hx hb dX6_textAt_12 (by decide) ?_
    refine lv_rep0 (x := 1) (y := nI 1) rfl ?_
    refine lv_isub hx hb dX6_textAt_13 ?_
    refine lv_icmp_ge (tgt := 21) hx hb dX6_textAt_14 (by decide) (fun c_6 => ?_) (fun c_6 => ?_)
    · skip
      refine lv_iconst (v := 1) hx hb dX6_textAt_21 (by decide) ?_
      refine lv_rep0 (x := 1) (y := nI 1) rfl ?_
      refine rCallI (C := RX6) (As := [.int (nI 1)]) (rest := []) ⟨hx, hb, hml, hown, hts⟩ fx hw (kX6_fails l G hG hF σ 1 (by omega)) (cwV 1 hts gX6_textAt_X6_fails rfl rfl rfl (by decide +kernel) ⟨Nat.le_of_ble_eq_true rfl, Nat.le_of_ble_eq_true rfl⟩) (hF.1 31 (by decide)) rfl rfl rfl rfl hl.1 rfl (Nat.le_of_ble_eq_true rfl) dX6_textAt_22 ⟨Nat.zero_le _, Nat.zero_le _⟩ ?_
      intro r_8 σ_9 H locs p_7 hw
      obtain ⟨er_8, eσ_9⟩ := p_7
      have er_8 := er_8.symm; subst er_8
      refine lv_b_eq (tgt := 30) hx hb dX6_textAt_25 (by decide) (fun c_10 => ?_) (fun c_10 => ?_)
      · skip
        exact absurd c_10 (by decide)
      · skip
        refine lv_iconst (v := 0) hx hb dX6_textAt_28 (by decide) ?_
        subst eσ_9
        exact rRetZ hx hb hr hw (by decide) (by exact Or.inr ⟨by first | exact inT_mf1 c_1 | exact inT_mf2 c_6, rfl⟩) hlocks dX6_textAt_29
    · skip
      refine lv_iconst (v := 0) hx hb dX6_textAt_17 (by decide) ?_
      refine lv_goto (tgt := 22) hx hb dX6_textAt_18 (by decide) ?_
      refine lv_rep0 (x := 0) (y := nI 0) rfl ?_
      refine rCallI (C := RX6) (As := [.int (nI 0)]) (rest := []) ⟨hx, hb, hml, hown, hts⟩ fx hw (kX6_fails l G hG hF σ 0 (by omega)) (cwV 1 hts gX6_textAt_X6_fails rfl rfl rfl (by decide +kernel) ⟨Nat.le_of_ble_eq_true rfl, Nat.le_of_ble_eq_true rfl⟩) (hF.1 31 (by decide)) rfl rfl rfl rfl hl.1 rfl (Nat.le_of_ble_eq_true rfl) dX6_textAt_22 ⟨Nat.zero_le _, Nat.zero_le _⟩ ?_
      intro r_12 σ_13 H locs p_11 hw
      obtain ⟨er_12, eσ_13⟩ := p_11
      have er_12 := er_12.symm; subst er_12
      refine lv_b_eq (tgt := 30) hx hb dX6_textAt_25 (by decide) (fun c_14 => ?_) (fun c_14 => ?_)
      · skip
        have hx9 := inT_ix hmn6 (inT_m c_1 c_6)
        have q_15 : x = (nI (ix x)) := by exact hx9.1
        have hl : lv_has ls 4 [(0, .ref (gad G 31)), (1, .int (nI (ix x)))] := (lv_c (lv_at hl 0 rfl) (lv_c (lv_atq hl 1 rfl q_15) (lv_c0 hl)))
        refine lv_iconst (v := 0) hx hb dX6_textAt_30 (by decide) ?_
        refine lv_istore_n (lv' := [(2, .int 0), (0, .ref (gad G 31)), (1, .int (nI (ix x)))]) hx hb dX6_textAt_31 rfl hl (by decide) rfl (fun ls hl => ?_)
        refine lv_iconst (v := 0) hx hb dX6_textAt_32 (by decide) ?_
        refine lv_istore_n (lv' := [(3, .int 0), (2, .int 0), (0, .ref (gad G 31)), (1, .int (nI (ix x)))]) hx hb dX6_textAt_33 rfl hl (by decide) rfl (fun ls hl => ?_)
        have lab_34 : ∀ (n9 : Nat), ∀ (i : Nat), n - i < n9 → i ≤ n → ∀ (H : Heap) (locs : List Loc) (ls : Array Slot), Wd G s σ_13 H locs → lv_has ls 4 [(0, .ref (gad G 31)), (1, .int (nI (ix x))), (2, .int (nI (fsM (fun z9 => snM (σ 44) (σ 45) (σ 31 24) e9 n z9) (ix x) i))), (3, .int (nI i))] → W p l e rmX6_textAt s m args below meth c H locs 0 0 (MQ below (va_Qi (fun r σ' => (inT x n = true ∧ r = (if ix x % 2 = 1 then 62 else (Int32.toUInt32 (nI (48 + fsM (fun z9 => snM (σ 44) (σ 45) (σ 31 24) e9 n z9) (ix x) n)) % 65536).toInt32) ∧ σ' = thr σ 0) ∨ (inT x n = false ∧ σ' = thr σ 1)) (BW G) (gA G)) args s 0 0 (gA G)) (F0 m 34 ls []) := by
          intro n9
          induction n9 with
          | zero => intro i hn9; exact absurd hn9 (Nat.not_lt_zero _)
          | succ n9 ih34 =>
            intro i hn9 h34_0 H locs ls hw hl
            refine lv_iload_n hx hb dX6_textAt_34 rfl (lv_at hl 3 rfl) ?_
            refine lv_aload_n hx hb dX6_textAt_35 rfl (lv_at hl 0 rfl) ?_
            refine rGet (v := .int (σ_13 31 4)) (C := RX6) (T := TX6) (N := 26) hx hb fx hown hts hin hw 31 (hF.1 31 (by decide)) rfl rfl 4 (by decide) (hts (.fieldLink RX6 64 "LeaguewheelModel" "karts" "I") (by decide +kernel)) (fun _ h9 => h9) rfl dX6_textAt_36 ?_
            refine lv_rep0 (x := (σ_13 31 4)) (y := nI n) (by subst_vars; exact hmn) ?_
            refine lv_icmp_ge (tgt := 65) hx hb dX6_textAt_39 (by decide) (fun c_16 => ?_) (fun c_16 => ?_)
            · skip
              have c_16 : n ≤ i := (nI_leI (by omega) (by omega)).mp c_16
              refine lv_iload_n hx hb dX6_textAt_65 rfl (lv_at hl 1 rfl) ?_
              refine lv_iconst (v := 2) hx hb dX6_textAt_66 (by decide) ?_
              refine lv_irem hx hb dX6_textAt_67 (by decide) ?_
              refine lv_rep0 (x := ((nI (ix x)) - (nI (ix x)) / 2 * 2)) (y := nI (ix x % 2)) (by exact pk_rem (d := 2) (by omega) (by decide) (by decide)) ?_
              refine lv_iconst (v := 1) hx hb dX6_textAt_68 (by decide) ?_
              refine lv_rep0 (x := 1) (y := nI 1) rfl ?_
              refine lv_icmp_ne (tgt := 77) hx hb dX6_textAt_69 (by decide) (fun c_17 => ?_) (fun c_17 => ?_)
              · skip
                have c_17 : ¬ (ix x % 2) = 1 := fun h9 => c_17 ((nI_eq (by omega) (by omega)).mpr h9)
                refine lv_bipush (v := 48) hx hb dX6_textAt_77 (by decide) ?_
                have hf9 := fsM_lt (fun z9 => snM (σ 44) (σ 45) (σ 31 24) e9 n z9) (ix x) n i (by omega) (by omega)
                refine lv_iload_n hx hb dX6_textAt_79 rfl (lv_at hl 2 rfl) ?_
                refine lv_rep1 (x := 48) (y := nI 48) rfl ?_
                refine lv_iadd hx hb dX6_textAt_80 ?_
                refine lv_rep0 (x := ((nI 48) + (nI (fsM (fun z9 => snM (σ 44) (σ 45) (σ 31 24) e9 n z9) (ix x) i)))) (y := nI (48 + (fsM (fun z9 => snM (σ 44) (σ 45) (σ 31 24) e9 n z9) (ix x) i))) (nI_add _ _) ?_
                refine lv_i2c (v := (Int32.toUInt32 (nI (48 + (fsM (fun z9 => snM (σ 44) (σ 45) (σ 31 24) e9 n z9) (ix x) i))) % 65536).toInt32) hx hb dX6_textAt_81 rfl ?_
                subst eσ_13
                exact rRetZ hx hb hr hw (by first | exact pk_nc _ | decide) (by exact Or.inl ⟨inT_m c_1 c_6, by first | (rw [if_pos (by omega)]; done) | (rw [if_neg (by omega), show n = i by omega]), rfl⟩) hlocks dX6_textAt_82
              · skip
                have c_17 : (ix x % 2) = 1 := (nI_eq (by omega) (by omega)).mp c_17
                refine lv_bipush (v := 62) hx hb dX6_textAt_72 (by decide) ?_
                refine lv_goto (tgt := 82) hx hb dX6_textAt_74 (by decide) ?_
                subst eσ_13
                exact rRetZ hx hb hr hw (by first | exact pk_nc _ | decide) (by exact Or.inl ⟨inT_m c_1 c_6, by first | (rw [if_pos (by omega)]; done) | (rw [if_neg (by omega), show n = i by omega]), rfl⟩) hlocks dX6_textAt_82
            · skip
              have c_16 : ¬ n ≤ i := fun h9 => c_16 ((nI_leI (by omega) (by omega)).mpr h9)
              refine lv_iconst (v := 2) hx hb dX6_textAt_42 (by decide) ?_
              refine lv_aload_n hx hb dX6_textAt_43 rfl (lv_at hl 0 rfl) ?_
              refine lv_iload_n hx hb dX6_textAt_44 rfl (lv_at hl 3 rfl) ?_
              refine rCallI (C := RX6) (As := [.int (nI i)]) (rest := [.int 2]) ⟨hx, hb, hml, hown, hts⟩ fx hw (kX6_stand l G hG hF σ_13 i (by omega) n (by subst_vars; exact hmn) (by omega) e9 (by subst_vars; exact hme) (by omega)) (cwV 1 hts gX6_textAt_X6_stand rfl rfl rfl (by decide +kernel) ⟨Nat.le_of_ble_eq_true rfl, Nat.le_of_ble_eq_true rfl⟩) (hF.1 31 (by decide)) rfl rfl rfl rfl hl.1 rfl (Nat.le_of_ble_eq_true rfl) dX6_textAt_45 ⟨Nat.zero_le _, Nat.zero_le _⟩ ?_
              intro r_19 σ_20 H locs p_18 hw
              obtain ⟨er_19, eσ_20⟩ := p_18
              have er_19 := er_19.symm; subst er_19
              have eσ_20 := eσ_20.symm; subst eσ_20
              refine lv_rep0 (x := (nI (snM (σ_13 44) (σ_13 45) (σ_13 31 24) e9 n i))) (y := (nI (snM (σ 44) (σ 45) (σ 31 24) e9 n i))) (by subst_vars; rfl) ?_
              refine lv_rep0 (x := (nI (snM (σ 44) (σ 45) (σ 31 24) e9 n i))) (y := nI (snM (σ 44) (σ 45) (σ 31 24) e9 n i)) (by rfl) ?_
              have hs9 := cntA_le (fun a => !decide (a = i) && stBm (σ 44) (σ 45) (σ 31 24) e9 n a i) n; change snM (σ 44) (σ 45) (σ 31 24) e9 n i ≤ n at hs9
              refine lv_rep1 (x := 2) (y := nI 2) rfl ?_
              refine lv_imul hx hb dX6_textAt_48 ?_
              refine lv_rep0 (x := ((nI 2) * (nI (snM (σ 44) (σ 45) (σ 31 24) e9 n i)))) (y := nI (2 * (snM (σ 44) (σ 45) (σ 31 24) e9 n i))) (pk_mul _ _) ?_
              refine lv_iload_n hx hb dX6_textAt_49 rfl (lv_at hl 1 rfl) ?_
              refine lv_icmp_ne (tgt := 57) hx hb dX6_textAt_50 (by decide) (fun c_21 => ?_) (fun c_21 => ?_)
              · skip
                have c_21 : ¬ (2 * (snM (σ 44) (σ 45) (σ 31 24) e9 n i)) = (ix x) := fun h9 => c_21 ((nI_eq (by omega) (by omega)).mpr h9)
                refine lv_iload_n hx hb dX6_textAt_57 rfl (lv_at hl 2 rfl) ?_
                refine lv_istore_n (lv' := [(2, .int (nI (fsM (fun z9 => snM (σ 44) (σ 45) (σ 31 24) e9 n z9) (ix x) i))), (0, .ref (gad G 31)), (1, .int (nI (ix x))), (3, .int (nI i))]) hx hb dX6_textAt_58 rfl hl (by decide) rfl (fun ls hl => ?_)
                refine lv_iinc (v := (nI (i + 1))) (lv' := [(3, .int (nI (i + 1))), (2, .int (nI (fsM (fun z9 => snM (σ 44) (σ 45) (σ 31 24) e9 n z9) (ix x) i))), (0, .ref (gad G 31)), (1, .int (nI (ix x)))]) hx hb dX6_textAt_59 hl (k := 3) rfl (nI_1 _) (by decide) rfl (fun ls hl => ?_)
                refine lv_goto (tgt := 34) hx hb dX6_textAt_62 (by decide) ?_
                have q_22 : (nI (fsM (fun z9 => snM (σ 44) (σ 45) (σ 31 24) e9 n z9) (ix x) i)) = (nI (fsM (fun z9 => snM (σ 44) (σ 45) (σ 31 24) e9 n z9) (ix x) (i + 1))) := by first | rfl | (rw [fsM]; first | (rw [if_pos c_21]; done) | (rw [if_neg c_21]; done))
                exact ih34 (i + 1) (by omega) (by omega) _ _ _ hw (lv_c (lv_at hl 2 rfl) (lv_c (lv_at hl 3 rfl) (lv_c (lv_atq hl 1 rfl q_22) (lv_c (lv_at hl 0 rfl) (lv_c0 hl)))))
              · skip
                have c_21 : (2 * (snM (σ 44) (σ 45) (σ 31 24) e9 n i)) = (ix x) := (nI_eq (by omega) (by omega)).mp c_21
                refine lv_iload_n hx hb dX6_textAt_53 rfl (lv_at hl 3 rfl) ?_
                refine lv_goto (tgt := 58) hx hb dX6_textAt_54 (by decide) ?_
                refine lv_istore_n (lv' := [(2, .int (nI i)), (0, .ref (gad G 31)), (1, .int (nI (ix x))), (3, .int (nI i))]) hx hb dX6_textAt_58 rfl hl (by decide) rfl (fun ls hl => ?_)
                refine lv_iinc (v := (nI (i + 1))) (lv' := [(3, .int (nI (i + 1))), (2, .int (nI i)), (0, .ref (gad G 31)), (1, .int (nI (ix x)))]) hx hb dX6_textAt_59 hl (k := 3) rfl (nI_1 _) (by decide) rfl (fun ls hl => ?_)
                refine lv_goto (tgt := 34) hx hb dX6_textAt_62 (by decide) ?_
                have q_23 : (nI i) = (nI (fsM (fun z9 => snM (σ 44) (σ 45) (σ 31 24) e9 n z9) (ix x) (i + 1))) := by first | rfl | (rw [fsM]; first | (rw [if_pos c_21]; done) | (rw [if_neg c_21]; done))
                exact ih34 (i + 1) (by omega) (by omega) _ _ _ hw (lv_c (lv_at hl 2 rfl) (lv_c (lv_at hl 3 rfl) (lv_c (lv_atq hl 1 rfl q_23) (lv_c (lv_at hl 0 rfl) (lv_c0 hl)))))
        have q_24 : 0 = (nI (fsM (fun z9 => snM (σ 44) (σ 45) (σ 31 24) e9 n z9) (ix x) 0)) := by first | rfl | (rw [fsM]; first | (rw [if_pos c_6]; done) | (rw [if_neg c_6]; done))
        have q_25 : 0 = (nI 0) := by first | rfl | (rw [fsM]; first | (rw [if_pos c_6]; done) | (rw [if_neg c_6]; done))
        exact lab_34 (n - 0 + 1) 0 (by omega) (by omega) _ _ _ hw (lv_c (lv_at hl 2 rfl) (lv_c (lv_at hl 3 rfl) (lv_c (lv_atq hl 1 rfl q_24) (lv_c (lv_atq hl 0 rfl q_25) (lv_c0 hl)))))
      · skip
        exact absurd c_14 (by decide)
