def rmX5_hitRanks : Room := ({ frames := 3, cells := 0, slots := 0, locals := 68 } : Room)
set_option maxHeartbeats 4000000 in
set_option maxRecDepth 100000 in
theorem kX5_hitRanks (l : Launch) (G : Gx) (hG : gOk G) (hF : Full G) (σ : St) (g n e9 z : Nat) (b : Bool) (hIv9 : CIv σ g n b e9 z) (f : Int32) (w : Nat) (u : Int32) (hw6 : w < 2 ^ 30) (hb9 : b = true)  : CtI l yX5_hitRanks wsX5_hitRanks rmX5_hitRanks G σ [.ref (gad G 0), .int f, .int (nI w), .int u] (fun r σ' => r = nI (htN σ n f w u n) ∧ σ' = htL σ n f w u n) := by
  refine bgMet (cc := cX5_hitRanks) (maxL := 7) (ret := (some .int)) (own := RX5) (by decide) rfl rfl hG (Nat.le_of_ble_eq_true rfl) rfl ?_
  intro p e s m args below meth c ls Bd hl
  obtain ⟨hx, hb, hr, hml, hts, hown, hlocks, fx, hw⟩ := Bd
  have hl : lv_has ls 7 [(0, .ref (gad G 0)), (1, .int f), (2, .int (nI w)), (3, .int u)] := hl
  have hin : ∀ w ∈ wsX50, w ∈ wsX5_hitRanks := by decide +kernel
  obtain ⟨⟨hg, hg1, hg2⟩, ⟨hn, hn6⟩, hon, ⟨he, he8⟩, ⟨hz, hz5⟩, hrk, hcn, hrec⟩ := id hIv9
  refine lv_iconst (v := 0) hx hb dX5_hitRanks_0 (by decide) ?_
  refine lv_istore (lv' := [(4, .int 0), (0, .ref (gad G 0)), (1, .int f), (2, .int (nI w)), (3, .int u)]) hx hb dX5_hitRanks_1 hl (by decide) rfl (fun ls hl => ?_)
  refine lv_iconst (v := 0) hx hb dX5_hitRanks_3 (by decide) ?_
  refine lv_istore (lv' := [(5, .int 0), (4, .int 0), (0, .ref (gad G 0)), (1, .int f), (2, .int (nI w)), (3, .int u)]) hx hb dX5_hitRanks_4 hl (by decide) rfl (fun ls hl => ?_)
  have lab_6 : ∀ (n9 : Nat), ∀ (i : Nat), n - i < n9 → i ≤ n → ∀ (H : Heap) (locs : List Loc) (ls : Array Slot), Wd G s (htL σ n f w u i) H locs → lv_has ls 7 [(0, .ref (gad G 0)), (1, .int f), (2, .int (nI w)), (3, .int u), (4, .int (nI (htN σ n f w u i))), (5, .int (nI i))] → W p l e rmX5_hitRanks s m args below meth c H locs 0 0 (MQ below (va_Qi (fun r σ' => r = nI (htN σ n f w u n) ∧ σ' = htL σ n f w u n) (BW G) (gA G)) args s 0 0 (gA G)) (F0 m 6 ls []) := by
    intro n9
    induction n9 with
    | zero => intro i hn9; exact absurd hn9 (Nat.not_lt_zero _)
    | succ n9 ih6 =>
      intro i hn9 h6_0 H locs ls hw hl
      obtain ⟨σ_1, eσ_1⟩ : ∃ w9, w9 = htL σ n f w u i := ⟨_, rfl⟩
      rw [← eσ_1] at hw
      refine lv_iload hx hb dX5_hitRanks_6 (lv_at hl 5 rfl) ?_
      refine lv_aload_n hx hb dX5_hitRanks_8 rfl (lv_at hl 0 rfl) ?_
      refine rGet (v := .int (σ_1 0 7)) (C := RX5) (T := TX5) (N := 10) hx hb fx hown hts hin hw 0 (hF.1 0 (by decide)) rfl rfl 7 (by decide) (hts (.fieldLink RX5 53 "Leaguewheel" "kartCount" "I") (by decide +kernel)) (fun _ h9 => h9) rfl dX5_hitRanks_9 ?_
      refine lv_rep0 (x := (σ_1 0 7)) (y := nI n) (by subst_vars; rw [htL_o (by decide) (by decide)]; exact hn) ?_
      refine lv_icmp_ge (tgt := 72) hx hb dX5_hitRanks_12 (by decide) (fun c_2 => ?_) (fun c_2 => ?_)
      · skip
        have c_2 : n ≤ i := (nI_leI (by omega) (by omega)).mp c_2
        refine lv_iload hx hb dX5_hitRanks_72 (lv_at hl 4 rfl) ?_
        subst eσ_1
        exact rRetI hx hb hr hw (by rw [show n = i by omega]; exact ⟨rfl, rfl⟩) hlocks dX5_hitRanks_74
      · skip
        have c_2 : ¬ n ≤ i := fun h9 => c_2 ((nI_leI (by omega) (by omega)).mpr h9)
        have lab_66 : ∀ (H : Heap) (locs : List Loc) (ls : Array Slot), Wd G s (htL σ n f w u (i + 1)) H locs → lv_has ls 7 [(0, .ref (gad G 0)), (1, .int f), (2, .int (nI w)), (3, .int u), (4, .int (nI (htN σ n f w u (i + 1)))), (5, .int (nI i))] → W p l e rmX5_hitRanks s m args below meth c H locs 0 0 (MQ below (va_Qi (fun r σ' => r = nI (htN σ n f w u n) ∧ σ' = htL σ n f w u n) (BW G) (gA G)) args s 0 0 (gA G)) (F0 m 66 ls []) := by
          intro   H locs ls hw hl
          obtain ⟨σ_3, eσ_3⟩ : ∃ w9, w9 = htL σ n f w u (i + 1) := ⟨_, rfl⟩
          rw [← eσ_3] at hw
          refine lv_iinc (v := (nI (i + 1))) (lv' := [(5, .int (nI (i + 1))), (0, .ref (gad G 0)), (1, .int f), (2, .int (nI w)), (3, .int u), (4, .int (nI (htN σ n f w u (i + 1))))]) hx hb dX5_hitRanks_66 hl (k := 5) rfl (nI_1 _) (by decide) rfl (fun ls hl => ?_)
          refine lv_goto (tgt := 6) hx hb dX5_hitRanks_69 (by decide) ?_
          have q_4 : σ_3 = htL σ n f w u (i + 1) := by subst eσ_3; rfl
          rw [q_4] at hw
          exact ih6 (i + 1) (by omega) (by omega) _ _ _ hw (lv_c (lv_at hl 1 rfl) (lv_c (lv_at hl 2 rfl) (lv_c (lv_at hl 3 rfl) (lv_c (lv_at hl 4 rfl) (lv_c (lv_at hl 5 rfl) (lv_c (lv_at hl 0 rfl) (lv_c0 hl)))))))
        refine lv_aload_n hx hb dX5_hitRanks_15 rfl (lv_at hl 0 rfl) ?_
        refine rGet (v := .ref (gad G 4)) (C := RX5) (T := TX5) (N := 10) hx hb fx hown hts hin hw 0 (hF.1 0 (by decide)) rfl rfl 1 (by decide) (hts (.fieldLink RX5 21 "Leaguewheel" "race" "LLeaguewheel$Race;") (by decide +kernel)) (fun _ h9 => h9) rfl dX5_hitRanks_16 ?_
        refine lv_iload hx hb dX5_hitRanks_19 (lv_at hl 5 rfl) ?_
        refine rCallI (C := RX3) (As := [.int (nI i)]) (rest := []) ⟨hx, hb, hml, hown, hts⟩ fx hw (kX3_countAhead l G hG hF σ_1 4 (Or.inl rfl) i (by omega) n (by have hz1 := (hcn hb9).1; subst_vars; rw [htL_o (by decide) (by decide)]; exact hz1) (by omega) (by subst_vars; exact rOk_of (htL_o (by decide) (by decide) i) hrk)) (cwV 1 hts gX5_hitRanks_X3_countAhead rfl rfl rfl (by decide +kernel) ⟨Nat.le_of_ble_eq_true rfl, Nat.le_of_ble_eq_true rfl⟩) (hF.1 4 (by decide)) rfl rfl rfl rfl hl.1 rfl (Nat.le_of_ble_eq_true rfl) dX5_hitRanks_21 ⟨Nat.zero_le _, Nat.zero_le _⟩ ?_
        intro r_6 σ_7 H locs p_5 hw
        obtain ⟨er_6, eσ_7⟩ := p_5
        have er_6 := er_6.symm; subst er_6
        have eσ_7 := eσ_7.symm; subst eσ_7
        have hr8 := cntA_lt (P := fun a => ahB σ_1 4 a i) (n := n) (k := i) (by omega) (ahB_irr _ 4 i)
        refine lv_rep0 (x := (nI (cntA (fun a => ahB σ_1 4 a i) n))) (y := nI (rkA σ n i)) (by subst_vars; unfold rkA; rw [show (fun a => ahB (htL σ n f w u i) 4 a i) = (fun a => ahB σ 4 a i) from funext fun a => ahB_of (fun c9 q1 q2 _ _ => htL_o q1 q2 i) a i]) ?_
        have hr9 := rkA_lt (σ := σ) (n := n) (k := i) (by omega)
        refine lv_istore (lv' := [(6, .int (nI (rkA σ n i))), (0, .ref (gad G 0)), (1, .int f), (2, .int (nI w)), (3, .int u), (4, .int (nI (htN σ n f w u i))), (5, .int (nI i))]) hx hb dX5_hitRanks_24 hl (by decide) rfl (fun ls hl => ?_)
        refine lv_iload hx hb dX5_hitRanks_26 (lv_at hl 0 rfl) ?_
        refine lv_iload_n hx hb dX5_hitRanks_28 rfl (lv_at hl 2 rfl) ?_
        refine lv_icmp_lt (tgt := 66) hx hb dX5_hitRanks_29 (by decide) (fun c_8 => ?_) (fun c_8 => ?_)
        · skip
          have q_9 : (nI (htN σ n f w u i)) = (nI (htN σ n f w u (i + 1))) := by subst_vars; first | rw [htN_f (hitB_f1 c_8)] | rw [htN_f (hitB_f2 c_8)] | rw [htN_f (hitB_f3 c_8)] | rw [htN_2 (by simpa using c_8)] | rw [htN_t (hitB_t c_8 hl hl) (by simpa using c_8)]
          have q_10 : σ_1 = htL σ n f w u (i + 1) := by subst eσ_1; first | exact (htL_f (hitB_f1 c_8)).symm | exact (htL_f (hitB_f2 c_8)).symm | exact (htL_f (hitB_f3 c_8)).symm | exact (htL_t (hitB_t c_8 hl hl)).symm
          rw [q_10] at hw
          exact lab_66   _ _ _ hw (lv_c (lv_at hl 1 rfl) (lv_c (lv_at hl 2 rfl) (lv_c (lv_at hl 3 rfl) (lv_c (lv_at hl 4 rfl) (lv_c (lv_atq hl 5 rfl q_9) (lv_c (lv_at hl 6 rfl) (lv_c0 hl)))))))
        · skip
          refine lv_iload hx hb dX5_hitRanks_32 (lv_at hl 0 rfl) ?_
          refine lv_iload_n hx hb dX5_hitRanks_34 rfl (lv_at hl 3 rfl) ?_
          refine lv_icmp_ge (tgt := 66) hx hb dX5_hitRanks_35 (by decide) (fun c_11 => ?_) (fun c_11 => ?_)
          · skip
            have c_11 : w ≤ (rkA σ n i) := (nI_leI (by omega) (by omega)).mp c_11
            have q_12 : (nI (htN σ n f w u i)) = (nI (htN σ n f w u (i + 1))) := by subst_vars; first | rw [htN_f (hitB_f1 c_11)] | rw [htN_f (hitB_f2 c_11)] | rw [htN_f (hitB_f3 c_11)] | rw [htN_2 (by simpa using c_11)] | rw [htN_t (hitB_t c_8 c_11 hl) (by simpa using c_11)]
            have q_13 : σ_1 = htL σ n f w u (i + 1) := by subst eσ_1; first | exact (htL_f (hitB_f1 c_11)).symm | exact (htL_f (hitB_f2 c_11)).symm | exact (htL_f (hitB_f3 c_11)).symm | exact (htL_t (hitB_t c_8 c_11 hl)).symm
            rw [q_13] at hw
            exact lab_66   _ _ _ hw (lv_c (lv_at hl 1 rfl) (lv_c (lv_at hl 2 rfl) (lv_c (lv_at hl 3 rfl) (lv_c (lv_at hl 4 rfl) (lv_c (lv_atq hl 5 rfl q_12) (lv_c (lv_at hl 6 rfl) (lv_c0 hl)))))))
          · skip
            have c_11 : ¬ w ≤ (rkA σ n i) := fun h9 => c_11 ((nI_leI (by omega) (by omega)).mpr h9)
            refine lv_aload_n hx hb dX5_hitRanks_38 rfl (lv_at hl 1 rfl) ?_
            refine rGet (v := .ref (gad G 4)) (C := RX5) (T := TX5) (N := 10) hx hb fx hown hts hin hw 0 (hF.1 0 (by decide)) rfl rfl 1 (by decide) (hts (.fieldLink RX5 21 "Leaguewheel" "race" "LLeaguewheel$Race;") (by decide +kernel)) (fun _ h9 => h9) rfl dX5_hitRanks_39 ?_
            refine lv_iload hx hb dX5_hitRanks_42 (lv_at hl 6 rfl) ?_
            refine rCallI (C := RX3) (As := [.int (nI i)]) (rest := []) ⟨hx, hb, hml, hown, hts⟩ fx hw (kX3_isFinished l G hG hF σ_1 4 (Or.inl rfl) i (by omega)) (cwV 1 hts gX5_hitRanks_X3_isFinished rfl rfl rfl (by decide +kernel) ⟨Nat.le_of_ble_eq_true rfl, Nat.le_of_ble_eq_true rfl⟩) (hF.1 4 (by decide)) rfl rfl rfl rfl hl.1 rfl (Nat.le_of_ble_eq_true rfl) dX5_hitRanks_44 ⟨Nat.zero_le _, Nat.zero_le _⟩ ?_
            intro r_15 σ_16 H locs p_14 hw
            obtain ⟨er_15, eσ_16⟩ := p_14
            have er_15 := er_15.symm; subst er_15
            have eσ_16 := eσ_16.symm; subst eσ_16
            refine lv_rep0 (x := (bI (finB σ_1 4 i))) (y := (bI (finB σ 4 i))) (by subst_vars; unfold finB; rw [htL_o (by decide) (by decide), htL_o (by decide) (by decide)]) ?_
            refine lv_b_ne (tgt := 66) hx hb dX5_hitRanks_47 (by decide) (fun c_17 => ?_) (fun c_17 => ?_)
            · skip
              have q_18 : (nI (htN σ n f w u i)) = (nI (htN σ n f w u (i + 1))) := by subst_vars; first | rw [htN_f (hitB_f1 c_17)] | rw [htN_f (hitB_f2 c_17)] | rw [htN_f (hitB_f3 c_17)] | rw [htN_2 (by simpa using c_17)] | rw [htN_t (hitB_t c_8 c_11 c_17) (by simpa using c_17)]
              have q_19 : σ_1 = htL σ n f w u (i + 1) := by subst eσ_1; first | exact (htL_f (hitB_f1 c_17)).symm | exact (htL_f (hitB_f2 c_17)).symm | exact (htL_f (hitB_f3 c_17)).symm | exact (htL_t (hitB_t c_8 c_11 c_17)).symm
              rw [q_19] at hw
              exact lab_66   _ _ _ hw (lv_c (lv_at hl 1 rfl) (lv_c (lv_at hl 2 rfl) (lv_c (lv_at hl 3 rfl) (lv_c (lv_at hl 4 rfl) (lv_c (lv_atq hl 5 rfl q_18) (lv_c (lv_at hl 6 rfl) (lv_c0 hl)))))))
            · skip
              refine lv_aload_n hx hb dX5_hitRanks_50 rfl (lv_at hl 1 rfl) ?_
              refine rGet (v := .ref (gad G 23)) (C := RX5) (T := TX5) (N := 10) hx hb fx hown hts hin hw 0 (hF.1 0 (by decide)) rfl rfl 4 (by decide) (hts (.fieldLink RX5 38 "Leaguewheel" "items" "LLeaguewheel$Items;") (by decide +kernel)) (fun _ h9 => h9) rfl dX5_hitRanks_51 ?_
              refine lv_iload hx hb dX5_hitRanks_54 (lv_at hl 6 rfl) ?_
              refine lv_iload_n hx hb dX5_hitRanks_56 rfl (lv_at hl 4 rfl) ?_
              refine rCallI (C := RX1) (As := [.int (nI i), .int u]) (rest := []) ⟨hx, hb, hml, hown, hts⟩ fx hw (kX1_hit l G hG hF σ_1 i (by omega) u) (cwV 2 hts gX5_hitRanks_X1_hit rfl rfl rfl (by decide +kernel) ⟨Nat.le_of_ble_eq_true rfl, Nat.le_of_ble_eq_true rfl⟩) (hF.1 23 (by decide)) rfl rfl rfl rfl hl.1 rfl (Nat.le_of_ble_eq_true rfl) dX5_hitRanks_57 ⟨Nat.zero_le _, Nat.zero_le _⟩ ?_
              intro r_21 σ_22 H locs p_20 hw
              obtain ⟨er_21, eσ_22⟩ := p_20
              have er_21 := er_21.symm; subst er_21
              refine lv_b_eq (tgt := 66) hx hb dX5_hitRanks_60 (by decide) (fun c_23 => ?_) (fun c_23 => ?_)
              · skip
                have q_24 : (nI (htN σ n f w u i)) = (nI (htN σ n f w u (i + 1))) := by subst_vars; first | rw [htN_f (hitB_f1 c_23)] | rw [htN_f (hitB_f2 c_23)] | rw [htN_f (hitB_f3 c_23)] | rw [htN_2 (by simpa using c_23)] | rw [htN_t (hitB_t c_8 c_11 c_17) (by simpa using c_23)]
                have q_25 : σ_22 = htL σ n f w u (i + 1) := by subst eσ_22 eσ_1; first | exact (htL_f (hitB_f1 c_23)).symm | exact (htL_f (hitB_f2 c_23)).symm | exact (htL_f (hitB_f3 c_23)).symm | exact (htL_t (hitB_t c_8 c_11 c_17)).symm
                rw [q_25] at hw
                exact lab_66   _ _ _ hw (lv_c (lv_at hl 1 rfl) (lv_c (lv_at hl 2 rfl) (lv_c (lv_at hl 3 rfl) (lv_c (lv_at hl 4 rfl) (lv_c (lv_atq hl 5 rfl q_24) (lv_c (lv_at hl 6 rfl) (lv_c0 hl)))))))
              · skip
                refine lv_iinc (v := (nI ((htN σ n f w u i) + 1))) (lv' := [(4, .int (nI ((htN σ n f w u i) + 1))), (6, .int (nI (rkA σ n i))), (0, .ref (gad G 0)), (1, .int f), (2, .int (nI w)), (3, .int u), (5, .int (nI i))]) hx hb dX5_hitRanks_63 hl (k := 5) rfl (nI_1 _) (by decide) rfl (fun ls hl => ?_)
                have q_26 : (nI ((htN σ n f w u i) + 1)) = (nI (htN σ n f w u (i + 1))) := by subst_vars; first | rw [htN_f (hitB_f1 c_23)] | rw [htN_f (hitB_f2 c_23)] | rw [htN_f (hitB_f3 c_23)] | rw [htN_2 (by simpa using c_23)] | rw [htN_t (hitB_t c_8 c_11 c_17) (by simpa using c_23)]
                have q_27 : σ_22 = htL σ n f w u (i + 1) := by subst eσ_22 eσ_1; first | exact (htL_f (hitB_f1 c_23)).symm | exact (htL_f (hitB_f2 c_23)).symm | exact (htL_f (hitB_f3 c_23)).symm | exact (htL_t (hitB_t c_8 c_11 c_17)).symm
                rw [q_27] at hw
                exact lab_66   _ _ _ hw (lv_c (lv_at hl 2 rfl) (lv_c (lv_at hl 3 rfl) (lv_c (lv_at hl 4 rfl) (lv_c (lv_at hl 5 rfl) (lv_c (lv_atq hl 0 rfl q_26) (lv_c (lv_at hl 6 rfl) (lv_c0 hl)))))))
  have q_28 : 0 = (nI (htN σ n f w u 0)) := by first | rfl | (simp)
  have q_29 : 0 = (nI 0) := by first | rfl | (simp)
  have q_30 : σ = htL σ n f w u 0 := by rfl
  rw [q_30] at hw
  exact lab_6 (n - 0 + 1) 0 (by omega) (by omega) _ _ _ hw (lv_c (lv_at hl 2 rfl) (lv_c (lv_at hl 3 rfl) (lv_c (lv_at hl 4 rfl) (lv_c (lv_at hl 5 rfl) (lv_c (lv_atq hl 1 rfl q_28) (lv_c (lv_atq hl 0 rfl q_29) (lv_c0 hl)))))))

def rmX5_use : Room := ({ frames := 8, cells := 1, slots := 6, locals := 123 } : Room)
set_option maxHeartbeats 4000000 in
set_option maxRecDepth 100000 in
theorem kX5_use (l : Launch) (hlt : l.stackTraces = false) (G : Gx) (hG : gOk G) (hF : Full G) (σ : St) (x : Int32) (g n e9 z : Nat) (b : Bool) (hIv9 : CIv σ g n b e9 z)  : CxI l yX5_use wsX5_use rmX5_use G σ [.ref (gad G 0), .int x] (fun r σ' => r = (if σ 24 (ix x) = 0 then 0 else if σ 24 (ix x) = 2 then 0 else if σ 24 (ix x) = 1 then nI (htN (tkS σ (ix x)) n (nI (rkA σ n (ix x)) - 1) (rkA σ n (ix x)) (σ 0 9 + 5) n) else nI (htN (tkS σ (ix x)) n 0 (rkA σ n (ix x)) (σ 0 9 + 2) n)) ∧ σ' = (if σ 24 (ix x) = 0 then upA (tkS σ (ix x)) 26 (upd (σ 26) (ix x) 0) else if σ 24 (ix x) = 2 then upA (tkS σ (ix x)) 25 (upd (σ 25) (ix x) 1) else if σ 24 (ix x) = 1 then htL (tkS σ (ix x)) n (nI (rkA σ n (ix x)) - 1) (rkA σ n (ix x)) (σ 0 9 + 5) n else htL (tkS σ (ix x)) n 0 (rkA σ n (ix x)) (σ 0 9 + 2) n) ∧ inB x n = true ∧ (b && !finB σ 4 (ix x) && !decide (σ 24 (ix x) = -1)) = true) (fun E => (E = xIOB ∧ inB x n = false) ∨ (E = xISE ∧ inB x n = true ∧ (b && !finB σ 4 (ix x) && !decide (σ 24 (ix x) = -1)) = false)) := by
  refine bgX (cc := cX5_use) (maxL := 4) (ret := (some .int)) (own := RX5) (by decide) rfl rfl hG (Nat.le_of_ble_eq_true rfl) rfl ?_
  intro p e s m args below meth c ls hout Bd hl
  obtain ⟨hx, hb, hr, hml, hts, hown, hlocks, fx, hw⟩ := Bd
  have hl : lv_has ls 4 [(0, .ref (gad G 0)), (1, .int x)] := hl
  have hin : ∀ w ∈ wsX50, w ∈ wsX5_use := by decide +kernel
  obtain ⟨⟨hg, hg1, hg2⟩, ⟨hn, hn6⟩, hon, ⟨he, he8⟩, ⟨hz, hz5⟩, hrk, hcn, hrec⟩ := id hIv9
  refine lv_aload_n hx hb dX5_use_0 rfl (lv_at hl 0 rfl) ?_
  refine lv_iload_n hx hb dX5_use_1 rfl (lv_at hl 1 rfl) ?_
  refine rCallXV (C := RX5) (As := [.int x]) (rest := []) ⟨hx, hb, hml, hown, hts⟩ fx hw (kX5_checkKart l hlt G hG hF σ x g n e9 z b hIv9) (cwV 1 hts gX5_use_X5_checkKart rfl rfl rfl (by decide +kernel) ⟨Nat.le_of_ble_eq_true rfl, Nat.le_of_ble_eq_true rfl⟩) (hF.1 0 (by decide)) rfl rfl rfl rfl hl.1 rfl (Nat.le_of_ble_eq_true rfl) dX5_use_2 ⟨Nat.le_of_ble_eq_true rfl, Nat.le_of_ble_eq_true rfl⟩ (fun E ce q9 H locs hE hw h1 h2 h3 => ?_) ?_
  · skip
    exact rOut (by exact Or.inl hE) hw h1 h2 h3 hout hlocks (Nat.le_of_ble_eq_true rfl) (Nat.le_of_ble_eq_true rfl)
  intro σ_2 H locs p_1 hw
  obtain ⟨eσ_2, p_1_0⟩ := p_1
  have eσ_2 := eσ_2.symm; subst eσ_2
  have hx9 := inB_ix (by omega) p_1_0
  have q_3 : x = (nI (ix x)) := by exact hx9.1
  have hl : lv_has ls 4 [(0, .ref (gad G 0)), (1, .int (nI (ix x)))] := (lv_c (lv_at hl 0 rfl) (lv_c (lv_atq hl 1 rfl q_3) (lv_c0 hl)))
  refine lv_aload_n hx hb dX5_use_5 rfl (lv_at hl 0 rfl) ?_
  refine lv_iload_n hx hb dX5_use_6 rfl (lv_at hl 1 rfl) ?_
  refine rCallXV (C := RX5) (As := [.int (nI (ix x))]) (rest := []) ⟨hx, hb, hml, hown, hts⟩ fx hw (kX5_checkStillRacing l hlt G hG hF σ ((ix x)) (by omega) g n e9 z b hIv9) (cwV 1 hts gX5_use_X5_checkStillRacing rfl rfl rfl (by decide +kernel) ⟨Nat.le_of_ble_eq_true rfl, Nat.le_of_ble_eq_true rfl⟩) (hF.1 0 (by decide)) rfl rfl rfl rfl hl.1 rfl (Nat.le_of_ble_eq_true rfl) dX5_use_7 ⟨Nat.le_of_ble_eq_true rfl, Nat.le_of_ble_eq_true rfl⟩ (fun E ce q9 H locs hE hw h1 h2 h3 => ?_) ?_
  · skip
    exact rOut (by exact Or.inr ⟨hE.1, p_1_0, by rw [hE.2]; rfl⟩) hw h1 h2 h3 hout hlocks (Nat.le_of_ble_eq_true rfl) (Nat.le_of_ble_eq_true rfl)
  intro σ_5 H locs p_4 hw
  obtain ⟨eσ_5, p_4_0, p_4_1⟩ := p_4
  have eσ_5 := eσ_5.symm; subst eσ_5
  refine lv_aload_n hx hb dX5_use_10 rfl (lv_at hl 0 rfl) ?_
  refine rGet (v := .ref (gad G 23)) (C := RX5) (T := TX5) (N := 10) hx hb fx hown hts hin hw 0 (hF.1 0 (by decide)) rfl rfl 4 (by decide) (hts (.fieldLink RX5 38 "Leaguewheel" "items" "LLeaguewheel$Items;") (by decide +kernel)) (fun _ h9 => h9) rfl dX5_use_11 ?_
  refine lv_iload_n hx hb dX5_use_14 rfl (lv_at hl 1 rfl) ?_
  refine rCallI (C := RX1) (As := [.int (nI (ix x))]) (rest := []) ⟨hx, hb, hml, hown, hts⟩ fx hw (kX1_heldBy l G hG hF σ ((ix x)) (by omega)) (cwV 1 hts gX5_use_X1_heldBy rfl rfl rfl (by decide +kernel) ⟨Nat.le_of_ble_eq_true rfl, Nat.le_of_ble_eq_true rfl⟩) (hF.1 23 (by decide)) rfl rfl rfl rfl hl.1 rfl (Nat.le_of_ble_eq_true rfl) dX5_use_15 ⟨Nat.zero_le _, Nat.zero_le _⟩ ?_
  intro r_7 σ_8 H locs p_6 hw
  obtain ⟨er_7, eσ_8⟩ := p_6
  have er_7 := er_7.symm; subst er_7
  have eσ_8 := eσ_8.symm; subst eσ_8
  refine lv_istore_n (lv' := [(2, .int (σ 24 (ix x))), (0, .ref (gad G 0)), (1, .int (nI (ix x)))]) hx hb dX5_use_18 rfl hl (by decide) rfl (fun ls hl => ?_)
  refine lv_iload_n hx hb dX5_use_19 rfl (lv_at hl 0 rfl) ?_
  refine lv_iconst (v := (-1)) hx hb dX5_use_20 (by decide) ?_
  refine lv_icmp_ne (tgt := 34) hx hb dX5_use_21 (by decide) (fun c_9 => ?_) (fun c_9 => ?_)
  · skip
    refine lv_aload_n hx hb dX5_use_34 rfl (lv_at hl 1 rfl) ?_
    refine rGet (v := .ref (gad G 23)) (C := RX5) (T := TX5) (N := 10) hx hb fx hown hts hin hw 0 (hF.1 0 (by decide)) rfl rfl 4 (by decide) (hts (.fieldLink RX5 38 "Leaguewheel" "items" "LLeaguewheel$Items;") (by decide +kernel)) (fun _ h9 => h9) rfl dX5_use_35 ?_
    refine lv_iload_n hx hb dX5_use_38 rfl (lv_at hl 2 rfl) ?_
    refine rCallV (C := RX1) (As := [.int (nI (ix x))]) (rest := []) ⟨hx, hb, hml, hown, hts⟩ fx hw (kX1_takeFrom l G hG hF σ ((ix x)) (by omega)) (cwV 1 hts gX5_use_X1_takeFrom rfl rfl rfl (by decide +kernel) ⟨Nat.le_of_ble_eq_true rfl, Nat.le_of_ble_eq_true rfl⟩) (hF.1 23 (by decide)) rfl rfl rfl rfl hl.1 rfl (Nat.le_of_ble_eq_true rfl) dX5_use_39 ⟨Nat.zero_le _, Nat.zero_le _⟩ ?_
    intro σ_11 H locs p_10 hw
    have eσ_11 := p_10
    refine lv_aload_n hx hb dX5_use_42 rfl (lv_at hl 1 rfl) ?_
    refine rGet (v := .ref (gad G 4)) (C := RX5) (T := TX5) (N := 10) hx hb fx hown hts hin hw 0 (hF.1 0 (by decide)) rfl rfl 1 (by decide) (hts (.fieldLink RX5 21 "Leaguewheel" "race" "LLeaguewheel$Race;") (by decide +kernel)) (fun _ h9 => h9) rfl dX5_use_43 ?_
    refine lv_iload_n hx hb dX5_use_46 rfl (lv_at hl 2 rfl) ?_
    refine rCallI (C := RX3) (As := [.int (nI (ix x))]) (rest := []) ⟨hx, hb, hml, hown, hts⟩ fx hw (kX3_countAhead l G hG hF σ_11 4 (Or.inl rfl) ((ix x)) (by omega) n (by have hz1 := (hcn p_4_0).1; subst_vars; rw [upA_n (by decide)]; exact hz1) (by omega) (by subst_vars; exact rOk_of (upA_n (by decide)) hrk)) (cwV 1 hts gX5_use_X3_countAhead rfl rfl rfl (by decide +kernel) ⟨Nat.le_of_ble_eq_true rfl, Nat.le_of_ble_eq_true rfl⟩) (hF.1 4 (by decide)) rfl rfl rfl rfl hl.1 rfl (Nat.le_of_ble_eq_true rfl) dX5_use_47 ⟨Nat.zero_le _, Nat.zero_le _⟩ ?_
    intro r_13 σ_14 H locs p_12 hw
    obtain ⟨er_13, eσ_14⟩ := p_12
    have er_13 := er_13.symm; subst er_13
    have eσ_14 := eσ_14.symm; subst eσ_14
    refine lv_rep0 (x := (nI (cntA (fun a => ahB σ_11 4 a (ix x)) n))) (y := nI (rkA σ n (ix x))) (by subst_vars; unfold rkA; rw [show (fun a => ahB (upA σ 24 (upd (σ 24) (ix x) (-1))) 4 a (ix x)) = (fun a => ahB σ 4 a (ix x)) from funext fun a => ahB_24 σ _ a (ix x)]) ?_
    have hr9 := rkA_lt (σ := σ) (n := n) (k := ix x) (by omega)
    refine lv_istore_n (lv' := [(3, .int (nI (rkA σ n (ix x)))), (2, .int (σ 24 (ix x))), (0, .ref (gad G 0)), (1, .int (nI (ix x)))]) hx hb dX5_use_50 rfl hl (by decide) rfl (fun ls hl => ?_)
    refine lv_iload_n hx hb dX5_use_51 rfl (lv_at hl 1 rfl) ?_
    by_cases c_15 : (σ 24 (ix x)) = 0
    · skip
      refine lv_tableIn (tgt := 80) (off := 28) hx hb dX5_use_52 (by rw [c_15]; decide) (by rw [c_15]; decide) (by rw [c_15]; rfl) (by decide) ?_
      refine lv_aload_n hx hb dX5_use_80 rfl (lv_at hl 2 rfl) ?_
      refine rGet (v := .ref (gad G 23)) (C := RX5) (T := TX5) (N := 10) hx hb fx hown hts hin hw 0 (hF.1 0 (by decide)) rfl rfl 4 (by decide) (hts (.fieldLink RX5 38 "Leaguewheel" "items" "LLeaguewheel$Items;") (by decide +kernel)) (fun _ h9 => h9) rfl dX5_use_81 ?_
      refine lv_iload_n hx hb dX5_use_84 rfl (lv_at hl 3 rfl) ?_
      refine rCallV (C := RX1) (As := [.int (nI (ix x))]) (rest := []) ⟨hx, hb, hml, hown, hts⟩ fx hw (kX1_wake l G hG hF σ_11 ((ix x)) (by omega)) (cwV 1 hts gX5_use_X1_wake rfl rfl rfl (by decide +kernel) ⟨Nat.le_of_ble_eq_true rfl, Nat.le_of_ble_eq_true rfl⟩) (hF.1 23 (by decide)) rfl rfl rfl rfl hl.1 rfl (Nat.le_of_ble_eq_true rfl) dX5_use_85 ⟨Nat.zero_le _, Nat.zero_le _⟩ ?_
      intro σ_17 H locs p_16 hw
      have eσ_17 := p_16
      refine lv_iconst (v := 0) hx hb dX5_use_88 (by decide) ?_
      subst eσ_17
      subst eσ_11
      exact vy_ret (rRetI hx hb hr hw (by exact ⟨by rw [if_pos c_15], by rw [if_pos c_15]; simp [tkS, upA_n, upA_s, upA_upA, upA_self, upd_self, upd_upd, pk_us, bI], p_1_0, by simp [p_4_0, p_4_1, c_9]⟩) hlocks dX5_use_89)
    · skip
      by_cases c_18 : (σ 24 (ix x)) = 1
      · skip
        refine lv_tableIn (tgt := 100) (off := 48) hx hb dX5_use_52 (by rw [c_18]; decide) (by rw [c_18]; decide) (by rw [c_18]; rfl) (by decide) ?_
        refine lv_aload_n hx hb dX5_use_100 rfl (lv_at hl 2 rfl) ?_
        refine lv_iload_n hx hb dX5_use_101 rfl (lv_at hl 0 rfl) ?_
        refine lv_iconst (v := 1) hx hb dX5_use_102 (by decide) ?_
        refine lv_rep0 (x := 1) (y := nI 1) rfl ?_
        refine lv_isub hx hb dX5_use_103 ?_
        refine lv_iload_n hx hb dX5_use_104 rfl (lv_at hl 0 rfl) ?_
        refine lv_aload_n hx hb dX5_use_105 rfl (lv_at hl 2 rfl) ?_
        refine rGet (v := .int (σ_11 0 9)) (C := RX5) (T := TX5) (N := 10) hx hb fx hown hts hin hw 0 (hF.1 0 (by decide)) rfl rfl 9 (by decide) (hts (.fieldLink RX5 61 "Leaguewheel" "tick" "I") (by decide +kernel)) (fun _ h9 => h9) rfl dX5_use_106 ?_
        refine lv_iconst (v := 5) hx hb dX5_use_109 (by decide) ?_
        refine lv_iadd hx hb dX5_use_110 ?_
        refine rCallI (C := RX5) (As := [.int ((nI (rkA σ n (ix x))) - (nI 1)), .int (nI (rkA σ n (ix x))), .int ((σ_11 0 9) + 5)]) (rest := []) ⟨hx, hb, hml, hown, hts⟩ fx hw (kX5_hitRanks l G hG hF σ_11 g n e9 z b (by subst_vars; exact CIv_24 hIv9 _) (((nI (rkA σ n (ix x))) - (nI 1))) ((rkA σ n (ix x))) (((σ_11 0 9) + 5)) (by omega) p_4_0) (cwV 3 hts gX5_use_X5_hitRanks rfl rfl rfl (by decide +kernel) ⟨Nat.le_of_ble_eq_true rfl, Nat.le_of_ble_eq_true rfl⟩) (hF.1 0 (by decide)) rfl rfl rfl rfl hl.1 rfl (Nat.le_of_ble_eq_true rfl) dX5_use_111 ⟨Nat.zero_le _, Nat.zero_le _⟩ ?_
        intro r_20 σ_21 H locs p_19 hw
        obtain ⟨er_20, eσ_21⟩ := p_19
        have er_20 := er_20.symm; subst er_20
        subst eσ_21
        subst eσ_11
        exact vy_ret (rRetI hx hb hr hw (by exact ⟨by rw [if_neg (by rw [c_18]; decide), if_neg (by rw [c_18]; decide), if_pos c_18]; rfl, by rw [if_neg (by rw [c_18]; decide), if_neg (by rw [c_18]; decide), if_pos c_18]; rfl, p_1_0, by simp [p_4_0, p_4_1, c_9]⟩) hlocks dX5_use_114)
      · skip
        by_cases c_22 : (σ 24 (ix x)) = 2
        · skip
          refine lv_tableIn (tgt := 90) (off := 38) hx hb dX5_use_52 (by rw [c_22]; decide) (by rw [c_22]; decide) (by rw [c_22]; rfl) (by decide) ?_
          refine lv_aload_n hx hb dX5_use_90 rfl (lv_at hl 2 rfl) ?_
          refine rGet (v := .ref (gad G 23)) (C := RX5) (T := TX5) (N := 10) hx hb fx hown hts hin hw 0 (hF.1 0 (by decide)) rfl rfl 4 (by decide) (hts (.fieldLink RX5 38 "Leaguewheel" "items" "LLeaguewheel$Items;") (by decide +kernel)) (fun _ h9 => h9) rfl dX5_use_91 ?_
          refine lv_iload_n hx hb dX5_use_94 rfl (lv_at hl 3 rfl) ?_
          refine rCallV (C := RX1) (As := [.int (nI (ix x))]) (rest := []) ⟨hx, hb, hml, hown, hts⟩ fx hw (kX1_shield l G hG hF σ_11 ((ix x)) (by omega)) (cwV 1 hts gX5_use_X1_shield rfl rfl rfl (by decide +kernel) ⟨Nat.le_of_ble_eq_true rfl, Nat.le_of_ble_eq_true rfl⟩) (hF.1 23 (by decide)) rfl rfl rfl rfl hl.1 rfl (Nat.le_of_ble_eq_true rfl) dX5_use_95 ⟨Nat.zero_le _, Nat.zero_le _⟩ ?_
          intro σ_24 H locs p_23 hw
          have eσ_24 := p_23
          refine lv_iconst (v := 0) hx hb dX5_use_98 (by decide) ?_
          subst eσ_24
          subst eσ_11
          exact vy_ret (rRetI hx hb hr hw (by exact ⟨by rw [if_neg (by rw [c_22]; decide), if_pos c_22], by rw [if_neg (by rw [c_22]; decide), if_pos c_22]; simp [tkS, upA_n, upA_s, upA_upA, upA_self, upd_self, upd_upd, pk_us, bI], p_1_0, by simp [p_4_0, p_4_1, c_9]⟩) hlocks dX5_use_99)
        · skip
          refine lv_tableOut (tgt := 115) hx hb dX5_use_52 (by rcases tbl3 c_15 c_18 c_22 with qz9 | qz9; exact Or.inl qz9; exact Or.inr qz9) (by decide) ?_
          refine lv_aload_n hx hb dX5_use_115 rfl (lv_at hl 2 rfl) ?_
          refine lv_iconst (v := 0) hx hb dX5_use_116 (by decide) ?_
          refine lv_iload_n hx hb dX5_use_117 rfl (lv_at hl 0 rfl) ?_
          refine lv_aload_n hx hb dX5_use_118 rfl (lv_at hl 2 rfl) ?_
          refine rGet (v := .int (σ_11 0 9)) (C := RX5) (T := TX5) (N := 10) hx hb fx hown hts hin hw 0 (hF.1 0 (by decide)) rfl rfl 9 (by decide) (hts (.fieldLink RX5 61 "Leaguewheel" "tick" "I") (by decide +kernel)) (fun _ h9 => h9) rfl dX5_use_119 ?_
          refine lv_iconst (v := 2) hx hb dX5_use_122 (by decide) ?_
          refine lv_iadd hx hb dX5_use_123 ?_
          refine rCallI (C := RX5) (As := [.int 0, .int (nI (rkA σ n (ix x))), .int ((σ_11 0 9) + 2)]) (rest := []) ⟨hx, hb, hml, hown, hts⟩ fx hw (kX5_hitRanks l G hG hF σ_11 g n e9 z b (by subst_vars; exact CIv_24 hIv9 _) 0 ((rkA σ n (ix x))) (((σ_11 0 9) + 2)) (by omega) p_4_0) (cwV 3 hts gX5_use_X5_hitRanks rfl rfl rfl (by decide +kernel) ⟨Nat.le_of_ble_eq_true rfl, Nat.le_of_ble_eq_true rfl⟩) (hF.1 0 (by decide)) rfl rfl rfl rfl hl.1 rfl (Nat.le_of_ble_eq_true rfl) dX5_use_124 ⟨Nat.zero_le _, Nat.zero_le _⟩ ?_
          intro r_26 σ_27 H locs p_25 hw
          obtain ⟨er_26, eσ_27⟩ := p_25
          have er_26 := er_26.symm; subst er_26
          subst eσ_27
          subst eσ_11
          exact vy_ret (rRetI hx hb hr hw (by exact ⟨by rw [if_neg c_15, if_neg c_22, if_neg c_18]; rfl, by rw [if_neg c_15, if_neg c_22, if_neg c_18]; rfl, p_1_0, by simp [p_4_0, p_4_1, c_9]⟩) hlocks dX5_use_127)
  · skip
    exact rThrow (ik := 71) (is := 215) (ic := 75) (cls := "java/lang/IllegalStateException") (text := _) hx hb hlt hF.2.2.2.2 fx hw hown (by decide +kernel) (hts (.classLink RX5 71 "java/lang/IllegalStateException") (by decide +kernel)) (hts (.initialized "java/lang/IllegalStateException") (by decide +kernel)) (List.mem_of_getElem? (i := 21) rfl) (by decide +kernel) (at_ISE (fun w h => hts w (by revert w; decide +kernel))) gd_ISE (by rw [hml]; exact hl.1) dX5_use_24 dX5_use_27 dX5_use_28 dX5_use_30 dX5_use_33 hout (Nat.le_of_ble_eq_true rfl) (Nat.le_of_ble_eq_true rfl) (Nat.le_of_ble_eq_true rfl) (Nat.le_of_ble_eq_true rfl) hlocks (by exact Or.inr ⟨rfl, p_1_0, by simp [c_9]⟩) (Nat.le_of_ble_eq_true rfl) (Nat.le_of_ble_eq_true rfl)

def rmX5_end : Room := ({ frames := 7, cells := 1, slots := 6, locals := 102 } : Room)
set_option maxHeartbeats 4000000 in
set_option maxRecDepth 100000 in
theorem kX5_end (l : Launch) (hlt : l.stackTraces = false) (G : Gx) (hG : gOk G) (hF : Full G) (σ : St) (g n e9 z : Nat) (b : Bool) (hIv9 : CIv σ g n b e9 z) (hn0 : b = true → 0 < n)  : CxI l yX5_end wsX5_end rmX5_end G σ [.ref (gad G 0)] (fun r σ' => r = nI (wnA σ n n) ∧ σ' = enSt σ n e9 ∧ b = true) (fun E => E = xISE ∧ b = false) := by
  refine bgX (cc := cX5_end) (maxL := 4) (ret := (some .int)) (own := RX5) (by decide) rfl rfl hG (Nat.le_of_ble_eq_true rfl) rfl ?_
  intro p e s m args below meth c ls hout Bd hl
  obtain ⟨hx, hb, hr, hml, hts, hown, hlocks, fx, hw⟩ := Bd
  have hl : lv_has ls 4 [(0, .ref (gad G 0))] := hl
  have hin : ∀ w ∈ wsX50, w ∈ wsX5_end := by decide +kernel
  obtain ⟨⟨hg, hg1, hg2⟩, ⟨hn, hn6⟩, hon, ⟨he, he8⟩, ⟨hz, hz5⟩, hrk, hcn, hrec⟩ := id hIv9
  refine lv_aload_n hx hb dX5_end_0 rfl (lv_at hl 0 rfl) ?_
  refine rCallXV (C := RX5) (As := []) (rest := []) ⟨hx, hb, hml, hown, hts⟩ fx hw (kX5_checkRaceIsOn l hlt G hG hF σ g n e9 z b hIv9) (cwV 0 hts gX5_end_X5_checkRaceIsOn rfl rfl rfl (by decide +kernel) ⟨Nat.le_of_ble_eq_true rfl, Nat.le_of_ble_eq_true rfl⟩) (hF.1 0 (by decide)) rfl rfl rfl rfl hl.1 rfl (Nat.le_of_ble_eq_true rfl) dX5_end_1 ⟨Nat.le_of_ble_eq_true rfl, Nat.le_of_ble_eq_true rfl⟩ (fun E ce q9 H locs hE hw h1 h2 h3 => ?_) ?_
  · skip
    exact rOut (by exact hE) hw h1 h2 h3 hout hlocks (Nat.le_of_ble_eq_true rfl) (Nat.le_of_ble_eq_true rfl)
  intro σ_2 H locs p_1 hw
  obtain ⟨eσ_2, p_1_0⟩ := p_1
  have eσ_2 := eσ_2.symm; subst eσ_2
  have hn9 := hn0 p_1_0
  refine lv_iconst (v := 0) hx hb dX5_end_4 (by decide) ?_
  refine lv_istore_n (lv' := [(1, .int 0), (0, .ref (gad G 0))]) hx hb dX5_end_5 rfl hl (by decide) rfl (fun ls hl => ?_)
  refine lv_iconst (v := 0) hx hb dX5_end_6 (by decide) ?_
  refine lv_istore_n (lv' := [(2, .int 0), (1, .int 0), (0, .ref (gad G 0))]) hx hb dX5_end_7 rfl hl (by decide) rfl (fun ls hl => ?_)
  have lab_8 : ∀ (n9 : Nat), ∀ (i : Nat), n - i < n9 → i ≤ n → ∀ (H : Heap) (locs : List Loc) (ls : Array Slot), Wd G s (enS σ n e9 i) H locs → lv_has ls 4 [(0, .ref (gad G 0)), (1, .int (nI (wnA σ n i))), (2, .int (nI i))] → W p l e rmX5_end s m args below meth c H locs 0 0 (vy_MQ below (va_Qi (fun r σ' => r = nI (wnA σ n n) ∧ σ' = enSt σ n e9 ∧ b = true) (BW G) (gA G)) (XW G σ (fun E => E = xISE ∧ b = false)) args s 1 6 (gA G)) (F0 m 8 ls []) := by
    intro n9
    induction n9 with
    | zero => intro i hn9; exact absurd hn9 (Nat.not_lt_zero _)
    | succ n9 ih8 =>
      intro i hn9 h8_0 H locs ls hw hl
      obtain ⟨σ_3, eσ_3⟩ : ∃ w9, w9 = enS σ n e9 i := ⟨_, rfl⟩
      rw [← eσ_3] at hw
      refine lv_iload_n hx hb dX5_end_8 rfl (lv_at hl 2 rfl) ?_
      refine lv_aload_n hx hb dX5_end_9 rfl (lv_at hl 0 rfl) ?_
      refine rGet (v := .int (σ_3 0 7)) (C := RX5) (T := TX5) (N := 10) hx hb fx hown hts hin hw 0 (hF.1 0 (by decide)) rfl rfl 7 (by decide) (hts (.fieldLink RX5 53 "Leaguewheel" "kartCount" "I") (by decide +kernel)) (fun _ h9 => h9) rfl dX5_end_10 ?_
      refine lv_rep0 (x := (σ_3 0 7)) (y := nI n) (by subst_vars; rw [enS_o (by decide) (by decide)]; exact hn) ?_
      refine lv_icmp_ge (tgt := 54) hx hb dX5_end_13 (by decide) (fun c_4 => ?_) (fun c_4 => ?_)
      · skip
        have c_4 : n ≤ i := (nI_leI (by omega) (by omega)).mp c_4
        refine lv_aload_n hx hb dX5_end_54 rfl (lv_at hl 0 rfl) ?_
        refine rGet (v := .ref (gad G 27)) (C := RX5) (T := TX5) (N := 10) hx hb fx hown hts hin hw 0 (hF.1 0 (by decide)) rfl rfl 5 (by decide) (hts (.fieldLink RX5 45 "Leaguewheel" "cup" "LLeaguewheel$Cup;") (by decide +kernel)) (fun _ h9 => h9) rfl dX5_end_55 ?_
        refine rCallV (C := RX0) (As := []) (rest := []) ⟨hx, hb, hml, hown, hts⟩ fx hw (kX0_closeRace l G hG hF σ_3 e9 (by subst_vars; rw [enS_o (by decide) (by decide)]; exact he)) (cwV 0 hts gX5_end_X0_closeRace rfl rfl rfl (by decide +kernel) ⟨Nat.le_of_ble_eq_true rfl, Nat.le_of_ble_eq_true rfl⟩) (hF.1 27 (by decide)) rfl rfl rfl rfl hl.1 rfl (Nat.le_of_ble_eq_true rfl) dX5_end_58 ⟨Nat.zero_le _, Nat.zero_le _⟩ ?_
        intro σ_6 H locs p_5 hw
        have eσ_6 := p_5
        refine lv_aload_n hx hb dX5_end_61 rfl (lv_at hl 0 rfl) ?_
        refine lv_iconst (v := 0) hx hb dX5_end_62 (by decide) ?_
        refine rPut (v := 0) (ty := .boolean) (C := RX5) (T := TX5) (N := 10) hx hb fx hown hts hin tyX5 tyX5_ok nmX5 hw 0 (hF.1 0 (by decide)) rfl rfl 8 (by decide) (hts (.fieldLink RX5 57 "Leaguewheel" "raceIsOn" "Z") (by decide +kernel)) (fun _ h9 => h9) rfl (by decide +kernel) (by decide) rfl (Nat.le_of_ble_eq_true rfl) rfl dX5_end_63 (fun H locs hw => ?_)
        obtain ⟨σ_7, eσ_7⟩ : ∃ w9, w9 = upA σ_6 0 (upd (σ_6 0) 8 0) := ⟨_, rfl⟩
        rw [← eσ_7] at hw
        refine lv_iload_n hx hb dX5_end_66 rfl (lv_at hl 1 rfl) ?_
        subst eσ_7
        subst eσ_6
        subst eσ_3
        exact vy_ret (rRetI hx hb hr hw (by exact ⟨by rw [show i = n by omega], by rw [show i = n by omega]; unfold enSt; rw [enS_o (show 27 ≠ 28 by decide) (by decide), upA_n (show 0 ≠ 27 by decide), enS_o (show 0 ≠ 28 by decide) (by decide)], p_1_0⟩) hlocks dX5_end_67)
      · skip
        have c_4 : ¬ n ≤ i := fun h9 => c_4 ((nI_leI (by omega) (by omega)).mpr h9)
        refine lv_aload_n hx hb dX5_end_16 rfl (lv_at hl 0 rfl) ?_
        refine rGet (v := .ref (gad G 4)) (C := RX5) (T := TX5) (N := 10) hx hb fx hown hts hin hw 0 (hF.1 0 (by decide)) rfl rfl 1 (by decide) (hts (.fieldLink RX5 21 "Leaguewheel" "race" "LLeaguewheel$Race;") (by decide +kernel)) (fun _ h9 => h9) rfl dX5_end_17 ?_
        refine lv_iload_n hx hb dX5_end_20 rfl (lv_at hl 2 rfl) ?_
        refine rCallI (C := RX3) (As := [.int (nI i)]) (rest := []) ⟨hx, hb, hml, hown, hts⟩ fx hw (kX3_countAhead l G hG hF σ_3 4 (Or.inl rfl) i (by omega) n (by have hz1 := (hcn p_1_0).1; subst_vars; rw [enS_o (by decide) (by decide)]; exact hz1) (by omega) (by subst_vars; exact rOk_of (enS_o (by decide) (by decide) i) hrk)) (cwV 1 hts gX5_end_X3_countAhead rfl rfl rfl (by decide +kernel) ⟨Nat.le_of_ble_eq_true rfl, Nat.le_of_ble_eq_true rfl⟩) (hF.1 4 (by decide)) rfl rfl rfl rfl hl.1 rfl (Nat.le_of_ble_eq_true rfl) dX5_end_21 ⟨Nat.zero_le _, Nat.zero_le _⟩ ?_
        intro r_9 σ_10 H locs p_8 hw
        obtain ⟨er_9, eσ_10⟩ := p_8
        have er_9 := er_9.symm; subst er_9
        have eσ_10 := eσ_10.symm; subst eσ_10
        have hr8 := cntA_lt (P := fun a => ahB σ_3 4 a i) (n := n) (k := i) (by omega) (ahB_irr _ 4 i)
        refine lv_rep0 (x := (nI (cntA (fun a => ahB σ_3 4 a i) n))) (y := nI (rkA σ n i)) (by subst_vars; unfold rkA; rw [show (fun a => ahB (enS σ n e9 i) 4 a i) = (fun a => ahB σ 4 a i) from funext fun a => ahB_of (fun c9 _ _ q1 q2 => enS_o q1 q2 i) a i]) ?_
        have hr9 := rkA_lt (σ := σ) (n := n) (k := i) (by omega)
        refine lv_istore_n (lv' := [(3, .int (nI (rkA σ n i))), (0, .ref (gad G 0)), (1, .int (nI (wnA σ n i))), (2, .int (nI i))]) hx hb dX5_end_24 rfl hl (by decide) rfl (fun ls hl => ?_)
        refine lv_aload_n hx hb dX5_end_25 rfl (lv_at hl 1 rfl) ?_
        refine rGet (v := .ref (gad G 27)) (C := RX5) (T := TX5) (N := 10) hx hb fx hown hts hin hw 0 (hF.1 0 (by decide)) rfl rfl 5 (by decide) (hts (.fieldLink RX5 45 "Leaguewheel" "cup" "LLeaguewheel$Cup;") (by decide +kernel)) (fun _ h9 => h9) rfl dX5_end_26 ?_
        refine lv_iload_n hx hb dX5_end_29 rfl (lv_at hl 3 rfl) ?_
        refine lv_iload_n hx hb dX5_end_30 rfl (lv_at hl 0 rfl) ?_
        refine lv_aload_n hx hb dX5_end_31 rfl (lv_at hl 1 rfl) ?_
        refine rGet (v := .ref (gad G 4)) (C := RX5) (T := TX5) (N := 10) hx hb fx hown hts hin hw 0 (hF.1 0 (by decide)) rfl rfl 1 (by decide) (hts (.fieldLink RX5 21 "Leaguewheel" "race" "LLeaguewheel$Race;") (by decide +kernel)) (fun _ h9 => h9) rfl dX5_end_32 ?_
        refine lv_iload_n hx hb dX5_end_35 rfl (lv_at hl 3 rfl) ?_
        refine rCallI (C := RX3) (As := [.int (nI i)]) (rest := [.int (nI (rkA σ n i)), .int (nI i), .ref (gad G 27)]) ⟨hx, hb, hml, hown, hts⟩ fx hw (kX3_isWorthPoints l G hG hF σ_3 4 (Or.inl rfl) i (by omega)) (cwV 1 hts gX5_end_X3_isWorthPoints rfl rfl rfl (by decide +kernel) ⟨Nat.le_of_ble_eq_true rfl, Nat.le_of_ble_eq_true rfl⟩) (hF.1 4 (by decide)) rfl rfl rfl rfl hl.1 rfl (Nat.le_of_ble_eq_true rfl) dX5_end_36 ⟨Nat.zero_le _, Nat.zero_le _⟩ ?_
        intro r_12 σ_13 H locs p_11 hw
        obtain ⟨er_12, eσ_13⟩ := p_11
        have er_12 := er_12.symm; subst er_12
        have eσ_13 := eσ_13.symm; subst eσ_13
        refine lv_rep0 (x := (bI (finB σ_3 4 i || !decide (netA σ_3 4 i ≤ 0)))) (y := (bI (wrtB σ i))) (by subst_vars; unfold wrtB finB netA; simp only [enS_o (show 4 + 2 ≠ 28 by decide) (show 4 + 2 ≠ 29 by decide), enS_o (show 4 ≠ 28 by decide) (show 4 ≠ 29 by decide), enS_o (show 4 + 3 ≠ 28 by decide) (show 4 + 3 ≠ 29 by decide)]) ?_
        refine rCallV (C := RX0) (As := [.int (nI i), .int (nI (rkA σ n i)), .int (bI (wrtB σ i))]) (rest := []) ⟨hx, hb, hml, hown, hts⟩ fx hw (kX0_noteResult l G hG hF σ_3 e9 (by subst_vars; rw [enS_o (by decide) (by decide)]; exact he) (hcn p_1_0).2 i (by omega) ((rkA σ n i)) (by omega) ((wrtB σ i))) (cwV 3 hts gX5_end_X0_noteResult rfl rfl rfl (by decide +kernel) ⟨Nat.le_of_ble_eq_true rfl, Nat.le_of_ble_eq_true rfl⟩) (hF.1 27 (by decide)) rfl rfl rfl rfl hl.1 rfl (Nat.le_of_ble_eq_true rfl) dX5_end_39 ⟨Nat.zero_le _, Nat.zero_le _⟩ ?_
        intro σ_15 H locs p_14 hw
        have eσ_15 := p_14
        refine lv_iload_n hx hb dX5_end_42 rfl (lv_at hl 0 rfl) ?_
        refine lv_if_ne (tgt := 48) hx hb dX5_end_43 (by decide) (fun c_16 => ?_) (fun c_16 => ?_)
        · skip
          have c_16 : ¬ (rkA σ n i) = 0 := n0_net (by omega) c_16
          refine lv_iinc (v := (nI (i + 1))) (lv' := [(2, .int (nI (i + 1))), (3, .int (nI (rkA σ n i))), (0, .ref (gad G 0)), (1, .int (nI (wnA σ n i)))]) hx hb dX5_end_48 hl (k := 3) rfl (nI_1 _) (by decide) rfl (fun ls hl => ?_)
          refine lv_goto (tgt := 8) hx hb dX5_end_51 (by decide) ?_
          have q_17 : (nI (wnA σ n i)) = (nI (wnA σ n (i + 1))) := by first | rfl | (simp [wnA, p_1_0, c_4, c_16])
          have q_18 : σ_15 = enS σ n e9 (i + 1) := by subst eσ_15 eσ_3; rfl
          rw [q_18] at hw
          exact ih8 (i + 1) (by omega) (by omega) _ _ _ hw (lv_c (lv_at hl 2 rfl) (lv_c (lv_atq hl 3 rfl q_17) (lv_c (lv_at hl 0 rfl) (lv_c0 hl))))
        · skip
          have c_16 : (rkA σ n i) = 0 := n0_nef (by omega) c_16
          refine lv_iload_n hx hb dX5_end_46 rfl (lv_at hl 3 rfl) ?_
          refine lv_istore_n (lv' := [(1, .int (nI i)), (3, .int (nI (rkA σ n i))), (0, .ref (gad G 0)), (2, .int (nI i))]) hx hb dX5_end_47 rfl hl (by decide) rfl (fun ls hl => ?_)
          refine lv_iinc (v := (nI (i + 1))) (lv' := [(2, .int (nI (i + 1))), (1, .int (nI i)), (3, .int (nI (rkA σ n i))), (0, .ref (gad G 0))]) hx hb dX5_end_48 hl (k := 3) rfl (nI_1 _) (by decide) rfl (fun ls hl => ?_)
          refine lv_goto (tgt := 8) hx hb dX5_end_51 (by decide) ?_
          have q_19 : (nI i) = (nI (wnA σ n (i + 1))) := by first | rfl | (simp [wnA, p_1_0, c_4, c_16])
          have q_20 : σ_15 = enS σ n e9 (i + 1) := by subst eσ_15 eσ_3; rfl
          rw [q_20] at hw
          exact ih8 (i + 1) (by omega) (by omega) _ _ _ hw (lv_c (lv_at hl 3 rfl) (lv_c (lv_atq hl 1 rfl q_19) (lv_c (lv_at hl 0 rfl) (lv_c0 hl))))
  have q_21 : 0 = (nI (wnA σ n 0)) := by first | rfl | (simp [wnA, p_1_0])
  have q_22 : 0 = (nI 0) := by first | rfl | (simp [wnA, p_1_0])
  have q_23 : σ = enS σ n e9 0 := by rfl
  rw [q_23] at hw
  exact lab_8 (n - 0 + 1) 0 (by omega) (by omega) _ _ _ hw (lv_c (lv_at hl 2 rfl) (lv_c (lv_atq hl 1 rfl q_21) (lv_c (lv_atq hl 0 rfl q_22) (lv_c0 hl))))

def rmX5_textAt : Room := ({ frames := 6, cells := 1, slots := 6, locals := 124 } : Room)
set_option maxHeartbeats 4000000 in
set_option maxRecDepth 100000 in
theorem kX5_textAt (l : Launch) (hlt : l.stackTraces = false) (G : Gx) (hG : gOk G) (hF : Full G) (σ : St) (x : Int32) (g n e9 z : Nat) (b : Bool) (hIv9 : CIv σ g n b e9 z)  : CxI l yX5_textAt wsX5_textAt rmX5_textAt G σ [.ref (gad G 0), .int x] (fun r σ' => r = (if ix x % 2 = 1 then 62 else (Int32.toUInt32 (nI (48 + fsA (fun z9 => cntA (fun o => stB (σ 28) (σ 29) (σ 27 3) e9 o z9) n) (ix x / 2) n)) % 65536).toInt32) ∧ σ' = σ ∧ inT x n = true) (fun E => E = xIOB ∧ inT x n = false) := by
  refine bgX (cc := cX5_textAt) (maxL := 2) (ret := (some .char)) (own := RX5) (by decide) rfl rfl hG (Nat.le_of_ble_eq_true rfl) rfl ?_
  intro p e s m args below meth c ls hout Bd hl
  obtain ⟨hx, hb, hr, hml, hts, hown, hlocks, fx, hw⟩ := Bd
  have hl : lv_has ls 2 [(0, .ref (gad G 0)), (1, .int x)] := hl
  have hin : ∀ w ∈ wsX50, w ∈ wsX5_textAt := by decide +kernel
  obtain ⟨⟨hg, hg1, hg2⟩, ⟨hn, hn6⟩, hon, ⟨he, he8⟩, ⟨hz, hz5⟩, hrk, hcn, hrec⟩ := id hIv9
  refine lv_iload_n hx hb dX5_textAt_0 rfl (lv_at hl 1 rfl) ?_
  refine lv_if_lt (tgt := 16) hx hb dX5_textAt_1 (by decide) (fun c_1 => ?_) (fun c_1 => ?_)
  · skip
    exact rThrowW (ik := 241) (is := 260) (ic := 245) (cls := "java/lang/IndexOutOfBoundsException") (text := _) hx hb hlt hF.2.2.2.2 fx hw hown (by decide +kernel) (hts (.classLink RX5 241 "java/lang/IndexOutOfBoundsException") (by decide +kernel)) (hts (.initialized "java/lang/IndexOutOfBoundsException") (by decide +kernel)) (List.mem_of_getElem? (i := 24) rfl) (by decide +kernel) (at_IOB (fun w h => hts w (by revert w; decide +kernel))) gd_IOB (by rw [hml]; exact hl.1) dX5_textAt_16 dX5_textAt_19 dX5_textAt_20 dX5_textAt_23 dX5_textAt_26 hout (Nat.le_of_ble_eq_true rfl) (Nat.le_of_ble_eq_true rfl) (Nat.le_of_ble_eq_true rfl) (Nat.le_of_ble_eq_true rfl) hlocks (by exact ⟨rfl, by first | exact inT_f1 c_1 | exact inT_f2 c_1⟩) (Nat.le_of_ble_eq_true rfl) (Nat.le_of_ble_eq_true rfl)
  · skip
    refine lv_iload_n hx hb dX5_textAt_4 rfl (lv_at hl 1 rfl) ?_
    refine lv_iconst (v := 2) hx hb dX5_textAt_5 (by decide) ?_
    refine lv_aload_n hx hb dX5_textAt_6 rfl (lv_at hl 0 rfl) ?_
    refine rGet (v := .int (σ 0 7)) (C := RX5) (T := TX5) (N := 10) hx hb fx hown hts hin hw 0 (hF.1 0 (by decide)) rfl rfl 7 (by decide) (hts (.fieldLink RX5 53 "Leaguewheel" "kartCount" "I") (by decide +kernel)) (fun _ h9 => h9) rfl dX5_textAt_7 ?_
    refine lv_rep0 (x := (σ 0 7)) (y := nI n) (by exact hn) ?_
    refine lv_rep1 (x := 2) (y := nI 2) rfl ?_
    refine lv_imul hx hb dX5_textAt_10 ?_
    refine lv_rep0 (x := ((nI 2) * (nI n))) (y := nI (2 * n)) (pk_mul _ _) ?_
    refine lv_iconst (v := 1) hx hb dX5_textAt_11 (by decide) ?_
    refine lv_rep0 (x := 1) (y := nI 1) rfl ?_
    refine lv_isub hx hb dX5_textAt_12 ?_
    refine lv_icmp_lt (tgt := 27) hx hb dX5_textAt_13 (by decide) (fun c_2 => ?_) (fun c_2 => ?_)
    · skip
      have hx9 := inT_ix hn6 (inT_t c_1 c_2)
      have q_3 : x = (nI (ix x)) := by exact hx9.1
      have hl : lv_has ls 2 [(0, .ref (gad G 0)), (1, .int (nI (ix x)))] := (lv_c (lv_at hl 0 rfl) (lv_c (lv_atq hl 1 rfl q_3) (lv_c0 hl)))
      refine lv_iload_n hx hb dX5_textAt_27 rfl (lv_at hl 1 rfl) ?_
      refine lv_iconst (v := 2) hx hb dX5_textAt_28 (by decide) ?_
      refine lv_irem hx hb dX5_textAt_29 (by decide) ?_
      refine lv_rep0 (x := ((nI (ix x)) - (nI (ix x)) / 2 * 2)) (y := nI (ix x % 2)) (by exact pk_rem (d := 2) (by omega) (by decide) (by decide)) ?_
      refine lv_iconst (v := 1) hx hb dX5_textAt_30 (by decide) ?_
      refine lv_rep0 (x := 1) (y := nI 1) rfl ?_
      refine lv_icmp_ne (tgt := 37) hx hb dX5_textAt_31 (by decide) (fun c_4 => ?_) (fun c_4 => ?_)
      · skip
        have c_4 : ¬ (ix x % 2) = 1 := fun h9 => c_4 ((nI_eq (by omega) (by omega)).mpr h9)
        refine lv_bipush (v := 48) hx hb dX5_textAt_37 (by decide) ?_
        refine lv_aload_n hx hb dX5_textAt_39 rfl (lv_at hl 0 rfl) ?_
        refine rGet (v := .ref (gad G 27)) (C := RX5) (T := TX5) (N := 10) hx hb fx hown hts hin hw 0 (hF.1 0 (by decide)) rfl rfl 5 (by decide) (hts (.fieldLink RX5 45 "Leaguewheel" "cup" "LLeaguewheel$Cup;") (by decide +kernel)) (fun _ h9 => h9) rfl dX5_textAt_40 ?_
        refine lv_iload_n hx hb dX5_textAt_43 rfl (lv_at hl 1 rfl) ?_
        refine lv_iconst (v := 2) hx hb dX5_textAt_44 (by decide) ?_
        refine lv_idiv hx hb dX5_textAt_45 (by decide) ?_
        refine lv_rep0 (x := ((nI (ix x)) / 2)) (y := nI (ix x / 2)) (by exact pk_div (d := 2) (by omega) (by decide) (by decide)) ?_
        refine lv_aload_n hx hb dX5_textAt_46 rfl (lv_at hl 0 rfl) ?_
        refine rGet (v := .int (σ 0 7)) (C := RX5) (T := TX5) (N := 10) hx hb fx hown hts hin hw 0 (hF.1 0 (by decide)) rfl rfl 7 (by decide) (hts (.fieldLink RX5 53 "Leaguewheel" "kartCount" "I") (by decide +kernel)) (fun _ h9 => h9) rfl dX5_textAt_47 ?_
        refine lv_rep0 (x := (σ 0 7)) (y := nI n) (by exact hn) ?_
        refine rCallI (C := RX0) (As := [.int (nI (ix x / 2)), .int (nI n)]) (rest := [.int 48]) ⟨hx, hb, hml, hown, hts⟩ fx hw (kX0_kartStandingAt l G hG hF σ ((ix x / 2)) (by omega) n (by omega) e9 he (by omega)) (cwV 2 hts gX5_textAt_X0_kartStandingAt rfl rfl rfl (by decide +kernel) ⟨Nat.le_of_ble_eq_true rfl, Nat.le_of_ble_eq_true rfl⟩) (hF.1 27 (by decide)) rfl rfl rfl rfl hl.1 rfl (Nat.le_of_ble_eq_true rfl) dX5_textAt_50 ⟨Nat.zero_le _, Nat.zero_le _⟩ ?_
        intro r_6 σ_7 H locs p_5 hw
        obtain ⟨er_6, eσ_7⟩ := p_5
        have er_6 := er_6.symm; subst er_6
        have eσ_7 := eσ_7.symm; subst eσ_7
        have hf9 := fsA_lt (fun z9 => cntA (fun o => stB (σ 28) (σ 29) (σ 27 3) e9 o z9) n) (ix x / 2) n n (Nat.le_refl n) (by omega)
        refine lv_rep1 (x := 48) (y := nI 48) rfl ?_
        refine lv_iadd hx hb dX5_textAt_53 ?_
        refine lv_rep0 (x := ((nI 48) + (nI (fsA (fun z => cntA (fun o => stB (σ 28) (σ 29) (σ 27 3) e9 o z) n) (ix x / 2) n)))) (y := nI (48 + (fsA (fun z => cntA (fun o => stB (σ 28) (σ 29) (σ 27 3) e9 o z) n) (ix x / 2) n))) (nI_add _ _) ?_
        refine lv_i2c (v := (Int32.toUInt32 (nI (48 + (fsA (fun z => cntA (fun o => stB (σ 28) (σ 29) (σ 27 3) e9 o z) n) (ix x / 2) n))) % 65536).toInt32) hx hb dX5_textAt_54 rfl ?_
        exact vy_ret (rRetZ hx hb hr hw (pk_nc _) (by exact ⟨by rw [if_neg (by omega)], rfl, inT_t c_1 c_2⟩) hlocks dX5_textAt_55)
      · skip
        have c_4 : (ix x % 2) = 1 := (nI_eq (by omega) (by omega)).mp c_4
        refine lv_bipush (v := 62) hx hb dX5_textAt_34 (by decide) ?_
        exact vy_ret (rRetZ hx hb hr hw (by decide) (by exact ⟨by rw [if_pos (by omega)], rfl, inT_t c_1 c_2⟩) hlocks dX5_textAt_36)
    · skip
      exact rThrowW (ik := 241) (is := 260) (ic := 245) (cls := "java/lang/IndexOutOfBoundsException") (text := _) hx hb hlt hF.2.2.2.2 fx hw hown (by decide +kernel) (hts (.classLink RX5 241 "java/lang/IndexOutOfBoundsException") (by decide +kernel)) (hts (.initialized "java/lang/IndexOutOfBoundsException") (by decide +kernel)) (List.mem_of_getElem? (i := 24) rfl) (by decide +kernel) (at_IOB (fun w h => hts w (by revert w; decide +kernel))) gd_IOB (by rw [hml]; exact hl.1) dX5_textAt_16 dX5_textAt_19 dX5_textAt_20 dX5_textAt_23 dX5_textAt_26 hout (Nat.le_of_ble_eq_true rfl) (Nat.le_of_ble_eq_true rfl) (Nat.le_of_ble_eq_true rfl) (Nat.le_of_ble_eq_true rfl) hlocks (by exact ⟨rfl, by first | exact inT_f1 c_2 | exact inT_f2 c_2⟩) (Nat.le_of_ble_eq_true rfl) (Nat.le_of_ble_eq_true rfl)
