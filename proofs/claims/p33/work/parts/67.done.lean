/-! isDone: one step of a script -/
theorem po_noidle {σ : St} {g n e z d t j : Nat} {b : Bool} (hA : PAll σ g n e z d t b j) (hG : PGat σ g) : PIn (upA σ 33 (upd (σ 33) 8 (nI (t + 0)))) (j + 1) := by
  rw [Nat.add_zero, ← (pti hA).1, upd_self, upA_self]; exact po_same hA hG
theorem po_nodrop {σ : St} {g n e z d t j : Nat} {b : Bool} (hA : PAll σ g n e z d t b j) (hG : PGat σ g) : PIn (upA σ 33 (upd (σ 33) 7 (nI d))) (j + 1) := by
  rw [← (pdr hA).1, upd_self, upA_self]; exact po_same hA hG

def rmL_isDone : Room := ({ frames := 11, cells := 6, slots := 60, locals := 202 } : Room)
set_option maxHeartbeats 4000000 in
set_option maxRecDepth 100000 in
theorem kL_isDone (l : Launch) (hlt : l.stackTraces = false) (G : Gx) (hG : gOk G) (hF : Full G) (σ : St) {g n e9 z d t j : Nat} {b : Bool} (hA : PAll σ g n e9 z d t b j) (hGa : PGat σ g) (hj : j < 100) (hgl : 34 ∉ gl G ∧ 35 ∉ gl G) (at9 : Nat) (h99 : at9 < 990) (hLs : (gsc G).2.1 < 1000)  : CmI l yL_isDone wsL_isDone rmL_isDone G σ [.ref (gad G 0), .ref (gsc G).1, .int (nI at9), .ref (gad G 31), .ref (gad G 32), .ref (gad G 33)] (fun r σ' => r = 1 ∧ PIn σ' (j + 1)) 6 60 := by
  refine bgM (cc := cL_isDone) (maxL := 11) (ret := (some .boolean)) (own := RL) (by decide) rfl rfl hG (Nat.le_of_ble_eq_true rfl) rfl ?_
  intro p e s m args below meth c ls Bd hl
  obtain ⟨hx, hb, hr, hml, hts, hown, hlocks, fx, hw⟩ := Bd
  have hl : lv_has ls 11 [(0, .ref (gad G 0)), (1, .ref (gsc G).1), (2, .int (nI at9)), (3, .ref (gad G 31)), (4, .ref (gad G 32)), (5, .ref (gad G 33))] := hl
  have hg5 := (pg hA).2
  have hn6 := (pn hA).2
  have he8 := (pe hA).2
  obtain ⟨q1, hq1⟩ : ∃ x9, x9 = prN G at9 % 40 := ⟨_, rfl⟩
  obtain ⟨o9, ho9⟩ : ∃ x9, x9 = prN G (at9 + 1) % 6000 := ⟨_, rfl⟩
  obtain ⟨u9, hu9⟩ : ∃ x9, x9 = prN G (at9 + 2) % 7000 := ⟨_, rfl⟩
  obtain ⟨v9, hv9⟩ : ∃ x9, x9 = prN G (at9 + 3) % 8000 := ⟨_, rfl⟩
  have hq40 : q1 < 40 := by omega
  have ho6 : o9 < 6000 := by omega
  have hu7 : u9 < 7000 := by omega
  have hv8 : v9 < 8000 := by omega
  rcases pst_cases hA with hst | hst
  · skip
    obtain ⟨hbo, he0, hs5⟩ := hst
    refine lv_aload_n hx hb dL_isDone_0 rfl (lv_at hl 1 rfl) ?_
    refine lv_iload_n hx hb dL_isDone_1 rfl (lv_at hl 2 rfl) ?_
    refine lv_bipush (v := 40) hx hb dL_isDone_2 (by decide) ?_
    refine lv_rep0 (x := 40) (y := nI 40) rfl ?_
    refine rCallM (As := [.ref (gsc G).1, .int (nI at9), .int (nI 40)]) (rest := []) ⟨hx, hb, hml, hown, hts⟩ fx hw (kL_part l hlt G hG hF σ at9 40 (by omega) (by omega) (by omega) hLs) (va_cwS 3 hts gL_isDone_L_part rfl rfl rfl (by decide +kernel) ⟨Nat.le_of_ble_eq_true rfl, Nat.le_of_ble_eq_true rfl⟩) rfl hl.1 rfl (Nat.le_of_ble_eq_true rfl) dL_isDone_4 ⟨Nat.le_trans (show _ ≤ 6 by omega) (Nat.le_of_ble_eq_true rfl), Nat.le_trans (show _ ≤ 60 by omega) (Nat.le_of_ble_eq_true rfl)⟩ (fun r_1 σ_2 H locs p_3 hw => ?_)
    obtain ⟨er_1, eσ_2, p_3_0⟩ := p_3
    have er_1 := er_1.symm; subst er_1
    have eσ_2 := eσ_2.symm; subst eσ_2
    refine lv_istore (lv' := [(6, .int (nI (prN G at9 % 40))), (0, .ref (gad G 0)), (1, .ref (gsc G).1), (2, .int (nI at9)), (3, .ref (gad G 31)), (4, .ref (gad G 32)), (5, .ref (gad G 33))]) hx hb dL_isDone_7 hl (by decide) rfl (fun ls hl => ?_)
    have q_4 : (nI (prN G at9 % 40)) = (nI q1) := by rw [hq1]
    have hl : lv_has ls 11 [(6, .int (nI q1)), (0, .ref (gad G 0)), (1, .ref (gsc G).1), (2, .int (nI at9)), (3, .ref (gad G 31)), (4, .ref (gad G 32)), (5, .ref (gad G 33))] := (lv_c (lv_atq hl 0 rfl q_4) (lv_c (lv_at hl 1 rfl) (lv_c (lv_at hl 2 rfl) (lv_c (lv_at hl 3 rfl) (lv_c (lv_at hl 4 rfl) (lv_c (lv_at hl 5 rfl) (lv_c (lv_at hl 6 rfl) (lv_c0 hl))))))))
    refine lv_aload_n hx hb dL_isDone_9 rfl (lv_at hl 2 rfl) ?_
    refine lv_iload_n hx hb dL_isDone_10 rfl (lv_at hl 3 rfl) ?_
    refine lv_iconst (v := 1) hx hb dL_isDone_11 (by decide) ?_
    refine lv_rep0 (x := 1) (y := nI 1) rfl ?_
    refine lv_iadd hx hb dL_isDone_12 ?_
    refine lv_rep0 (x := ((nI at9) + (nI 1))) (y := nI (at9 + 1)) (nI_add _ _) ?_
    refine lv_sipush (v := 6000) hx hb dL_isDone_13 (by decide) ?_
    refine lv_rep0 (x := 6000) (y := nI 6000) rfl ?_
    refine rCallM (As := [.ref (gsc G).1, .int (nI (at9 + 1)), .int (nI 6000)]) (rest := []) ⟨hx, hb, hml, hown, hts⟩ fx hw (kL_part l hlt G hG hF σ ((at9 + 1)) 6000 (by omega) (by omega) (by omega) hLs) (va_cwS 3 hts gL_isDone_L_part rfl rfl rfl (by decide +kernel) ⟨Nat.le_of_ble_eq_true rfl, Nat.le_of_ble_eq_true rfl⟩) rfl hl.1 rfl (Nat.le_of_ble_eq_true rfl) dL_isDone_16 ⟨Nat.le_trans (show _ ≤ 6 by omega) (Nat.le_of_ble_eq_true rfl), Nat.le_trans (show _ ≤ 60 by omega) (Nat.le_of_ble_eq_true rfl)⟩ (fun r_5 σ_6 H locs p_7 hw => ?_)
    obtain ⟨er_5, eσ_6, p_7_0⟩ := p_7
    have er_5 := er_5.symm; subst er_5
    have eσ_6 := eσ_6.symm; subst eσ_6
    refine lv_istore (lv' := [(7, .int (nI (prN G (at9 + 1) % 6000))), (6, .int (nI q1)), (0, .ref (gad G 0)), (1, .ref (gsc G).1), (2, .int (nI at9)), (3, .ref (gad G 31)), (4, .ref (gad G 32)), (5, .ref (gad G 33))]) hx hb dL_isDone_19 hl (by decide) rfl (fun ls hl => ?_)
    have q_8 : (nI (prN G (at9 + 1) % 6000)) = (nI o9) := by rw [ho9]
    have hl : lv_has ls 11 [(7, .int (nI o9)), (6, .int (nI q1)), (0, .ref (gad G 0)), (1, .ref (gsc G).1), (2, .int (nI at9)), (3, .ref (gad G 31)), (4, .ref (gad G 32)), (5, .ref (gad G 33))] := (lv_c (lv_atq hl 0 rfl q_8) (lv_c (lv_at hl 1 rfl) (lv_c (lv_at hl 2 rfl) (lv_c (lv_at hl 3 rfl) (lv_c (lv_at hl 4 rfl) (lv_c (lv_at hl 5 rfl) (lv_c (lv_at hl 6 rfl) (lv_c (lv_at hl 7 rfl) (lv_c0 hl)))))))))
    refine lv_aload_n hx hb dL_isDone_21 rfl (lv_at hl 3 rfl) ?_
    refine lv_iload_n hx hb dL_isDone_22 rfl (lv_at hl 4 rfl) ?_
    refine lv_iconst (v := 2) hx hb dL_isDone_23 (by decide) ?_
    refine lv_rep0 (x := 2) (y := nI 2) rfl ?_
    refine lv_iadd hx hb dL_isDone_24 ?_
    refine lv_rep0 (x := ((nI at9) + (nI 2))) (y := nI (at9 + 2)) (nI_add _ _) ?_
    refine lv_sipush (v := 7000) hx hb dL_isDone_25 (by decide) ?_
    refine lv_rep0 (x := 7000) (y := nI 7000) rfl ?_
    refine rCallM (As := [.ref (gsc G).1, .int (nI (at9 + 2)), .int (nI 7000)]) (rest := []) ⟨hx, hb, hml, hown, hts⟩ fx hw (kL_part l hlt G hG hF σ ((at9 + 2)) 7000 (by omega) (by omega) (by omega) hLs) (va_cwS 3 hts gL_isDone_L_part rfl rfl rfl (by decide +kernel) ⟨Nat.le_of_ble_eq_true rfl, Nat.le_of_ble_eq_true rfl⟩) rfl hl.1 rfl (Nat.le_of_ble_eq_true rfl) dL_isDone_28 ⟨Nat.le_trans (show _ ≤ 6 by omega) (Nat.le_of_ble_eq_true rfl), Nat.le_trans (show _ ≤ 60 by omega) (Nat.le_of_ble_eq_true rfl)⟩ (fun r_9 σ_10 H locs p_11 hw => ?_)
    obtain ⟨er_9, eσ_10, p_11_0⟩ := p_11
    have er_9 := er_9.symm; subst er_9
    have eσ_10 := eσ_10.symm; subst eσ_10
    refine lv_istore (lv' := [(8, .int (nI (prN G (at9 + 2) % 7000))), (7, .int (nI o9)), (6, .int (nI q1)), (0, .ref (gad G 0)), (1, .ref (gsc G).1), (2, .int (nI at9)), (3, .ref (gad G 31)), (4, .ref (gad G 32)), (5, .ref (gad G 33))]) hx hb dL_isDone_31 hl (by decide) rfl (fun ls hl => ?_)
    have q_12 : (nI (prN G (at9 + 2) % 7000)) = (nI u9) := by rw [hu9]
    have hl : lv_has ls 11 [(8, .int (nI u9)), (7, .int (nI o9)), (6, .int (nI q1)), (0, .ref (gad G 0)), (1, .ref (gsc G).1), (2, .int (nI at9)), (3, .ref (gad G 31)), (4, .ref (gad G 32)), (5, .ref (gad G 33))] := (lv_c (lv_atq hl 0 rfl q_12) (lv_c (lv_at hl 1 rfl) (lv_c (lv_at hl 2 rfl) (lv_c (lv_at hl 3 rfl) (lv_c (lv_at hl 4 rfl) (lv_c (lv_at hl 5 rfl) (lv_c (lv_at hl 6 rfl) (lv_c (lv_at hl 7 rfl) (lv_c (lv_at hl 8 rfl) (lv_c0 hl))))))))))
    refine lv_aload_n hx hb dL_isDone_33 rfl (lv_at hl 4 rfl) ?_
    refine lv_iload_n hx hb dL_isDone_34 rfl (lv_at hl 5 rfl) ?_
    refine lv_iconst (v := 3) hx hb dL_isDone_35 (by decide) ?_
    refine lv_rep0 (x := 3) (y := nI 3) rfl ?_
    refine lv_iadd hx hb dL_isDone_36 ?_
    refine lv_rep0 (x := ((nI at9) + (nI 3))) (y := nI (at9 + 3)) (nI_add _ _) ?_
    refine lv_sipush (v := 8000) hx hb dL_isDone_37 (by decide) ?_
    refine lv_rep0 (x := 8000) (y := nI 8000) rfl ?_
    refine rCallM (As := [.ref (gsc G).1, .int (nI (at9 + 3)), .int (nI 8000)]) (rest := []) ⟨hx, hb, hml, hown, hts⟩ fx hw (kL_part l hlt G hG hF σ ((at9 + 3)) 8000 (by omega) (by omega) (by omega) hLs) (va_cwS 3 hts gL_isDone_L_part rfl rfl rfl (by decide +kernel) ⟨Nat.le_of_ble_eq_true rfl, Nat.le_of_ble_eq_true rfl⟩) rfl hl.1 rfl (Nat.le_of_ble_eq_true rfl) dL_isDone_40 ⟨Nat.le_trans (show _ ≤ 6 by omega) (Nat.le_of_ble_eq_true rfl), Nat.le_trans (show _ ≤ 60 by omega) (Nat.le_of_ble_eq_true rfl)⟩ (fun r_13 σ_14 H locs p_15 hw => ?_)
    obtain ⟨er_13, eσ_14, p_15_0⟩ := p_15
    have er_13 := er_13.symm; subst er_13
    have eσ_14 := eσ_14.symm; subst eσ_14
    refine lv_istore (lv' := [(9, .int (nI (prN G (at9 + 3) % 8000))), (8, .int (nI u9)), (7, .int (nI o9)), (6, .int (nI q1)), (0, .ref (gad G 0)), (1, .ref (gsc G).1), (2, .int (nI at9)), (3, .ref (gad G 31)), (4, .ref (gad G 32)), (5, .ref (gad G 33))]) hx hb dL_isDone_43 hl (by decide) rfl (fun ls hl => ?_)
    have q_16 : (nI (prN G (at9 + 3) % 8000)) = (nI v9) := by rw [hv9]
    have hl : lv_has ls 11 [(9, .int (nI v9)), (8, .int (nI u9)), (7, .int (nI o9)), (6, .int (nI q1)), (0, .ref (gad G 0)), (1, .ref (gsc G).1), (2, .int (nI at9)), (3, .ref (gad G 31)), (4, .ref (gad G 32)), (5, .ref (gad G 33))] := (lv_c (lv_atq hl 0 rfl q_16) (lv_c (lv_at hl 1 rfl) (lv_c (lv_at hl 2 rfl) (lv_c (lv_at hl 3 rfl) (lv_c (lv_at hl 4 rfl) (lv_c (lv_at hl 5 rfl) (lv_c (lv_at hl 6 rfl) (lv_c (lv_at hl 7 rfl) (lv_c (lv_at hl 8 rfl) (lv_c (lv_at hl 9 rfl) (lv_c0 hl)))))))))))
    refine lv_iload hx hb dL_isDone_45 (lv_at hl 3 rfl) ?_
    refine lv_bipush (v := 10) hx hb dL_isDone_47 (by decide) ?_
    refine lv_rep0 (x := 10) (y := nI 10) rfl ?_
    refine lv_icmp_ge (tgt := 59) hx hb dL_isDone_49 (by decide) (fun c_17 => ?_) (fun c_17 => ?_)
    · skip
      have c_17 : 10 ≤ q1 := (nI_leI (by omega) (by omega)).mp c_17
      refine lv_iload hx hb dL_isDone_59 (lv_at hl 3 rfl) ?_
      refine lv_if_ne (tgt := 102) hx hb dL_isDone_61 (by decide) (fun c_18 => ?_) (fun c_18 => ?_)
      · skip
        have c_18 : ¬ q1 = 0 := n0_net (by omega) c_18
        refine lv_iload hx hb dL_isDone_102 (lv_at hl 3 rfl) ?_
        refine lv_bipush (v := 14) hx hb dL_isDone_104 (by decide) ?_
        refine lv_rep0 (x := 14) (y := nI 14) rfl ?_
        refine lv_icmp_ge (tgt := 138) hx hb dL_isDone_106 (by decide) (fun c_19 => ?_) (fun c_19 => ?_)
        · skip
          have c_19 : 14 ≤ q1 := (nI_leI (by omega) (by omega)).mp c_19
          refine lv_iload hx hb dL_isDone_138 (lv_at hl 3 rfl) ?_
          refine lv_bipush (v := 28) hx hb dL_isDone_140 (by decide) ?_
          refine lv_rep0 (x := 28) (y := nI 28) rfl ?_
          refine lv_icmp_ge (tgt := 213) hx hb dL_isDone_142 (by decide) (fun c_20 => ?_) (fun c_20 => ?_)
          · skip
            have c_20 : 28 ≤ q1 := (nI_leI (by omega) (by omega)).mp c_20
            refine lv_iload hx hb dL_isDone_213 (lv_at hl 3 rfl) ?_
            refine lv_bipush (v := 34) hx hb dL_isDone_215 (by decide) ?_
            refine lv_rep0 (x := 34) (y := nI 34) rfl ?_
            refine lv_icmp_ge (tgt := 250) hx hb dL_isDone_217 (by decide) (fun c_21 => ?_) (fun c_21 => ?_)
            · skip
              have c_21 : 34 ≤ q1 := (nI_leI (by omega) (by omega)).mp c_21
              refine lv_iload hx hb dL_isDone_250 (lv_at hl 3 rfl) ?_
              refine lv_bipush (v := 36) hx hb dL_isDone_252 (by decide) ?_
              refine lv_rep0 (x := 36) (y := nI 36) rfl ?_
              refine lv_icmp_ge (tgt := 340) hx hb dL_isDone_254 (by decide) (fun c_22 => ?_) (fun c_22 => ?_)
              · skip
                have c_22 : 36 ≤ q1 := (nI_leI (by omega) (by omega)).mp c_22
                refine lv_iload hx hb dL_isDone_340 (lv_at hl 3 rfl) ?_
                refine lv_bipush (v := 36) hx hb dL_isDone_342 (by decide) ?_
                refine lv_rep0 (x := 36) (y := nI 36) rfl ?_
                refine lv_icmp_ne (tgt := 356) hx hb dL_isDone_344 (by decide) (fun c_23 => ?_) (fun c_23 => ?_)
                · skip
                  have c_23 : ¬ q1 = 36 := fun h9 => c_23 ((nI_eq (by omega) (by omega)).mpr h9)
                  refine lv_iload hx hb dL_isDone_356 (lv_at hl 3 rfl) ?_
                  refine lv_bipush (v := 37) hx hb dL_isDone_358 (by decide) ?_
                  refine lv_rep0 (x := 37) (y := nI 37) rfl ?_
                  refine lv_icmp_ne (tgt := 428) hx hb dL_isDone_360 (by decide) (fun c_24 => ?_) (fun c_24 => ?_)
                  · skip
                    have c_24 : ¬ q1 = 37 := fun h9 => c_24 ((nI_eq (by omega) (by omega)).mpr h9)
                    refine lv_aload_n hx hb dL_isDone_428 rfl (lv_at hl 4 rfl) ?_
                    refine lv_iload hx hb dL_isDone_429 (lv_at hl 2 rfl) ?_
                    refine lv_iload hx hb dL_isDone_431 (lv_at hl 1 rfl) ?_
                    refine lv_imul hx hb dL_isDone_433 ?_
                    refine lv_rep0 (x := ((nI o9) * (nI u9))) (y := nI (o9 * u9)) (pk_mul _ _) ?_
                    refine lv_ldc (v := 20000000) hx hb hown (hts (.constant RL 150 (20000000)) (by decide +kernel)) dL_isDone_434 ?_
                    refine lv_isub hx hb dL_isDone_436 ?_
                    refine rCallV (C := RX5) (As := [.int ((nI (o9 * u9)) - 20000000)]) (rest := []) ⟨hx, hb, hml, hown, hts⟩ fx hw (kX5_setDraw l G hG hF σ (((nI (o9 * u9)) - 20000000)) g n e9 z b (pcv hA)) (cwV 1 hts gL_isDone_X5_setDraw rfl rfl rfl (by decide +kernel) ⟨Nat.le_of_ble_eq_true rfl, Nat.le_of_ble_eq_true rfl⟩) (hF.1 0 (by decide)) rfl rfl rfl rfl hl.1 rfl (Nat.le_of_ble_eq_true rfl) dL_isDone_437 ⟨Nat.le_trans (show _ ≤ 6 by omega) (Nat.le_of_ble_eq_true rfl), Nat.le_trans (show _ ≤ 60 by omega) (Nat.le_of_ble_eq_true rfl)⟩ (fun σ_26 H locs p_27 hw => ?_)
                    have eσ_26 := p_27
                    refine lv_iload hx hb dL_isDone_440 (lv_at hl 3 rfl) ?_
                    refine lv_bipush (v := 38) hx hb dL_isDone_442 (by decide) ?_
                    refine lv_rep0 (x := 38) (y := nI 38) rfl ?_
                    refine lv_icmp_eq (tgt := 468) hx hb dL_isDone_444 (by decide) (fun c_28 => ?_) (fun c_28 => ?_)
                    · skip
                      have c_28 : q1 = 38 := (nI_eq (by omega) (by omega)).mp c_28
                      refine lv_iconst (v := 1) hx hb dL_isDone_468 (by decide) ?_
                      refine lv_goto (tgt := 473) hx hb dL_isDone_469 (by decide) ?_
                      subst eσ_26
                      exact rRetZw hx hb hr hw (by decide) (by exact ⟨rfl, po_same (po_setDraw hA) hGa⟩) hlocks dL_isDone_473 (by omega) (by omega)
                    · skip
                      have c_28 : ¬ q1 = 38 := fun h9 => c_28 ((nI_eq (by omega) (by omega)).mpr h9)
                      refine lv_aload_n hx hb dL_isDone_447 rfl (lv_at hl 4 rfl) ?_
                      refine lv_aload hx hb dL_isDone_448 (lv_at hl 8 rfl) ?_
                      refine lv_aload hx hb dL_isDone_450 (lv_at hl 9 rfl) ?_
                      refine lv_iload hx hb dL_isDone_452 (lv_at hl 2 rfl) ?_
                      refine lv_aload hx hb dL_isDone_454 (lv_at hl 9 rfl) ?_
                      refine lv_iconst (v := 2) hx hb dL_isDone_456 (by decide) ?_
                      refine lv_rep0 (x := 2) (y := nI 2) rfl ?_
                      refine rAld hx hb fx hw 33 (hF.1 33 (by decide)) hF.2.1 (fun _ => rfl) 2 rfl (by omega) (by decide) dL_isDone_457 ?_
                      refine lv_rep0 (x := (σ_26 33 2)) (y := (nI n)) ((congrFun ((ag_one eσ_26 (by decide)) 33 (by decide)) 2).trans (pn hA).1) ?_
                      refine lv_iconst (v := 1) hx hb dL_isDone_458 (by decide) ?_
                      refine lv_rep0 (x := 1) (y := nI 1) rfl ?_
                      refine lv_iadd hx hb dL_isDone_459 ?_
                      refine lv_rep0 (x := ((nI n) + (nI 1))) (y := nI (n + 1)) (nI_add _ _) ?_
                      refine lv_irem hx hb dL_isDone_460 (nI_ne0 (by omega) (by omega)) ?_
                      refine lv_rep0 (y := nI (o9 % (n + 1))) (pk_rem (by omega) (by omega) (by omega)) ?_
                      have hrm9 := Nat.mod_lt o9 (show 0 < (n + 1) by omega)
                      refine lv_iconst (v := 0) hx hb dL_isDone_461 (by decide) ?_
                      refine rCallM (As := [.ref (gad G 0), .ref (gad G 32), .ref (gad G 33), .int (nI (o9 % (n + 1))), .int 0]) (rest := []) ⟨hx, hb, hml, hown, hts⟩ fx hw (kL_isItem_0 l hlt G hG hF σ_26 (by rw [eσ_26]; exact po_setDraw hA) (by rw [eσ_26]; exact hGa) hj ((o9 % (n + 1))) (by omega)) (va_cwS 5 hts gL_isDone_L_isItem rfl rfl rfl (by decide +kernel) ⟨Nat.le_of_ble_eq_true rfl, Nat.le_of_ble_eq_true rfl⟩) rfl hl.1 rfl (Nat.le_of_ble_eq_true rfl) dL_isDone_462 ⟨Nat.le_trans (show _ ≤ 6 by omega) (Nat.le_of_ble_eq_true rfl), Nat.le_trans (show _ ≤ 60 by omega) (Nat.le_of_ble_eq_true rfl)⟩ (fun r_29 σ_30 H locs p_31 hw => ?_)
                      obtain ⟨er_29, p_31_0⟩ := p_31
                      have er_29 := er_29.symm; subst er_29
                      refine lv_if_eq (tgt := 472) hx hb dL_isDone_465 (by decide) (fun c_32 => ?_) (fun c_32 => ?_)
                      · skip
                        exact absurd c_32 (by decide)
                      · skip
                        refine lv_iconst (v := 1) hx hb dL_isDone_468 (by decide) ?_
                        refine lv_goto (tgt := 473) hx hb dL_isDone_469 (by decide) ?_
                        exact rRetZw hx hb hr hw (by decide) (by exact ⟨rfl, by assumption⟩) hlocks dL_isDone_473 (by omega) (by omega)
                  · skip
                    have c_24 : q1 = 37 := (nI_eq (by omega) (by omega)).mp c_24
                    refine lv_aload hx hb dL_isDone_363 (lv_at hl 9 rfl) ?_
                    refine lv_bipush (v := 7) hx hb dL_isDone_365 (by decide) ?_
                    refine lv_rep0 (x := 7) (y := nI 7) rfl ?_
                    refine rAld hx hb fx hw 33 (hF.1 33 (by decide)) hF.2.1 (fun _ => rfl) 7 rfl (by omega) (by decide) dL_isDone_367 ?_
                    refine lv_rep0 (x := (σ 33 7)) (y := (nI d)) (pdr hA).1 ?_
                    refine lv_istore (lv' := [(10, .int (nI d)), (9, .int (nI v9)), (8, .int (nI u9)), (7, .int (nI o9)), (6, .int (nI q1)), (0, .ref (gad G 0)), (1, .ref (gsc G).1), (2, .int (nI at9)), (3, .ref (gad G 31)), (4, .ref (gad G 32)), (5, .ref (gad G 33))]) hx hb dL_isDone_368 hl (by decide) rfl (fun ls hl => ?_)
                    refine lv_aload hx hb dL_isDone_370 (lv_at hl 10 rfl) ?_
                    refine lv_bipush (v := 7) hx hb dL_isDone_372 (by decide) ?_
                    refine lv_iload hx hb dL_isDone_374 (lv_at hl 3 rfl) ?_
                    refine lv_iconst (v := 5) hx hb dL_isDone_376 (by decide) ?_
                    refine lv_rep0 (x := 5) (y := nI 5) rfl ?_
                    refine lv_irem hx hb dL_isDone_377 (nI_ne0 (by omega) (by omega)) ?_
                    refine lv_rep0 (y := nI (o9 % 5)) (pk_rem (by omega) (by omega) (by omega)) ?_
                    refine lv_iconst (v := 4) hx hb dL_isDone_378 (by decide) ?_
                    refine lv_rep0 (x := 4) (y := nI 4) rfl ?_
                    refine lv_icmp_ge (tgt := 389) hx hb dL_isDone_379 (by decide) (fun c_33 => ?_) (fun c_33 => ?_)
                    · skip
                      have c_33 : 4 ≤ (o9 % 5) := (nI_leI (by omega) (by omega)).mp c_33
                      refine lv_iload hx hb dL_isDone_389 (lv_at hl 0 rfl) ?_
                      refine lv_rep1 (x := 7) (y := nI 7) rfl ?_
                      refine rAst (x := (nI d)) hx hb fx hw 33 (hF.1 33 (by decide)) hF.2.1 (fun _ => rfl) 7 rfl (by omega) (by decide) dL_isDone_391 (fun H locs hw => ?_)
                      obtain ⟨σ_34, eσ_34⟩ : ∃ w9, w9 = upA σ 33 (upd (σ 33) 7 (nI d)) := ⟨_, rfl⟩
                      rw [← eσ_34] at hw
                      refine lv_aload_n hx hb dL_isDone_392 rfl (lv_at hl 5 rfl) ?_
                      refine lv_bipush (v := 9) hx hb dL_isDone_393 (by decide) ?_
                      refine lv_iload hx hb dL_isDone_395 (lv_at hl 3 rfl) ?_
                      refine lv_iconst (v := 5) hx hb dL_isDone_397 (by decide) ?_
                      refine lv_rep0 (x := 5) (y := nI 5) rfl ?_
                      refine lv_irem hx hb dL_isDone_398 (nI_ne0 (by omega) (by omega)) ?_
                      refine lv_rep0 (y := nI (o9 % 5)) (pk_rem (by omega) (by omega) (by omega)) ?_
                      refine lv_iconst (v := 0) hx hb dL_isDone_399 (by decide) ?_
                      refine lv_iconst (v := 0) hx hb dL_isDone_400 (by decide) ?_
                      refine rCallLS (As := [.ref (gad G 0), .int 9, .int (nI (o9 % 5)), .int 0, .int 0]) (rest := []) ⟨hx, hb, hml, hown, hts⟩ fx hw (d9_t1 l hlt G hG hF σ_34 (show CIv σ_34 g n b e9 z from by rw [eσ_34]; exact (show CIv σ g n b e9 z from pcv hA)) ((nI (o9 % 5))) 0 0 (inR_no (lo := 0) (hi := 3) (by omega) (by decide) (by decide) (by omega))) (vx_cwSW 5 hts gL_isDone_L_does rfl rfl rfl (by decide +kernel) ⟨Nat.le_of_ble_eq_true rfl, Nat.le_of_ble_eq_true rfl⟩) rfl hl.1 rfl (Nat.le_of_ble_eq_true rfl) dL_isDone_401 ⟨Nat.le_trans (show _ ≤ 6 by omega) (Nat.le_of_ble_eq_true rfl), Nat.le_trans (show _ ≤ 60 by omega) (Nat.le_of_ble_eq_true rfl)⟩ (fun r_35 σ_36 H locs p_37 hw => ?_)
                      obtain ⟨er_35, eσ_36⟩ := p_37
                      have er_35 := er_35.symm; subst er_35
                      have eσ_36 := eσ_36.symm; subst eσ_36
                      have hd9 : σ_34 27 3 = nI d := by rw [eσ_34, upA_n (by decide)]; exact (pdr hA).2.1
                      refine lv_iload hx hb dL_isDone_404 (lv_at hl 3 rfl) ?_
                      refine lv_iconst (v := 5) hx hb dL_isDone_406 (by decide) ?_
                      refine lv_rep0 (x := 5) (y := nI 5) rfl ?_
                      refine lv_irem hx hb dL_isDone_407 (nI_ne0 (by omega) (by omega)) ?_
                      refine lv_rep0 (y := nI (o9 % 5)) (pk_rem (by omega) (by omega) (by omega)) ?_
                      refine lv_iconst (v := 4) hx hb dL_isDone_408 (by decide) ?_
                      refine lv_rep0 (x := 4) (y := nI 4) rfl ?_
                      refine lv_icmp_ge (tgt := 417) hx hb dL_isDone_409 (by decide) (fun c_38 => ?_) (fun c_38 => ?_)
                      · skip
                        have c_38 : 4 ≤ (o9 % 5) := (nI_leI (by omega) (by omega)).mp c_38
                        refine lv_bipush (v := (-20)) hx hb dL_isDone_417 (by decide) ?_
                        refine lv_icmp_ne (tgt := 426) hx hb dL_isDone_419 (by decide) (fun c_39 => ?_) (fun c_39 => ?_)
                        · skip
                          exact absurd c_39 (by decide)
                        · skip
                          refine lv_iconst (v := 1) hx hb dL_isDone_422 (by decide) ?_
                          refine lv_goto (tgt := 427) hx hb dL_isDone_423 (by decide) ?_
                          subst eσ_34
                          exact rRetZw hx hb hr hw (by decide) (by exact ⟨rfl, po_nodrop hA hGa⟩) hlocks dL_isDone_427 (by omega) (by omega)
                      · skip
                        have c_38 : ¬ 4 ≤ (o9 % 5) := fun h9 => c_38 ((nI_leI (by omega) (by omega)).mpr h9)
                        omega
                    · skip
                      have c_33 : ¬ 4 ≤ (o9 % 5) := fun h9 => c_33 ((nI_leI (by omega) (by omega)).mpr h9)
                      refine lv_iload hx hb dL_isDone_382 (lv_at hl 3 rfl) ?_
                      refine lv_iconst (v := 5) hx hb dL_isDone_384 (by decide) ?_
                      refine lv_rep0 (x := 5) (y := nI 5) rfl ?_
                      refine lv_irem hx hb dL_isDone_385 (nI_ne0 (by omega) (by omega)) ?_
                      refine lv_rep0 (y := nI (o9 % 5)) (pk_rem (by omega) (by omega) (by omega)) ?_
                      refine lv_goto (tgt := 391) hx hb dL_isDone_386 (by decide) ?_
                      refine lv_rep1 (x := 7) (y := nI 7) rfl ?_
                      refine rAst (x := (nI (o9 % 5))) hx hb fx hw 33 (hF.1 33 (by decide)) hF.2.1 (fun _ => rfl) 7 rfl (by omega) (by decide) dL_isDone_391 (fun H locs hw => ?_)
                      obtain ⟨σ_40, eσ_40⟩ : ∃ w9, w9 = upA σ 33 (upd (σ 33) 7 (nI (o9 % 5))) := ⟨_, rfl⟩
                      rw [← eσ_40] at hw
                      refine lv_aload_n hx hb dL_isDone_392 rfl (lv_at hl 5 rfl) ?_
                      refine lv_bipush (v := 9) hx hb dL_isDone_393 (by decide) ?_
                      refine lv_iload hx hb dL_isDone_395 (lv_at hl 3 rfl) ?_
                      refine lv_iconst (v := 5) hx hb dL_isDone_397 (by decide) ?_
                      refine lv_rep0 (x := 5) (y := nI 5) rfl ?_
                      refine lv_irem hx hb dL_isDone_398 (nI_ne0 (by omega) (by omega)) ?_
                      refine lv_rep0 (y := nI (o9 % 5)) (pk_rem (by omega) (by omega) (by omega)) ?_
                      refine lv_iconst (v := 0) hx hb dL_isDone_399 (by decide) ?_
                      refine lv_iconst (v := 0) hx hb dL_isDone_400 (by decide) ?_
                      refine rCallLS (As := [.ref (gad G 0), .int 9, .int (nI (o9 % 5)), .int 0, .int 0]) (rest := []) ⟨hx, hb, hml, hown, hts⟩ fx hw (d9_ok l hlt G hG hF σ_40 (show CIv σ_40 g n b e9 z from by rw [eσ_40]; exact (show CIv σ g n b e9 z from pcv hA)) ((o9 % 5)) 0 0 (by omega)) (vx_cwSW 5 hts gL_isDone_L_does rfl rfl rfl (by decide +kernel) ⟨Nat.le_of_ble_eq_true rfl, Nat.le_of_ble_eq_true rfl⟩) rfl hl.1 rfl (Nat.le_of_ble_eq_true rfl) dL_isDone_401 ⟨Nat.le_trans (show _ ≤ 6 by omega) (Nat.le_of_ble_eq_true rfl), Nat.le_trans (show _ ≤ 60 by omega) (Nat.le_of_ble_eq_true rfl)⟩ (fun r_41 σ_42 H locs p_43 hw => ?_)
                      obtain ⟨er_41, eσ_42⟩ := p_43
                      have er_41 := er_41.symm; subst er_41
                      have hd9 : σ_40 27 3 = nI d := by rw [eσ_40, upA_n (by decide)]; exact (pdr hA).2.1
                      refine lv_iload hx hb dL_isDone_404 (lv_at hl 3 rfl) ?_
                      refine lv_iconst (v := 5) hx hb dL_isDone_406 (by decide) ?_
                      refine lv_rep0 (x := 5) (y := nI 5) rfl ?_
                      refine lv_irem hx hb dL_isDone_407 (nI_ne0 (by omega) (by omega)) ?_
                      refine lv_rep0 (y := nI (o9 % 5)) (pk_rem (by omega) (by omega) (by omega)) ?_
                      refine lv_iconst (v := 4) hx hb dL_isDone_408 (by decide) ?_
                      refine lv_rep0 (x := 4) (y := nI 4) rfl ?_
                      refine lv_icmp_ge (tgt := 417) hx hb dL_isDone_409 (by decide) (fun c_44 => ?_) (fun c_44 => ?_)
                      · skip
                        have c_44 : 4 ≤ (o9 % 5) := (nI_leI (by omega) (by omega)).mp c_44
                        omega
                      · skip
                        have c_44 : ¬ 4 ≤ (o9 % 5) := fun h9 => c_44 ((nI_leI (by omega) (by omega)).mpr h9)
                        refine lv_rep0 (x := (σ_40 27 3)) (y := nI d) (by rw [hd9]) ?_
                        refine lv_iload hx hb dL_isDone_412 (lv_at hl 0 rfl) ?_
                        refine lv_goto (tgt := 419) hx hb dL_isDone_414 (by decide) ?_
                        refine lv_icmp_ne (tgt := 426) hx hb dL_isDone_419 (by decide) (fun c_45 => ?_) (fun c_45 => ?_)
                        · skip
                          exact absurd rfl c_45
                        · skip
                          refine lv_iconst (v := 1) hx hb dL_isDone_422 (by decide) ?_
                          refine lv_goto (tgt := 427) hx hb dL_isDone_423 (by decide) ?_
                          subst eσ_42
                          subst eσ_40
                          exact rRetZw hx hb hr hw (by decide) (by exact ⟨rfl, po_drop hA hGa (by omega)⟩) hlocks dL_isDone_427 (by omega) (by omega)
                · skip
                  have c_23 : q1 = 36 := (nI_eq (by omega) (by omega)).mp c_23
                  refine lv_aload_n hx hb dL_isDone_347 rfl (lv_at hl 4 rfl) ?_
                  refine lv_aload hx hb dL_isDone_348 (lv_at hl 8 rfl) ?_
                  refine lv_aload hx hb dL_isDone_350 (lv_at hl 9 rfl) ?_
                  refine rCallM (As := [.ref (gad G 0), .ref (gad G 32), .ref (gad G 33)]) (rest := []) ⟨hx, hb, hml, hown, hts⟩ fx hw (kL_isEnded l hlt G hG hF σ hA hGa hj hgl) (va_cwS 3 hts gL_isDone_L_isEnded rfl rfl rfl (by decide +kernel) ⟨Nat.le_of_ble_eq_true rfl, Nat.le_of_ble_eq_true rfl⟩) rfl hl.1 rfl (Nat.le_of_ble_eq_true rfl) dL_isDone_352 ⟨Nat.le_trans (show _ ≤ 6 by omega) (Nat.le_of_ble_eq_true rfl), Nat.le_trans (show _ ≤ 60 by omega) (Nat.le_of_ble_eq_true rfl)⟩ (fun r_46 σ_47 H locs p_48 hw => ?_)
                  obtain ⟨er_46, p_48_0⟩ := p_48
                  have er_46 := er_46.symm; subst er_46
                  exact rRetZw hx hb hr hw (by decide) (by exact ⟨rfl, by assumption⟩) hlocks dL_isDone_355 (by omega) (by omega)
              · skip
                have c_22 : ¬ 36 ≤ q1 := fun h9 => c_22 ((nI_leI (by omega) (by omega)).mpr h9)
                refine lv_iload hx hb dL_isDone_257 (lv_at hl 2 rfl) ?_
                refine lv_bipush (v := 103) hx hb dL_isDone_259 (by decide) ?_
                refine lv_rep0 (x := 103) (y := nI 103) rfl ?_
                refine lv_irem hx hb dL_isDone_261 (nI_ne0 (by omega) (by omega)) ?_
                refine lv_rep0 (y := nI (o9 % 103)) (pk_rem (by omega) (by omega) (by omega)) ?_
                refine lv_if_le (tgt := 279) hx hb dL_isDone_262 (by decide) (fun c_49 => ?_) (fun c_49 => ?_)
                · skip
                  have c_49 : (o9 % 103) = 0 := n0_let (by omega) c_49
                  refine lv_iconst (v := 0) hx hb dL_isDone_279 (by decide) ?_
                  refine lv_istore (lv' := [(10, .int 0), (9, .int (nI v9)), (8, .int (nI u9)), (7, .int (nI o9)), (6, .int (nI q1)), (0, .ref (gad G 0)), (1, .ref (gsc G).1), (2, .int (nI at9)), (3, .ref (gad G 31)), (4, .ref (gad G 32)), (5, .ref (gad G 33))]) hx hb dL_isDone_280 hl (by decide) rfl (fun ls hl => ?_)
                  refine lv_aload hx hb dL_isDone_282 (lv_at hl 10 rfl) ?_
                  refine lv_bipush (v := 8) hx hb dL_isDone_284 (by decide) ?_
                  refine lv_rep0 (x := 8) (y := nI 8) rfl ?_
                  refine lv_dup2_11 hx hb dL_isDone_286 rfl rfl ?_
                  refine rAld hx hb fx hw 33 (hF.1 33 (by decide)) hF.2.1 (fun _ => rfl) 8 rfl (by omega) (by decide) dL_isDone_287 ?_
                  refine lv_rep0 (x := (σ 33 8)) (y := (nI t)) (pti hA).1 ?_
                  refine lv_iload hx hb dL_isDone_288 (lv_at hl 0 rfl) ?_
                  refine lv_if_eq (tgt := 301) hx hb dL_isDone_290 (by decide) (fun c_50 => ?_) (fun c_50 => ?_)
                  · skip
                    refine lv_iconst (v := 0) hx hb dL_isDone_301 (by decide) ?_
                    refine lv_rep0 (x := 0) (y := nI 0) rfl ?_
                    refine lv_iadd hx hb dL_isDone_302 ?_
                    refine lv_rep0 (x := ((nI t) + (nI 0))) (y := nI (t + 0)) (nI_add _ _) ?_
                    refine rAst (x := (nI (t + 0))) hx hb fx hw 33 (hF.1 33 (by decide)) hF.2.1 (fun _ => rfl) 8 rfl (by omega) (by decide) dL_isDone_303 (fun H locs hw => ?_)
                    obtain ⟨σ_51, eσ_51⟩ : ∃ w9, w9 = upA σ 33 (upd (σ 33) 8 (nI (t + 0))) := ⟨_, rfl⟩
                    rw [← eσ_51] at hw
                    refine lv_aload_n hx hb dL_isDone_304 rfl (lv_at hl 5 rfl) ?_
                    refine lv_iconst (v := 5) hx hb dL_isDone_305 (by decide) ?_
                    refine lv_iload hx hb dL_isDone_306 (lv_at hl 3 rfl) ?_
                    refine lv_bipush (v := 103) hx hb dL_isDone_308 (by decide) ?_
                    refine lv_rep0 (x := 103) (y := nI 103) rfl ?_
                    refine lv_irem hx hb dL_isDone_310 (nI_ne0 (by omega) (by omega)) ?_
                    refine lv_rep0 (y := nI (o9 % 103)) (pk_rem (by omega) (by omega) (by omega)) ?_
                    refine lv_iconst (v := 0) hx hb dL_isDone_311 (by decide) ?_
                    refine lv_iconst (v := 0) hx hb dL_isDone_312 (by decide) ?_
                    refine rCallLS (As := [.ref (gad G 0), .int 5, .int (nI (o9 % 103)), .int 0, .int 0]) (rest := []) ⟨hx, hb, hml, hown, hts⟩ fx hw (d5_t1 l hlt G hG hF σ_51 (show CIv σ_51 g n b e9 z from by rw [eσ_51]; exact (show CIv σ g n b e9 z from pcv hA)) ((nI (o9 % 103))) 0 0 (inR_no (lo := 1) (hi := 100) (by omega) (by decide) (by decide) (by omega))) (vx_cwSW 5 hts gL_isDone_L_does rfl rfl rfl (by decide +kernel) ⟨Nat.le_of_ble_eq_true rfl, Nat.le_of_ble_eq_true rfl⟩) rfl hl.1 rfl (Nat.le_of_ble_eq_true rfl) dL_isDone_313 ⟨Nat.le_trans (show _ ≤ 6 by omega) (Nat.le_of_ble_eq_true rfl), Nat.le_trans (show _ ≤ 60 by omega) (Nat.le_of_ble_eq_true rfl)⟩ (fun r_52 σ_53 H locs p_54 hw => ?_)
                    obtain ⟨er_52, eσ_53⟩ := p_54
                    have er_52 := er_52.symm; subst er_52
                    have eσ_53 := eσ_53.symm; subst eσ_53
                    have ht9 : σ_51 0 9 = nI t := by rw [eσ_51, upA_n (by decide)]; exact (pti hA).2
                    refine lv_iload hx hb dL_isDone_316 (lv_at hl 0 rfl) ?_
                    refine lv_if_eq (tgt := 329) hx hb dL_isDone_318 (by decide) (fun c_55 => ?_) (fun c_55 => ?_)
                    · skip
                      refine lv_bipush (v := (-20)) hx hb dL_isDone_329 (by decide) ?_
                      refine lv_icmp_ne (tgt := 338) hx hb dL_isDone_331 (by decide) (fun c_56 => ?_) (fun c_56 => ?_)
                      · skip
                        exact absurd c_56 (by decide)
                      · skip
                        refine lv_iconst (v := 1) hx hb dL_isDone_334 (by decide) ?_
                        refine lv_goto (tgt := 339) hx hb dL_isDone_335 (by decide) ?_
                        subst eσ_51
                        exact rRetZw hx hb hr hw (by decide) (by exact ⟨rfl, po_noidle hA hGa⟩) hlocks dL_isDone_339 (by omega) (by omega)
                    · skip
                      exact absurd c_55 (by decide)
                  · skip
                    exact absurd c_50 (by decide)
                · skip
                  have c_49 : 0 < (o9 % 103) := n0_lef (by omega) c_49
                  refine lv_iload hx hb dL_isDone_265 (lv_at hl 2 rfl) ?_
                  refine lv_bipush (v := 103) hx hb dL_isDone_267 (by decide) ?_
                  refine lv_rep0 (x := 103) (y := nI 103) rfl ?_
                  refine lv_irem hx hb dL_isDone_269 (nI_ne0 (by omega) (by omega)) ?_
                  refine lv_rep0 (y := nI (o9 % 103)) (pk_rem (by omega) (by omega) (by omega)) ?_
                  refine lv_bipush (v := 101) hx hb dL_isDone_270 (by decide) ?_
                  refine lv_rep0 (x := 101) (y := nI 101) rfl ?_
                  refine lv_icmp_ge (tgt := 279) hx hb dL_isDone_272 (by decide) (fun c_57 => ?_) (fun c_57 => ?_)
                  · skip
                    have c_57 : 101 ≤ (o9 % 103) := (nI_leI (by omega) (by omega)).mp c_57
                    refine lv_iconst (v := 0) hx hb dL_isDone_279 (by decide) ?_
                    refine lv_istore (lv' := [(10, .int 0), (9, .int (nI v9)), (8, .int (nI u9)), (7, .int (nI o9)), (6, .int (nI q1)), (0, .ref (gad G 0)), (1, .ref (gsc G).1), (2, .int (nI at9)), (3, .ref (gad G 31)), (4, .ref (gad G 32)), (5, .ref (gad G 33))]) hx hb dL_isDone_280 hl (by decide) rfl (fun ls hl => ?_)
                    refine lv_aload hx hb dL_isDone_282 (lv_at hl 10 rfl) ?_
                    refine lv_bipush (v := 8) hx hb dL_isDone_284 (by decide) ?_
                    refine lv_rep0 (x := 8) (y := nI 8) rfl ?_
                    refine lv_dup2_11 hx hb dL_isDone_286 rfl rfl ?_
                    refine rAld hx hb fx hw 33 (hF.1 33 (by decide)) hF.2.1 (fun _ => rfl) 8 rfl (by omega) (by decide) dL_isDone_287 ?_
                    refine lv_rep0 (x := (σ 33 8)) (y := (nI t)) (pti hA).1 ?_
                    refine lv_iload hx hb dL_isDone_288 (lv_at hl 0 rfl) ?_
                    refine lv_if_eq (tgt := 301) hx hb dL_isDone_290 (by decide) (fun c_58 => ?_) (fun c_58 => ?_)
                    · skip
                      refine lv_iconst (v := 0) hx hb dL_isDone_301 (by decide) ?_
                      refine lv_rep0 (x := 0) (y := nI 0) rfl ?_
                      refine lv_iadd hx hb dL_isDone_302 ?_
                      refine lv_rep0 (x := ((nI t) + (nI 0))) (y := nI (t + 0)) (nI_add _ _) ?_
                      refine rAst (x := (nI (t + 0))) hx hb fx hw 33 (hF.1 33 (by decide)) hF.2.1 (fun _ => rfl) 8 rfl (by omega) (by decide) dL_isDone_303 (fun H locs hw => ?_)
                      obtain ⟨σ_59, eσ_59⟩ : ∃ w9, w9 = upA σ 33 (upd (σ 33) 8 (nI (t + 0))) := ⟨_, rfl⟩
                      rw [← eσ_59] at hw
                      refine lv_aload_n hx hb dL_isDone_304 rfl (lv_at hl 5 rfl) ?_
                      refine lv_iconst (v := 5) hx hb dL_isDone_305 (by decide) ?_
                      refine lv_iload hx hb dL_isDone_306 (lv_at hl 3 rfl) ?_
                      refine lv_bipush (v := 103) hx hb dL_isDone_308 (by decide) ?_
                      refine lv_rep0 (x := 103) (y := nI 103) rfl ?_
                      refine lv_irem hx hb dL_isDone_310 (nI_ne0 (by omega) (by omega)) ?_
                      refine lv_rep0 (y := nI (o9 % 103)) (pk_rem (by omega) (by omega) (by omega)) ?_
                      refine lv_iconst (v := 0) hx hb dL_isDone_311 (by decide) ?_
                      refine lv_iconst (v := 0) hx hb dL_isDone_312 (by decide) ?_
                      refine rCallLS (As := [.ref (gad G 0), .int 5, .int (nI (o9 % 103)), .int 0, .int 0]) (rest := []) ⟨hx, hb, hml, hown, hts⟩ fx hw (d5_t1 l hlt G hG hF σ_59 (show CIv σ_59 g n b e9 z from by rw [eσ_59]; exact (show CIv σ g n b e9 z from pcv hA)) ((nI (o9 % 103))) 0 0 (inR_no (lo := 1) (hi := 100) (by omega) (by decide) (by decide) (by omega))) (vx_cwSW 5 hts gL_isDone_L_does rfl rfl rfl (by decide +kernel) ⟨Nat.le_of_ble_eq_true rfl, Nat.le_of_ble_eq_true rfl⟩) rfl hl.1 rfl (Nat.le_of_ble_eq_true rfl) dL_isDone_313 ⟨Nat.le_trans (show _ ≤ 6 by omega) (Nat.le_of_ble_eq_true rfl), Nat.le_trans (show _ ≤ 60 by omega) (Nat.le_of_ble_eq_true rfl)⟩ (fun r_60 σ_61 H locs p_62 hw => ?_)
                      obtain ⟨er_60, eσ_61⟩ := p_62
                      have er_60 := er_60.symm; subst er_60
                      have eσ_61 := eσ_61.symm; subst eσ_61
                      have ht9 : σ_59 0 9 = nI t := by rw [eσ_59, upA_n (by decide)]; exact (pti hA).2
                      refine lv_iload hx hb dL_isDone_316 (lv_at hl 0 rfl) ?_
                      refine lv_if_eq (tgt := 329) hx hb dL_isDone_318 (by decide) (fun c_63 => ?_) (fun c_63 => ?_)
                      · skip
                        refine lv_bipush (v := (-20)) hx hb dL_isDone_329 (by decide) ?_
                        refine lv_icmp_ne (tgt := 338) hx hb dL_isDone_331 (by decide) (fun c_64 => ?_) (fun c_64 => ?_)
                        · skip
                          exact absurd c_64 (by decide)
                        · skip
                          refine lv_iconst (v := 1) hx hb dL_isDone_334 (by decide) ?_
                          refine lv_goto (tgt := 339) hx hb dL_isDone_335 (by decide) ?_
                          subst eσ_59
                          exact rRetZw hx hb hr hw (by decide) (by exact ⟨rfl, po_noidle hA hGa⟩) hlocks dL_isDone_339 (by omega) (by omega)
                      · skip
                        exact absurd c_63 (by decide)
                    · skip
                      exact absurd c_58 (by decide)
                  · skip
                    have c_57 : ¬ 101 ≤ (o9 % 103) := fun h9 => c_57 ((nI_leI (by omega) (by omega)).mpr h9)
                    refine lv_iconst (v := 1) hx hb dL_isDone_275 (by decide) ?_
                    refine lv_goto (tgt := 280) hx hb dL_isDone_276 (by decide) ?_
                    refine lv_istore (lv' := [(10, .int 1), (9, .int (nI v9)), (8, .int (nI u9)), (7, .int (nI o9)), (6, .int (nI q1)), (0, .ref (gad G 0)), (1, .ref (gsc G).1), (2, .int (nI at9)), (3, .ref (gad G 31)), (4, .ref (gad G 32)), (5, .ref (gad G 33))]) hx hb dL_isDone_280 hl (by decide) rfl (fun ls hl => ?_)
                    refine lv_aload hx hb dL_isDone_282 (lv_at hl 10 rfl) ?_
                    refine lv_bipush (v := 8) hx hb dL_isDone_284 (by decide) ?_
                    refine lv_rep0 (x := 8) (y := nI 8) rfl ?_
                    refine lv_dup2_11 hx hb dL_isDone_286 rfl rfl ?_
                    refine rAld hx hb fx hw 33 (hF.1 33 (by decide)) hF.2.1 (fun _ => rfl) 8 rfl (by omega) (by decide) dL_isDone_287 ?_
                    refine lv_rep0 (x := (σ 33 8)) (y := (nI t)) (pti hA).1 ?_
                    refine lv_iload hx hb dL_isDone_288 (lv_at hl 0 rfl) ?_
                    refine lv_if_eq (tgt := 301) hx hb dL_isDone_290 (by decide) (fun c_65 => ?_) (fun c_65 => ?_)
                    · skip
                      exact absurd c_65 (by decide)
                    · skip
                      refine lv_iload hx hb dL_isDone_293 (lv_at hl 3 rfl) ?_
                      refine lv_bipush (v := 103) hx hb dL_isDone_295 (by decide) ?_
                      refine lv_rep0 (x := 103) (y := nI 103) rfl ?_
                      refine lv_irem hx hb dL_isDone_297 (nI_ne0 (by omega) (by omega)) ?_
                      refine lv_rep0 (y := nI (o9 % 103)) (pk_rem (by omega) (by omega) (by omega)) ?_
                      refine lv_goto (tgt := 302) hx hb dL_isDone_298 (by decide) ?_
                      refine lv_iadd hx hb dL_isDone_302 ?_
                      refine lv_rep0 (x := ((nI t) + (nI (o9 % 103)))) (y := nI (t + (o9 % 103))) (nI_add _ _) ?_
                      refine rAst (x := (nI (t + (o9 % 103)))) hx hb fx hw 33 (hF.1 33 (by decide)) hF.2.1 (fun _ => rfl) 8 rfl (by omega) (by decide) dL_isDone_303 (fun H locs hw => ?_)
                      obtain ⟨σ_66, eσ_66⟩ : ∃ w9, w9 = upA σ 33 (upd (σ 33) 8 (nI (t + (o9 % 103)))) := ⟨_, rfl⟩
                      rw [← eσ_66] at hw
                      refine lv_aload_n hx hb dL_isDone_304 rfl (lv_at hl 5 rfl) ?_
                      refine lv_iconst (v := 5) hx hb dL_isDone_305 (by decide) ?_
                      refine lv_iload hx hb dL_isDone_306 (lv_at hl 3 rfl) ?_
                      refine lv_bipush (v := 103) hx hb dL_isDone_308 (by decide) ?_
                      refine lv_rep0 (x := 103) (y := nI 103) rfl ?_
                      refine lv_irem hx hb dL_isDone_310 (nI_ne0 (by omega) (by omega)) ?_
                      refine lv_rep0 (y := nI (o9 % 103)) (pk_rem (by omega) (by omega) (by omega)) ?_
                      refine lv_iconst (v := 0) hx hb dL_isDone_311 (by decide) ?_
                      refine lv_iconst (v := 0) hx hb dL_isDone_312 (by decide) ?_
                      refine rCallLS (As := [.ref (gad G 0), .int 5, .int (nI (o9 % 103)), .int 0, .int 0]) (rest := []) ⟨hx, hb, hml, hown, hts⟩ fx hw (d5_ok l hlt G hG hF σ_66 (show CIv σ_66 g n b e9 z from by rw [eσ_66]; exact (show CIv σ g n b e9 z from pcv hA)) ((o9 % 103)) 0 0 (by omega) (by omega)) (vx_cwSW 5 hts gL_isDone_L_does rfl rfl rfl (by decide +kernel) ⟨Nat.le_of_ble_eq_true rfl, Nat.le_of_ble_eq_true rfl⟩) rfl hl.1 rfl (Nat.le_of_ble_eq_true rfl) dL_isDone_313 ⟨Nat.le_trans (show _ ≤ 6 by omega) (Nat.le_of_ble_eq_true rfl), Nat.le_trans (show _ ≤ 60 by omega) (Nat.le_of_ble_eq_true rfl)⟩ (fun r_67 σ_68 H locs p_69 hw => ?_)
                      obtain ⟨er_67, eσ_68⟩ := p_69
                      have er_67 := er_67.symm; subst er_67
                      have ht9 : σ_66 0 9 = nI t := by rw [eσ_66, upA_n (by decide)]; exact (pti hA).2
                      refine lv_rep0 (x := (σ_66 0 9 + nI (o9 % 103))) (y := nI (t + (o9 % 103))) (by rw [ht9, nI_add]) ?_
                      refine lv_iload hx hb dL_isDone_316 (lv_at hl 0 rfl) ?_
                      refine lv_if_eq (tgt := 329) hx hb dL_isDone_318 (by decide) (fun c_70 => ?_) (fun c_70 => ?_)
                      · skip
                        exact absurd c_70 (by decide)
                      · skip
                        refine lv_aload hx hb dL_isDone_321 (lv_at hl 10 rfl) ?_
                        refine lv_bipush (v := 8) hx hb dL_isDone_323 (by decide) ?_
                        refine lv_rep0 (x := 8) (y := nI 8) rfl ?_
                        refine rAld hx hb fx hw 33 (hF.1 33 (by decide)) hF.2.1 (fun _ => rfl) 8 rfl (by omega) (by decide) dL_isDone_325 ?_
                        refine lv_rep0 (x := (σ_68 33 8)) (y := (nI (t + (o9 % 103)))) ((congrFun ((ag_one eσ_68 (by decide)) 33 (by decide)) 8).trans (ld_h eσ_66)) ?_
                        refine lv_goto (tgt := 331) hx hb dL_isDone_326 (by decide) ?_
                        refine lv_icmp_ne (tgt := 338) hx hb dL_isDone_331 (by decide) (fun c_71 => ?_) (fun c_71 => ?_)
                        · skip
                          exact absurd rfl c_71
                        · skip
                          refine lv_iconst (v := 1) hx hb dL_isDone_334 (by decide) ?_
                          refine lv_goto (tgt := 339) hx hb dL_isDone_335 (by decide) ?_
                          subst eσ_68
                          subst eσ_66
                          exact rRetZw hx hb hr hw (by decide) (by exact ⟨rfl, po_idle hA hGa (by omega)⟩) hlocks dL_isDone_339 (by omega) (by omega)
            · skip
              have c_21 : ¬ 34 ≤ q1 := fun h9 => c_21 ((nI_leI (by omega) (by omega)).mpr h9)
              refine lv_aload_n hx hb dL_isDone_220 rfl (lv_at hl 4 rfl) ?_
              refine lv_aload hx hb dL_isDone_221 (lv_at hl 8 rfl) ?_
              refine lv_aload hx hb dL_isDone_223 (lv_at hl 9 rfl) ?_
              refine lv_iload hx hb dL_isDone_225 (lv_at hl 2 rfl) ?_
              refine lv_aload hx hb dL_isDone_227 (lv_at hl 9 rfl) ?_
              refine lv_iconst (v := 2) hx hb dL_isDone_229 (by decide) ?_
              refine lv_rep0 (x := 2) (y := nI 2) rfl ?_
              refine rAld hx hb fx hw 33 (hF.1 33 (by decide)) hF.2.1 (fun _ => rfl) 2 rfl (by omega) (by decide) dL_isDone_230 ?_
              refine lv_rep0 (x := (σ 33 2)) (y := (nI n)) (pn hA).1 ?_
              refine lv_iconst (v := 1) hx hb dL_isDone_231 (by decide) ?_
              refine lv_rep0 (x := 1) (y := nI 1) rfl ?_
              refine lv_iadd hx hb dL_isDone_232 ?_
              refine lv_rep0 (x := ((nI n) + (nI 1))) (y := nI (n + 1)) (nI_add _ _) ?_
              refine lv_irem hx hb dL_isDone_233 (nI_ne0 (by omega) (by omega)) ?_
              refine lv_rep0 (y := nI (o9 % (n + 1))) (pk_rem (by omega) (by omega) (by omega)) ?_
              have hrm9 := Nat.mod_lt o9 (show 0 < (n + 1) by omega)
              refine lv_iload hx hb dL_isDone_234 (lv_at hl 3 rfl) ?_
              refine lv_bipush (v := 30) hx hb dL_isDone_236 (by decide) ?_
              refine lv_rep0 (x := 30) (y := nI 30) rfl ?_
              refine lv_icmp_le (tgt := 245) hx hb dL_isDone_238 (by decide) (fun c_72 => ?_) (fun c_72 => ?_)
              · skip
                have c_72 : q1 ≤ 30 := (nI_leI (by omega) (by omega)).mp c_72
                refine lv_iconst (v := 0) hx hb dL_isDone_245 (by decide) ?_
                refine rCallM (As := [.ref (gad G 0), .ref (gad G 32), .ref (gad G 33), .int (nI (o9 % (n + 1))), .int 0]) (rest := []) ⟨hx, hb, hml, hown, hts⟩ fx hw (kL_isItem_0 l hlt G hG hF σ hA hGa hj ((o9 % (n + 1))) (by omega)) (va_cwS 5 hts gL_isDone_L_isItem rfl rfl rfl (by decide +kernel) ⟨Nat.le_of_ble_eq_true rfl, Nat.le_of_ble_eq_true rfl⟩) rfl hl.1 rfl (Nat.le_of_ble_eq_true rfl) dL_isDone_246 ⟨Nat.le_trans (show _ ≤ 6 by omega) (Nat.le_of_ble_eq_true rfl), Nat.le_trans (show _ ≤ 60 by omega) (Nat.le_of_ble_eq_true rfl)⟩ (fun r_73 σ_74 H locs p_75 hw => ?_)
                obtain ⟨er_73, p_75_0⟩ := p_75
                have er_73 := er_73.symm; subst er_73
                exact rRetZw hx hb hr hw (by decide) (by exact ⟨rfl, by assumption⟩) hlocks dL_isDone_249 (by omega) (by omega)
              · skip
                have c_72 : ¬ q1 ≤ 30 := fun h9 => c_72 ((nI_leI (by omega) (by omega)).mpr h9)
                refine lv_iconst (v := 1) hx hb dL_isDone_241 (by decide) ?_
                refine lv_goto (tgt := 246) hx hb dL_isDone_242 (by decide) ?_
                refine rCallM (As := [.ref (gad G 0), .ref (gad G 32), .ref (gad G 33), .int (nI (o9 % (n + 1))), .int 1]) (rest := []) ⟨hx, hb, hml, hown, hts⟩ fx hw (kL_isItem_1 l hlt G hG hF σ hA hGa hj ((o9 % (n + 1))) (by omega)) (va_cwS 5 hts gL_isDone_L_isItem rfl rfl rfl (by decide +kernel) ⟨Nat.le_of_ble_eq_true rfl, Nat.le_of_ble_eq_true rfl⟩) rfl hl.1 rfl (Nat.le_of_ble_eq_true rfl) dL_isDone_246 ⟨Nat.le_trans (show _ ≤ 6 by omega) (Nat.le_of_ble_eq_true rfl), Nat.le_trans (show _ ≤ 60 by omega) (Nat.le_of_ble_eq_true rfl)⟩ (fun r_76 σ_77 H locs p_78 hw => ?_)
                obtain ⟨er_76, p_78_0⟩ := p_78
                have er_76 := er_76.symm; subst er_76
                exact rRetZw hx hb hr hw (by decide) (by exact ⟨rfl, by assumption⟩) hlocks dL_isDone_249 (by omega) (by omega)
          · skip
            have c_20 : ¬ 28 ≤ q1 := fun h9 => c_20 ((nI_leI (by omega) (by omega)).mpr h9)
            refine lv_iload hx hb dL_isDone_145 (lv_at hl 2 rfl) ?_
            refine lv_aload hx hb dL_isDone_147 (lv_at hl 9 rfl) ?_
            refine lv_iconst (v := 2) hx hb dL_isDone_149 (by decide) ?_
            refine lv_rep0 (x := 2) (y := nI 2) rfl ?_
            refine rAld hx hb fx hw 33 (hF.1 33 (by decide)) hF.2.1 (fun _ => rfl) 2 rfl (by omega) (by decide) dL_isDone_150 ?_
            refine lv_rep0 (x := (σ 33 2)) (y := (nI n)) (pn hA).1 ?_
            refine lv_iconst (v := 1) hx hb dL_isDone_151 (by decide) ?_
            refine lv_rep0 (x := 1) (y := nI 1) rfl ?_
            refine lv_iadd hx hb dL_isDone_152 ?_
            refine lv_rep0 (x := ((nI n) + (nI 1))) (y := nI (n + 1)) (nI_add _ _) ?_
            refine lv_irem hx hb dL_isDone_153 (nI_ne0 (by omega) (by omega)) ?_
            refine lv_rep0 (y := nI (o9 % (n + 1))) (pk_rem (by omega) (by omega) (by omega)) ?_
            have hrm9 := Nat.mod_lt o9 (show 0 < (n + 1) by omega)
            refine lv_istore (lv' := [(10, .int (nI (o9 % (n + 1)))), (9, .int (nI v9)), (8, .int (nI u9)), (7, .int (nI o9)), (6, .int (nI q1)), (0, .ref (gad G 0)), (1, .ref (gsc G).1), (2, .int (nI at9)), (3, .ref (gad G 31)), (4, .ref (gad G 32)), (5, .ref (gad G 33))]) hx hb dL_isDone_154 hl (by decide) rfl (fun ls hl => ?_)
            obtain ⟨k9, hk9⟩ : ∃ k9, k9 = o9 % (n + 1) := ⟨_, rfl⟩
            have hkn : k9 ≤ n := by rw [hk9]; exact Nat.le_of_lt_succ (Nat.mod_lt _ (Nat.succ_pos n))
            have q_79 : (nI (o9 % (n + 1))) = (nI k9) := by rw [hk9]
            have hl : lv_has ls 11 [(10, .int (nI k9)), (9, .int (nI v9)), (8, .int (nI u9)), (7, .int (nI o9)), (6, .int (nI q1)), (0, .ref (gad G 0)), (1, .ref (gsc G).1), (2, .int (nI at9)), (3, .ref (gad G 31)), (4, .ref (gad G 32)), (5, .ref (gad G 33))] := (lv_c (lv_atq hl 0 rfl q_79) (lv_c (lv_at hl 1 rfl) (lv_c (lv_at hl 2 rfl) (lv_c (lv_at hl 3 rfl) (lv_c (lv_at hl 4 rfl) (lv_c (lv_at hl 5 rfl) (lv_c (lv_at hl 6 rfl) (lv_c (lv_at hl 7 rfl) (lv_c (lv_at hl 8 rfl) (lv_c (lv_at hl 9 rfl) (lv_c (lv_at hl 10 rfl) (lv_c0 hl))))))))))))
            refine lv_aload_n hx hb dL_isDone_156 rfl (lv_at hl 5 rfl) ?_
            refine lv_aload_n hx hb dL_isDone_157 rfl (lv_at hl 8 rfl) ?_
            refine lv_aload hx hb dL_isDone_158 (lv_at hl 9 rfl) ?_
            refine lv_aload hx hb dL_isDone_160 (lv_at hl 10 rfl) ?_
            refine lv_iload hx hb dL_isDone_162 (lv_at hl 0 rfl) ?_
            refine lv_iload hx hb dL_isDone_164 (lv_at hl 2 rfl) ?_
            refine lv_iconst (v := 3) hx hb dL_isDone_166 (by decide) ?_
            refine lv_rep0 (x := 3) (y := nI 3) rfl ?_
            refine lv_irem hx hb dL_isDone_167 (nI_ne0 (by omega) (by omega)) ?_
            refine lv_rep0 (y := nI (u9 % 3)) (pk_rem (by omega) (by omega) (by omega)) ?_
            refine lv_if_le (tgt := 200) hx hb dL_isDone_168 (by decide) (fun c_80 => ?_) (fun c_80 => ?_)
            · skip
              have c_80 : (u9 % 3) = 0 := n0_let (by omega) c_80
              refine lv_iload hx hb dL_isDone_200 (lv_at hl 1 rfl) ?_
              refine lv_aload hx hb dL_isDone_202 (lv_at hl 10 rfl) ?_
              refine lv_iconst (v := 0) hx hb dL_isDone_204 (by decide) ?_
              refine lv_rep0 (x := 0) (y := nI 0) rfl ?_
              refine rAld hx hb fx hw 33 (hF.1 33 (by decide)) hF.2.1 (fun _ => rfl) 0 rfl (by omega) (by decide) dL_isDone_205 ?_
              refine lv_rep0 (x := (σ 33 0)) (y := (nI g)) (pg hA).1 ?_
              refine lv_iconst (v := 1) hx hb dL_isDone_206 (by decide) ?_
              refine lv_rep0 (x := 1) (y := nI 1) rfl ?_
              refine lv_iadd hx hb dL_isDone_207 ?_
              refine lv_rep0 (x := ((nI g) + (nI 1))) (y := nI (g + 1)) (nI_add _ _) ?_
              refine lv_irem hx hb dL_isDone_208 (nI_ne0 (by omega) (by omega)) ?_
              refine lv_rep0 (y := nI (v9 % (g + 1))) (pk_rem (by omega) (by omega) (by omega)) ?_
              have hrm9 := Nat.mod_lt v9 (show 0 < (g + 1) by omega)
              refine rCallM (As := [.ref (gad G 0), .ref (gad G 31), .ref (gad G 32), .ref (gad G 33), .int (nI k9), .int (nI (v9 % (g + 1)))]) (rest := []) ⟨hx, hb, hml, hown, hts⟩ fx hw (kL_isPassed l hlt G hG hF σ hA hGa hj k9 ((v9 % (g + 1))) (by omega) (by omega)) (va_cwS 6 hts gL_isDone_L_isPassed rfl rfl rfl (by decide +kernel) ⟨Nat.le_of_ble_eq_true rfl, Nat.le_of_ble_eq_true rfl⟩) rfl hl.1 rfl (Nat.le_of_ble_eq_true rfl) dL_isDone_209 ⟨Nat.le_trans (show _ ≤ 6 by omega) (Nat.le_of_ble_eq_true rfl), Nat.le_trans (show _ ≤ 60 by omega) (Nat.le_of_ble_eq_true rfl)⟩ (fun r_81 σ_82 H locs p_83 hw => ?_)
              obtain ⟨er_81, p_83_0⟩ := p_83
              have er_81 := er_81.symm; subst er_81
              exact rRetZw hx hb hr hw (by decide) (by exact ⟨rfl, by assumption⟩) hlocks dL_isDone_212 (by omega) (by omega)
            · skip
              have c_80 : 0 < (u9 % 3) := n0_lef (by omega) c_80
              refine lv_iload hx hb dL_isDone_171 (lv_at hl 0 rfl) ?_
              refine lv_aload hx hb dL_isDone_173 (lv_at hl 10 rfl) ?_
              refine lv_iconst (v := 2) hx hb dL_isDone_175 (by decide) ?_
              refine lv_rep0 (x := 2) (y := nI 2) rfl ?_
              refine rAld hx hb fx hw 33 (hF.1 33 (by decide)) hF.2.1 (fun _ => rfl) 2 rfl (by omega) (by decide) dL_isDone_176 ?_
              refine lv_rep0 (x := (σ 33 2)) (y := (nI n)) (pn hA).1 ?_
              refine lv_icmp_ge (tgt := 200) hx hb dL_isDone_177 (by decide) (fun c_84 => ?_) (fun c_84 => ?_)
              · skip
                have c_84 : n ≤ k9 := (nI_leI (by omega) (by omega)).mp c_84
                refine lv_iload hx hb dL_isDone_200 (lv_at hl 1 rfl) ?_
                refine lv_aload hx hb dL_isDone_202 (lv_at hl 10 rfl) ?_
                refine lv_iconst (v := 0) hx hb dL_isDone_204 (by decide) ?_
                refine lv_rep0 (x := 0) (y := nI 0) rfl ?_
                refine rAld hx hb fx hw 33 (hF.1 33 (by decide)) hF.2.1 (fun _ => rfl) 0 rfl (by omega) (by decide) dL_isDone_205 ?_
                refine lv_rep0 (x := (σ 33 0)) (y := (nI g)) (pg hA).1 ?_
                refine lv_iconst (v := 1) hx hb dL_isDone_206 (by decide) ?_
                refine lv_rep0 (x := 1) (y := nI 1) rfl ?_
                refine lv_iadd hx hb dL_isDone_207 ?_
                refine lv_rep0 (x := ((nI g) + (nI 1))) (y := nI (g + 1)) (nI_add _ _) ?_
                refine lv_irem hx hb dL_isDone_208 (nI_ne0 (by omega) (by omega)) ?_
                refine lv_rep0 (y := nI (v9 % (g + 1))) (pk_rem (by omega) (by omega) (by omega)) ?_
                have hrm9 := Nat.mod_lt v9 (show 0 < (g + 1) by omega)
                refine rCallM (As := [.ref (gad G 0), .ref (gad G 31), .ref (gad G 32), .ref (gad G 33), .int (nI k9), .int (nI (v9 % (g + 1)))]) (rest := []) ⟨hx, hb, hml, hown, hts⟩ fx hw (kL_isPassed l hlt G hG hF σ hA hGa hj k9 ((v9 % (g + 1))) (by omega) (by omega)) (va_cwS 6 hts gL_isDone_L_isPassed rfl rfl rfl (by decide +kernel) ⟨Nat.le_of_ble_eq_true rfl, Nat.le_of_ble_eq_true rfl⟩) rfl hl.1 rfl (Nat.le_of_ble_eq_true rfl) dL_isDone_209 ⟨Nat.le_trans (show _ ≤ 6 by omega) (Nat.le_of_ble_eq_true rfl), Nat.le_trans (show _ ≤ 60 by omega) (Nat.le_of_ble_eq_true rfl)⟩ (fun r_85 σ_86 H locs p_87 hw => ?_)
                obtain ⟨er_85, p_87_0⟩ := p_87
                have er_85 := er_85.symm; subst er_85
                exact rRetZw hx hb hr hw (by decide) (by exact ⟨rfl, by assumption⟩) hlocks dL_isDone_212 (by omega) (by omega)
              · skip
                have c_84 : ¬ n ≤ k9 := fun h9 => c_84 ((nI_leI (by omega) (by omega)).mpr h9)
                obtain ⟨ga, hga1, hga2⟩ := hGa k9 (by omega)
                refine lv_aload hx hb dL_isDone_180 (lv_at hl 9 rfl) ?_
                refine lv_bipush (v := 6) hx hb dL_isDone_182 (by decide) ?_
                refine lv_iload hx hb dL_isDone_184 (lv_at hl 0 rfl) ?_
                refine lv_rep1 (x := 6) (y := nI 6) rfl ?_
                refine lv_imul hx hb dL_isDone_186 ?_
                refine lv_rep0 (x := ((nI 6) * (nI k9))) (y := nI (6 * k9)) (pk_mul _ _) ?_
                refine lv_iconst (v := 1) hx hb dL_isDone_187 (by decide) ?_
                refine lv_rep0 (x := 1) (y := nI 1) rfl ?_
                refine lv_iadd hx hb dL_isDone_188 ?_
                refine lv_rep0 (x := ((nI (6 * k9)) + (nI 1))) (y := nI ((6 * k9) + 1)) (nI_add _ _) ?_
                refine rAld hx hb fx hw 32 (hF.1 32 (by decide)) hF.2.1 (fun _ => rfl) ((6 * k9) + 1) rfl (by omega) (by decide) dL_isDone_189 ?_
                refine lv_rep0 (x := (σ 32 ((6 * k9) + 1))) (y := (nI ga)) hga2 ?_
                refine lv_iconst (v := 1) hx hb dL_isDone_190 (by decide) ?_
                refine lv_rep0 (x := 1) (y := nI 1) rfl ?_
                refine lv_iadd hx hb dL_isDone_191 ?_
                refine lv_rep0 (x := ((nI ga) + (nI 1))) (y := nI (ga + 1)) (nI_add _ _) ?_
                refine lv_aload hx hb dL_isDone_192 (lv_at hl 10 rfl) ?_
                refine lv_iconst (v := 0) hx hb dL_isDone_194 (by decide) ?_
                refine lv_rep0 (x := 0) (y := nI 0) rfl ?_
                refine rAld hx hb fx hw 33 (hF.1 33 (by decide)) hF.2.1 (fun _ => rfl) 0 rfl (by omega) (by decide) dL_isDone_195 ?_
                refine lv_rep0 (x := (σ 33 0)) (y := (nI g)) (pg hA).1 ?_
                refine lv_irem hx hb dL_isDone_196 (nI_ne0 (by omega) (by omega)) ?_
                refine lv_rep0 (y := nI ((ga + 1) % g)) (pk_rem (by omega) (by omega) (by omega)) ?_
                have hrm9 := Nat.mod_lt (ga + 1) (show 0 < g by omega)
                refine lv_goto (tgt := 209) hx hb dL_isDone_197 (by decide) ?_
                refine rCallM (As := [.ref (gad G 0), .ref (gad G 31), .ref (gad G 32), .ref (gad G 33), .int (nI k9), .int (nI ((ga + 1) % g))]) (rest := []) ⟨hx, hb, hml, hown, hts⟩ fx hw (kL_isPassed l hlt G hG hF σ hA hGa hj k9 (((ga + 1) % g)) (by omega) (by omega)) (va_cwS 6 hts gL_isDone_L_isPassed rfl rfl rfl (by decide +kernel) ⟨Nat.le_of_ble_eq_true rfl, Nat.le_of_ble_eq_true rfl⟩) rfl hl.1 rfl (Nat.le_of_ble_eq_true rfl) dL_isDone_209 ⟨Nat.le_trans (show _ ≤ 6 by omega) (Nat.le_of_ble_eq_true rfl), Nat.le_trans (show _ ≤ 60 by omega) (Nat.le_of_ble_eq_true rfl)⟩ (fun r_88 σ_89 H locs p_90 hw => ?_)
                obtain ⟨er_88, p_90_0⟩ := p_90
                have er_88 := er_88.symm; subst er_88
                exact rRetZw hx hb hr hw (by decide) (by exact ⟨rfl, by assumption⟩) hlocks dL_isDone_212 (by omega) (by omega)
        · skip
          have c_19 : ¬ 14 ≤ q1 := fun h9 => c_19 ((nI_leI (by omega) (by omega)).mpr h9)
          refine lv_aload_n hx hb dL_isDone_109 rfl (lv_at hl 4 rfl) ?_
          refine lv_aload_n hx hb dL_isDone_110 rfl (lv_at hl 7 rfl) ?_
          refine lv_aload hx hb dL_isDone_111 (lv_at hl 8 rfl) ?_
          refine lv_aload hx hb dL_isDone_113 (lv_at hl 9 rfl) ?_
          refine lv_iload hx hb dL_isDone_115 (lv_at hl 2 rfl) ?_
          refine lv_bipush (v := 9) hx hb dL_isDone_117 (by decide) ?_
          refine lv_rep0 (x := 9) (y := nI 9) rfl ?_
          refine lv_irem hx hb dL_isDone_119 (nI_ne0 (by omega) (by omega)) ?_
          refine lv_rep0 (y := nI (o9 % 9)) (pk_rem (by omega) (by omega) (by omega)) ?_
          refine lv_if_ne (tgt := 128) hx hb dL_isDone_120 (by decide) (fun c_91 => ?_) (fun c_91 => ?_)
          · skip
            have c_91 : ¬ (o9 % 9) = 0 := n0_net (by omega) c_91
            refine lv_iconst (v := 1) hx hb dL_isDone_128 (by decide) ?_
            refine lv_iload hx hb dL_isDone_129 (lv_at hl 2 rfl) ?_
            refine lv_iconst (v := 3) hx hb dL_isDone_131 (by decide) ?_
            refine lv_rep0 (x := 3) (y := nI 3) rfl ?_
            refine lv_irem hx hb dL_isDone_132 (nI_ne0 (by omega) (by omega)) ?_
            refine lv_rep0 (y := nI (o9 % 3)) (pk_rem (by omega) (by omega) (by omega)) ?_
            refine lv_rep1 (x := 1) (y := nI 1) rfl ?_
            refine lv_iadd hx hb dL_isDone_133 ?_
            refine lv_rep0 (x := ((nI 1) + (nI (o9 % 3)))) (y := nI (1 + (o9 % 3))) (nI_add _ _) ?_
            refine rCallM (As := [.ref (gad G 0), .ref (gad G 31), .ref (gad G 32), .ref (gad G 33), .int (nI (1 + (o9 % 3)))]) (rest := []) ⟨hx, hb, hml, hown, hts⟩ fx hw (kL_isStarted l hlt G hG hF σ hA hGa hj ((1 + (o9 % 3))) (by omega) (by omega)) (va_cwS 5 hts gL_isDone_L_isStarted rfl rfl rfl (by decide +kernel) ⟨Nat.le_of_ble_eq_true rfl, Nat.le_of_ble_eq_true rfl⟩) rfl hl.1 rfl (Nat.le_of_ble_eq_true rfl) dL_isDone_134 ⟨Nat.le_trans (show _ ≤ 6 by omega) (Nat.le_of_ble_eq_true rfl), Nat.le_trans (show _ ≤ 60 by omega) (Nat.le_of_ble_eq_true rfl)⟩ (fun r_92 σ_93 H locs p_94 hw => ?_)
            obtain ⟨er_92, p_94_0⟩ := p_94
            have er_92 := er_92.symm; subst er_92
            exact rRetZw hx hb hr hw (by decide) (by exact ⟨rfl, by assumption⟩) hlocks dL_isDone_137 (by omega) (by omega)
          · skip
            have c_91 : (o9 % 9) = 0 := n0_nef (by omega) c_91
            refine lv_bipush (v := 10) hx hb dL_isDone_123 (by decide) ?_
            refine lv_goto (tgt := 134) hx hb dL_isDone_125 (by decide) ?_
            refine lv_rep0 (x := 10) (y := nI 10) rfl ?_
            refine rCallM (As := [.ref (gad G 0), .ref (gad G 31), .ref (gad G 32), .ref (gad G 33), .int (nI 10)]) (rest := []) ⟨hx, hb, hml, hown, hts⟩ fx hw (kL_isStarted l hlt G hG hF σ hA hGa hj 10 (by omega) (by omega)) (va_cwS 5 hts gL_isDone_L_isStarted rfl rfl rfl (by decide +kernel) ⟨Nat.le_of_ble_eq_true rfl, Nat.le_of_ble_eq_true rfl⟩) rfl hl.1 rfl (Nat.le_of_ble_eq_true rfl) dL_isDone_134 ⟨Nat.le_trans (show _ ≤ 6 by omega) (Nat.le_of_ble_eq_true rfl), Nat.le_trans (show _ ≤ 60 by omega) (Nat.le_of_ble_eq_true rfl)⟩ (fun r_95 σ_96 H locs p_97 hw => ?_)
            obtain ⟨er_95, p_97_0⟩ := p_97
            have er_95 := er_95.symm; subst er_95
            exact rRetZw hx hb hr hw (by decide) (by exact ⟨rfl, by assumption⟩) hlocks dL_isDone_137 (by omega) (by omega)
      · skip
        have c_18 : q1 = 0 := n0_nef (by omega) c_18
        refine lv_aload_n hx hb dL_isDone_64 rfl (lv_at hl 4 rfl) ?_
        refine lv_aload_n hx hb dL_isDone_65 rfl (lv_at hl 7 rfl) ?_
        refine lv_aload hx hb dL_isDone_66 (lv_at hl 8 rfl) ?_
        refine lv_aload hx hb dL_isDone_68 (lv_at hl 9 rfl) ?_
        refine lv_iload hx hb dL_isDone_70 (lv_at hl 3 rfl) ?_
        refine lv_iconst (v := 3) hx hb dL_isDone_72 (by decide) ?_
        refine lv_rep0 (x := 3) (y := nI 3) rfl ?_
        refine lv_icmp_ge (tgt := 80) hx hb dL_isDone_73 (by decide) (fun c_98 => ?_) (fun c_98 => ?_)
        · skip
          have c_98 : 3 ≤ q1 := (nI_leI (by omega) (by omega)).mp c_98
          refine lv_iload hx hb dL_isDone_80 (lv_at hl 3 rfl) ?_
          refine lv_bipush (v := 7) hx hb dL_isDone_82 (by decide) ?_
          refine lv_rep0 (x := 7) (y := nI 7) rfl ?_
          refine lv_icmp_ge (tgt := 91) hx hb dL_isDone_84 (by decide) (fun c_99 => ?_) (fun c_99 => ?_)
          · skip
            have c_99 : 7 ≤ q1 := (nI_leI (by omega) (by omega)).mp c_99
            refine lv_iconst (v := 2) hx hb dL_isDone_91 (by decide) ?_
            refine lv_iload hx hb dL_isDone_92 (lv_at hl 2 rfl) ?_
            refine lv_iload hx hb dL_isDone_94 (lv_at hl 1 rfl) ?_
            refine lv_iload hx hb dL_isDone_96 (lv_at hl 0 rfl) ?_
            refine rCallM (As := [.ref (gad G 0), .ref (gad G 31), .ref (gad G 32), .ref (gad G 33), .int 2, .int (nI o9), .int (nI u9), .int (nI v9)]) (rest := []) ⟨hx, hb, hml, hown, hts⟩ fx hw (kL_isLaid_2 l hlt G hG hF σ hA hGa hj o9 u9 v9 (by omega) (by omega) (by omega)) (va_cwS 8 hts gL_isDone_L_isLaid rfl rfl rfl (by decide +kernel) ⟨Nat.le_of_ble_eq_true rfl, Nat.le_of_ble_eq_true rfl⟩) rfl hl.1 rfl (Nat.le_of_ble_eq_true rfl) dL_isDone_98 ⟨Nat.le_trans (show _ ≤ 6 by omega) (Nat.le_of_ble_eq_true rfl), Nat.le_trans (show _ ≤ 60 by omega) (Nat.le_of_ble_eq_true rfl)⟩ (fun r_100 σ_101 H locs p_102 hw => ?_)
            obtain ⟨er_100, p_102_0⟩ := p_102
            have er_100 := er_100.symm; subst er_100
            exact rRetZw hx hb hr hw (by decide) (by exact ⟨rfl, by assumption⟩) hlocks dL_isDone_101 (by omega) (by omega)
          · skip
            have c_99 : ¬ 7 ≤ q1 := fun h9 => c_99 ((nI_leI (by omega) (by omega)).mpr h9)
            refine lv_iconst (v := 1) hx hb dL_isDone_87 (by decide) ?_
            refine lv_goto (tgt := 92) hx hb dL_isDone_88 (by decide) ?_
            refine lv_iload hx hb dL_isDone_92 (lv_at hl 2 rfl) ?_
            refine lv_iload hx hb dL_isDone_94 (lv_at hl 1 rfl) ?_
            refine lv_iload hx hb dL_isDone_96 (lv_at hl 0 rfl) ?_
            refine rCallM (As := [.ref (gad G 0), .ref (gad G 31), .ref (gad G 32), .ref (gad G 33), .int 1, .int (nI o9), .int (nI u9), .int (nI v9)]) (rest := []) ⟨hx, hb, hml, hown, hts⟩ fx hw (kL_isLaid_1 l hlt G hG hF σ hA hGa hj o9 u9 v9 (by omega) (by omega) (by omega)) (va_cwS 8 hts gL_isDone_L_isLaid rfl rfl rfl (by decide +kernel) ⟨Nat.le_of_ble_eq_true rfl, Nat.le_of_ble_eq_true rfl⟩) rfl hl.1 rfl (Nat.le_of_ble_eq_true rfl) dL_isDone_98 ⟨Nat.le_trans (show _ ≤ 6 by omega) (Nat.le_of_ble_eq_true rfl), Nat.le_trans (show _ ≤ 60 by omega) (Nat.le_of_ble_eq_true rfl)⟩ (fun r_103 σ_104 H locs p_105 hw => ?_)
            obtain ⟨er_103, p_105_0⟩ := p_105
            have er_103 := er_103.symm; subst er_103
            exact rRetZw hx hb hr hw (by decide) (by exact ⟨rfl, by assumption⟩) hlocks dL_isDone_101 (by omega) (by omega)
        · skip
          have c_98 : ¬ 3 ≤ q1 := fun h9 => c_98 ((nI_leI (by omega) (by omega)).mpr h9)
          refine lv_iconst (v := 0) hx hb dL_isDone_76 (by decide) ?_
          refine lv_goto (tgt := 92) hx hb dL_isDone_77 (by decide) ?_
          refine lv_iload hx hb dL_isDone_92 (lv_at hl 2 rfl) ?_
          refine lv_iload hx hb dL_isDone_94 (lv_at hl 1 rfl) ?_
          refine lv_iload hx hb dL_isDone_96 (lv_at hl 0 rfl) ?_
          refine rCallM (As := [.ref (gad G 0), .ref (gad G 31), .ref (gad G 32), .ref (gad G 33), .int 0, .int (nI o9), .int (nI u9), .int (nI v9)]) (rest := []) ⟨hx, hb, hml, hown, hts⟩ fx hw (kL_isLaid_0 l hlt G hG hF σ hA hGa hj o9 u9 v9 (by omega) (by omega) (by omega)) (va_cwS 8 hts gL_isDone_L_isLaid rfl rfl rfl (by decide +kernel) ⟨Nat.le_of_ble_eq_true rfl, Nat.le_of_ble_eq_true rfl⟩) rfl hl.1 rfl (Nat.le_of_ble_eq_true rfl) dL_isDone_98 ⟨Nat.le_trans (show _ ≤ 6 by omega) (Nat.le_of_ble_eq_true rfl), Nat.le_trans (show _ ≤ 60 by omega) (Nat.le_of_ble_eq_true rfl)⟩ (fun r_106 σ_107 H locs p_108 hw => ?_)
          obtain ⟨er_106, p_108_0⟩ := p_108
          have er_106 := er_106.symm; subst er_106
          exact rRetZw hx hb hr hw (by decide) (by exact ⟨rfl, by assumption⟩) hlocks dL_isDone_101 (by omega) (by omega)
    · skip
      have c_17 : ¬ 10 ≤ q1 := fun h9 => c_17 ((nI_leI (by omega) (by omega)).mpr h9)
      refine lv_aload hx hb dL_isDone_52 (lv_at hl 9 rfl) ?_
      refine lv_iconst (v := 5) hx hb dL_isDone_54 (by decide) ?_
      refine lv_rep0 (x := 5) (y := nI 5) rfl ?_
      refine rAld hx hb fx hw 33 (hF.1 33 (by decide)) hF.2.1 (fun _ => rfl) 5 rfl (by omega) (by decide) dL_isDone_55 ?_
      refine lv_rep0 (x := (σ 33 5)) (y := 0) hs5 ?_
      refine lv_if_eq (tgt := 64) hx hb dL_isDone_56 (by decide) (fun c_109 => ?_) (fun c_109 => ?_)
      · skip
        refine lv_aload_n hx hb dL_isDone_64 rfl (lv_at hl 4 rfl) ?_
        refine lv_aload_n hx hb dL_isDone_65 rfl (lv_at hl 7 rfl) ?_
        refine lv_aload hx hb dL_isDone_66 (lv_at hl 8 rfl) ?_
        refine lv_aload hx hb dL_isDone_68 (lv_at hl 9 rfl) ?_
        refine lv_iload hx hb dL_isDone_70 (lv_at hl 3 rfl) ?_
        refine lv_iconst (v := 3) hx hb dL_isDone_72 (by decide) ?_
        refine lv_rep0 (x := 3) (y := nI 3) rfl ?_
        refine lv_icmp_ge (tgt := 80) hx hb dL_isDone_73 (by decide) (fun c_110 => ?_) (fun c_110 => ?_)
        · skip
          have c_110 : 3 ≤ q1 := (nI_leI (by omega) (by omega)).mp c_110
          refine lv_iload hx hb dL_isDone_80 (lv_at hl 3 rfl) ?_
          refine lv_bipush (v := 7) hx hb dL_isDone_82 (by decide) ?_
          refine lv_rep0 (x := 7) (y := nI 7) rfl ?_
          refine lv_icmp_ge (tgt := 91) hx hb dL_isDone_84 (by decide) (fun c_111 => ?_) (fun c_111 => ?_)
          · skip
            have c_111 : 7 ≤ q1 := (nI_leI (by omega) (by omega)).mp c_111
            refine lv_iconst (v := 2) hx hb dL_isDone_91 (by decide) ?_
            refine lv_iload hx hb dL_isDone_92 (lv_at hl 2 rfl) ?_
            refine lv_iload hx hb dL_isDone_94 (lv_at hl 1 rfl) ?_
            refine lv_iload hx hb dL_isDone_96 (lv_at hl 0 rfl) ?_
            refine rCallM (As := [.ref (gad G 0), .ref (gad G 31), .ref (gad G 32), .ref (gad G 33), .int 2, .int (nI o9), .int (nI u9), .int (nI v9)]) (rest := []) ⟨hx, hb, hml, hown, hts⟩ fx hw (kL_isLaid_2 l hlt G hG hF σ hA hGa hj o9 u9 v9 (by omega) (by omega) (by omega)) (va_cwS 8 hts gL_isDone_L_isLaid rfl rfl rfl (by decide +kernel) ⟨Nat.le_of_ble_eq_true rfl, Nat.le_of_ble_eq_true rfl⟩) rfl hl.1 rfl (Nat.le_of_ble_eq_true rfl) dL_isDone_98 ⟨Nat.le_trans (show _ ≤ 6 by omega) (Nat.le_of_ble_eq_true rfl), Nat.le_trans (show _ ≤ 60 by omega) (Nat.le_of_ble_eq_true rfl)⟩ (fun r_112 σ_113 H locs p_114 hw => ?_)
            obtain ⟨er_112, p_114_0⟩ := p_114
            have er_112 := er_112.symm; subst er_112
            exact rRetZw hx hb hr hw (by decide) (by exact ⟨rfl, by assumption⟩) hlocks dL_isDone_101 (by omega) (by omega)
          · skip
            have c_111 : ¬ 7 ≤ q1 := fun h9 => c_111 ((nI_leI (by omega) (by omega)).mpr h9)
            refine lv_iconst (v := 1) hx hb dL_isDone_87 (by decide) ?_
            refine lv_goto (tgt := 92) hx hb dL_isDone_88 (by decide) ?_
            refine lv_iload hx hb dL_isDone_92 (lv_at hl 2 rfl) ?_
            refine lv_iload hx hb dL_isDone_94 (lv_at hl 1 rfl) ?_
            refine lv_iload hx hb dL_isDone_96 (lv_at hl 0 rfl) ?_
            refine rCallM (As := [.ref (gad G 0), .ref (gad G 31), .ref (gad G 32), .ref (gad G 33), .int 1, .int (nI o9), .int (nI u9), .int (nI v9)]) (rest := []) ⟨hx, hb, hml, hown, hts⟩ fx hw (kL_isLaid_1 l hlt G hG hF σ hA hGa hj o9 u9 v9 (by omega) (by omega) (by omega)) (va_cwS 8 hts gL_isDone_L_isLaid rfl rfl rfl (by decide +kernel) ⟨Nat.le_of_ble_eq_true rfl, Nat.le_of_ble_eq_true rfl⟩) rfl hl.1 rfl (Nat.le_of_ble_eq_true rfl) dL_isDone_98 ⟨Nat.le_trans (show _ ≤ 6 by omega) (Nat.le_of_ble_eq_true rfl), Nat.le_trans (show _ ≤ 60 by omega) (Nat.le_of_ble_eq_true rfl)⟩ (fun r_115 σ_116 H locs p_117 hw => ?_)
            obtain ⟨er_115, p_117_0⟩ := p_117
            have er_115 := er_115.symm; subst er_115
            exact rRetZw hx hb hr hw (by decide) (by exact ⟨rfl, by assumption⟩) hlocks dL_isDone_101 (by omega) (by omega)
        · skip
          have c_110 : ¬ 3 ≤ q1 := fun h9 => c_110 ((nI_leI (by omega) (by omega)).mpr h9)
          refine lv_iconst (v := 0) hx hb dL_isDone_76 (by decide) ?_
          refine lv_goto (tgt := 92) hx hb dL_isDone_77 (by decide) ?_
          refine lv_iload hx hb dL_isDone_92 (lv_at hl 2 rfl) ?_
          refine lv_iload hx hb dL_isDone_94 (lv_at hl 1 rfl) ?_
          refine lv_iload hx hb dL_isDone_96 (lv_at hl 0 rfl) ?_
          refine rCallM (As := [.ref (gad G 0), .ref (gad G 31), .ref (gad G 32), .ref (gad G 33), .int 0, .int (nI o9), .int (nI u9), .int (nI v9)]) (rest := []) ⟨hx, hb, hml, hown, hts⟩ fx hw (kL_isLaid_0 l hlt G hG hF σ hA hGa hj o9 u9 v9 (by omega) (by omega) (by omega)) (va_cwS 8 hts gL_isDone_L_isLaid rfl rfl rfl (by decide +kernel) ⟨Nat.le_of_ble_eq_true rfl, Nat.le_of_ble_eq_true rfl⟩) rfl hl.1 rfl (Nat.le_of_ble_eq_true rfl) dL_isDone_98 ⟨Nat.le_trans (show _ ≤ 6 by omega) (Nat.le_of_ble_eq_true rfl), Nat.le_trans (show _ ≤ 60 by omega) (Nat.le_of_ble_eq_true rfl)⟩ (fun r_118 σ_119 H locs p_120 hw => ?_)
          obtain ⟨er_118, p_120_0⟩ := p_120
          have er_118 := er_118.symm; subst er_118
          exact rRetZw hx hb hr hw (by decide) (by exact ⟨rfl, by assumption⟩) hlocks dL_isDone_101 (by omega) (by omega)
      · skip
        exact absurd c_109 (by decide)
  · skip
    obtain ⟨s9, hs5, hs1, hs2, hnev⟩ := hst
    refine lv_aload_n hx hb dL_isDone_0 rfl (lv_at hl 1 rfl) ?_
    refine lv_iload_n hx hb dL_isDone_1 rfl (lv_at hl 2 rfl) ?_
    refine lv_bipush (v := 40) hx hb dL_isDone_2 (by decide) ?_
    refine lv_rep0 (x := 40) (y := nI 40) rfl ?_
    refine rCallM (As := [.ref (gsc G).1, .int (nI at9), .int (nI 40)]) (rest := []) ⟨hx, hb, hml, hown, hts⟩ fx hw (kL_part l hlt G hG hF σ at9 40 (by omega) (by omega) (by omega) hLs) (va_cwS 3 hts gL_isDone_L_part rfl rfl rfl (by decide +kernel) ⟨Nat.le_of_ble_eq_true rfl, Nat.le_of_ble_eq_true rfl⟩) rfl hl.1 rfl (Nat.le_of_ble_eq_true rfl) dL_isDone_4 ⟨Nat.le_trans (show _ ≤ 6 by omega) (Nat.le_of_ble_eq_true rfl), Nat.le_trans (show _ ≤ 60 by omega) (Nat.le_of_ble_eq_true rfl)⟩ (fun r_121 σ_122 H locs p_123 hw => ?_)
    obtain ⟨er_121, eσ_122, p_123_0⟩ := p_123
    have er_121 := er_121.symm; subst er_121
    have eσ_122 := eσ_122.symm; subst eσ_122
    refine lv_istore (lv' := [(6, .int (nI (prN G at9 % 40))), (0, .ref (gad G 0)), (1, .ref (gsc G).1), (2, .int (nI at9)), (3, .ref (gad G 31)), (4, .ref (gad G 32)), (5, .ref (gad G 33))]) hx hb dL_isDone_7 hl (by decide) rfl (fun ls hl => ?_)
    have q_124 : (nI (prN G at9 % 40)) = (nI q1) := by rw [hq1]
    have hl : lv_has ls 11 [(6, .int (nI q1)), (0, .ref (gad G 0)), (1, .ref (gsc G).1), (2, .int (nI at9)), (3, .ref (gad G 31)), (4, .ref (gad G 32)), (5, .ref (gad G 33))] := (lv_c (lv_atq hl 0 rfl q_124) (lv_c (lv_at hl 1 rfl) (lv_c (lv_at hl 2 rfl) (lv_c (lv_at hl 3 rfl) (lv_c (lv_at hl 4 rfl) (lv_c (lv_at hl 5 rfl) (lv_c (lv_at hl 6 rfl) (lv_c0 hl))))))))
    refine lv_aload_n hx hb dL_isDone_9 rfl (lv_at hl 2 rfl) ?_
    refine lv_iload_n hx hb dL_isDone_10 rfl (lv_at hl 3 rfl) ?_
    refine lv_iconst (v := 1) hx hb dL_isDone_11 (by decide) ?_
    refine lv_rep0 (x := 1) (y := nI 1) rfl ?_
    refine lv_iadd hx hb dL_isDone_12 ?_
    refine lv_rep0 (x := ((nI at9) + (nI 1))) (y := nI (at9 + 1)) (nI_add _ _) ?_
    refine lv_sipush (v := 6000) hx hb dL_isDone_13 (by decide) ?_
    refine lv_rep0 (x := 6000) (y := nI 6000) rfl ?_
    refine rCallM (As := [.ref (gsc G).1, .int (nI (at9 + 1)), .int (nI 6000)]) (rest := []) ⟨hx, hb, hml, hown, hts⟩ fx hw (kL_part l hlt G hG hF σ ((at9 + 1)) 6000 (by omega) (by omega) (by omega) hLs) (va_cwS 3 hts gL_isDone_L_part rfl rfl rfl (by decide +kernel) ⟨Nat.le_of_ble_eq_true rfl, Nat.le_of_ble_eq_true rfl⟩) rfl hl.1 rfl (Nat.le_of_ble_eq_true rfl) dL_isDone_16 ⟨Nat.le_trans (show _ ≤ 6 by omega) (Nat.le_of_ble_eq_true rfl), Nat.le_trans (show _ ≤ 60 by omega) (Nat.le_of_ble_eq_true rfl)⟩ (fun r_125 σ_126 H locs p_127 hw => ?_)
    obtain ⟨er_125, eσ_126, p_127_0⟩ := p_127
    have er_125 := er_125.symm; subst er_125
    have eσ_126 := eσ_126.symm; subst eσ_126
    refine lv_istore (lv' := [(7, .int (nI (prN G (at9 + 1) % 6000))), (6, .int (nI q1)), (0, .ref (gad G 0)), (1, .ref (gsc G).1), (2, .int (nI at9)), (3, .ref (gad G 31)), (4, .ref (gad G 32)), (5, .ref (gad G 33))]) hx hb dL_isDone_19 hl (by decide) rfl (fun ls hl => ?_)
    have q_128 : (nI (prN G (at9 + 1) % 6000)) = (nI o9) := by rw [ho9]
    have hl : lv_has ls 11 [(7, .int (nI o9)), (6, .int (nI q1)), (0, .ref (gad G 0)), (1, .ref (gsc G).1), (2, .int (nI at9)), (3, .ref (gad G 31)), (4, .ref (gad G 32)), (5, .ref (gad G 33))] := (lv_c (lv_atq hl 0 rfl q_128) (lv_c (lv_at hl 1 rfl) (lv_c (lv_at hl 2 rfl) (lv_c (lv_at hl 3 rfl) (lv_c (lv_at hl 4 rfl) (lv_c (lv_at hl 5 rfl) (lv_c (lv_at hl 6 rfl) (lv_c (lv_at hl 7 rfl) (lv_c0 hl)))))))))
    refine lv_aload_n hx hb dL_isDone_21 rfl (lv_at hl 3 rfl) ?_
    refine lv_iload_n hx hb dL_isDone_22 rfl (lv_at hl 4 rfl) ?_
    refine lv_iconst (v := 2) hx hb dL_isDone_23 (by decide) ?_
    refine lv_rep0 (x := 2) (y := nI 2) rfl ?_
    refine lv_iadd hx hb dL_isDone_24 ?_
    refine lv_rep0 (x := ((nI at9) + (nI 2))) (y := nI (at9 + 2)) (nI_add _ _) ?_
    refine lv_sipush (v := 7000) hx hb dL_isDone_25 (by decide) ?_
    refine lv_rep0 (x := 7000) (y := nI 7000) rfl ?_
    refine rCallM (As := [.ref (gsc G).1, .int (nI (at9 + 2)), .int (nI 7000)]) (rest := []) ⟨hx, hb, hml, hown, hts⟩ fx hw (kL_part l hlt G hG hF σ ((at9 + 2)) 7000 (by omega) (by omega) (by omega) hLs) (va_cwS 3 hts gL_isDone_L_part rfl rfl rfl (by decide +kernel) ⟨Nat.le_of_ble_eq_true rfl, Nat.le_of_ble_eq_true rfl⟩) rfl hl.1 rfl (Nat.le_of_ble_eq_true rfl) dL_isDone_28 ⟨Nat.le_trans (show _ ≤ 6 by omega) (Nat.le_of_ble_eq_true rfl), Nat.le_trans (show _ ≤ 60 by omega) (Nat.le_of_ble_eq_true rfl)⟩ (fun r_129 σ_130 H locs p_131 hw => ?_)
    obtain ⟨er_129, eσ_130, p_131_0⟩ := p_131
    have er_129 := er_129.symm; subst er_129
    have eσ_130 := eσ_130.symm; subst eσ_130
    refine lv_istore (lv' := [(8, .int (nI (prN G (at9 + 2) % 7000))), (7, .int (nI o9)), (6, .int (nI q1)), (0, .ref (gad G 0)), (1, .ref (gsc G).1), (2, .int (nI at9)), (3, .ref (gad G 31)), (4, .ref (gad G 32)), (5, .ref (gad G 33))]) hx hb dL_isDone_31 hl (by decide) rfl (fun ls hl => ?_)
    have q_132 : (nI (prN G (at9 + 2) % 7000)) = (nI u9) := by rw [hu9]
    have hl : lv_has ls 11 [(8, .int (nI u9)), (7, .int (nI o9)), (6, .int (nI q1)), (0, .ref (gad G 0)), (1, .ref (gsc G).1), (2, .int (nI at9)), (3, .ref (gad G 31)), (4, .ref (gad G 32)), (5, .ref (gad G 33))] := (lv_c (lv_atq hl 0 rfl q_132) (lv_c (lv_at hl 1 rfl) (lv_c (lv_at hl 2 rfl) (lv_c (lv_at hl 3 rfl) (lv_c (lv_at hl 4 rfl) (lv_c (lv_at hl 5 rfl) (lv_c (lv_at hl 6 rfl) (lv_c (lv_at hl 7 rfl) (lv_c (lv_at hl 8 rfl) (lv_c0 hl))))))))))
    refine lv_aload_n hx hb dL_isDone_33 rfl (lv_at hl 4 rfl) ?_
    refine lv_iload_n hx hb dL_isDone_34 rfl (lv_at hl 5 rfl) ?_
    refine lv_iconst (v := 3) hx hb dL_isDone_35 (by decide) ?_
    refine lv_rep0 (x := 3) (y := nI 3) rfl ?_
    refine lv_iadd hx hb dL_isDone_36 ?_
    refine lv_rep0 (x := ((nI at9) + (nI 3))) (y := nI (at9 + 3)) (nI_add _ _) ?_
    refine lv_sipush (v := 8000) hx hb dL_isDone_37 (by decide) ?_
    refine lv_rep0 (x := 8000) (y := nI 8000) rfl ?_
    refine rCallM (As := [.ref (gsc G).1, .int (nI (at9 + 3)), .int (nI 8000)]) (rest := []) ⟨hx, hb, hml, hown, hts⟩ fx hw (kL_part l hlt G hG hF σ ((at9 + 3)) 8000 (by omega) (by omega) (by omega) hLs) (va_cwS 3 hts gL_isDone_L_part rfl rfl rfl (by decide +kernel) ⟨Nat.le_of_ble_eq_true rfl, Nat.le_of_ble_eq_true rfl⟩) rfl hl.1 rfl (Nat.le_of_ble_eq_true rfl) dL_isDone_40 ⟨Nat.le_trans (show _ ≤ 6 by omega) (Nat.le_of_ble_eq_true rfl), Nat.le_trans (show _ ≤ 60 by omega) (Nat.le_of_ble_eq_true rfl)⟩ (fun r_133 σ_134 H locs p_135 hw => ?_)
    obtain ⟨er_133, eσ_134, p_135_0⟩ := p_135
    have er_133 := er_133.symm; subst er_133
    have eσ_134 := eσ_134.symm; subst eσ_134
    refine lv_istore (lv' := [(9, .int (nI (prN G (at9 + 3) % 8000))), (8, .int (nI u9)), (7, .int (nI o9)), (6, .int (nI q1)), (0, .ref (gad G 0)), (1, .ref (gsc G).1), (2, .int (nI at9)), (3, .ref (gad G 31)), (4, .ref (gad G 32)), (5, .ref (gad G 33))]) hx hb dL_isDone_43 hl (by decide) rfl (fun ls hl => ?_)
    have q_136 : (nI (prN G (at9 + 3) % 8000)) = (nI v9) := by rw [hv9]
    have hl : lv_has ls 11 [(9, .int (nI v9)), (8, .int (nI u9)), (7, .int (nI o9)), (6, .int (nI q1)), (0, .ref (gad G 0)), (1, .ref (gsc G).1), (2, .int (nI at9)), (3, .ref (gad G 31)), (4, .ref (gad G 32)), (5, .ref (gad G 33))] := (lv_c (lv_atq hl 0 rfl q_136) (lv_c (lv_at hl 1 rfl) (lv_c (lv_at hl 2 rfl) (lv_c (lv_at hl 3 rfl) (lv_c (lv_at hl 4 rfl) (lv_c (lv_at hl 5 rfl) (lv_c (lv_at hl 6 rfl) (lv_c (lv_at hl 7 rfl) (lv_c (lv_at hl 8 rfl) (lv_c (lv_at hl 9 rfl) (lv_c0 hl)))))))))))
    refine lv_iload hx hb dL_isDone_45 (lv_at hl 3 rfl) ?_
    refine lv_bipush (v := 10) hx hb dL_isDone_47 (by decide) ?_
    refine lv_rep0 (x := 10) (y := nI 10) rfl ?_
    refine lv_icmp_ge (tgt := 59) hx hb dL_isDone_49 (by decide) (fun c_137 => ?_) (fun c_137 => ?_)
    · skip
      have c_137 : 10 ≤ q1 := (nI_leI (by omega) (by omega)).mp c_137
      refine lv_iload hx hb dL_isDone_59 (lv_at hl 3 rfl) ?_
      refine lv_if_ne (tgt := 102) hx hb dL_isDone_61 (by decide) (fun c_138 => ?_) (fun c_138 => ?_)
      · skip
        have c_138 : ¬ q1 = 0 := n0_net (by omega) c_138
        refine lv_iload hx hb dL_isDone_102 (lv_at hl 3 rfl) ?_
        refine lv_bipush (v := 14) hx hb dL_isDone_104 (by decide) ?_
        refine lv_rep0 (x := 14) (y := nI 14) rfl ?_
        refine lv_icmp_ge (tgt := 138) hx hb dL_isDone_106 (by decide) (fun c_139 => ?_) (fun c_139 => ?_)
        · skip
          have c_139 : 14 ≤ q1 := (nI_leI (by omega) (by omega)).mp c_139
          refine lv_iload hx hb dL_isDone_138 (lv_at hl 3 rfl) ?_
          refine lv_bipush (v := 28) hx hb dL_isDone_140 (by decide) ?_
          refine lv_rep0 (x := 28) (y := nI 28) rfl ?_
          refine lv_icmp_ge (tgt := 213) hx hb dL_isDone_142 (by decide) (fun c_140 => ?_) (fun c_140 => ?_)
          · skip
            have c_140 : 28 ≤ q1 := (nI_leI (by omega) (by omega)).mp c_140
            refine lv_iload hx hb dL_isDone_213 (lv_at hl 3 rfl) ?_
            refine lv_bipush (v := 34) hx hb dL_isDone_215 (by decide) ?_
            refine lv_rep0 (x := 34) (y := nI 34) rfl ?_
            refine lv_icmp_ge (tgt := 250) hx hb dL_isDone_217 (by decide) (fun c_141 => ?_) (fun c_141 => ?_)
            · skip
              have c_141 : 34 ≤ q1 := (nI_leI (by omega) (by omega)).mp c_141
              refine lv_iload hx hb dL_isDone_250 (lv_at hl 3 rfl) ?_
              refine lv_bipush (v := 36) hx hb dL_isDone_252 (by decide) ?_
              refine lv_rep0 (x := 36) (y := nI 36) rfl ?_
              refine lv_icmp_ge (tgt := 340) hx hb dL_isDone_254 (by decide) (fun c_142 => ?_) (fun c_142 => ?_)
              · skip
                have c_142 : 36 ≤ q1 := (nI_leI (by omega) (by omega)).mp c_142
                refine lv_iload hx hb dL_isDone_340 (lv_at hl 3 rfl) ?_
                refine lv_bipush (v := 36) hx hb dL_isDone_342 (by decide) ?_
                refine lv_rep0 (x := 36) (y := nI 36) rfl ?_
                refine lv_icmp_ne (tgt := 356) hx hb dL_isDone_344 (by decide) (fun c_143 => ?_) (fun c_143 => ?_)
                · skip
                  have c_143 : ¬ q1 = 36 := fun h9 => c_143 ((nI_eq (by omega) (by omega)).mpr h9)
                  refine lv_iload hx hb dL_isDone_356 (lv_at hl 3 rfl) ?_
                  refine lv_bipush (v := 37) hx hb dL_isDone_358 (by decide) ?_
                  refine lv_rep0 (x := 37) (y := nI 37) rfl ?_
                  refine lv_icmp_ne (tgt := 428) hx hb dL_isDone_360 (by decide) (fun c_144 => ?_) (fun c_144 => ?_)
                  · skip
                    have c_144 : ¬ q1 = 37 := fun h9 => c_144 ((nI_eq (by omega) (by omega)).mpr h9)
                    refine lv_aload_n hx hb dL_isDone_428 rfl (lv_at hl 4 rfl) ?_
                    refine lv_iload hx hb dL_isDone_429 (lv_at hl 2 rfl) ?_
                    refine lv_iload hx hb dL_isDone_431 (lv_at hl 1 rfl) ?_
                    refine lv_imul hx hb dL_isDone_433 ?_
                    refine lv_rep0 (x := ((nI o9) * (nI u9))) (y := nI (o9 * u9)) (pk_mul _ _) ?_
                    refine lv_ldc (v := 20000000) hx hb hown (hts (.constant RL 150 (20000000)) (by decide +kernel)) dL_isDone_434 ?_
                    refine lv_isub hx hb dL_isDone_436 ?_
                    refine rCallV (C := RX5) (As := [.int ((nI (o9 * u9)) - 20000000)]) (rest := []) ⟨hx, hb, hml, hown, hts⟩ fx hw (kX5_setDraw l G hG hF σ (((nI (o9 * u9)) - 20000000)) g n e9 z b (pcv hA)) (cwV 1 hts gL_isDone_X5_setDraw rfl rfl rfl (by decide +kernel) ⟨Nat.le_of_ble_eq_true rfl, Nat.le_of_ble_eq_true rfl⟩) (hF.1 0 (by decide)) rfl rfl rfl rfl hl.1 rfl (Nat.le_of_ble_eq_true rfl) dL_isDone_437 ⟨Nat.le_trans (show _ ≤ 6 by omega) (Nat.le_of_ble_eq_true rfl), Nat.le_trans (show _ ≤ 60 by omega) (Nat.le_of_ble_eq_true rfl)⟩ (fun σ_146 H locs p_147 hw => ?_)
                    have eσ_146 := p_147
                    refine lv_iload hx hb dL_isDone_440 (lv_at hl 3 rfl) ?_
                    refine lv_bipush (v := 38) hx hb dL_isDone_442 (by decide) ?_
                    refine lv_rep0 (x := 38) (y := nI 38) rfl ?_
                    refine lv_icmp_eq (tgt := 468) hx hb dL_isDone_444 (by decide) (fun c_148 => ?_) (fun c_148 => ?_)
                    · skip
                      have c_148 : q1 = 38 := (nI_eq (by omega) (by omega)).mp c_148
                      refine lv_iconst (v := 1) hx hb dL_isDone_468 (by decide) ?_
                      refine lv_goto (tgt := 473) hx hb dL_isDone_469 (by decide) ?_
                      subst eσ_146
                      exact rRetZw hx hb hr hw (by decide) (by exact ⟨rfl, po_same (po_setDraw hA) hGa⟩) hlocks dL_isDone_473 (by omega) (by omega)
                    · skip
                      have c_148 : ¬ q1 = 38 := fun h9 => c_148 ((nI_eq (by omega) (by omega)).mpr h9)
                      refine lv_aload_n hx hb dL_isDone_447 rfl (lv_at hl 4 rfl) ?_
                      refine lv_aload hx hb dL_isDone_448 (lv_at hl 8 rfl) ?_
                      refine lv_aload hx hb dL_isDone_450 (lv_at hl 9 rfl) ?_
                      refine lv_iload hx hb dL_isDone_452 (lv_at hl 2 rfl) ?_
                      refine lv_aload hx hb dL_isDone_454 (lv_at hl 9 rfl) ?_
                      refine lv_iconst (v := 2) hx hb dL_isDone_456 (by decide) ?_
                      refine lv_rep0 (x := 2) (y := nI 2) rfl ?_
                      refine rAld hx hb fx hw 33 (hF.1 33 (by decide)) hF.2.1 (fun _ => rfl) 2 rfl (by omega) (by decide) dL_isDone_457 ?_
                      refine lv_rep0 (x := (σ_146 33 2)) (y := (nI n)) ((congrFun ((ag_one eσ_146 (by decide)) 33 (by decide)) 2).trans (pn hA).1) ?_
                      refine lv_iconst (v := 1) hx hb dL_isDone_458 (by decide) ?_
                      refine lv_rep0 (x := 1) (y := nI 1) rfl ?_
                      refine lv_iadd hx hb dL_isDone_459 ?_
                      refine lv_rep0 (x := ((nI n) + (nI 1))) (y := nI (n + 1)) (nI_add _ _) ?_
                      refine lv_irem hx hb dL_isDone_460 (nI_ne0 (by omega) (by omega)) ?_
                      refine lv_rep0 (y := nI (o9 % (n + 1))) (pk_rem (by omega) (by omega) (by omega)) ?_
                      have hrm9 := Nat.mod_lt o9 (show 0 < (n + 1) by omega)
                      refine lv_iconst (v := 0) hx hb dL_isDone_461 (by decide) ?_
                      refine rCallM (As := [.ref (gad G 0), .ref (gad G 32), .ref (gad G 33), .int (nI (o9 % (n + 1))), .int 0]) (rest := []) ⟨hx, hb, hml, hown, hts⟩ fx hw (kL_isItem_0 l hlt G hG hF σ_146 (by rw [eσ_146]; exact po_setDraw hA) (by rw [eσ_146]; exact hGa) hj ((o9 % (n + 1))) (by omega)) (va_cwS 5 hts gL_isDone_L_isItem rfl rfl rfl (by decide +kernel) ⟨Nat.le_of_ble_eq_true rfl, Nat.le_of_ble_eq_true rfl⟩) rfl hl.1 rfl (Nat.le_of_ble_eq_true rfl) dL_isDone_462 ⟨Nat.le_trans (show _ ≤ 6 by omega) (Nat.le_of_ble_eq_true rfl), Nat.le_trans (show _ ≤ 60 by omega) (Nat.le_of_ble_eq_true rfl)⟩ (fun r_149 σ_150 H locs p_151 hw => ?_)
                      obtain ⟨er_149, p_151_0⟩ := p_151
                      have er_149 := er_149.symm; subst er_149
                      refine lv_if_eq (tgt := 472) hx hb dL_isDone_465 (by decide) (fun c_152 => ?_) (fun c_152 => ?_)
                      · skip
                        exact absurd c_152 (by decide)
                      · skip
                        refine lv_iconst (v := 1) hx hb dL_isDone_468 (by decide) ?_
                        refine lv_goto (tgt := 473) hx hb dL_isDone_469 (by decide) ?_
                        exact rRetZw hx hb hr hw (by decide) (by exact ⟨rfl, by assumption⟩) hlocks dL_isDone_473 (by omega) (by omega)
                  · skip
                    have c_144 : q1 = 37 := (nI_eq (by omega) (by omega)).mp c_144
                    refine lv_aload hx hb dL_isDone_363 (lv_at hl 9 rfl) ?_
                    refine lv_bipush (v := 7) hx hb dL_isDone_365 (by decide) ?_
                    refine lv_rep0 (x := 7) (y := nI 7) rfl ?_
                    refine rAld hx hb fx hw 33 (hF.1 33 (by decide)) hF.2.1 (fun _ => rfl) 7 rfl (by omega) (by decide) dL_isDone_367 ?_
                    refine lv_rep0 (x := (σ 33 7)) (y := (nI d)) (pdr hA).1 ?_
                    refine lv_istore (lv' := [(10, .int (nI d)), (9, .int (nI v9)), (8, .int (nI u9)), (7, .int (nI o9)), (6, .int (nI q1)), (0, .ref (gad G 0)), (1, .ref (gsc G).1), (2, .int (nI at9)), (3, .ref (gad G 31)), (4, .ref (gad G 32)), (5, .ref (gad G 33))]) hx hb dL_isDone_368 hl (by decide) rfl (fun ls hl => ?_)
                    refine lv_aload hx hb dL_isDone_370 (lv_at hl 10 rfl) ?_
                    refine lv_bipush (v := 7) hx hb dL_isDone_372 (by decide) ?_
                    refine lv_iload hx hb dL_isDone_374 (lv_at hl 3 rfl) ?_
                    refine lv_iconst (v := 5) hx hb dL_isDone_376 (by decide) ?_
                    refine lv_rep0 (x := 5) (y := nI 5) rfl ?_
                    refine lv_irem hx hb dL_isDone_377 (nI_ne0 (by omega) (by omega)) ?_
                    refine lv_rep0 (y := nI (o9 % 5)) (pk_rem (by omega) (by omega) (by omega)) ?_
                    refine lv_iconst (v := 4) hx hb dL_isDone_378 (by decide) ?_
                    refine lv_rep0 (x := 4) (y := nI 4) rfl ?_
                    refine lv_icmp_ge (tgt := 389) hx hb dL_isDone_379 (by decide) (fun c_153 => ?_) (fun c_153 => ?_)
                    · skip
                      have c_153 : 4 ≤ (o9 % 5) := (nI_leI (by omega) (by omega)).mp c_153
                      refine lv_iload hx hb dL_isDone_389 (lv_at hl 0 rfl) ?_
                      refine lv_rep1 (x := 7) (y := nI 7) rfl ?_
                      refine rAst (x := (nI d)) hx hb fx hw 33 (hF.1 33 (by decide)) hF.2.1 (fun _ => rfl) 7 rfl (by omega) (by decide) dL_isDone_391 (fun H locs hw => ?_)
                      obtain ⟨σ_154, eσ_154⟩ : ∃ w9, w9 = upA σ 33 (upd (σ 33) 7 (nI d)) := ⟨_, rfl⟩
                      rw [← eσ_154] at hw
                      refine lv_aload_n hx hb dL_isDone_392 rfl (lv_at hl 5 rfl) ?_
                      refine lv_bipush (v := 9) hx hb dL_isDone_393 (by decide) ?_
                      refine lv_iload hx hb dL_isDone_395 (lv_at hl 3 rfl) ?_
                      refine lv_iconst (v := 5) hx hb dL_isDone_397 (by decide) ?_
                      refine lv_rep0 (x := 5) (y := nI 5) rfl ?_
                      refine lv_irem hx hb dL_isDone_398 (nI_ne0 (by omega) (by omega)) ?_
                      refine lv_rep0 (y := nI (o9 % 5)) (pk_rem (by omega) (by omega) (by omega)) ?_
                      refine lv_iconst (v := 0) hx hb dL_isDone_399 (by decide) ?_
                      refine lv_iconst (v := 0) hx hb dL_isDone_400 (by decide) ?_
                      refine rCallLS (As := [.ref (gad G 0), .int 9, .int (nI (o9 % 5)), .int 0, .int 0]) (rest := []) ⟨hx, hb, hml, hown, hts⟩ fx hw (d9_t1 l hlt G hG hF σ_154 (show CIv σ_154 g n b e9 z from by rw [eσ_154]; exact (show CIv σ g n b e9 z from pcv hA)) ((nI (o9 % 5))) 0 0 (inR_no (lo := 0) (hi := 3) (by omega) (by decide) (by decide) (by omega))) (vx_cwSW 5 hts gL_isDone_L_does rfl rfl rfl (by decide +kernel) ⟨Nat.le_of_ble_eq_true rfl, Nat.le_of_ble_eq_true rfl⟩) rfl hl.1 rfl (Nat.le_of_ble_eq_true rfl) dL_isDone_401 ⟨Nat.le_trans (show _ ≤ 6 by omega) (Nat.le_of_ble_eq_true rfl), Nat.le_trans (show _ ≤ 60 by omega) (Nat.le_of_ble_eq_true rfl)⟩ (fun r_155 σ_156 H locs p_157 hw => ?_)
                      obtain ⟨er_155, eσ_156⟩ := p_157
                      have er_155 := er_155.symm; subst er_155
                      have eσ_156 := eσ_156.symm; subst eσ_156
                      have hd9 : σ_154 27 3 = nI d := by rw [eσ_154, upA_n (by decide)]; exact (pdr hA).2.1
                      refine lv_iload hx hb dL_isDone_404 (lv_at hl 3 rfl) ?_
                      refine lv_iconst (v := 5) hx hb dL_isDone_406 (by decide) ?_
                      refine lv_rep0 (x := 5) (y := nI 5) rfl ?_
                      refine lv_irem hx hb dL_isDone_407 (nI_ne0 (by omega) (by omega)) ?_
                      refine lv_rep0 (y := nI (o9 % 5)) (pk_rem (by omega) (by omega) (by omega)) ?_
                      refine lv_iconst (v := 4) hx hb dL_isDone_408 (by decide) ?_
                      refine lv_rep0 (x := 4) (y := nI 4) rfl ?_
                      refine lv_icmp_ge (tgt := 417) hx hb dL_isDone_409 (by decide) (fun c_158 => ?_) (fun c_158 => ?_)
                      · skip
                        have c_158 : 4 ≤ (o9 % 5) := (nI_leI (by omega) (by omega)).mp c_158
                        refine lv_bipush (v := (-20)) hx hb dL_isDone_417 (by decide) ?_
                        refine lv_icmp_ne (tgt := 426) hx hb dL_isDone_419 (by decide) (fun c_159 => ?_) (fun c_159 => ?_)
                        · skip
                          exact absurd c_159 (by decide)
                        · skip
                          refine lv_iconst (v := 1) hx hb dL_isDone_422 (by decide) ?_
                          refine lv_goto (tgt := 427) hx hb dL_isDone_423 (by decide) ?_
                          subst eσ_154
                          exact rRetZw hx hb hr hw (by decide) (by exact ⟨rfl, po_nodrop hA hGa⟩) hlocks dL_isDone_427 (by omega) (by omega)
                      · skip
                        have c_158 : ¬ 4 ≤ (o9 % 5) := fun h9 => c_158 ((nI_leI (by omega) (by omega)).mpr h9)
                        omega
                    · skip
                      have c_153 : ¬ 4 ≤ (o9 % 5) := fun h9 => c_153 ((nI_leI (by omega) (by omega)).mpr h9)
                      refine lv_iload hx hb dL_isDone_382 (lv_at hl 3 rfl) ?_
                      refine lv_iconst (v := 5) hx hb dL_isDone_384 (by decide) ?_
                      refine lv_rep0 (x := 5) (y := nI 5) rfl ?_
                      refine lv_irem hx hb dL_isDone_385 (nI_ne0 (by omega) (by omega)) ?_
                      refine lv_rep0 (y := nI (o9 % 5)) (pk_rem (by omega) (by omega) (by omega)) ?_
                      refine lv_goto (tgt := 391) hx hb dL_isDone_386 (by decide) ?_
                      refine lv_rep1 (x := 7) (y := nI 7) rfl ?_
                      refine rAst (x := (nI (o9 % 5))) hx hb fx hw 33 (hF.1 33 (by decide)) hF.2.1 (fun _ => rfl) 7 rfl (by omega) (by decide) dL_isDone_391 (fun H locs hw => ?_)
                      obtain ⟨σ_160, eσ_160⟩ : ∃ w9, w9 = upA σ 33 (upd (σ 33) 7 (nI (o9 % 5))) := ⟨_, rfl⟩
                      rw [← eσ_160] at hw
                      refine lv_aload_n hx hb dL_isDone_392 rfl (lv_at hl 5 rfl) ?_
                      refine lv_bipush (v := 9) hx hb dL_isDone_393 (by decide) ?_
                      refine lv_iload hx hb dL_isDone_395 (lv_at hl 3 rfl) ?_
                      refine lv_iconst (v := 5) hx hb dL_isDone_397 (by decide) ?_
                      refine lv_rep0 (x := 5) (y := nI 5) rfl ?_
                      refine lv_irem hx hb dL_isDone_398 (nI_ne0 (by omega) (by omega)) ?_
                      refine lv_rep0 (y := nI (o9 % 5)) (pk_rem (by omega) (by omega) (by omega)) ?_
                      refine lv_iconst (v := 0) hx hb dL_isDone_399 (by decide) ?_
                      refine lv_iconst (v := 0) hx hb dL_isDone_400 (by decide) ?_
                      refine rCallLS (As := [.ref (gad G 0), .int 9, .int (nI (o9 % 5)), .int 0, .int 0]) (rest := []) ⟨hx, hb, hml, hown, hts⟩ fx hw (d9_ok l hlt G hG hF σ_160 (show CIv σ_160 g n b e9 z from by rw [eσ_160]; exact (show CIv σ g n b e9 z from pcv hA)) ((o9 % 5)) 0 0 (by omega)) (vx_cwSW 5 hts gL_isDone_L_does rfl rfl rfl (by decide +kernel) ⟨Nat.le_of_ble_eq_true rfl, Nat.le_of_ble_eq_true rfl⟩) rfl hl.1 rfl (Nat.le_of_ble_eq_true rfl) dL_isDone_401 ⟨Nat.le_trans (show _ ≤ 6 by omega) (Nat.le_of_ble_eq_true rfl), Nat.le_trans (show _ ≤ 60 by omega) (Nat.le_of_ble_eq_true rfl)⟩ (fun r_161 σ_162 H locs p_163 hw => ?_)
                      obtain ⟨er_161, eσ_162⟩ := p_163
                      have er_161 := er_161.symm; subst er_161
                      have hd9 : σ_160 27 3 = nI d := by rw [eσ_160, upA_n (by decide)]; exact (pdr hA).2.1
                      refine lv_iload hx hb dL_isDone_404 (lv_at hl 3 rfl) ?_
                      refine lv_iconst (v := 5) hx hb dL_isDone_406 (by decide) ?_
                      refine lv_rep0 (x := 5) (y := nI 5) rfl ?_
                      refine lv_irem hx hb dL_isDone_407 (nI_ne0 (by omega) (by omega)) ?_
                      refine lv_rep0 (y := nI (o9 % 5)) (pk_rem (by omega) (by omega) (by omega)) ?_
                      refine lv_iconst (v := 4) hx hb dL_isDone_408 (by decide) ?_
                      refine lv_rep0 (x := 4) (y := nI 4) rfl ?_
                      refine lv_icmp_ge (tgt := 417) hx hb dL_isDone_409 (by decide) (fun c_164 => ?_) (fun c_164 => ?_)
                      · skip
                        have c_164 : 4 ≤ (o9 % 5) := (nI_leI (by omega) (by omega)).mp c_164
                        omega
                      · skip
                        have c_164 : ¬ 4 ≤ (o9 % 5) := fun h9 => c_164 ((nI_leI (by omega) (by omega)).mpr h9)
                        refine lv_rep0 (x := (σ_160 27 3)) (y := nI d) (by rw [hd9]) ?_
                        refine lv_iload hx hb dL_isDone_412 (lv_at hl 0 rfl) ?_
                        refine lv_goto (tgt := 419) hx hb dL_isDone_414 (by decide) ?_
                        refine lv_icmp_ne (tgt := 426) hx hb dL_isDone_419 (by decide) (fun c_165 => ?_) (fun c_165 => ?_)
                        · skip
                          exact absurd rfl c_165
                        · skip
                          refine lv_iconst (v := 1) hx hb dL_isDone_422 (by decide) ?_
                          refine lv_goto (tgt := 427) hx hb dL_isDone_423 (by decide) ?_
                          subst eσ_162
                          subst eσ_160
                          exact rRetZw hx hb hr hw (by decide) (by exact ⟨rfl, po_drop hA hGa (by omega)⟩) hlocks dL_isDone_427 (by omega) (by omega)
                · skip
                  have c_143 : q1 = 36 := (nI_eq (by omega) (by omega)).mp c_143
                  refine lv_aload_n hx hb dL_isDone_347 rfl (lv_at hl 4 rfl) ?_
                  refine lv_aload hx hb dL_isDone_348 (lv_at hl 8 rfl) ?_
                  refine lv_aload hx hb dL_isDone_350 (lv_at hl 9 rfl) ?_
                  refine rCallM (As := [.ref (gad G 0), .ref (gad G 32), .ref (gad G 33)]) (rest := []) ⟨hx, hb, hml, hown, hts⟩ fx hw (kL_isEnded l hlt G hG hF σ hA hGa hj hgl) (va_cwS 3 hts gL_isDone_L_isEnded rfl rfl rfl (by decide +kernel) ⟨Nat.le_of_ble_eq_true rfl, Nat.le_of_ble_eq_true rfl⟩) rfl hl.1 rfl (Nat.le_of_ble_eq_true rfl) dL_isDone_352 ⟨Nat.le_trans (show _ ≤ 6 by omega) (Nat.le_of_ble_eq_true rfl), Nat.le_trans (show _ ≤ 60 by omega) (Nat.le_of_ble_eq_true rfl)⟩ (fun r_166 σ_167 H locs p_168 hw => ?_)
                  obtain ⟨er_166, p_168_0⟩ := p_168
                  have er_166 := er_166.symm; subst er_166
                  exact rRetZw hx hb hr hw (by decide) (by exact ⟨rfl, by assumption⟩) hlocks dL_isDone_355 (by omega) (by omega)
              · skip
                have c_142 : ¬ 36 ≤ q1 := fun h9 => c_142 ((nI_leI (by omega) (by omega)).mpr h9)
                refine lv_iload hx hb dL_isDone_257 (lv_at hl 2 rfl) ?_
                refine lv_bipush (v := 103) hx hb dL_isDone_259 (by decide) ?_
                refine lv_rep0 (x := 103) (y := nI 103) rfl ?_
                refine lv_irem hx hb dL_isDone_261 (nI_ne0 (by omega) (by omega)) ?_
                refine lv_rep0 (y := nI (o9 % 103)) (pk_rem (by omega) (by omega) (by omega)) ?_
                refine lv_if_le (tgt := 279) hx hb dL_isDone_262 (by decide) (fun c_169 => ?_) (fun c_169 => ?_)
                · skip
                  have c_169 : (o9 % 103) = 0 := n0_let (by omega) c_169
                  refine lv_iconst (v := 0) hx hb dL_isDone_279 (by decide) ?_
                  refine lv_istore (lv' := [(10, .int 0), (9, .int (nI v9)), (8, .int (nI u9)), (7, .int (nI o9)), (6, .int (nI q1)), (0, .ref (gad G 0)), (1, .ref (gsc G).1), (2, .int (nI at9)), (3, .ref (gad G 31)), (4, .ref (gad G 32)), (5, .ref (gad G 33))]) hx hb dL_isDone_280 hl (by decide) rfl (fun ls hl => ?_)
                  refine lv_aload hx hb dL_isDone_282 (lv_at hl 10 rfl) ?_
                  refine lv_bipush (v := 8) hx hb dL_isDone_284 (by decide) ?_
                  refine lv_rep0 (x := 8) (y := nI 8) rfl ?_
                  refine lv_dup2_11 hx hb dL_isDone_286 rfl rfl ?_
                  refine rAld hx hb fx hw 33 (hF.1 33 (by decide)) hF.2.1 (fun _ => rfl) 8 rfl (by omega) (by decide) dL_isDone_287 ?_
                  refine lv_rep0 (x := (σ 33 8)) (y := (nI t)) (pti hA).1 ?_
                  refine lv_iload hx hb dL_isDone_288 (lv_at hl 0 rfl) ?_
                  refine lv_if_eq (tgt := 301) hx hb dL_isDone_290 (by decide) (fun c_170 => ?_) (fun c_170 => ?_)
                  · skip
                    refine lv_iconst (v := 0) hx hb dL_isDone_301 (by decide) ?_
                    refine lv_rep0 (x := 0) (y := nI 0) rfl ?_
                    refine lv_iadd hx hb dL_isDone_302 ?_
                    refine lv_rep0 (x := ((nI t) + (nI 0))) (y := nI (t + 0)) (nI_add _ _) ?_
                    refine rAst (x := (nI (t + 0))) hx hb fx hw 33 (hF.1 33 (by decide)) hF.2.1 (fun _ => rfl) 8 rfl (by omega) (by decide) dL_isDone_303 (fun H locs hw => ?_)
                    obtain ⟨σ_171, eσ_171⟩ : ∃ w9, w9 = upA σ 33 (upd (σ 33) 8 (nI (t + 0))) := ⟨_, rfl⟩
                    rw [← eσ_171] at hw
                    refine lv_aload_n hx hb dL_isDone_304 rfl (lv_at hl 5 rfl) ?_
                    refine lv_iconst (v := 5) hx hb dL_isDone_305 (by decide) ?_
                    refine lv_iload hx hb dL_isDone_306 (lv_at hl 3 rfl) ?_
                    refine lv_bipush (v := 103) hx hb dL_isDone_308 (by decide) ?_
                    refine lv_rep0 (x := 103) (y := nI 103) rfl ?_
                    refine lv_irem hx hb dL_isDone_310 (nI_ne0 (by omega) (by omega)) ?_
                    refine lv_rep0 (y := nI (o9 % 103)) (pk_rem (by omega) (by omega) (by omega)) ?_
                    refine lv_iconst (v := 0) hx hb dL_isDone_311 (by decide) ?_
                    refine lv_iconst (v := 0) hx hb dL_isDone_312 (by decide) ?_
                    refine rCallLS (As := [.ref (gad G 0), .int 5, .int (nI (o9 % 103)), .int 0, .int 0]) (rest := []) ⟨hx, hb, hml, hown, hts⟩ fx hw (d5_t1 l hlt G hG hF σ_171 (show CIv σ_171 g n b e9 z from by rw [eσ_171]; exact (show CIv σ g n b e9 z from pcv hA)) ((nI (o9 % 103))) 0 0 (inR_no (lo := 1) (hi := 100) (by omega) (by decide) (by decide) (by omega))) (vx_cwSW 5 hts gL_isDone_L_does rfl rfl rfl (by decide +kernel) ⟨Nat.le_of_ble_eq_true rfl, Nat.le_of_ble_eq_true rfl⟩) rfl hl.1 rfl (Nat.le_of_ble_eq_true rfl) dL_isDone_313 ⟨Nat.le_trans (show _ ≤ 6 by omega) (Nat.le_of_ble_eq_true rfl), Nat.le_trans (show _ ≤ 60 by omega) (Nat.le_of_ble_eq_true rfl)⟩ (fun r_172 σ_173 H locs p_174 hw => ?_)
                    obtain ⟨er_172, eσ_173⟩ := p_174
                    have er_172 := er_172.symm; subst er_172
                    have eσ_173 := eσ_173.symm; subst eσ_173
                    have ht9 : σ_171 0 9 = nI t := by rw [eσ_171, upA_n (by decide)]; exact (pti hA).2
                    refine lv_iload hx hb dL_isDone_316 (lv_at hl 0 rfl) ?_
                    refine lv_if_eq (tgt := 329) hx hb dL_isDone_318 (by decide) (fun c_175 => ?_) (fun c_175 => ?_)
                    · skip
                      refine lv_bipush (v := (-20)) hx hb dL_isDone_329 (by decide) ?_
                      refine lv_icmp_ne (tgt := 338) hx hb dL_isDone_331 (by decide) (fun c_176 => ?_) (fun c_176 => ?_)
                      · skip
                        exact absurd c_176 (by decide)
                      · skip
                        refine lv_iconst (v := 1) hx hb dL_isDone_334 (by decide) ?_
                        refine lv_goto (tgt := 339) hx hb dL_isDone_335 (by decide) ?_
                        subst eσ_171
                        exact rRetZw hx hb hr hw (by decide) (by exact ⟨rfl, po_noidle hA hGa⟩) hlocks dL_isDone_339 (by omega) (by omega)
                    · skip
                      exact absurd c_175 (by decide)
                  · skip
                    exact absurd c_170 (by decide)
                · skip
                  have c_169 : 0 < (o9 % 103) := n0_lef (by omega) c_169
                  refine lv_iload hx hb dL_isDone_265 (lv_at hl 2 rfl) ?_
                  refine lv_bipush (v := 103) hx hb dL_isDone_267 (by decide) ?_
                  refine lv_rep0 (x := 103) (y := nI 103) rfl ?_
                  refine lv_irem hx hb dL_isDone_269 (nI_ne0 (by omega) (by omega)) ?_
                  refine lv_rep0 (y := nI (o9 % 103)) (pk_rem (by omega) (by omega) (by omega)) ?_
                  refine lv_bipush (v := 101) hx hb dL_isDone_270 (by decide) ?_
                  refine lv_rep0 (x := 101) (y := nI 101) rfl ?_
                  refine lv_icmp_ge (tgt := 279) hx hb dL_isDone_272 (by decide) (fun c_177 => ?_) (fun c_177 => ?_)
                  · skip
                    have c_177 : 101 ≤ (o9 % 103) := (nI_leI (by omega) (by omega)).mp c_177
                    refine lv_iconst (v := 0) hx hb dL_isDone_279 (by decide) ?_
                    refine lv_istore (lv' := [(10, .int 0), (9, .int (nI v9)), (8, .int (nI u9)), (7, .int (nI o9)), (6, .int (nI q1)), (0, .ref (gad G 0)), (1, .ref (gsc G).1), (2, .int (nI at9)), (3, .ref (gad G 31)), (4, .ref (gad G 32)), (5, .ref (gad G 33))]) hx hb dL_isDone_280 hl (by decide) rfl (fun ls hl => ?_)
                    refine lv_aload hx hb dL_isDone_282 (lv_at hl 10 rfl) ?_
                    refine lv_bipush (v := 8) hx hb dL_isDone_284 (by decide) ?_
                    refine lv_rep0 (x := 8) (y := nI 8) rfl ?_
                    refine lv_dup2_11 hx hb dL_isDone_286 rfl rfl ?_
                    refine rAld hx hb fx hw 33 (hF.1 33 (by decide)) hF.2.1 (fun _ => rfl) 8 rfl (by omega) (by decide) dL_isDone_287 ?_
                    refine lv_rep0 (x := (σ 33 8)) (y := (nI t)) (pti hA).1 ?_
                    refine lv_iload hx hb dL_isDone_288 (lv_at hl 0 rfl) ?_
                    refine lv_if_eq (tgt := 301) hx hb dL_isDone_290 (by decide) (fun c_178 => ?_) (fun c_178 => ?_)
                    · skip
                      refine lv_iconst (v := 0) hx hb dL_isDone_301 (by decide) ?_
                      refine lv_rep0 (x := 0) (y := nI 0) rfl ?_
                      refine lv_iadd hx hb dL_isDone_302 ?_
                      refine lv_rep0 (x := ((nI t) + (nI 0))) (y := nI (t + 0)) (nI_add _ _) ?_
                      refine rAst (x := (nI (t + 0))) hx hb fx hw 33 (hF.1 33 (by decide)) hF.2.1 (fun _ => rfl) 8 rfl (by omega) (by decide) dL_isDone_303 (fun H locs hw => ?_)
                      obtain ⟨σ_179, eσ_179⟩ : ∃ w9, w9 = upA σ 33 (upd (σ 33) 8 (nI (t + 0))) := ⟨_, rfl⟩
                      rw [← eσ_179] at hw
                      refine lv_aload_n hx hb dL_isDone_304 rfl (lv_at hl 5 rfl) ?_
                      refine lv_iconst (v := 5) hx hb dL_isDone_305 (by decide) ?_
                      refine lv_iload hx hb dL_isDone_306 (lv_at hl 3 rfl) ?_
                      refine lv_bipush (v := 103) hx hb dL_isDone_308 (by decide) ?_
                      refine lv_rep0 (x := 103) (y := nI 103) rfl ?_
                      refine lv_irem hx hb dL_isDone_310 (nI_ne0 (by omega) (by omega)) ?_
                      refine lv_rep0 (y := nI (o9 % 103)) (pk_rem (by omega) (by omega) (by omega)) ?_
                      refine lv_iconst (v := 0) hx hb dL_isDone_311 (by decide) ?_
                      refine lv_iconst (v := 0) hx hb dL_isDone_312 (by decide) ?_
                      refine rCallLS (As := [.ref (gad G 0), .int 5, .int (nI (o9 % 103)), .int 0, .int 0]) (rest := []) ⟨hx, hb, hml, hown, hts⟩ fx hw (d5_t1 l hlt G hG hF σ_179 (show CIv σ_179 g n b e9 z from by rw [eσ_179]; exact (show CIv σ g n b e9 z from pcv hA)) ((nI (o9 % 103))) 0 0 (inR_no (lo := 1) (hi := 100) (by omega) (by decide) (by decide) (by omega))) (vx_cwSW 5 hts gL_isDone_L_does rfl rfl rfl (by decide +kernel) ⟨Nat.le_of_ble_eq_true rfl, Nat.le_of_ble_eq_true rfl⟩) rfl hl.1 rfl (Nat.le_of_ble_eq_true rfl) dL_isDone_313 ⟨Nat.le_trans (show _ ≤ 6 by omega) (Nat.le_of_ble_eq_true rfl), Nat.le_trans (show _ ≤ 60 by omega) (Nat.le_of_ble_eq_true rfl)⟩ (fun r_180 σ_181 H locs p_182 hw => ?_)
                      obtain ⟨er_180, eσ_181⟩ := p_182
                      have er_180 := er_180.symm; subst er_180
                      have eσ_181 := eσ_181.symm; subst eσ_181
                      have ht9 : σ_179 0 9 = nI t := by rw [eσ_179, upA_n (by decide)]; exact (pti hA).2
                      refine lv_iload hx hb dL_isDone_316 (lv_at hl 0 rfl) ?_
                      refine lv_if_eq (tgt := 329) hx hb dL_isDone_318 (by decide) (fun c_183 => ?_) (fun c_183 => ?_)
                      · skip
                        refine lv_bipush (v := (-20)) hx hb dL_isDone_329 (by decide) ?_
                        refine lv_icmp_ne (tgt := 338) hx hb dL_isDone_331 (by decide) (fun c_184 => ?_) (fun c_184 => ?_)
                        · skip
                          exact absurd c_184 (by decide)
                        · skip
                          refine lv_iconst (v := 1) hx hb dL_isDone_334 (by decide) ?_
                          refine lv_goto (tgt := 339) hx hb dL_isDone_335 (by decide) ?_
                          subst eσ_179
                          exact rRetZw hx hb hr hw (by decide) (by exact ⟨rfl, po_noidle hA hGa⟩) hlocks dL_isDone_339 (by omega) (by omega)
                      · skip
                        exact absurd c_183 (by decide)
                    · skip
                      exact absurd c_178 (by decide)
                  · skip
                    have c_177 : ¬ 101 ≤ (o9 % 103) := fun h9 => c_177 ((nI_leI (by omega) (by omega)).mpr h9)
                    refine lv_iconst (v := 1) hx hb dL_isDone_275 (by decide) ?_
                    refine lv_goto (tgt := 280) hx hb dL_isDone_276 (by decide) ?_
                    refine lv_istore (lv' := [(10, .int 1), (9, .int (nI v9)), (8, .int (nI u9)), (7, .int (nI o9)), (6, .int (nI q1)), (0, .ref (gad G 0)), (1, .ref (gsc G).1), (2, .int (nI at9)), (3, .ref (gad G 31)), (4, .ref (gad G 32)), (5, .ref (gad G 33))]) hx hb dL_isDone_280 hl (by decide) rfl (fun ls hl => ?_)
                    refine lv_aload hx hb dL_isDone_282 (lv_at hl 10 rfl) ?_
                    refine lv_bipush (v := 8) hx hb dL_isDone_284 (by decide) ?_
                    refine lv_rep0 (x := 8) (y := nI 8) rfl ?_
                    refine lv_dup2_11 hx hb dL_isDone_286 rfl rfl ?_
                    refine rAld hx hb fx hw 33 (hF.1 33 (by decide)) hF.2.1 (fun _ => rfl) 8 rfl (by omega) (by decide) dL_isDone_287 ?_
                    refine lv_rep0 (x := (σ 33 8)) (y := (nI t)) (pti hA).1 ?_
                    refine lv_iload hx hb dL_isDone_288 (lv_at hl 0 rfl) ?_
                    refine lv_if_eq (tgt := 301) hx hb dL_isDone_290 (by decide) (fun c_185 => ?_) (fun c_185 => ?_)
                    · skip
                      exact absurd c_185 (by decide)
                    · skip
                      refine lv_iload hx hb dL_isDone_293 (lv_at hl 3 rfl) ?_
                      refine lv_bipush (v := 103) hx hb dL_isDone_295 (by decide) ?_
                      refine lv_rep0 (x := 103) (y := nI 103) rfl ?_
                      refine lv_irem hx hb dL_isDone_297 (nI_ne0 (by omega) (by omega)) ?_
                      refine lv_rep0 (y := nI (o9 % 103)) (pk_rem (by omega) (by omega) (by omega)) ?_
                      refine lv_goto (tgt := 302) hx hb dL_isDone_298 (by decide) ?_
                      refine lv_iadd hx hb dL_isDone_302 ?_
                      refine lv_rep0 (x := ((nI t) + (nI (o9 % 103)))) (y := nI (t + (o9 % 103))) (nI_add _ _) ?_
                      refine rAst (x := (nI (t + (o9 % 103)))) hx hb fx hw 33 (hF.1 33 (by decide)) hF.2.1 (fun _ => rfl) 8 rfl (by omega) (by decide) dL_isDone_303 (fun H locs hw => ?_)
                      obtain ⟨σ_186, eσ_186⟩ : ∃ w9, w9 = upA σ 33 (upd (σ 33) 8 (nI (t + (o9 % 103)))) := ⟨_, rfl⟩
                      rw [← eσ_186] at hw
                      refine lv_aload_n hx hb dL_isDone_304 rfl (lv_at hl 5 rfl) ?_
                      refine lv_iconst (v := 5) hx hb dL_isDone_305 (by decide) ?_
                      refine lv_iload hx hb dL_isDone_306 (lv_at hl 3 rfl) ?_
                      refine lv_bipush (v := 103) hx hb dL_isDone_308 (by decide) ?_
                      refine lv_rep0 (x := 103) (y := nI 103) rfl ?_
                      refine lv_irem hx hb dL_isDone_310 (nI_ne0 (by omega) (by omega)) ?_
                      refine lv_rep0 (y := nI (o9 % 103)) (pk_rem (by omega) (by omega) (by omega)) ?_
                      refine lv_iconst (v := 0) hx hb dL_isDone_311 (by decide) ?_
                      refine lv_iconst (v := 0) hx hb dL_isDone_312 (by decide) ?_
                      refine rCallLS (As := [.ref (gad G 0), .int 5, .int (nI (o9 % 103)), .int 0, .int 0]) (rest := []) ⟨hx, hb, hml, hown, hts⟩ fx hw (d5_ok l hlt G hG hF σ_186 (show CIv σ_186 g n b e9 z from by rw [eσ_186]; exact (show CIv σ g n b e9 z from pcv hA)) ((o9 % 103)) 0 0 (by omega) (by omega)) (vx_cwSW 5 hts gL_isDone_L_does rfl rfl rfl (by decide +kernel) ⟨Nat.le_of_ble_eq_true rfl, Nat.le_of_ble_eq_true rfl⟩) rfl hl.1 rfl (Nat.le_of_ble_eq_true rfl) dL_isDone_313 ⟨Nat.le_trans (show _ ≤ 6 by omega) (Nat.le_of_ble_eq_true rfl), Nat.le_trans (show _ ≤ 60 by omega) (Nat.le_of_ble_eq_true rfl)⟩ (fun r_187 σ_188 H locs p_189 hw => ?_)
                      obtain ⟨er_187, eσ_188⟩ := p_189
                      have er_187 := er_187.symm; subst er_187
                      have ht9 : σ_186 0 9 = nI t := by rw [eσ_186, upA_n (by decide)]; exact (pti hA).2
                      refine lv_rep0 (x := (σ_186 0 9 + nI (o9 % 103))) (y := nI (t + (o9 % 103))) (by rw [ht9, nI_add]) ?_
                      refine lv_iload hx hb dL_isDone_316 (lv_at hl 0 rfl) ?_
                      refine lv_if_eq (tgt := 329) hx hb dL_isDone_318 (by decide) (fun c_190 => ?_) (fun c_190 => ?_)
                      · skip
                        exact absurd c_190 (by decide)
                      · skip
                        refine lv_aload hx hb dL_isDone_321 (lv_at hl 10 rfl) ?_
                        refine lv_bipush (v := 8) hx hb dL_isDone_323 (by decide) ?_
                        refine lv_rep0 (x := 8) (y := nI 8) rfl ?_
                        refine rAld hx hb fx hw 33 (hF.1 33 (by decide)) hF.2.1 (fun _ => rfl) 8 rfl (by omega) (by decide) dL_isDone_325 ?_
                        refine lv_rep0 (x := (σ_188 33 8)) (y := (nI (t + (o9 % 103)))) ((congrFun ((ag_one eσ_188 (by decide)) 33 (by decide)) 8).trans (ld_h eσ_186)) ?_
                        refine lv_goto (tgt := 331) hx hb dL_isDone_326 (by decide) ?_
                        refine lv_icmp_ne (tgt := 338) hx hb dL_isDone_331 (by decide) (fun c_191 => ?_) (fun c_191 => ?_)
                        · skip
                          exact absurd rfl c_191
                        · skip
                          refine lv_iconst (v := 1) hx hb dL_isDone_334 (by decide) ?_
                          refine lv_goto (tgt := 339) hx hb dL_isDone_335 (by decide) ?_
                          subst eσ_188
                          subst eσ_186
                          exact rRetZw hx hb hr hw (by decide) (by exact ⟨rfl, po_idle hA hGa (by omega)⟩) hlocks dL_isDone_339 (by omega) (by omega)
            · skip
              have c_141 : ¬ 34 ≤ q1 := fun h9 => c_141 ((nI_leI (by omega) (by omega)).mpr h9)
              refine lv_aload_n hx hb dL_isDone_220 rfl (lv_at hl 4 rfl) ?_
              refine lv_aload hx hb dL_isDone_221 (lv_at hl 8 rfl) ?_
              refine lv_aload hx hb dL_isDone_223 (lv_at hl 9 rfl) ?_
              refine lv_iload hx hb dL_isDone_225 (lv_at hl 2 rfl) ?_
              refine lv_aload hx hb dL_isDone_227 (lv_at hl 9 rfl) ?_
              refine lv_iconst (v := 2) hx hb dL_isDone_229 (by decide) ?_
              refine lv_rep0 (x := 2) (y := nI 2) rfl ?_
              refine rAld hx hb fx hw 33 (hF.1 33 (by decide)) hF.2.1 (fun _ => rfl) 2 rfl (by omega) (by decide) dL_isDone_230 ?_
              refine lv_rep0 (x := (σ 33 2)) (y := (nI n)) (pn hA).1 ?_
              refine lv_iconst (v := 1) hx hb dL_isDone_231 (by decide) ?_
              refine lv_rep0 (x := 1) (y := nI 1) rfl ?_
              refine lv_iadd hx hb dL_isDone_232 ?_
              refine lv_rep0 (x := ((nI n) + (nI 1))) (y := nI (n + 1)) (nI_add _ _) ?_
              refine lv_irem hx hb dL_isDone_233 (nI_ne0 (by omega) (by omega)) ?_
              refine lv_rep0 (y := nI (o9 % (n + 1))) (pk_rem (by omega) (by omega) (by omega)) ?_
              have hrm9 := Nat.mod_lt o9 (show 0 < (n + 1) by omega)
              refine lv_iload hx hb dL_isDone_234 (lv_at hl 3 rfl) ?_
              refine lv_bipush (v := 30) hx hb dL_isDone_236 (by decide) ?_
              refine lv_rep0 (x := 30) (y := nI 30) rfl ?_
              refine lv_icmp_le (tgt := 245) hx hb dL_isDone_238 (by decide) (fun c_192 => ?_) (fun c_192 => ?_)
              · skip
                have c_192 : q1 ≤ 30 := (nI_leI (by omega) (by omega)).mp c_192
                refine lv_iconst (v := 0) hx hb dL_isDone_245 (by decide) ?_
                refine rCallM (As := [.ref (gad G 0), .ref (gad G 32), .ref (gad G 33), .int (nI (o9 % (n + 1))), .int 0]) (rest := []) ⟨hx, hb, hml, hown, hts⟩ fx hw (kL_isItem_0 l hlt G hG hF σ hA hGa hj ((o9 % (n + 1))) (by omega)) (va_cwS 5 hts gL_isDone_L_isItem rfl rfl rfl (by decide +kernel) ⟨Nat.le_of_ble_eq_true rfl, Nat.le_of_ble_eq_true rfl⟩) rfl hl.1 rfl (Nat.le_of_ble_eq_true rfl) dL_isDone_246 ⟨Nat.le_trans (show _ ≤ 6 by omega) (Nat.le_of_ble_eq_true rfl), Nat.le_trans (show _ ≤ 60 by omega) (Nat.le_of_ble_eq_true rfl)⟩ (fun r_193 σ_194 H locs p_195 hw => ?_)
                obtain ⟨er_193, p_195_0⟩ := p_195
                have er_193 := er_193.symm; subst er_193
                exact rRetZw hx hb hr hw (by decide) (by exact ⟨rfl, by assumption⟩) hlocks dL_isDone_249 (by omega) (by omega)
              · skip
                have c_192 : ¬ q1 ≤ 30 := fun h9 => c_192 ((nI_leI (by omega) (by omega)).mpr h9)
                refine lv_iconst (v := 1) hx hb dL_isDone_241 (by decide) ?_
                refine lv_goto (tgt := 246) hx hb dL_isDone_242 (by decide) ?_
                refine rCallM (As := [.ref (gad G 0), .ref (gad G 32), .ref (gad G 33), .int (nI (o9 % (n + 1))), .int 1]) (rest := []) ⟨hx, hb, hml, hown, hts⟩ fx hw (kL_isItem_1 l hlt G hG hF σ hA hGa hj ((o9 % (n + 1))) (by omega)) (va_cwS 5 hts gL_isDone_L_isItem rfl rfl rfl (by decide +kernel) ⟨Nat.le_of_ble_eq_true rfl, Nat.le_of_ble_eq_true rfl⟩) rfl hl.1 rfl (Nat.le_of_ble_eq_true rfl) dL_isDone_246 ⟨Nat.le_trans (show _ ≤ 6 by omega) (Nat.le_of_ble_eq_true rfl), Nat.le_trans (show _ ≤ 60 by omega) (Nat.le_of_ble_eq_true rfl)⟩ (fun r_196 σ_197 H locs p_198 hw => ?_)
                obtain ⟨er_196, p_198_0⟩ := p_198
                have er_196 := er_196.symm; subst er_196
                exact rRetZw hx hb hr hw (by decide) (by exact ⟨rfl, by assumption⟩) hlocks dL_isDone_249 (by omega) (by omega)
          · skip
            have c_140 : ¬ 28 ≤ q1 := fun h9 => c_140 ((nI_leI (by omega) (by omega)).mpr h9)
            refine lv_iload hx hb dL_isDone_145 (lv_at hl 2 rfl) ?_
            refine lv_aload hx hb dL_isDone_147 (lv_at hl 9 rfl) ?_
            refine lv_iconst (v := 2) hx hb dL_isDone_149 (by decide) ?_
            refine lv_rep0 (x := 2) (y := nI 2) rfl ?_
            refine rAld hx hb fx hw 33 (hF.1 33 (by decide)) hF.2.1 (fun _ => rfl) 2 rfl (by omega) (by decide) dL_isDone_150 ?_
            refine lv_rep0 (x := (σ 33 2)) (y := (nI n)) (pn hA).1 ?_
            refine lv_iconst (v := 1) hx hb dL_isDone_151 (by decide) ?_
            refine lv_rep0 (x := 1) (y := nI 1) rfl ?_
            refine lv_iadd hx hb dL_isDone_152 ?_
            refine lv_rep0 (x := ((nI n) + (nI 1))) (y := nI (n + 1)) (nI_add _ _) ?_
            refine lv_irem hx hb dL_isDone_153 (nI_ne0 (by omega) (by omega)) ?_
            refine lv_rep0 (y := nI (o9 % (n + 1))) (pk_rem (by omega) (by omega) (by omega)) ?_
            have hrm9 := Nat.mod_lt o9 (show 0 < (n + 1) by omega)
            refine lv_istore (lv' := [(10, .int (nI (o9 % (n + 1)))), (9, .int (nI v9)), (8, .int (nI u9)), (7, .int (nI o9)), (6, .int (nI q1)), (0, .ref (gad G 0)), (1, .ref (gsc G).1), (2, .int (nI at9)), (3, .ref (gad G 31)), (4, .ref (gad G 32)), (5, .ref (gad G 33))]) hx hb dL_isDone_154 hl (by decide) rfl (fun ls hl => ?_)
            obtain ⟨k9, hk9⟩ : ∃ k9, k9 = o9 % (n + 1) := ⟨_, rfl⟩
            have hkn : k9 ≤ n := by rw [hk9]; exact Nat.le_of_lt_succ (Nat.mod_lt _ (Nat.succ_pos n))
            have q_199 : (nI (o9 % (n + 1))) = (nI k9) := by rw [hk9]
            have hl : lv_has ls 11 [(10, .int (nI k9)), (9, .int (nI v9)), (8, .int (nI u9)), (7, .int (nI o9)), (6, .int (nI q1)), (0, .ref (gad G 0)), (1, .ref (gsc G).1), (2, .int (nI at9)), (3, .ref (gad G 31)), (4, .ref (gad G 32)), (5, .ref (gad G 33))] := (lv_c (lv_atq hl 0 rfl q_199) (lv_c (lv_at hl 1 rfl) (lv_c (lv_at hl 2 rfl) (lv_c (lv_at hl 3 rfl) (lv_c (lv_at hl 4 rfl) (lv_c (lv_at hl 5 rfl) (lv_c (lv_at hl 6 rfl) (lv_c (lv_at hl 7 rfl) (lv_c (lv_at hl 8 rfl) (lv_c (lv_at hl 9 rfl) (lv_c (lv_at hl 10 rfl) (lv_c0 hl))))))))))))
            refine lv_aload_n hx hb dL_isDone_156 rfl (lv_at hl 5 rfl) ?_
            refine lv_aload_n hx hb dL_isDone_157 rfl (lv_at hl 8 rfl) ?_
            refine lv_aload hx hb dL_isDone_158 (lv_at hl 9 rfl) ?_
            refine lv_aload hx hb dL_isDone_160 (lv_at hl 10 rfl) ?_
            refine lv_iload hx hb dL_isDone_162 (lv_at hl 0 rfl) ?_
            refine lv_iload hx hb dL_isDone_164 (lv_at hl 2 rfl) ?_
            refine lv_iconst (v := 3) hx hb dL_isDone_166 (by decide) ?_
            refine lv_rep0 (x := 3) (y := nI 3) rfl ?_
            refine lv_irem hx hb dL_isDone_167 (nI_ne0 (by omega) (by omega)) ?_
            refine lv_rep0 (y := nI (u9 % 3)) (pk_rem (by omega) (by omega) (by omega)) ?_
            refine lv_if_le (tgt := 200) hx hb dL_isDone_168 (by decide) (fun c_200 => ?_) (fun c_200 => ?_)
            · skip
              have c_200 : (u9 % 3) = 0 := n0_let (by omega) c_200
              refine lv_iload hx hb dL_isDone_200 (lv_at hl 1 rfl) ?_
              refine lv_aload hx hb dL_isDone_202 (lv_at hl 10 rfl) ?_
              refine lv_iconst (v := 0) hx hb dL_isDone_204 (by decide) ?_
              refine lv_rep0 (x := 0) (y := nI 0) rfl ?_
              refine rAld hx hb fx hw 33 (hF.1 33 (by decide)) hF.2.1 (fun _ => rfl) 0 rfl (by omega) (by decide) dL_isDone_205 ?_
              refine lv_rep0 (x := (σ 33 0)) (y := (nI g)) (pg hA).1 ?_
              refine lv_iconst (v := 1) hx hb dL_isDone_206 (by decide) ?_
              refine lv_rep0 (x := 1) (y := nI 1) rfl ?_
              refine lv_iadd hx hb dL_isDone_207 ?_
              refine lv_rep0 (x := ((nI g) + (nI 1))) (y := nI (g + 1)) (nI_add _ _) ?_
              refine lv_irem hx hb dL_isDone_208 (nI_ne0 (by omega) (by omega)) ?_
              refine lv_rep0 (y := nI (v9 % (g + 1))) (pk_rem (by omega) (by omega) (by omega)) ?_
              have hrm9 := Nat.mod_lt v9 (show 0 < (g + 1) by omega)
              refine rCallM (As := [.ref (gad G 0), .ref (gad G 31), .ref (gad G 32), .ref (gad G 33), .int (nI k9), .int (nI (v9 % (g + 1)))]) (rest := []) ⟨hx, hb, hml, hown, hts⟩ fx hw (kL_isPassed l hlt G hG hF σ hA hGa hj k9 ((v9 % (g + 1))) (by omega) (by omega)) (va_cwS 6 hts gL_isDone_L_isPassed rfl rfl rfl (by decide +kernel) ⟨Nat.le_of_ble_eq_true rfl, Nat.le_of_ble_eq_true rfl⟩) rfl hl.1 rfl (Nat.le_of_ble_eq_true rfl) dL_isDone_209 ⟨Nat.le_trans (show _ ≤ 6 by omega) (Nat.le_of_ble_eq_true rfl), Nat.le_trans (show _ ≤ 60 by omega) (Nat.le_of_ble_eq_true rfl)⟩ (fun r_201 σ_202 H locs p_203 hw => ?_)
              obtain ⟨er_201, p_203_0⟩ := p_203
              have er_201 := er_201.symm; subst er_201
              exact rRetZw hx hb hr hw (by decide) (by exact ⟨rfl, by assumption⟩) hlocks dL_isDone_212 (by omega) (by omega)
            · skip
              have c_200 : 0 < (u9 % 3) := n0_lef (by omega) c_200
              refine lv_iload hx hb dL_isDone_171 (lv_at hl 0 rfl) ?_
              refine lv_aload hx hb dL_isDone_173 (lv_at hl 10 rfl) ?_
              refine lv_iconst (v := 2) hx hb dL_isDone_175 (by decide) ?_
              refine lv_rep0 (x := 2) (y := nI 2) rfl ?_
              refine rAld hx hb fx hw 33 (hF.1 33 (by decide)) hF.2.1 (fun _ => rfl) 2 rfl (by omega) (by decide) dL_isDone_176 ?_
              refine lv_rep0 (x := (σ 33 2)) (y := (nI n)) (pn hA).1 ?_
              refine lv_icmp_ge (tgt := 200) hx hb dL_isDone_177 (by decide) (fun c_204 => ?_) (fun c_204 => ?_)
              · skip
                have c_204 : n ≤ k9 := (nI_leI (by omega) (by omega)).mp c_204
                refine lv_iload hx hb dL_isDone_200 (lv_at hl 1 rfl) ?_
                refine lv_aload hx hb dL_isDone_202 (lv_at hl 10 rfl) ?_
                refine lv_iconst (v := 0) hx hb dL_isDone_204 (by decide) ?_
                refine lv_rep0 (x := 0) (y := nI 0) rfl ?_
                refine rAld hx hb fx hw 33 (hF.1 33 (by decide)) hF.2.1 (fun _ => rfl) 0 rfl (by omega) (by decide) dL_isDone_205 ?_
                refine lv_rep0 (x := (σ 33 0)) (y := (nI g)) (pg hA).1 ?_
                refine lv_iconst (v := 1) hx hb dL_isDone_206 (by decide) ?_
                refine lv_rep0 (x := 1) (y := nI 1) rfl ?_
                refine lv_iadd hx hb dL_isDone_207 ?_
                refine lv_rep0 (x := ((nI g) + (nI 1))) (y := nI (g + 1)) (nI_add _ _) ?_
                refine lv_irem hx hb dL_isDone_208 (nI_ne0 (by omega) (by omega)) ?_
                refine lv_rep0 (y := nI (v9 % (g + 1))) (pk_rem (by omega) (by omega) (by omega)) ?_
                have hrm9 := Nat.mod_lt v9 (show 0 < (g + 1) by omega)
                refine rCallM (As := [.ref (gad G 0), .ref (gad G 31), .ref (gad G 32), .ref (gad G 33), .int (nI k9), .int (nI (v9 % (g + 1)))]) (rest := []) ⟨hx, hb, hml, hown, hts⟩ fx hw (kL_isPassed l hlt G hG hF σ hA hGa hj k9 ((v9 % (g + 1))) (by omega) (by omega)) (va_cwS 6 hts gL_isDone_L_isPassed rfl rfl rfl (by decide +kernel) ⟨Nat.le_of_ble_eq_true rfl, Nat.le_of_ble_eq_true rfl⟩) rfl hl.1 rfl (Nat.le_of_ble_eq_true rfl) dL_isDone_209 ⟨Nat.le_trans (show _ ≤ 6 by omega) (Nat.le_of_ble_eq_true rfl), Nat.le_trans (show _ ≤ 60 by omega) (Nat.le_of_ble_eq_true rfl)⟩ (fun r_205 σ_206 H locs p_207 hw => ?_)
                obtain ⟨er_205, p_207_0⟩ := p_207
                have er_205 := er_205.symm; subst er_205
                exact rRetZw hx hb hr hw (by decide) (by exact ⟨rfl, by assumption⟩) hlocks dL_isDone_212 (by omega) (by omega)
              · skip
                have c_204 : ¬ n ≤ k9 := fun h9 => c_204 ((nI_leI (by omega) (by omega)).mpr h9)
                obtain ⟨ga, hga1, hga2⟩ := hGa k9 (by omega)
                refine lv_aload hx hb dL_isDone_180 (lv_at hl 9 rfl) ?_
                refine lv_bipush (v := 6) hx hb dL_isDone_182 (by decide) ?_
                refine lv_iload hx hb dL_isDone_184 (lv_at hl 0 rfl) ?_
                refine lv_rep1 (x := 6) (y := nI 6) rfl ?_
                refine lv_imul hx hb dL_isDone_186 ?_
                refine lv_rep0 (x := ((nI 6) * (nI k9))) (y := nI (6 * k9)) (pk_mul _ _) ?_
                refine lv_iconst (v := 1) hx hb dL_isDone_187 (by decide) ?_
                refine lv_rep0 (x := 1) (y := nI 1) rfl ?_
                refine lv_iadd hx hb dL_isDone_188 ?_
                refine lv_rep0 (x := ((nI (6 * k9)) + (nI 1))) (y := nI ((6 * k9) + 1)) (nI_add _ _) ?_
                refine rAld hx hb fx hw 32 (hF.1 32 (by decide)) hF.2.1 (fun _ => rfl) ((6 * k9) + 1) rfl (by omega) (by decide) dL_isDone_189 ?_
                refine lv_rep0 (x := (σ 32 ((6 * k9) + 1))) (y := (nI ga)) hga2 ?_
                refine lv_iconst (v := 1) hx hb dL_isDone_190 (by decide) ?_
                refine lv_rep0 (x := 1) (y := nI 1) rfl ?_
                refine lv_iadd hx hb dL_isDone_191 ?_
                refine lv_rep0 (x := ((nI ga) + (nI 1))) (y := nI (ga + 1)) (nI_add _ _) ?_
                refine lv_aload hx hb dL_isDone_192 (lv_at hl 10 rfl) ?_
                refine lv_iconst (v := 0) hx hb dL_isDone_194 (by decide) ?_
                refine lv_rep0 (x := 0) (y := nI 0) rfl ?_
                refine rAld hx hb fx hw 33 (hF.1 33 (by decide)) hF.2.1 (fun _ => rfl) 0 rfl (by omega) (by decide) dL_isDone_195 ?_
                refine lv_rep0 (x := (σ 33 0)) (y := (nI g)) (pg hA).1 ?_
                refine lv_irem hx hb dL_isDone_196 (nI_ne0 (by omega) (by omega)) ?_
                refine lv_rep0 (y := nI ((ga + 1) % g)) (pk_rem (by omega) (by omega) (by omega)) ?_
                have hrm9 := Nat.mod_lt (ga + 1) (show 0 < g by omega)
                refine lv_goto (tgt := 209) hx hb dL_isDone_197 (by decide) ?_
                refine rCallM (As := [.ref (gad G 0), .ref (gad G 31), .ref (gad G 32), .ref (gad G 33), .int (nI k9), .int (nI ((ga + 1) % g))]) (rest := []) ⟨hx, hb, hml, hown, hts⟩ fx hw (kL_isPassed l hlt G hG hF σ hA hGa hj k9 (((ga + 1) % g)) (by omega) (by omega)) (va_cwS 6 hts gL_isDone_L_isPassed rfl rfl rfl (by decide +kernel) ⟨Nat.le_of_ble_eq_true rfl, Nat.le_of_ble_eq_true rfl⟩) rfl hl.1 rfl (Nat.le_of_ble_eq_true rfl) dL_isDone_209 ⟨Nat.le_trans (show _ ≤ 6 by omega) (Nat.le_of_ble_eq_true rfl), Nat.le_trans (show _ ≤ 60 by omega) (Nat.le_of_ble_eq_true rfl)⟩ (fun r_208 σ_209 H locs p_210 hw => ?_)
                obtain ⟨er_208, p_210_0⟩ := p_210
                have er_208 := er_208.symm; subst er_208
                exact rRetZw hx hb hr hw (by decide) (by exact ⟨rfl, by assumption⟩) hlocks dL_isDone_212 (by omega) (by omega)
        · skip
          have c_139 : ¬ 14 ≤ q1 := fun h9 => c_139 ((nI_leI (by omega) (by omega)).mpr h9)
          refine lv_aload_n hx hb dL_isDone_109 rfl (lv_at hl 4 rfl) ?_
          refine lv_aload_n hx hb dL_isDone_110 rfl (lv_at hl 7 rfl) ?_
          refine lv_aload hx hb dL_isDone_111 (lv_at hl 8 rfl) ?_
          refine lv_aload hx hb dL_isDone_113 (lv_at hl 9 rfl) ?_
          refine lv_iload hx hb dL_isDone_115 (lv_at hl 2 rfl) ?_
          refine lv_bipush (v := 9) hx hb dL_isDone_117 (by decide) ?_
          refine lv_rep0 (x := 9) (y := nI 9) rfl ?_
          refine lv_irem hx hb dL_isDone_119 (nI_ne0 (by omega) (by omega)) ?_
          refine lv_rep0 (y := nI (o9 % 9)) (pk_rem (by omega) (by omega) (by omega)) ?_
          refine lv_if_ne (tgt := 128) hx hb dL_isDone_120 (by decide) (fun c_211 => ?_) (fun c_211 => ?_)
          · skip
            have c_211 : ¬ (o9 % 9) = 0 := n0_net (by omega) c_211
            refine lv_iconst (v := 1) hx hb dL_isDone_128 (by decide) ?_
            refine lv_iload hx hb dL_isDone_129 (lv_at hl 2 rfl) ?_
            refine lv_iconst (v := 3) hx hb dL_isDone_131 (by decide) ?_
            refine lv_rep0 (x := 3) (y := nI 3) rfl ?_
            refine lv_irem hx hb dL_isDone_132 (nI_ne0 (by omega) (by omega)) ?_
            refine lv_rep0 (y := nI (o9 % 3)) (pk_rem (by omega) (by omega) (by omega)) ?_
            refine lv_rep1 (x := 1) (y := nI 1) rfl ?_
            refine lv_iadd hx hb dL_isDone_133 ?_
            refine lv_rep0 (x := ((nI 1) + (nI (o9 % 3)))) (y := nI (1 + (o9 % 3))) (nI_add _ _) ?_
            refine rCallM (As := [.ref (gad G 0), .ref (gad G 31), .ref (gad G 32), .ref (gad G 33), .int (nI (1 + (o9 % 3)))]) (rest := []) ⟨hx, hb, hml, hown, hts⟩ fx hw (kL_isStarted l hlt G hG hF σ hA hGa hj ((1 + (o9 % 3))) (by omega) (by omega)) (va_cwS 5 hts gL_isDone_L_isStarted rfl rfl rfl (by decide +kernel) ⟨Nat.le_of_ble_eq_true rfl, Nat.le_of_ble_eq_true rfl⟩) rfl hl.1 rfl (Nat.le_of_ble_eq_true rfl) dL_isDone_134 ⟨Nat.le_trans (show _ ≤ 6 by omega) (Nat.le_of_ble_eq_true rfl), Nat.le_trans (show _ ≤ 60 by omega) (Nat.le_of_ble_eq_true rfl)⟩ (fun r_212 σ_213 H locs p_214 hw => ?_)
            obtain ⟨er_212, p_214_0⟩ := p_214
            have er_212 := er_212.symm; subst er_212
            exact rRetZw hx hb hr hw (by decide) (by exact ⟨rfl, by assumption⟩) hlocks dL_isDone_137 (by omega) (by omega)
          · skip
            have c_211 : (o9 % 9) = 0 := n0_nef (by omega) c_211
            refine lv_bipush (v := 10) hx hb dL_isDone_123 (by decide) ?_
            refine lv_goto (tgt := 134) hx hb dL_isDone_125 (by decide) ?_
            refine lv_rep0 (x := 10) (y := nI 10) rfl ?_
            refine rCallM (As := [.ref (gad G 0), .ref (gad G 31), .ref (gad G 32), .ref (gad G 33), .int (nI 10)]) (rest := []) ⟨hx, hb, hml, hown, hts⟩ fx hw (kL_isStarted l hlt G hG hF σ hA hGa hj 10 (by omega) (by omega)) (va_cwS 5 hts gL_isDone_L_isStarted rfl rfl rfl (by decide +kernel) ⟨Nat.le_of_ble_eq_true rfl, Nat.le_of_ble_eq_true rfl⟩) rfl hl.1 rfl (Nat.le_of_ble_eq_true rfl) dL_isDone_134 ⟨Nat.le_trans (show _ ≤ 6 by omega) (Nat.le_of_ble_eq_true rfl), Nat.le_trans (show _ ≤ 60 by omega) (Nat.le_of_ble_eq_true rfl)⟩ (fun r_215 σ_216 H locs p_217 hw => ?_)
            obtain ⟨er_215, p_217_0⟩ := p_217
            have er_215 := er_215.symm; subst er_215
            exact rRetZw hx hb hr hw (by decide) (by exact ⟨rfl, by assumption⟩) hlocks dL_isDone_137 (by omega) (by omega)
      · skip
        have c_138 : q1 = 0 := n0_nef (by omega) c_138
        refine lv_aload_n hx hb dL_isDone_64 rfl (lv_at hl 4 rfl) ?_
        refine lv_aload_n hx hb dL_isDone_65 rfl (lv_at hl 7 rfl) ?_
        refine lv_aload hx hb dL_isDone_66 (lv_at hl 8 rfl) ?_
        refine lv_aload hx hb dL_isDone_68 (lv_at hl 9 rfl) ?_
        refine lv_iload hx hb dL_isDone_70 (lv_at hl 3 rfl) ?_
        refine lv_iconst (v := 3) hx hb dL_isDone_72 (by decide) ?_
        refine lv_rep0 (x := 3) (y := nI 3) rfl ?_
        refine lv_icmp_ge (tgt := 80) hx hb dL_isDone_73 (by decide) (fun c_218 => ?_) (fun c_218 => ?_)
        · skip
          have c_218 : 3 ≤ q1 := (nI_leI (by omega) (by omega)).mp c_218
          refine lv_iload hx hb dL_isDone_80 (lv_at hl 3 rfl) ?_
          refine lv_bipush (v := 7) hx hb dL_isDone_82 (by decide) ?_
          refine lv_rep0 (x := 7) (y := nI 7) rfl ?_
          refine lv_icmp_ge (tgt := 91) hx hb dL_isDone_84 (by decide) (fun c_219 => ?_) (fun c_219 => ?_)
          · skip
            have c_219 : 7 ≤ q1 := (nI_leI (by omega) (by omega)).mp c_219
            refine lv_iconst (v := 2) hx hb dL_isDone_91 (by decide) ?_
            refine lv_iload hx hb dL_isDone_92 (lv_at hl 2 rfl) ?_
            refine lv_iload hx hb dL_isDone_94 (lv_at hl 1 rfl) ?_
            refine lv_iload hx hb dL_isDone_96 (lv_at hl 0 rfl) ?_
            refine rCallM (As := [.ref (gad G 0), .ref (gad G 31), .ref (gad G 32), .ref (gad G 33), .int 2, .int (nI o9), .int (nI u9), .int (nI v9)]) (rest := []) ⟨hx, hb, hml, hown, hts⟩ fx hw (kL_isLaid_2 l hlt G hG hF σ hA hGa hj o9 u9 v9 (by omega) (by omega) (by omega)) (va_cwS 8 hts gL_isDone_L_isLaid rfl rfl rfl (by decide +kernel) ⟨Nat.le_of_ble_eq_true rfl, Nat.le_of_ble_eq_true rfl⟩) rfl hl.1 rfl (Nat.le_of_ble_eq_true rfl) dL_isDone_98 ⟨Nat.le_trans (show _ ≤ 6 by omega) (Nat.le_of_ble_eq_true rfl), Nat.le_trans (show _ ≤ 60 by omega) (Nat.le_of_ble_eq_true rfl)⟩ (fun r_220 σ_221 H locs p_222 hw => ?_)
            obtain ⟨er_220, p_222_0⟩ := p_222
            have er_220 := er_220.symm; subst er_220
            exact rRetZw hx hb hr hw (by decide) (by exact ⟨rfl, by assumption⟩) hlocks dL_isDone_101 (by omega) (by omega)
          · skip
            have c_219 : ¬ 7 ≤ q1 := fun h9 => c_219 ((nI_leI (by omega) (by omega)).mpr h9)
            refine lv_iconst (v := 1) hx hb dL_isDone_87 (by decide) ?_
            refine lv_goto (tgt := 92) hx hb dL_isDone_88 (by decide) ?_
            refine lv_iload hx hb dL_isDone_92 (lv_at hl 2 rfl) ?_
            refine lv_iload hx hb dL_isDone_94 (lv_at hl 1 rfl) ?_
            refine lv_iload hx hb dL_isDone_96 (lv_at hl 0 rfl) ?_
            refine rCallM (As := [.ref (gad G 0), .ref (gad G 31), .ref (gad G 32), .ref (gad G 33), .int 1, .int (nI o9), .int (nI u9), .int (nI v9)]) (rest := []) ⟨hx, hb, hml, hown, hts⟩ fx hw (kL_isLaid_1 l hlt G hG hF σ hA hGa hj o9 u9 v9 (by omega) (by omega) (by omega)) (va_cwS 8 hts gL_isDone_L_isLaid rfl rfl rfl (by decide +kernel) ⟨Nat.le_of_ble_eq_true rfl, Nat.le_of_ble_eq_true rfl⟩) rfl hl.1 rfl (Nat.le_of_ble_eq_true rfl) dL_isDone_98 ⟨Nat.le_trans (show _ ≤ 6 by omega) (Nat.le_of_ble_eq_true rfl), Nat.le_trans (show _ ≤ 60 by omega) (Nat.le_of_ble_eq_true rfl)⟩ (fun r_223 σ_224 H locs p_225 hw => ?_)
            obtain ⟨er_223, p_225_0⟩ := p_225
            have er_223 := er_223.symm; subst er_223
            exact rRetZw hx hb hr hw (by decide) (by exact ⟨rfl, by assumption⟩) hlocks dL_isDone_101 (by omega) (by omega)
        · skip
          have c_218 : ¬ 3 ≤ q1 := fun h9 => c_218 ((nI_leI (by omega) (by omega)).mpr h9)
          refine lv_iconst (v := 0) hx hb dL_isDone_76 (by decide) ?_
          refine lv_goto (tgt := 92) hx hb dL_isDone_77 (by decide) ?_
          refine lv_iload hx hb dL_isDone_92 (lv_at hl 2 rfl) ?_
          refine lv_iload hx hb dL_isDone_94 (lv_at hl 1 rfl) ?_
          refine lv_iload hx hb dL_isDone_96 (lv_at hl 0 rfl) ?_
          refine rCallM (As := [.ref (gad G 0), .ref (gad G 31), .ref (gad G 32), .ref (gad G 33), .int 0, .int (nI o9), .int (nI u9), .int (nI v9)]) (rest := []) ⟨hx, hb, hml, hown, hts⟩ fx hw (kL_isLaid_0 l hlt G hG hF σ hA hGa hj o9 u9 v9 (by omega) (by omega) (by omega)) (va_cwS 8 hts gL_isDone_L_isLaid rfl rfl rfl (by decide +kernel) ⟨Nat.le_of_ble_eq_true rfl, Nat.le_of_ble_eq_true rfl⟩) rfl hl.1 rfl (Nat.le_of_ble_eq_true rfl) dL_isDone_98 ⟨Nat.le_trans (show _ ≤ 6 by omega) (Nat.le_of_ble_eq_true rfl), Nat.le_trans (show _ ≤ 60 by omega) (Nat.le_of_ble_eq_true rfl)⟩ (fun r_226 σ_227 H locs p_228 hw => ?_)
          obtain ⟨er_226, p_228_0⟩ := p_228
          have er_226 := er_226.symm; subst er_226
          exact rRetZw hx hb hr hw (by decide) (by exact ⟨rfl, by assumption⟩) hlocks dL_isDone_101 (by omega) (by omega)
    · skip
      have c_137 : ¬ 10 ≤ q1 := fun h9 => c_137 ((nI_leI (by omega) (by omega)).mpr h9)
      refine lv_aload hx hb dL_isDone_52 (lv_at hl 9 rfl) ?_
      refine lv_iconst (v := 5) hx hb dL_isDone_54 (by decide) ?_
      refine lv_rep0 (x := 5) (y := nI 5) rfl ?_
      refine rAld hx hb fx hw 33 (hF.1 33 (by decide)) hF.2.1 (fun _ => rfl) 5 rfl (by omega) (by decide) dL_isDone_55 ?_
      refine lv_rep0 (x := (σ 33 5)) (y := (nI s9)) hs5 ?_
      refine lv_if_eq (tgt := 64) hx hb dL_isDone_56 (by decide) (fun c_229 => ?_) (fun c_229 => ?_)
      · skip
        have c_229 : s9 = 0 := n0_eqt (by omega) c_229
        omega
      · skip
        have c_229 : ¬ s9 = 0 := n0_eqf (by omega) c_229
        refine lv_iload hx hb dL_isDone_59 (lv_at hl 3 rfl) ?_
        refine lv_if_ne (tgt := 102) hx hb dL_isDone_61 (by decide) (fun c_230 => ?_) (fun c_230 => ?_)
        · skip
          have c_230 : ¬ q1 = 0 := n0_net (by omega) c_230
          refine lv_iload hx hb dL_isDone_102 (lv_at hl 3 rfl) ?_
          refine lv_bipush (v := 14) hx hb dL_isDone_104 (by decide) ?_
          refine lv_rep0 (x := 14) (y := nI 14) rfl ?_
          refine lv_icmp_ge (tgt := 138) hx hb dL_isDone_106 (by decide) (fun c_231 => ?_) (fun c_231 => ?_)
          · skip
            have c_231 : 14 ≤ q1 := (nI_leI (by omega) (by omega)).mp c_231
            refine lv_iload hx hb dL_isDone_138 (lv_at hl 3 rfl) ?_
            refine lv_bipush (v := 28) hx hb dL_isDone_140 (by decide) ?_
            refine lv_rep0 (x := 28) (y := nI 28) rfl ?_
            refine lv_icmp_ge (tgt := 213) hx hb dL_isDone_142 (by decide) (fun c_232 => ?_) (fun c_232 => ?_)
            · skip
              have c_232 : 28 ≤ q1 := (nI_leI (by omega) (by omega)).mp c_232
              refine lv_iload hx hb dL_isDone_213 (lv_at hl 3 rfl) ?_
              refine lv_bipush (v := 34) hx hb dL_isDone_215 (by decide) ?_
              refine lv_rep0 (x := 34) (y := nI 34) rfl ?_
              refine lv_icmp_ge (tgt := 250) hx hb dL_isDone_217 (by decide) (fun c_233 => ?_) (fun c_233 => ?_)
              · skip
                have c_233 : 34 ≤ q1 := (nI_leI (by omega) (by omega)).mp c_233
                refine lv_iload hx hb dL_isDone_250 (lv_at hl 3 rfl) ?_
                refine lv_bipush (v := 36) hx hb dL_isDone_252 (by decide) ?_
                refine lv_rep0 (x := 36) (y := nI 36) rfl ?_
                refine lv_icmp_ge (tgt := 340) hx hb dL_isDone_254 (by decide) (fun c_234 => ?_) (fun c_234 => ?_)
                · skip
                  have c_234 : 36 ≤ q1 := (nI_leI (by omega) (by omega)).mp c_234
                  refine lv_iload hx hb dL_isDone_340 (lv_at hl 3 rfl) ?_
                  refine lv_bipush (v := 36) hx hb dL_isDone_342 (by decide) ?_
                  refine lv_rep0 (x := 36) (y := nI 36) rfl ?_
                  refine lv_icmp_ne (tgt := 356) hx hb dL_isDone_344 (by decide) (fun c_235 => ?_) (fun c_235 => ?_)
                  · skip
                    have c_235 : ¬ q1 = 36 := fun h9 => c_235 ((nI_eq (by omega) (by omega)).mpr h9)
                    refine lv_iload hx hb dL_isDone_356 (lv_at hl 3 rfl) ?_
                    refine lv_bipush (v := 37) hx hb dL_isDone_358 (by decide) ?_
                    refine lv_rep0 (x := 37) (y := nI 37) rfl ?_
                    refine lv_icmp_ne (tgt := 428) hx hb dL_isDone_360 (by decide) (fun c_236 => ?_) (fun c_236 => ?_)
                    · skip
                      have c_236 : ¬ q1 = 37 := fun h9 => c_236 ((nI_eq (by omega) (by omega)).mpr h9)
                      refine lv_aload_n hx hb dL_isDone_428 rfl (lv_at hl 4 rfl) ?_
                      refine lv_iload hx hb dL_isDone_429 (lv_at hl 2 rfl) ?_
                      refine lv_iload hx hb dL_isDone_431 (lv_at hl 1 rfl) ?_
                      refine lv_imul hx hb dL_isDone_433 ?_
                      refine lv_rep0 (x := ((nI o9) * (nI u9))) (y := nI (o9 * u9)) (pk_mul _ _) ?_
                      refine lv_ldc (v := 20000000) hx hb hown (hts (.constant RL 150 (20000000)) (by decide +kernel)) dL_isDone_434 ?_
                      refine lv_isub hx hb dL_isDone_436 ?_
                      refine rCallV (C := RX5) (As := [.int ((nI (o9 * u9)) - 20000000)]) (rest := []) ⟨hx, hb, hml, hown, hts⟩ fx hw (kX5_setDraw l G hG hF σ (((nI (o9 * u9)) - 20000000)) g n e9 z b (pcv hA)) (cwV 1 hts gL_isDone_X5_setDraw rfl rfl rfl (by decide +kernel) ⟨Nat.le_of_ble_eq_true rfl, Nat.le_of_ble_eq_true rfl⟩) (hF.1 0 (by decide)) rfl rfl rfl rfl hl.1 rfl (Nat.le_of_ble_eq_true rfl) dL_isDone_437 ⟨Nat.le_trans (show _ ≤ 6 by omega) (Nat.le_of_ble_eq_true rfl), Nat.le_trans (show _ ≤ 60 by omega) (Nat.le_of_ble_eq_true rfl)⟩ (fun σ_238 H locs p_239 hw => ?_)
                      have eσ_238 := p_239
                      refine lv_iload hx hb dL_isDone_440 (lv_at hl 3 rfl) ?_
                      refine lv_bipush (v := 38) hx hb dL_isDone_442 (by decide) ?_
                      refine lv_rep0 (x := 38) (y := nI 38) rfl ?_
                      refine lv_icmp_eq (tgt := 468) hx hb dL_isDone_444 (by decide) (fun c_240 => ?_) (fun c_240 => ?_)
                      · skip
                        have c_240 : q1 = 38 := (nI_eq (by omega) (by omega)).mp c_240
                        refine lv_iconst (v := 1) hx hb dL_isDone_468 (by decide) ?_
                        refine lv_goto (tgt := 473) hx hb dL_isDone_469 (by decide) ?_
                        subst eσ_238
                        exact rRetZw hx hb hr hw (by decide) (by exact ⟨rfl, po_same (po_setDraw hA) hGa⟩) hlocks dL_isDone_473 (by omega) (by omega)
                      · skip
                        have c_240 : ¬ q1 = 38 := fun h9 => c_240 ((nI_eq (by omega) (by omega)).mpr h9)
                        refine lv_aload_n hx hb dL_isDone_447 rfl (lv_at hl 4 rfl) ?_
                        refine lv_aload hx hb dL_isDone_448 (lv_at hl 8 rfl) ?_
                        refine lv_aload hx hb dL_isDone_450 (lv_at hl 9 rfl) ?_
                        refine lv_iload hx hb dL_isDone_452 (lv_at hl 2 rfl) ?_
                        refine lv_aload hx hb dL_isDone_454 (lv_at hl 9 rfl) ?_
                        refine lv_iconst (v := 2) hx hb dL_isDone_456 (by decide) ?_
                        refine lv_rep0 (x := 2) (y := nI 2) rfl ?_
                        refine rAld hx hb fx hw 33 (hF.1 33 (by decide)) hF.2.1 (fun _ => rfl) 2 rfl (by omega) (by decide) dL_isDone_457 ?_
                        refine lv_rep0 (x := (σ_238 33 2)) (y := (nI n)) ((congrFun ((ag_one eσ_238 (by decide)) 33 (by decide)) 2).trans (pn hA).1) ?_
                        refine lv_iconst (v := 1) hx hb dL_isDone_458 (by decide) ?_
                        refine lv_rep0 (x := 1) (y := nI 1) rfl ?_
                        refine lv_iadd hx hb dL_isDone_459 ?_
                        refine lv_rep0 (x := ((nI n) + (nI 1))) (y := nI (n + 1)) (nI_add _ _) ?_
                        refine lv_irem hx hb dL_isDone_460 (nI_ne0 (by omega) (by omega)) ?_
                        refine lv_rep0 (y := nI (o9 % (n + 1))) (pk_rem (by omega) (by omega) (by omega)) ?_
                        have hrm9 := Nat.mod_lt o9 (show 0 < (n + 1) by omega)
                        refine lv_iconst (v := 0) hx hb dL_isDone_461 (by decide) ?_
                        refine rCallM (As := [.ref (gad G 0), .ref (gad G 32), .ref (gad G 33), .int (nI (o9 % (n + 1))), .int 0]) (rest := []) ⟨hx, hb, hml, hown, hts⟩ fx hw (kL_isItem_0 l hlt G hG hF σ_238 (by rw [eσ_238]; exact po_setDraw hA) (by rw [eσ_238]; exact hGa) hj ((o9 % (n + 1))) (by omega)) (va_cwS 5 hts gL_isDone_L_isItem rfl rfl rfl (by decide +kernel) ⟨Nat.le_of_ble_eq_true rfl, Nat.le_of_ble_eq_true rfl⟩) rfl hl.1 rfl (Nat.le_of_ble_eq_true rfl) dL_isDone_462 ⟨Nat.le_trans (show _ ≤ 6 by omega) (Nat.le_of_ble_eq_true rfl), Nat.le_trans (show _ ≤ 60 by omega) (Nat.le_of_ble_eq_true rfl)⟩ (fun r_241 σ_242 H locs p_243 hw => ?_)
                        obtain ⟨er_241, p_243_0⟩ := p_243
                        have er_241 := er_241.symm; subst er_241
                        refine lv_if_eq (tgt := 472) hx hb dL_isDone_465 (by decide) (fun c_244 => ?_) (fun c_244 => ?_)
                        · skip
                          exact absurd c_244 (by decide)
                        · skip
                          refine lv_iconst (v := 1) hx hb dL_isDone_468 (by decide) ?_
                          refine lv_goto (tgt := 473) hx hb dL_isDone_469 (by decide) ?_
                          exact rRetZw hx hb hr hw (by decide) (by exact ⟨rfl, by assumption⟩) hlocks dL_isDone_473 (by omega) (by omega)
                    · skip
                      have c_236 : q1 = 37 := (nI_eq (by omega) (by omega)).mp c_236
                      refine lv_aload hx hb dL_isDone_363 (lv_at hl 9 rfl) ?_
                      refine lv_bipush (v := 7) hx hb dL_isDone_365 (by decide) ?_
                      refine lv_rep0 (x := 7) (y := nI 7) rfl ?_
                      refine rAld hx hb fx hw 33 (hF.1 33 (by decide)) hF.2.1 (fun _ => rfl) 7 rfl (by omega) (by decide) dL_isDone_367 ?_
                      refine lv_rep0 (x := (σ 33 7)) (y := (nI d)) (pdr hA).1 ?_
                      refine lv_istore (lv' := [(10, .int (nI d)), (9, .int (nI v9)), (8, .int (nI u9)), (7, .int (nI o9)), (6, .int (nI q1)), (0, .ref (gad G 0)), (1, .ref (gsc G).1), (2, .int (nI at9)), (3, .ref (gad G 31)), (4, .ref (gad G 32)), (5, .ref (gad G 33))]) hx hb dL_isDone_368 hl (by decide) rfl (fun ls hl => ?_)
                      refine lv_aload hx hb dL_isDone_370 (lv_at hl 10 rfl) ?_
                      refine lv_bipush (v := 7) hx hb dL_isDone_372 (by decide) ?_
                      refine lv_iload hx hb dL_isDone_374 (lv_at hl 3 rfl) ?_
                      refine lv_iconst (v := 5) hx hb dL_isDone_376 (by decide) ?_
                      refine lv_rep0 (x := 5) (y := nI 5) rfl ?_
                      refine lv_irem hx hb dL_isDone_377 (nI_ne0 (by omega) (by omega)) ?_
                      refine lv_rep0 (y := nI (o9 % 5)) (pk_rem (by omega) (by omega) (by omega)) ?_
                      refine lv_iconst (v := 4) hx hb dL_isDone_378 (by decide) ?_
                      refine lv_rep0 (x := 4) (y := nI 4) rfl ?_
                      refine lv_icmp_ge (tgt := 389) hx hb dL_isDone_379 (by decide) (fun c_245 => ?_) (fun c_245 => ?_)
                      · skip
                        have c_245 : 4 ≤ (o9 % 5) := (nI_leI (by omega) (by omega)).mp c_245
                        refine lv_iload hx hb dL_isDone_389 (lv_at hl 0 rfl) ?_
                        refine lv_rep1 (x := 7) (y := nI 7) rfl ?_
                        refine rAst (x := (nI d)) hx hb fx hw 33 (hF.1 33 (by decide)) hF.2.1 (fun _ => rfl) 7 rfl (by omega) (by decide) dL_isDone_391 (fun H locs hw => ?_)
                        obtain ⟨σ_246, eσ_246⟩ : ∃ w9, w9 = upA σ 33 (upd (σ 33) 7 (nI d)) := ⟨_, rfl⟩
                        rw [← eσ_246] at hw
                        refine lv_aload_n hx hb dL_isDone_392 rfl (lv_at hl 5 rfl) ?_
                        refine lv_bipush (v := 9) hx hb dL_isDone_393 (by decide) ?_
                        refine lv_iload hx hb dL_isDone_395 (lv_at hl 3 rfl) ?_
                        refine lv_iconst (v := 5) hx hb dL_isDone_397 (by decide) ?_
                        refine lv_rep0 (x := 5) (y := nI 5) rfl ?_
                        refine lv_irem hx hb dL_isDone_398 (nI_ne0 (by omega) (by omega)) ?_
                        refine lv_rep0 (y := nI (o9 % 5)) (pk_rem (by omega) (by omega) (by omega)) ?_
                        refine lv_iconst (v := 0) hx hb dL_isDone_399 (by decide) ?_
                        refine lv_iconst (v := 0) hx hb dL_isDone_400 (by decide) ?_
                        refine rCallLS (As := [.ref (gad G 0), .int 9, .int (nI (o9 % 5)), .int 0, .int 0]) (rest := []) ⟨hx, hb, hml, hown, hts⟩ fx hw (d9_t1 l hlt G hG hF σ_246 (show CIv σ_246 g n b e9 z from by rw [eσ_246]; exact (show CIv σ g n b e9 z from pcv hA)) ((nI (o9 % 5))) 0 0 (inR_no (lo := 0) (hi := 3) (by omega) (by decide) (by decide) (by omega))) (vx_cwSW 5 hts gL_isDone_L_does rfl rfl rfl (by decide +kernel) ⟨Nat.le_of_ble_eq_true rfl, Nat.le_of_ble_eq_true rfl⟩) rfl hl.1 rfl (Nat.le_of_ble_eq_true rfl) dL_isDone_401 ⟨Nat.le_trans (show _ ≤ 6 by omega) (Nat.le_of_ble_eq_true rfl), Nat.le_trans (show _ ≤ 60 by omega) (Nat.le_of_ble_eq_true rfl)⟩ (fun r_247 σ_248 H locs p_249 hw => ?_)
                        obtain ⟨er_247, eσ_248⟩ := p_249
                        have er_247 := er_247.symm; subst er_247
                        have eσ_248 := eσ_248.symm; subst eσ_248
                        have hd9 : σ_246 27 3 = nI d := by rw [eσ_246, upA_n (by decide)]; exact (pdr hA).2.1
                        refine lv_iload hx hb dL_isDone_404 (lv_at hl 3 rfl) ?_
                        refine lv_iconst (v := 5) hx hb dL_isDone_406 (by decide) ?_
                        refine lv_rep0 (x := 5) (y := nI 5) rfl ?_
                        refine lv_irem hx hb dL_isDone_407 (nI_ne0 (by omega) (by omega)) ?_
                        refine lv_rep0 (y := nI (o9 % 5)) (pk_rem (by omega) (by omega) (by omega)) ?_
                        refine lv_iconst (v := 4) hx hb dL_isDone_408 (by decide) ?_
                        refine lv_rep0 (x := 4) (y := nI 4) rfl ?_
                        refine lv_icmp_ge (tgt := 417) hx hb dL_isDone_409 (by decide) (fun c_250 => ?_) (fun c_250 => ?_)
                        · skip
                          have c_250 : 4 ≤ (o9 % 5) := (nI_leI (by omega) (by omega)).mp c_250
                          refine lv_bipush (v := (-20)) hx hb dL_isDone_417 (by decide) ?_
                          refine lv_icmp_ne (tgt := 426) hx hb dL_isDone_419 (by decide) (fun c_251 => ?_) (fun c_251 => ?_)
                          · skip
                            exact absurd c_251 (by decide)
                          · skip
                            refine lv_iconst (v := 1) hx hb dL_isDone_422 (by decide) ?_
                            refine lv_goto (tgt := 427) hx hb dL_isDone_423 (by decide) ?_
                            subst eσ_246
                            exact rRetZw hx hb hr hw (by decide) (by exact ⟨rfl, po_nodrop hA hGa⟩) hlocks dL_isDone_427 (by omega) (by omega)
                        · skip
                          have c_250 : ¬ 4 ≤ (o9 % 5) := fun h9 => c_250 ((nI_leI (by omega) (by omega)).mpr h9)
                          omega
                      · skip
                        have c_245 : ¬ 4 ≤ (o9 % 5) := fun h9 => c_245 ((nI_leI (by omega) (by omega)).mpr h9)
                        refine lv_iload hx hb dL_isDone_382 (lv_at hl 3 rfl) ?_
                        refine lv_iconst (v := 5) hx hb dL_isDone_384 (by decide) ?_
                        refine lv_rep0 (x := 5) (y := nI 5) rfl ?_
                        refine lv_irem hx hb dL_isDone_385 (nI_ne0 (by omega) (by omega)) ?_
                        refine lv_rep0 (y := nI (o9 % 5)) (pk_rem (by omega) (by omega) (by omega)) ?_
                        refine lv_goto (tgt := 391) hx hb dL_isDone_386 (by decide) ?_
                        refine lv_rep1 (x := 7) (y := nI 7) rfl ?_
                        refine rAst (x := (nI (o9 % 5))) hx hb fx hw 33 (hF.1 33 (by decide)) hF.2.1 (fun _ => rfl) 7 rfl (by omega) (by decide) dL_isDone_391 (fun H locs hw => ?_)
                        obtain ⟨σ_252, eσ_252⟩ : ∃ w9, w9 = upA σ 33 (upd (σ 33) 7 (nI (o9 % 5))) := ⟨_, rfl⟩
                        rw [← eσ_252] at hw
                        refine lv_aload_n hx hb dL_isDone_392 rfl (lv_at hl 5 rfl) ?_
                        refine lv_bipush (v := 9) hx hb dL_isDone_393 (by decide) ?_
                        refine lv_iload hx hb dL_isDone_395 (lv_at hl 3 rfl) ?_
                        refine lv_iconst (v := 5) hx hb dL_isDone_397 (by decide) ?_
                        refine lv_rep0 (x := 5) (y := nI 5) rfl ?_
                        refine lv_irem hx hb dL_isDone_398 (nI_ne0 (by omega) (by omega)) ?_
                        refine lv_rep0 (y := nI (o9 % 5)) (pk_rem (by omega) (by omega) (by omega)) ?_
                        refine lv_iconst (v := 0) hx hb dL_isDone_399 (by decide) ?_
                        refine lv_iconst (v := 0) hx hb dL_isDone_400 (by decide) ?_
                        refine rCallLS (As := [.ref (gad G 0), .int 9, .int (nI (o9 % 5)), .int 0, .int 0]) (rest := []) ⟨hx, hb, hml, hown, hts⟩ fx hw (d9_ok l hlt G hG hF σ_252 (show CIv σ_252 g n b e9 z from by rw [eσ_252]; exact (show CIv σ g n b e9 z from pcv hA)) ((o9 % 5)) 0 0 (by omega)) (vx_cwSW 5 hts gL_isDone_L_does rfl rfl rfl (by decide +kernel) ⟨Nat.le_of_ble_eq_true rfl, Nat.le_of_ble_eq_true rfl⟩) rfl hl.1 rfl (Nat.le_of_ble_eq_true rfl) dL_isDone_401 ⟨Nat.le_trans (show _ ≤ 6 by omega) (Nat.le_of_ble_eq_true rfl), Nat.le_trans (show _ ≤ 60 by omega) (Nat.le_of_ble_eq_true rfl)⟩ (fun r_253 σ_254 H locs p_255 hw => ?_)
                        obtain ⟨er_253, eσ_254⟩ := p_255
                        have er_253 := er_253.symm; subst er_253
                        have hd9 : σ_252 27 3 = nI d := by rw [eσ_252, upA_n (by decide)]; exact (pdr hA).2.1
                        refine lv_iload hx hb dL_isDone_404 (lv_at hl 3 rfl) ?_
                        refine lv_iconst (v := 5) hx hb dL_isDone_406 (by decide) ?_
                        refine lv_rep0 (x := 5) (y := nI 5) rfl ?_
                        refine lv_irem hx hb dL_isDone_407 (nI_ne0 (by omega) (by omega)) ?_
                        refine lv_rep0 (y := nI (o9 % 5)) (pk_rem (by omega) (by omega) (by omega)) ?_
                        refine lv_iconst (v := 4) hx hb dL_isDone_408 (by decide) ?_
                        refine lv_rep0 (x := 4) (y := nI 4) rfl ?_
                        refine lv_icmp_ge (tgt := 417) hx hb dL_isDone_409 (by decide) (fun c_256 => ?_) (fun c_256 => ?_)
                        · skip
                          have c_256 : 4 ≤ (o9 % 5) := (nI_leI (by omega) (by omega)).mp c_256
                          omega
                        · skip
                          have c_256 : ¬ 4 ≤ (o9 % 5) := fun h9 => c_256 ((nI_leI (by omega) (by omega)).mpr h9)
                          refine lv_rep0 (x := (σ_252 27 3)) (y := nI d) (by rw [hd9]) ?_
                          refine lv_iload hx hb dL_isDone_412 (lv_at hl 0 rfl) ?_
                          refine lv_goto (tgt := 419) hx hb dL_isDone_414 (by decide) ?_
                          refine lv_icmp_ne (tgt := 426) hx hb dL_isDone_419 (by decide) (fun c_257 => ?_) (fun c_257 => ?_)
                          · skip
                            exact absurd rfl c_257
                          · skip
                            refine lv_iconst (v := 1) hx hb dL_isDone_422 (by decide) ?_
                            refine lv_goto (tgt := 427) hx hb dL_isDone_423 (by decide) ?_
                            subst eσ_254
                            subst eσ_252
                            exact rRetZw hx hb hr hw (by decide) (by exact ⟨rfl, po_drop hA hGa (by omega)⟩) hlocks dL_isDone_427 (by omega) (by omega)
                  · skip
                    have c_235 : q1 = 36 := (nI_eq (by omega) (by omega)).mp c_235
                    refine lv_aload_n hx hb dL_isDone_347 rfl (lv_at hl 4 rfl) ?_
                    refine lv_aload hx hb dL_isDone_348 (lv_at hl 8 rfl) ?_
                    refine lv_aload hx hb dL_isDone_350 (lv_at hl 9 rfl) ?_
                    refine rCallM (As := [.ref (gad G 0), .ref (gad G 32), .ref (gad G 33)]) (rest := []) ⟨hx, hb, hml, hown, hts⟩ fx hw (kL_isEnded l hlt G hG hF σ hA hGa hj hgl) (va_cwS 3 hts gL_isDone_L_isEnded rfl rfl rfl (by decide +kernel) ⟨Nat.le_of_ble_eq_true rfl, Nat.le_of_ble_eq_true rfl⟩) rfl hl.1 rfl (Nat.le_of_ble_eq_true rfl) dL_isDone_352 ⟨Nat.le_trans (show _ ≤ 6 by omega) (Nat.le_of_ble_eq_true rfl), Nat.le_trans (show _ ≤ 60 by omega) (Nat.le_of_ble_eq_true rfl)⟩ (fun r_258 σ_259 H locs p_260 hw => ?_)
                    obtain ⟨er_258, p_260_0⟩ := p_260
                    have er_258 := er_258.symm; subst er_258
                    exact rRetZw hx hb hr hw (by decide) (by exact ⟨rfl, by assumption⟩) hlocks dL_isDone_355 (by omega) (by omega)
                · skip
                  have c_234 : ¬ 36 ≤ q1 := fun h9 => c_234 ((nI_leI (by omega) (by omega)).mpr h9)
                  refine lv_iload hx hb dL_isDone_257 (lv_at hl 2 rfl) ?_
                  refine lv_bipush (v := 103) hx hb dL_isDone_259 (by decide) ?_
                  refine lv_rep0 (x := 103) (y := nI 103) rfl ?_
                  refine lv_irem hx hb dL_isDone_261 (nI_ne0 (by omega) (by omega)) ?_
                  refine lv_rep0 (y := nI (o9 % 103)) (pk_rem (by omega) (by omega) (by omega)) ?_
                  refine lv_if_le (tgt := 279) hx hb dL_isDone_262 (by decide) (fun c_261 => ?_) (fun c_261 => ?_)
                  · skip
                    have c_261 : (o9 % 103) = 0 := n0_let (by omega) c_261
                    refine lv_iconst (v := 0) hx hb dL_isDone_279 (by decide) ?_
                    refine lv_istore (lv' := [(10, .int 0), (9, .int (nI v9)), (8, .int (nI u9)), (7, .int (nI o9)), (6, .int (nI q1)), (0, .ref (gad G 0)), (1, .ref (gsc G).1), (2, .int (nI at9)), (3, .ref (gad G 31)), (4, .ref (gad G 32)), (5, .ref (gad G 33))]) hx hb dL_isDone_280 hl (by decide) rfl (fun ls hl => ?_)
                    refine lv_aload hx hb dL_isDone_282 (lv_at hl 10 rfl) ?_
                    refine lv_bipush (v := 8) hx hb dL_isDone_284 (by decide) ?_
                    refine lv_rep0 (x := 8) (y := nI 8) rfl ?_
                    refine lv_dup2_11 hx hb dL_isDone_286 rfl rfl ?_
                    refine rAld hx hb fx hw 33 (hF.1 33 (by decide)) hF.2.1 (fun _ => rfl) 8 rfl (by omega) (by decide) dL_isDone_287 ?_
                    refine lv_rep0 (x := (σ 33 8)) (y := (nI t)) (pti hA).1 ?_
                    refine lv_iload hx hb dL_isDone_288 (lv_at hl 0 rfl) ?_
                    refine lv_if_eq (tgt := 301) hx hb dL_isDone_290 (by decide) (fun c_262 => ?_) (fun c_262 => ?_)
                    · skip
                      refine lv_iconst (v := 0) hx hb dL_isDone_301 (by decide) ?_
                      refine lv_rep0 (x := 0) (y := nI 0) rfl ?_
                      refine lv_iadd hx hb dL_isDone_302 ?_
                      refine lv_rep0 (x := ((nI t) + (nI 0))) (y := nI (t + 0)) (nI_add _ _) ?_
                      refine rAst (x := (nI (t + 0))) hx hb fx hw 33 (hF.1 33 (by decide)) hF.2.1 (fun _ => rfl) 8 rfl (by omega) (by decide) dL_isDone_303 (fun H locs hw => ?_)
                      obtain ⟨σ_263, eσ_263⟩ : ∃ w9, w9 = upA σ 33 (upd (σ 33) 8 (nI (t + 0))) := ⟨_, rfl⟩
                      rw [← eσ_263] at hw
                      refine lv_aload_n hx hb dL_isDone_304 rfl (lv_at hl 5 rfl) ?_
                      refine lv_iconst (v := 5) hx hb dL_isDone_305 (by decide) ?_
                      refine lv_iload hx hb dL_isDone_306 (lv_at hl 3 rfl) ?_
                      refine lv_bipush (v := 103) hx hb dL_isDone_308 (by decide) ?_
                      refine lv_rep0 (x := 103) (y := nI 103) rfl ?_
                      refine lv_irem hx hb dL_isDone_310 (nI_ne0 (by omega) (by omega)) ?_
                      refine lv_rep0 (y := nI (o9 % 103)) (pk_rem (by omega) (by omega) (by omega)) ?_
                      refine lv_iconst (v := 0) hx hb dL_isDone_311 (by decide) ?_
                      refine lv_iconst (v := 0) hx hb dL_isDone_312 (by decide) ?_
                      refine rCallLS (As := [.ref (gad G 0), .int 5, .int (nI (o9 % 103)), .int 0, .int 0]) (rest := []) ⟨hx, hb, hml, hown, hts⟩ fx hw (d5_t1 l hlt G hG hF σ_263 (show CIv σ_263 g n b e9 z from by rw [eσ_263]; exact (show CIv σ g n b e9 z from pcv hA)) ((nI (o9 % 103))) 0 0 (inR_no (lo := 1) (hi := 100) (by omega) (by decide) (by decide) (by omega))) (vx_cwSW 5 hts gL_isDone_L_does rfl rfl rfl (by decide +kernel) ⟨Nat.le_of_ble_eq_true rfl, Nat.le_of_ble_eq_true rfl⟩) rfl hl.1 rfl (Nat.le_of_ble_eq_true rfl) dL_isDone_313 ⟨Nat.le_trans (show _ ≤ 6 by omega) (Nat.le_of_ble_eq_true rfl), Nat.le_trans (show _ ≤ 60 by omega) (Nat.le_of_ble_eq_true rfl)⟩ (fun r_264 σ_265 H locs p_266 hw => ?_)
                      obtain ⟨er_264, eσ_265⟩ := p_266
                      have er_264 := er_264.symm; subst er_264
                      have eσ_265 := eσ_265.symm; subst eσ_265
                      have ht9 : σ_263 0 9 = nI t := by rw [eσ_263, upA_n (by decide)]; exact (pti hA).2
                      refine lv_iload hx hb dL_isDone_316 (lv_at hl 0 rfl) ?_
                      refine lv_if_eq (tgt := 329) hx hb dL_isDone_318 (by decide) (fun c_267 => ?_) (fun c_267 => ?_)
                      · skip
                        refine lv_bipush (v := (-20)) hx hb dL_isDone_329 (by decide) ?_
                        refine lv_icmp_ne (tgt := 338) hx hb dL_isDone_331 (by decide) (fun c_268 => ?_) (fun c_268 => ?_)
                        · skip
                          exact absurd c_268 (by decide)
                        · skip
                          refine lv_iconst (v := 1) hx hb dL_isDone_334 (by decide) ?_
                          refine lv_goto (tgt := 339) hx hb dL_isDone_335 (by decide) ?_
                          subst eσ_263
                          exact rRetZw hx hb hr hw (by decide) (by exact ⟨rfl, po_noidle hA hGa⟩) hlocks dL_isDone_339 (by omega) (by omega)
                      · skip
                        exact absurd c_267 (by decide)
                    · skip
                      exact absurd c_262 (by decide)
                  · skip
                    have c_261 : 0 < (o9 % 103) := n0_lef (by omega) c_261
                    refine lv_iload hx hb dL_isDone_265 (lv_at hl 2 rfl) ?_
                    refine lv_bipush (v := 103) hx hb dL_isDone_267 (by decide) ?_
                    refine lv_rep0 (x := 103) (y := nI 103) rfl ?_
                    refine lv_irem hx hb dL_isDone_269 (nI_ne0 (by omega) (by omega)) ?_
                    refine lv_rep0 (y := nI (o9 % 103)) (pk_rem (by omega) (by omega) (by omega)) ?_
                    refine lv_bipush (v := 101) hx hb dL_isDone_270 (by decide) ?_
                    refine lv_rep0 (x := 101) (y := nI 101) rfl ?_
                    refine lv_icmp_ge (tgt := 279) hx hb dL_isDone_272 (by decide) (fun c_269 => ?_) (fun c_269 => ?_)
                    · skip
                      have c_269 : 101 ≤ (o9 % 103) := (nI_leI (by omega) (by omega)).mp c_269
                      refine lv_iconst (v := 0) hx hb dL_isDone_279 (by decide) ?_
                      refine lv_istore (lv' := [(10, .int 0), (9, .int (nI v9)), (8, .int (nI u9)), (7, .int (nI o9)), (6, .int (nI q1)), (0, .ref (gad G 0)), (1, .ref (gsc G).1), (2, .int (nI at9)), (3, .ref (gad G 31)), (4, .ref (gad G 32)), (5, .ref (gad G 33))]) hx hb dL_isDone_280 hl (by decide) rfl (fun ls hl => ?_)
                      refine lv_aload hx hb dL_isDone_282 (lv_at hl 10 rfl) ?_
                      refine lv_bipush (v := 8) hx hb dL_isDone_284 (by decide) ?_
                      refine lv_rep0 (x := 8) (y := nI 8) rfl ?_
                      refine lv_dup2_11 hx hb dL_isDone_286 rfl rfl ?_
                      refine rAld hx hb fx hw 33 (hF.1 33 (by decide)) hF.2.1 (fun _ => rfl) 8 rfl (by omega) (by decide) dL_isDone_287 ?_
                      refine lv_rep0 (x := (σ 33 8)) (y := (nI t)) (pti hA).1 ?_
                      refine lv_iload hx hb dL_isDone_288 (lv_at hl 0 rfl) ?_
                      refine lv_if_eq (tgt := 301) hx hb dL_isDone_290 (by decide) (fun c_270 => ?_) (fun c_270 => ?_)
                      · skip
                        refine lv_iconst (v := 0) hx hb dL_isDone_301 (by decide) ?_
                        refine lv_rep0 (x := 0) (y := nI 0) rfl ?_
                        refine lv_iadd hx hb dL_isDone_302 ?_
                        refine lv_rep0 (x := ((nI t) + (nI 0))) (y := nI (t + 0)) (nI_add _ _) ?_
                        refine rAst (x := (nI (t + 0))) hx hb fx hw 33 (hF.1 33 (by decide)) hF.2.1 (fun _ => rfl) 8 rfl (by omega) (by decide) dL_isDone_303 (fun H locs hw => ?_)
                        obtain ⟨σ_271, eσ_271⟩ : ∃ w9, w9 = upA σ 33 (upd (σ 33) 8 (nI (t + 0))) := ⟨_, rfl⟩
                        rw [← eσ_271] at hw
                        refine lv_aload_n hx hb dL_isDone_304 rfl (lv_at hl 5 rfl) ?_
                        refine lv_iconst (v := 5) hx hb dL_isDone_305 (by decide) ?_
                        refine lv_iload hx hb dL_isDone_306 (lv_at hl 3 rfl) ?_
                        refine lv_bipush (v := 103) hx hb dL_isDone_308 (by decide) ?_
                        refine lv_rep0 (x := 103) (y := nI 103) rfl ?_
                        refine lv_irem hx hb dL_isDone_310 (nI_ne0 (by omega) (by omega)) ?_
                        refine lv_rep0 (y := nI (o9 % 103)) (pk_rem (by omega) (by omega) (by omega)) ?_
                        refine lv_iconst (v := 0) hx hb dL_isDone_311 (by decide) ?_
                        refine lv_iconst (v := 0) hx hb dL_isDone_312 (by decide) ?_
                        refine rCallLS (As := [.ref (gad G 0), .int 5, .int (nI (o9 % 103)), .int 0, .int 0]) (rest := []) ⟨hx, hb, hml, hown, hts⟩ fx hw (d5_t1 l hlt G hG hF σ_271 (show CIv σ_271 g n b e9 z from by rw [eσ_271]; exact (show CIv σ g n b e9 z from pcv hA)) ((nI (o9 % 103))) 0 0 (inR_no (lo := 1) (hi := 100) (by omega) (by decide) (by decide) (by omega))) (vx_cwSW 5 hts gL_isDone_L_does rfl rfl rfl (by decide +kernel) ⟨Nat.le_of_ble_eq_true rfl, Nat.le_of_ble_eq_true rfl⟩) rfl hl.1 rfl (Nat.le_of_ble_eq_true rfl) dL_isDone_313 ⟨Nat.le_trans (show _ ≤ 6 by omega) (Nat.le_of_ble_eq_true rfl), Nat.le_trans (show _ ≤ 60 by omega) (Nat.le_of_ble_eq_true rfl)⟩ (fun r_272 σ_273 H locs p_274 hw => ?_)
                        obtain ⟨er_272, eσ_273⟩ := p_274
                        have er_272 := er_272.symm; subst er_272
                        have eσ_273 := eσ_273.symm; subst eσ_273
                        have ht9 : σ_271 0 9 = nI t := by rw [eσ_271, upA_n (by decide)]; exact (pti hA).2
                        refine lv_iload hx hb dL_isDone_316 (lv_at hl 0 rfl) ?_
                        refine lv_if_eq (tgt := 329) hx hb dL_isDone_318 (by decide) (fun c_275 => ?_) (fun c_275 => ?_)
                        · skip
                          refine lv_bipush (v := (-20)) hx hb dL_isDone_329 (by decide) ?_
                          refine lv_icmp_ne (tgt := 338) hx hb dL_isDone_331 (by decide) (fun c_276 => ?_) (fun c_276 => ?_)
                          · skip
                            exact absurd c_276 (by decide)
                          · skip
                            refine lv_iconst (v := 1) hx hb dL_isDone_334 (by decide) ?_
                            refine lv_goto (tgt := 339) hx hb dL_isDone_335 (by decide) ?_
                            subst eσ_271
                            exact rRetZw hx hb hr hw (by decide) (by exact ⟨rfl, po_noidle hA hGa⟩) hlocks dL_isDone_339 (by omega) (by omega)
                        · skip
                          exact absurd c_275 (by decide)
                      · skip
                        exact absurd c_270 (by decide)
                    · skip
                      have c_269 : ¬ 101 ≤ (o9 % 103) := fun h9 => c_269 ((nI_leI (by omega) (by omega)).mpr h9)
                      refine lv_iconst (v := 1) hx hb dL_isDone_275 (by decide) ?_
                      refine lv_goto (tgt := 280) hx hb dL_isDone_276 (by decide) ?_
                      refine lv_istore (lv' := [(10, .int 1), (9, .int (nI v9)), (8, .int (nI u9)), (7, .int (nI o9)), (6, .int (nI q1)), (0, .ref (gad G 0)), (1, .ref (gsc G).1), (2, .int (nI at9)), (3, .ref (gad G 31)), (4, .ref (gad G 32)), (5, .ref (gad G 33))]) hx hb dL_isDone_280 hl (by decide) rfl (fun ls hl => ?_)
                      refine lv_aload hx hb dL_isDone_282 (lv_at hl 10 rfl) ?_
                      refine lv_bipush (v := 8) hx hb dL_isDone_284 (by decide) ?_
                      refine lv_rep0 (x := 8) (y := nI 8) rfl ?_
                      refine lv_dup2_11 hx hb dL_isDone_286 rfl rfl ?_
                      refine rAld hx hb fx hw 33 (hF.1 33 (by decide)) hF.2.1 (fun _ => rfl) 8 rfl (by omega) (by decide) dL_isDone_287 ?_
                      refine lv_rep0 (x := (σ 33 8)) (y := (nI t)) (pti hA).1 ?_
                      refine lv_iload hx hb dL_isDone_288 (lv_at hl 0 rfl) ?_
                      refine lv_if_eq (tgt := 301) hx hb dL_isDone_290 (by decide) (fun c_277 => ?_) (fun c_277 => ?_)
                      · skip
                        exact absurd c_277 (by decide)
                      · skip
                        refine lv_iload hx hb dL_isDone_293 (lv_at hl 3 rfl) ?_
                        refine lv_bipush (v := 103) hx hb dL_isDone_295 (by decide) ?_
                        refine lv_rep0 (x := 103) (y := nI 103) rfl ?_
                        refine lv_irem hx hb dL_isDone_297 (nI_ne0 (by omega) (by omega)) ?_
                        refine lv_rep0 (y := nI (o9 % 103)) (pk_rem (by omega) (by omega) (by omega)) ?_
                        refine lv_goto (tgt := 302) hx hb dL_isDone_298 (by decide) ?_
                        refine lv_iadd hx hb dL_isDone_302 ?_
                        refine lv_rep0 (x := ((nI t) + (nI (o9 % 103)))) (y := nI (t + (o9 % 103))) (nI_add _ _) ?_
                        refine rAst (x := (nI (t + (o9 % 103)))) hx hb fx hw 33 (hF.1 33 (by decide)) hF.2.1 (fun _ => rfl) 8 rfl (by omega) (by decide) dL_isDone_303 (fun H locs hw => ?_)
                        obtain ⟨σ_278, eσ_278⟩ : ∃ w9, w9 = upA σ 33 (upd (σ 33) 8 (nI (t + (o9 % 103)))) := ⟨_, rfl⟩
                        rw [← eσ_278] at hw
                        refine lv_aload_n hx hb dL_isDone_304 rfl (lv_at hl 5 rfl) ?_
                        refine lv_iconst (v := 5) hx hb dL_isDone_305 (by decide) ?_
                        refine lv_iload hx hb dL_isDone_306 (lv_at hl 3 rfl) ?_
                        refine lv_bipush (v := 103) hx hb dL_isDone_308 (by decide) ?_
                        refine lv_rep0 (x := 103) (y := nI 103) rfl ?_
                        refine lv_irem hx hb dL_isDone_310 (nI_ne0 (by omega) (by omega)) ?_
                        refine lv_rep0 (y := nI (o9 % 103)) (pk_rem (by omega) (by omega) (by omega)) ?_
                        refine lv_iconst (v := 0) hx hb dL_isDone_311 (by decide) ?_
                        refine lv_iconst (v := 0) hx hb dL_isDone_312 (by decide) ?_
                        refine rCallLS (As := [.ref (gad G 0), .int 5, .int (nI (o9 % 103)), .int 0, .int 0]) (rest := []) ⟨hx, hb, hml, hown, hts⟩ fx hw (d5_ok l hlt G hG hF σ_278 (show CIv σ_278 g n b e9 z from by rw [eσ_278]; exact (show CIv σ g n b e9 z from pcv hA)) ((o9 % 103)) 0 0 (by omega) (by omega)) (vx_cwSW 5 hts gL_isDone_L_does rfl rfl rfl (by decide +kernel) ⟨Nat.le_of_ble_eq_true rfl, Nat.le_of_ble_eq_true rfl⟩) rfl hl.1 rfl (Nat.le_of_ble_eq_true rfl) dL_isDone_313 ⟨Nat.le_trans (show _ ≤ 6 by omega) (Nat.le_of_ble_eq_true rfl), Nat.le_trans (show _ ≤ 60 by omega) (Nat.le_of_ble_eq_true rfl)⟩ (fun r_279 σ_280 H locs p_281 hw => ?_)
                        obtain ⟨er_279, eσ_280⟩ := p_281
                        have er_279 := er_279.symm; subst er_279
                        have ht9 : σ_278 0 9 = nI t := by rw [eσ_278, upA_n (by decide)]; exact (pti hA).2
                        refine lv_rep0 (x := (σ_278 0 9 + nI (o9 % 103))) (y := nI (t + (o9 % 103))) (by rw [ht9, nI_add]) ?_
                        refine lv_iload hx hb dL_isDone_316 (lv_at hl 0 rfl) ?_
                        refine lv_if_eq (tgt := 329) hx hb dL_isDone_318 (by decide) (fun c_282 => ?_) (fun c_282 => ?_)
                        · skip
                          exact absurd c_282 (by decide)
                        · skip
                          refine lv_aload hx hb dL_isDone_321 (lv_at hl 10 rfl) ?_
                          refine lv_bipush (v := 8) hx hb dL_isDone_323 (by decide) ?_
                          refine lv_rep0 (x := 8) (y := nI 8) rfl ?_
                          refine rAld hx hb fx hw 33 (hF.1 33 (by decide)) hF.2.1 (fun _ => rfl) 8 rfl (by omega) (by decide) dL_isDone_325 ?_
                          refine lv_rep0 (x := (σ_280 33 8)) (y := (nI (t + (o9 % 103)))) ((congrFun ((ag_one eσ_280 (by decide)) 33 (by decide)) 8).trans (ld_h eσ_278)) ?_
                          refine lv_goto (tgt := 331) hx hb dL_isDone_326 (by decide) ?_
                          refine lv_icmp_ne (tgt := 338) hx hb dL_isDone_331 (by decide) (fun c_283 => ?_) (fun c_283 => ?_)
                          · skip
                            exact absurd rfl c_283
                          · skip
                            refine lv_iconst (v := 1) hx hb dL_isDone_334 (by decide) ?_
                            refine lv_goto (tgt := 339) hx hb dL_isDone_335 (by decide) ?_
                            subst eσ_280
                            subst eσ_278
                            exact rRetZw hx hb hr hw (by decide) (by exact ⟨rfl, po_idle hA hGa (by omega)⟩) hlocks dL_isDone_339 (by omega) (by omega)
              · skip
                have c_233 : ¬ 34 ≤ q1 := fun h9 => c_233 ((nI_leI (by omega) (by omega)).mpr h9)
                refine lv_aload_n hx hb dL_isDone_220 rfl (lv_at hl 4 rfl) ?_
                refine lv_aload hx hb dL_isDone_221 (lv_at hl 8 rfl) ?_
                refine lv_aload hx hb dL_isDone_223 (lv_at hl 9 rfl) ?_
                refine lv_iload hx hb dL_isDone_225 (lv_at hl 2 rfl) ?_
                refine lv_aload hx hb dL_isDone_227 (lv_at hl 9 rfl) ?_
                refine lv_iconst (v := 2) hx hb dL_isDone_229 (by decide) ?_
                refine lv_rep0 (x := 2) (y := nI 2) rfl ?_
                refine rAld hx hb fx hw 33 (hF.1 33 (by decide)) hF.2.1 (fun _ => rfl) 2 rfl (by omega) (by decide) dL_isDone_230 ?_
                refine lv_rep0 (x := (σ 33 2)) (y := (nI n)) (pn hA).1 ?_
                refine lv_iconst (v := 1) hx hb dL_isDone_231 (by decide) ?_
                refine lv_rep0 (x := 1) (y := nI 1) rfl ?_
                refine lv_iadd hx hb dL_isDone_232 ?_
                refine lv_rep0 (x := ((nI n) + (nI 1))) (y := nI (n + 1)) (nI_add _ _) ?_
                refine lv_irem hx hb dL_isDone_233 (nI_ne0 (by omega) (by omega)) ?_
                refine lv_rep0 (y := nI (o9 % (n + 1))) (pk_rem (by omega) (by omega) (by omega)) ?_
                have hrm9 := Nat.mod_lt o9 (show 0 < (n + 1) by omega)
                refine lv_iload hx hb dL_isDone_234 (lv_at hl 3 rfl) ?_
                refine lv_bipush (v := 30) hx hb dL_isDone_236 (by decide) ?_
                refine lv_rep0 (x := 30) (y := nI 30) rfl ?_
                refine lv_icmp_le (tgt := 245) hx hb dL_isDone_238 (by decide) (fun c_284 => ?_) (fun c_284 => ?_)
                · skip
                  have c_284 : q1 ≤ 30 := (nI_leI (by omega) (by omega)).mp c_284
                  refine lv_iconst (v := 0) hx hb dL_isDone_245 (by decide) ?_
                  refine rCallM (As := [.ref (gad G 0), .ref (gad G 32), .ref (gad G 33), .int (nI (o9 % (n + 1))), .int 0]) (rest := []) ⟨hx, hb, hml, hown, hts⟩ fx hw (kL_isItem_0 l hlt G hG hF σ hA hGa hj ((o9 % (n + 1))) (by omega)) (va_cwS 5 hts gL_isDone_L_isItem rfl rfl rfl (by decide +kernel) ⟨Nat.le_of_ble_eq_true rfl, Nat.le_of_ble_eq_true rfl⟩) rfl hl.1 rfl (Nat.le_of_ble_eq_true rfl) dL_isDone_246 ⟨Nat.le_trans (show _ ≤ 6 by omega) (Nat.le_of_ble_eq_true rfl), Nat.le_trans (show _ ≤ 60 by omega) (Nat.le_of_ble_eq_true rfl)⟩ (fun r_285 σ_286 H locs p_287 hw => ?_)
                  obtain ⟨er_285, p_287_0⟩ := p_287
                  have er_285 := er_285.symm; subst er_285
                  exact rRetZw hx hb hr hw (by decide) (by exact ⟨rfl, by assumption⟩) hlocks dL_isDone_249 (by omega) (by omega)
                · skip
                  have c_284 : ¬ q1 ≤ 30 := fun h9 => c_284 ((nI_leI (by omega) (by omega)).mpr h9)
                  refine lv_iconst (v := 1) hx hb dL_isDone_241 (by decide) ?_
                  refine lv_goto (tgt := 246) hx hb dL_isDone_242 (by decide) ?_
                  refine rCallM (As := [.ref (gad G 0), .ref (gad G 32), .ref (gad G 33), .int (nI (o9 % (n + 1))), .int 1]) (rest := []) ⟨hx, hb, hml, hown, hts⟩ fx hw (kL_isItem_1 l hlt G hG hF σ hA hGa hj ((o9 % (n + 1))) (by omega)) (va_cwS 5 hts gL_isDone_L_isItem rfl rfl rfl (by decide +kernel) ⟨Nat.le_of_ble_eq_true rfl, Nat.le_of_ble_eq_true rfl⟩) rfl hl.1 rfl (Nat.le_of_ble_eq_true rfl) dL_isDone_246 ⟨Nat.le_trans (show _ ≤ 6 by omega) (Nat.le_of_ble_eq_true rfl), Nat.le_trans (show _ ≤ 60 by omega) (Nat.le_of_ble_eq_true rfl)⟩ (fun r_288 σ_289 H locs p_290 hw => ?_)
                  obtain ⟨er_288, p_290_0⟩ := p_290
                  have er_288 := er_288.symm; subst er_288
                  exact rRetZw hx hb hr hw (by decide) (by exact ⟨rfl, by assumption⟩) hlocks dL_isDone_249 (by omega) (by omega)
            · skip
              have c_232 : ¬ 28 ≤ q1 := fun h9 => c_232 ((nI_leI (by omega) (by omega)).mpr h9)
              refine lv_iload hx hb dL_isDone_145 (lv_at hl 2 rfl) ?_
              refine lv_aload hx hb dL_isDone_147 (lv_at hl 9 rfl) ?_
              refine lv_iconst (v := 2) hx hb dL_isDone_149 (by decide) ?_
              refine lv_rep0 (x := 2) (y := nI 2) rfl ?_
              refine rAld hx hb fx hw 33 (hF.1 33 (by decide)) hF.2.1 (fun _ => rfl) 2 rfl (by omega) (by decide) dL_isDone_150 ?_
              refine lv_rep0 (x := (σ 33 2)) (y := (nI n)) (pn hA).1 ?_
              refine lv_iconst (v := 1) hx hb dL_isDone_151 (by decide) ?_
              refine lv_rep0 (x := 1) (y := nI 1) rfl ?_
              refine lv_iadd hx hb dL_isDone_152 ?_
              refine lv_rep0 (x := ((nI n) + (nI 1))) (y := nI (n + 1)) (nI_add _ _) ?_
              refine lv_irem hx hb dL_isDone_153 (nI_ne0 (by omega) (by omega)) ?_
              refine lv_rep0 (y := nI (o9 % (n + 1))) (pk_rem (by omega) (by omega) (by omega)) ?_
              have hrm9 := Nat.mod_lt o9 (show 0 < (n + 1) by omega)
              refine lv_istore (lv' := [(10, .int (nI (o9 % (n + 1)))), (9, .int (nI v9)), (8, .int (nI u9)), (7, .int (nI o9)), (6, .int (nI q1)), (0, .ref (gad G 0)), (1, .ref (gsc G).1), (2, .int (nI at9)), (3, .ref (gad G 31)), (4, .ref (gad G 32)), (5, .ref (gad G 33))]) hx hb dL_isDone_154 hl (by decide) rfl (fun ls hl => ?_)
              obtain ⟨k9, hk9⟩ : ∃ k9, k9 = o9 % (n + 1) := ⟨_, rfl⟩
              have hkn : k9 ≤ n := by rw [hk9]; exact Nat.le_of_lt_succ (Nat.mod_lt _ (Nat.succ_pos n))
              have q_291 : (nI (o9 % (n + 1))) = (nI k9) := by rw [hk9]
              have hl : lv_has ls 11 [(10, .int (nI k9)), (9, .int (nI v9)), (8, .int (nI u9)), (7, .int (nI o9)), (6, .int (nI q1)), (0, .ref (gad G 0)), (1, .ref (gsc G).1), (2, .int (nI at9)), (3, .ref (gad G 31)), (4, .ref (gad G 32)), (5, .ref (gad G 33))] := (lv_c (lv_atq hl 0 rfl q_291) (lv_c (lv_at hl 1 rfl) (lv_c (lv_at hl 2 rfl) (lv_c (lv_at hl 3 rfl) (lv_c (lv_at hl 4 rfl) (lv_c (lv_at hl 5 rfl) (lv_c (lv_at hl 6 rfl) (lv_c (lv_at hl 7 rfl) (lv_c (lv_at hl 8 rfl) (lv_c (lv_at hl 9 rfl) (lv_c (lv_at hl 10 rfl) (lv_c0 hl))))))))))))
              refine lv_aload_n hx hb dL_isDone_156 rfl (lv_at hl 5 rfl) ?_
              refine lv_aload_n hx hb dL_isDone_157 rfl (lv_at hl 8 rfl) ?_
              refine lv_aload hx hb dL_isDone_158 (lv_at hl 9 rfl) ?_
              refine lv_aload hx hb dL_isDone_160 (lv_at hl 10 rfl) ?_
              refine lv_iload hx hb dL_isDone_162 (lv_at hl 0 rfl) ?_
              refine lv_iload hx hb dL_isDone_164 (lv_at hl 2 rfl) ?_
              refine lv_iconst (v := 3) hx hb dL_isDone_166 (by decide) ?_
              refine lv_rep0 (x := 3) (y := nI 3) rfl ?_
              refine lv_irem hx hb dL_isDone_167 (nI_ne0 (by omega) (by omega)) ?_
              refine lv_rep0 (y := nI (u9 % 3)) (pk_rem (by omega) (by omega) (by omega)) ?_
              refine lv_if_le (tgt := 200) hx hb dL_isDone_168 (by decide) (fun c_292 => ?_) (fun c_292 => ?_)
              · skip
                have c_292 : (u9 % 3) = 0 := n0_let (by omega) c_292
                refine lv_iload hx hb dL_isDone_200 (lv_at hl 1 rfl) ?_
                refine lv_aload hx hb dL_isDone_202 (lv_at hl 10 rfl) ?_
                refine lv_iconst (v := 0) hx hb dL_isDone_204 (by decide) ?_
                refine lv_rep0 (x := 0) (y := nI 0) rfl ?_
                refine rAld hx hb fx hw 33 (hF.1 33 (by decide)) hF.2.1 (fun _ => rfl) 0 rfl (by omega) (by decide) dL_isDone_205 ?_
                refine lv_rep0 (x := (σ 33 0)) (y := (nI g)) (pg hA).1 ?_
                refine lv_iconst (v := 1) hx hb dL_isDone_206 (by decide) ?_
                refine lv_rep0 (x := 1) (y := nI 1) rfl ?_
                refine lv_iadd hx hb dL_isDone_207 ?_
                refine lv_rep0 (x := ((nI g) + (nI 1))) (y := nI (g + 1)) (nI_add _ _) ?_
                refine lv_irem hx hb dL_isDone_208 (nI_ne0 (by omega) (by omega)) ?_
                refine lv_rep0 (y := nI (v9 % (g + 1))) (pk_rem (by omega) (by omega) (by omega)) ?_
                have hrm9 := Nat.mod_lt v9 (show 0 < (g + 1) by omega)
                refine rCallM (As := [.ref (gad G 0), .ref (gad G 31), .ref (gad G 32), .ref (gad G 33), .int (nI k9), .int (nI (v9 % (g + 1)))]) (rest := []) ⟨hx, hb, hml, hown, hts⟩ fx hw (kL_isPassed l hlt G hG hF σ hA hGa hj k9 ((v9 % (g + 1))) (by omega) (by omega)) (va_cwS 6 hts gL_isDone_L_isPassed rfl rfl rfl (by decide +kernel) ⟨Nat.le_of_ble_eq_true rfl, Nat.le_of_ble_eq_true rfl⟩) rfl hl.1 rfl (Nat.le_of_ble_eq_true rfl) dL_isDone_209 ⟨Nat.le_trans (show _ ≤ 6 by omega) (Nat.le_of_ble_eq_true rfl), Nat.le_trans (show _ ≤ 60 by omega) (Nat.le_of_ble_eq_true rfl)⟩ (fun r_293 σ_294 H locs p_295 hw => ?_)
                obtain ⟨er_293, p_295_0⟩ := p_295
                have er_293 := er_293.symm; subst er_293
                exact rRetZw hx hb hr hw (by decide) (by exact ⟨rfl, by assumption⟩) hlocks dL_isDone_212 (by omega) (by omega)
              · skip
                have c_292 : 0 < (u9 % 3) := n0_lef (by omega) c_292
                refine lv_iload hx hb dL_isDone_171 (lv_at hl 0 rfl) ?_
                refine lv_aload hx hb dL_isDone_173 (lv_at hl 10 rfl) ?_
                refine lv_iconst (v := 2) hx hb dL_isDone_175 (by decide) ?_
                refine lv_rep0 (x := 2) (y := nI 2) rfl ?_
                refine rAld hx hb fx hw 33 (hF.1 33 (by decide)) hF.2.1 (fun _ => rfl) 2 rfl (by omega) (by decide) dL_isDone_176 ?_
                refine lv_rep0 (x := (σ 33 2)) (y := (nI n)) (pn hA).1 ?_
                refine lv_icmp_ge (tgt := 200) hx hb dL_isDone_177 (by decide) (fun c_296 => ?_) (fun c_296 => ?_)
                · skip
                  have c_296 : n ≤ k9 := (nI_leI (by omega) (by omega)).mp c_296
                  refine lv_iload hx hb dL_isDone_200 (lv_at hl 1 rfl) ?_
                  refine lv_aload hx hb dL_isDone_202 (lv_at hl 10 rfl) ?_
                  refine lv_iconst (v := 0) hx hb dL_isDone_204 (by decide) ?_
                  refine lv_rep0 (x := 0) (y := nI 0) rfl ?_
                  refine rAld hx hb fx hw 33 (hF.1 33 (by decide)) hF.2.1 (fun _ => rfl) 0 rfl (by omega) (by decide) dL_isDone_205 ?_
                  refine lv_rep0 (x := (σ 33 0)) (y := (nI g)) (pg hA).1 ?_
                  refine lv_iconst (v := 1) hx hb dL_isDone_206 (by decide) ?_
                  refine lv_rep0 (x := 1) (y := nI 1) rfl ?_
                  refine lv_iadd hx hb dL_isDone_207 ?_
                  refine lv_rep0 (x := ((nI g) + (nI 1))) (y := nI (g + 1)) (nI_add _ _) ?_
                  refine lv_irem hx hb dL_isDone_208 (nI_ne0 (by omega) (by omega)) ?_
                  refine lv_rep0 (y := nI (v9 % (g + 1))) (pk_rem (by omega) (by omega) (by omega)) ?_
                  have hrm9 := Nat.mod_lt v9 (show 0 < (g + 1) by omega)
                  refine rCallM (As := [.ref (gad G 0), .ref (gad G 31), .ref (gad G 32), .ref (gad G 33), .int (nI k9), .int (nI (v9 % (g + 1)))]) (rest := []) ⟨hx, hb, hml, hown, hts⟩ fx hw (kL_isPassed l hlt G hG hF σ hA hGa hj k9 ((v9 % (g + 1))) (by omega) (by omega)) (va_cwS 6 hts gL_isDone_L_isPassed rfl rfl rfl (by decide +kernel) ⟨Nat.le_of_ble_eq_true rfl, Nat.le_of_ble_eq_true rfl⟩) rfl hl.1 rfl (Nat.le_of_ble_eq_true rfl) dL_isDone_209 ⟨Nat.le_trans (show _ ≤ 6 by omega) (Nat.le_of_ble_eq_true rfl), Nat.le_trans (show _ ≤ 60 by omega) (Nat.le_of_ble_eq_true rfl)⟩ (fun r_297 σ_298 H locs p_299 hw => ?_)
                  obtain ⟨er_297, p_299_0⟩ := p_299
                  have er_297 := er_297.symm; subst er_297
                  exact rRetZw hx hb hr hw (by decide) (by exact ⟨rfl, by assumption⟩) hlocks dL_isDone_212 (by omega) (by omega)
                · skip
                  have c_296 : ¬ n ≤ k9 := fun h9 => c_296 ((nI_leI (by omega) (by omega)).mpr h9)
                  obtain ⟨ga, hga1, hga2⟩ := hGa k9 (by omega)
                  refine lv_aload hx hb dL_isDone_180 (lv_at hl 9 rfl) ?_
                  refine lv_bipush (v := 6) hx hb dL_isDone_182 (by decide) ?_
                  refine lv_iload hx hb dL_isDone_184 (lv_at hl 0 rfl) ?_
                  refine lv_rep1 (x := 6) (y := nI 6) rfl ?_
                  refine lv_imul hx hb dL_isDone_186 ?_
                  refine lv_rep0 (x := ((nI 6) * (nI k9))) (y := nI (6 * k9)) (pk_mul _ _) ?_
                  refine lv_iconst (v := 1) hx hb dL_isDone_187 (by decide) ?_
                  refine lv_rep0 (x := 1) (y := nI 1) rfl ?_
                  refine lv_iadd hx hb dL_isDone_188 ?_
                  refine lv_rep0 (x := ((nI (6 * k9)) + (nI 1))) (y := nI ((6 * k9) + 1)) (nI_add _ _) ?_
                  refine rAld hx hb fx hw 32 (hF.1 32 (by decide)) hF.2.1 (fun _ => rfl) ((6 * k9) + 1) rfl (by omega) (by decide) dL_isDone_189 ?_
                  refine lv_rep0 (x := (σ 32 ((6 * k9) + 1))) (y := (nI ga)) hga2 ?_
                  refine lv_iconst (v := 1) hx hb dL_isDone_190 (by decide) ?_
                  refine lv_rep0 (x := 1) (y := nI 1) rfl ?_
                  refine lv_iadd hx hb dL_isDone_191 ?_
                  refine lv_rep0 (x := ((nI ga) + (nI 1))) (y := nI (ga + 1)) (nI_add _ _) ?_
                  refine lv_aload hx hb dL_isDone_192 (lv_at hl 10 rfl) ?_
                  refine lv_iconst (v := 0) hx hb dL_isDone_194 (by decide) ?_
                  refine lv_rep0 (x := 0) (y := nI 0) rfl ?_
                  refine rAld hx hb fx hw 33 (hF.1 33 (by decide)) hF.2.1 (fun _ => rfl) 0 rfl (by omega) (by decide) dL_isDone_195 ?_
                  refine lv_rep0 (x := (σ 33 0)) (y := (nI g)) (pg hA).1 ?_
                  refine lv_irem hx hb dL_isDone_196 (nI_ne0 (by omega) (by omega)) ?_
                  refine lv_rep0 (y := nI ((ga + 1) % g)) (pk_rem (by omega) (by omega) (by omega)) ?_
                  have hrm9 := Nat.mod_lt (ga + 1) (show 0 < g by omega)
                  refine lv_goto (tgt := 209) hx hb dL_isDone_197 (by decide) ?_
                  refine rCallM (As := [.ref (gad G 0), .ref (gad G 31), .ref (gad G 32), .ref (gad G 33), .int (nI k9), .int (nI ((ga + 1) % g))]) (rest := []) ⟨hx, hb, hml, hown, hts⟩ fx hw (kL_isPassed l hlt G hG hF σ hA hGa hj k9 (((ga + 1) % g)) (by omega) (by omega)) (va_cwS 6 hts gL_isDone_L_isPassed rfl rfl rfl (by decide +kernel) ⟨Nat.le_of_ble_eq_true rfl, Nat.le_of_ble_eq_true rfl⟩) rfl hl.1 rfl (Nat.le_of_ble_eq_true rfl) dL_isDone_209 ⟨Nat.le_trans (show _ ≤ 6 by omega) (Nat.le_of_ble_eq_true rfl), Nat.le_trans (show _ ≤ 60 by omega) (Nat.le_of_ble_eq_true rfl)⟩ (fun r_300 σ_301 H locs p_302 hw => ?_)
                  obtain ⟨er_300, p_302_0⟩ := p_302
                  have er_300 := er_300.symm; subst er_300
                  exact rRetZw hx hb hr hw (by decide) (by exact ⟨rfl, by assumption⟩) hlocks dL_isDone_212 (by omega) (by omega)
          · skip
            have c_231 : ¬ 14 ≤ q1 := fun h9 => c_231 ((nI_leI (by omega) (by omega)).mpr h9)
            refine lv_aload_n hx hb dL_isDone_109 rfl (lv_at hl 4 rfl) ?_
            refine lv_aload_n hx hb dL_isDone_110 rfl (lv_at hl 7 rfl) ?_
            refine lv_aload hx hb dL_isDone_111 (lv_at hl 8 rfl) ?_
            refine lv_aload hx hb dL_isDone_113 (lv_at hl 9 rfl) ?_
            refine lv_iload hx hb dL_isDone_115 (lv_at hl 2 rfl) ?_
            refine lv_bipush (v := 9) hx hb dL_isDone_117 (by decide) ?_
            refine lv_rep0 (x := 9) (y := nI 9) rfl ?_
            refine lv_irem hx hb dL_isDone_119 (nI_ne0 (by omega) (by omega)) ?_
            refine lv_rep0 (y := nI (o9 % 9)) (pk_rem (by omega) (by omega) (by omega)) ?_
            refine lv_if_ne (tgt := 128) hx hb dL_isDone_120 (by decide) (fun c_303 => ?_) (fun c_303 => ?_)
            · skip
              have c_303 : ¬ (o9 % 9) = 0 := n0_net (by omega) c_303
              refine lv_iconst (v := 1) hx hb dL_isDone_128 (by decide) ?_
              refine lv_iload hx hb dL_isDone_129 (lv_at hl 2 rfl) ?_
              refine lv_iconst (v := 3) hx hb dL_isDone_131 (by decide) ?_
              refine lv_rep0 (x := 3) (y := nI 3) rfl ?_
              refine lv_irem hx hb dL_isDone_132 (nI_ne0 (by omega) (by omega)) ?_
              refine lv_rep0 (y := nI (o9 % 3)) (pk_rem (by omega) (by omega) (by omega)) ?_
              refine lv_rep1 (x := 1) (y := nI 1) rfl ?_
              refine lv_iadd hx hb dL_isDone_133 ?_
              refine lv_rep0 (x := ((nI 1) + (nI (o9 % 3)))) (y := nI (1 + (o9 % 3))) (nI_add _ _) ?_
              refine rCallM (As := [.ref (gad G 0), .ref (gad G 31), .ref (gad G 32), .ref (gad G 33), .int (nI (1 + (o9 % 3)))]) (rest := []) ⟨hx, hb, hml, hown, hts⟩ fx hw (kL_isStarted l hlt G hG hF σ hA hGa hj ((1 + (o9 % 3))) (by omega) (by omega)) (va_cwS 5 hts gL_isDone_L_isStarted rfl rfl rfl (by decide +kernel) ⟨Nat.le_of_ble_eq_true rfl, Nat.le_of_ble_eq_true rfl⟩) rfl hl.1 rfl (Nat.le_of_ble_eq_true rfl) dL_isDone_134 ⟨Nat.le_trans (show _ ≤ 6 by omega) (Nat.le_of_ble_eq_true rfl), Nat.le_trans (show _ ≤ 60 by omega) (Nat.le_of_ble_eq_true rfl)⟩ (fun r_304 σ_305 H locs p_306 hw => ?_)
              obtain ⟨er_304, p_306_0⟩ := p_306
              have er_304 := er_304.symm; subst er_304
              exact rRetZw hx hb hr hw (by decide) (by exact ⟨rfl, by assumption⟩) hlocks dL_isDone_137 (by omega) (by omega)
            · skip
              have c_303 : (o9 % 9) = 0 := n0_nef (by omega) c_303
              refine lv_bipush (v := 10) hx hb dL_isDone_123 (by decide) ?_
              refine lv_goto (tgt := 134) hx hb dL_isDone_125 (by decide) ?_
              refine lv_rep0 (x := 10) (y := nI 10) rfl ?_
              refine rCallM (As := [.ref (gad G 0), .ref (gad G 31), .ref (gad G 32), .ref (gad G 33), .int (nI 10)]) (rest := []) ⟨hx, hb, hml, hown, hts⟩ fx hw (kL_isStarted l hlt G hG hF σ hA hGa hj 10 (by omega) (by omega)) (va_cwS 5 hts gL_isDone_L_isStarted rfl rfl rfl (by decide +kernel) ⟨Nat.le_of_ble_eq_true rfl, Nat.le_of_ble_eq_true rfl⟩) rfl hl.1 rfl (Nat.le_of_ble_eq_true rfl) dL_isDone_134 ⟨Nat.le_trans (show _ ≤ 6 by omega) (Nat.le_of_ble_eq_true rfl), Nat.le_trans (show _ ≤ 60 by omega) (Nat.le_of_ble_eq_true rfl)⟩ (fun r_307 σ_308 H locs p_309 hw => ?_)
              obtain ⟨er_307, p_309_0⟩ := p_309
              have er_307 := er_307.symm; subst er_307
              exact rRetZw hx hb hr hw (by decide) (by exact ⟨rfl, by assumption⟩) hlocks dL_isDone_137 (by omega) (by omega)
        · skip
          have c_230 : q1 = 0 := n0_nef (by omega) c_230
          refine lv_aload_n hx hb dL_isDone_64 rfl (lv_at hl 4 rfl) ?_
          refine lv_aload_n hx hb dL_isDone_65 rfl (lv_at hl 7 rfl) ?_
          refine lv_aload hx hb dL_isDone_66 (lv_at hl 8 rfl) ?_
          refine lv_aload hx hb dL_isDone_68 (lv_at hl 9 rfl) ?_
          refine lv_iload hx hb dL_isDone_70 (lv_at hl 3 rfl) ?_
          refine lv_iconst (v := 3) hx hb dL_isDone_72 (by decide) ?_
          refine lv_rep0 (x := 3) (y := nI 3) rfl ?_
          refine lv_icmp_ge (tgt := 80) hx hb dL_isDone_73 (by decide) (fun c_310 => ?_) (fun c_310 => ?_)
          · skip
            have c_310 : 3 ≤ q1 := (nI_leI (by omega) (by omega)).mp c_310
            refine lv_iload hx hb dL_isDone_80 (lv_at hl 3 rfl) ?_
            refine lv_bipush (v := 7) hx hb dL_isDone_82 (by decide) ?_
            refine lv_rep0 (x := 7) (y := nI 7) rfl ?_
            refine lv_icmp_ge (tgt := 91) hx hb dL_isDone_84 (by decide) (fun c_311 => ?_) (fun c_311 => ?_)
            · skip
              have c_311 : 7 ≤ q1 := (nI_leI (by omega) (by omega)).mp c_311
              refine lv_iconst (v := 2) hx hb dL_isDone_91 (by decide) ?_
              refine lv_iload hx hb dL_isDone_92 (lv_at hl 2 rfl) ?_
              refine lv_iload hx hb dL_isDone_94 (lv_at hl 1 rfl) ?_
              refine lv_iload hx hb dL_isDone_96 (lv_at hl 0 rfl) ?_
              refine rCallM (As := [.ref (gad G 0), .ref (gad G 31), .ref (gad G 32), .ref (gad G 33), .int 2, .int (nI o9), .int (nI u9), .int (nI v9)]) (rest := []) ⟨hx, hb, hml, hown, hts⟩ fx hw (kL_isLaid_2 l hlt G hG hF σ hA hGa hj o9 u9 v9 (by omega) (by omega) (by omega)) (va_cwS 8 hts gL_isDone_L_isLaid rfl rfl rfl (by decide +kernel) ⟨Nat.le_of_ble_eq_true rfl, Nat.le_of_ble_eq_true rfl⟩) rfl hl.1 rfl (Nat.le_of_ble_eq_true rfl) dL_isDone_98 ⟨Nat.le_trans (show _ ≤ 6 by omega) (Nat.le_of_ble_eq_true rfl), Nat.le_trans (show _ ≤ 60 by omega) (Nat.le_of_ble_eq_true rfl)⟩ (fun r_312 σ_313 H locs p_314 hw => ?_)
              obtain ⟨er_312, p_314_0⟩ := p_314
              have er_312 := er_312.symm; subst er_312
              exact rRetZw hx hb hr hw (by decide) (by exact ⟨rfl, by assumption⟩) hlocks dL_isDone_101 (by omega) (by omega)
            · skip
              have c_311 : ¬ 7 ≤ q1 := fun h9 => c_311 ((nI_leI (by omega) (by omega)).mpr h9)
              refine lv_iconst (v := 1) hx hb dL_isDone_87 (by decide) ?_
              refine lv_goto (tgt := 92) hx hb dL_isDone_88 (by decide) ?_
              refine lv_iload hx hb dL_isDone_92 (lv_at hl 2 rfl) ?_
              refine lv_iload hx hb dL_isDone_94 (lv_at hl 1 rfl) ?_
              refine lv_iload hx hb dL_isDone_96 (lv_at hl 0 rfl) ?_
              refine rCallM (As := [.ref (gad G 0), .ref (gad G 31), .ref (gad G 32), .ref (gad G 33), .int 1, .int (nI o9), .int (nI u9), .int (nI v9)]) (rest := []) ⟨hx, hb, hml, hown, hts⟩ fx hw (kL_isLaid_1 l hlt G hG hF σ hA hGa hj o9 u9 v9 (by omega) (by omega) (by omega)) (va_cwS 8 hts gL_isDone_L_isLaid rfl rfl rfl (by decide +kernel) ⟨Nat.le_of_ble_eq_true rfl, Nat.le_of_ble_eq_true rfl⟩) rfl hl.1 rfl (Nat.le_of_ble_eq_true rfl) dL_isDone_98 ⟨Nat.le_trans (show _ ≤ 6 by omega) (Nat.le_of_ble_eq_true rfl), Nat.le_trans (show _ ≤ 60 by omega) (Nat.le_of_ble_eq_true rfl)⟩ (fun r_315 σ_316 H locs p_317 hw => ?_)
              obtain ⟨er_315, p_317_0⟩ := p_317
              have er_315 := er_315.symm; subst er_315
              exact rRetZw hx hb hr hw (by decide) (by exact ⟨rfl, by assumption⟩) hlocks dL_isDone_101 (by omega) (by omega)
          · skip
            have c_310 : ¬ 3 ≤ q1 := fun h9 => c_310 ((nI_leI (by omega) (by omega)).mpr h9)
            refine lv_iconst (v := 0) hx hb dL_isDone_76 (by decide) ?_
            refine lv_goto (tgt := 92) hx hb dL_isDone_77 (by decide) ?_
            refine lv_iload hx hb dL_isDone_92 (lv_at hl 2 rfl) ?_
            refine lv_iload hx hb dL_isDone_94 (lv_at hl 1 rfl) ?_
            refine lv_iload hx hb dL_isDone_96 (lv_at hl 0 rfl) ?_
            refine rCallM (As := [.ref (gad G 0), .ref (gad G 31), .ref (gad G 32), .ref (gad G 33), .int 0, .int (nI o9), .int (nI u9), .int (nI v9)]) (rest := []) ⟨hx, hb, hml, hown, hts⟩ fx hw (kL_isLaid_0 l hlt G hG hF σ hA hGa hj o9 u9 v9 (by omega) (by omega) (by omega)) (va_cwS 8 hts gL_isDone_L_isLaid rfl rfl rfl (by decide +kernel) ⟨Nat.le_of_ble_eq_true rfl, Nat.le_of_ble_eq_true rfl⟩) rfl hl.1 rfl (Nat.le_of_ble_eq_true rfl) dL_isDone_98 ⟨Nat.le_trans (show _ ≤ 6 by omega) (Nat.le_of_ble_eq_true rfl), Nat.le_trans (show _ ≤ 60 by omega) (Nat.le_of_ble_eq_true rfl)⟩ (fun r_318 σ_319 H locs p_320 hw => ?_)
            obtain ⟨er_318, p_320_0⟩ := p_320
            have er_318 := er_318.symm; subst er_318
            exact rRetZw hx hb hr hw (by decide) (by exact ⟨rfl, by assumption⟩) hlocks dL_isDone_101 (by omega) (by omega)
