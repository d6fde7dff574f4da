/-! the karts -/
theorem rk_ag {τ σ : St} {n k : Nat} (h : AgP τ σ) : rkA τ n k = rkA σ n k := by
  unfold rkA
  exact cntA_cong n (fun a _ => ahB_cong (h 4 (by decide)) (h 5 (by decide)) (h 6 (by decide)) (h 7 (by decide)) (h 9 (by decide)) (h 3 (by decide)) a k)
theorem AgP_tr {a b c : St} (h1 : AgP a b) (h2 : AgP b c) : AgP a c := fun k hk => (h1 k hk).trans (h2 k hk)
theorem it_ge {x : Int32} (h : x = -1 ∨ ∃ q : Nat, q < 4 ∧ x = nI q) : ¬ x < -1 := by
  rcases h with rfl | ⟨q, hq, rfl⟩
  · decide
  · intro h
    rw [Int32.lt_iff_toInt_lt, nI_toInt (by omega), show (-1 : Int32).toInt = -1 by decide] at h
    omega
theorem it_l4 {x : Int32} (h : x = -1 ∨ ∃ q : Nat, q < 4 ∧ x = nI q) : ¬ 4 ≤ x := by
  rcases h with rfl | ⟨q, hq, rfl⟩
  · decide
  · intro h
    rw [Int32.le_iff_toInt_le, nI_toInt (by omega), show (4 : Int32).toInt = 4 by decide] at h
    omega

def rmL_areKarts : Room := ({ frames := 9, cells := 44, slots := 280, locals := 149 } : Room)
set_option maxHeartbeats 4000000 in
set_option maxRecDepth 100000 in
theorem kL_areKarts (l : Launch) (hlt : l.stackTraces = false) (G : Gx) (hG : gOk G) (hF : Full G) (σ : St) {g n e9 z d t j : Nat} {b : Bool} (hA : PAll σ g n e9 z d t b j) (hj : j < 100)  : CmI l yL_areKarts wsL_areKarts rmL_areKarts G σ [.ref (gad G 0), .ref (gad G 32), .ref (gad G 33)] (fun r σ' => r = 1 ∧ PAll σ' g n e9 z d t b j ∧ AgP σ' σ) 44 280 := by
  refine bgM (cc := cL_areKarts) (maxL := 10) (ret := (some .boolean)) (own := RL) (by decide) rfl rfl hG (Nat.le_of_ble_eq_true rfl) rfl ?_
  intro p e s m args below meth c ls Bd hl
  obtain ⟨hx, hb, hr, hml, hts, hown, hlocks, fx, hw⟩ := Bd
  have hl : lv_has ls 10 [(0, .ref (gad G 0)), (1, .ref (gad G 32)), (2, .ref (gad G 33))] := hl
  have hg5 := (pg hA).2
  have hn6 := (pn hA).2
  have he8 := (pe hA).2
  rcases Bool.eq_false_or_eq_true b with hbo | hbo
  · skip
    refine lv_iconst (v := 0) hx hb dL_areKarts_0 (by decide) ?_
    refine lv_istore_n (lv' := [(3, .int 0), (0, .ref (gad G 0)), (1, .ref (gad G 32)), (2, .ref (gad G 33))]) hx hb dL_areKarts_1 rfl hl (by decide) rfl (fun ls hl => ?_)
    refine lv_aload_n hx hb dL_areKarts_2 rfl (lv_at hl 1 rfl) ?_
    refine rCallI (C := RX5) (As := []) (rest := []) ⟨hx, hb, hml, hown, hts⟩ fx hw (kX5_isOn l G hG hF σ g n e9 z b (pcv hA)) (cwV 0 hts gL_areKarts_X5_isOn rfl rfl rfl (by decide +kernel) ⟨Nat.le_of_ble_eq_true rfl, Nat.le_of_ble_eq_true rfl⟩) (hF.1 0 (by decide)) rfl rfl rfl rfl hl.1 rfl (Nat.le_of_ble_eq_true rfl) dL_areKarts_3 ⟨Nat.le_trans (show _ ≤ 44 by omega) (Nat.le_of_ble_eq_true rfl), Nat.le_trans (show _ ≤ 280 by omega) (Nat.le_of_ble_eq_true rfl)⟩ (fun r_1 σ_2 H locs p_3 hw => ?_)
    obtain ⟨er_1, eσ_2⟩ := p_3
    have er_1 := er_1.symm; subst er_1
    have eσ_2 := eσ_2.symm; subst eσ_2
    refine lv_rep0 (x := (bI b)) (y := 1) (by rw [hbo]; rfl) ?_
    refine lv_aload_n hx hb dL_areKarts_6 rfl (lv_at hl 3 rfl) ?_
    refine lv_iconst (v := 3) hx hb dL_areKarts_7 (by decide) ?_
    refine lv_rep0 (x := 3) (y := nI 3) rfl ?_
    refine rAld hx hb fx hw 33 (hF.1 33 (by decide)) hF.2.1 (fun _ => rfl) 3 rfl (by omega) (by decide) dL_areKarts_8 ?_
    refine lv_rep0 (x := (σ 33 3)) (y := 1) ((pon hA).trans (by rw [hbo]; rfl)) ?_
    refine lv_iconst (v := 1) hx hb dL_areKarts_9 (by decide) ?_
    refine lv_icmp_ne (tgt := 17) hx hb dL_areKarts_10 (by decide) (fun c_4 => ?_) (fun c_4 => ?_)
    · skip
      exact absurd c_4 (by decide)
    · skip
      refine lv_iconst (v := 1) hx hb dL_areKarts_13 (by decide) ?_
      refine lv_goto (tgt := 18) hx hb dL_areKarts_14 (by decide) ?_
      refine lv_icmp_ne (tgt := 85) hx hb dL_areKarts_18 (by decide) (fun c_5 => ?_) (fun c_5 => ?_)
      · skip
        exact absurd c_5 (by decide)
      · skip
        refine lv_aload_n hx hb dL_areKarts_21 rfl (lv_at hl 1 rfl) ?_
        refine lv_iconst (v := 1) hx hb dL_areKarts_22 (by decide) ?_
        refine lv_aload_n hx hb dL_areKarts_23 rfl (lv_at hl 3 rfl) ?_
        refine lv_iconst (v := 2) hx hb dL_areKarts_24 (by decide) ?_
        refine lv_rep0 (x := 2) (y := nI 2) rfl ?_
        refine rAld hx hb fx hw 33 (hF.1 33 (by decide)) hF.2.1 (fun _ => rfl) 2 rfl (by omega) (by decide) dL_areKarts_25 ?_
        refine lv_rep0 (x := (σ 33 2)) (y := (nI n)) (pn hA).1 ?_
        refine lv_iconst (v := 0) hx hb dL_areKarts_26 (by decide) ?_
        refine rCallLS (As := [.ref (gad G 0), .int 1, .int (nI n), .int 0]) (rest := []) ⟨hx, hb, hml, hown, hts⟩ fx hw (a_1T l hlt G hG hF σ hA ((nI n)) 0 (inB_no (Nat.le_refl n) (by omega))) (vx_cwSW 4 hts gL_areKarts_L_asks rfl rfl rfl (by decide +kernel) ⟨Nat.le_of_ble_eq_true rfl, Nat.le_of_ble_eq_true rfl⟩) rfl hl.1 rfl (Nat.le_of_ble_eq_true rfl) dL_areKarts_27 ⟨Nat.le_trans (show _ ≤ 44 by omega) (Nat.le_of_ble_eq_true rfl), Nat.le_trans (show _ ≤ 280 by omega) (Nat.le_of_ble_eq_true rfl)⟩ (fun r_6 σ_7 H locs p_8 hw => ?_)
        obtain ⟨er_6, eσ_7⟩ := p_8
        have er_6 := er_6.symm; subst er_6
        have eσ_7 := eσ_7.symm; subst eσ_7
        refine lv_sipush (v := (-3000)) hx hb dL_areKarts_30 (by decide) ?_
        refine lv_icmp_ne (tgt := 85) hx hb dL_areKarts_33 (by decide) (fun c_9 => ?_) (fun c_9 => ?_)
        · skip
          exact absurd c_9 (by decide)
        · skip
          refine lv_aload_n hx hb dL_areKarts_36 rfl (lv_at hl 1 rfl) ?_
          refine lv_iconst (v := 4) hx hb dL_areKarts_37 (by decide) ?_
          refine lv_iconst (v := (-1)) hx hb dL_areKarts_38 (by decide) ?_
          refine lv_iconst (v := 0) hx hb dL_areKarts_39 (by decide) ?_
          refine rCallLS (As := [.ref (gad G 0), .int 4, .int (-1), .int 0]) (rest := []) ⟨hx, hb, hml, hown, hts⟩ fx hw (a_4T l hlt G hG hF σ hA (-1) 0 (inB_m1 n)) (vx_cwSW 4 hts gL_areKarts_L_asks rfl rfl rfl (by decide +kernel) ⟨Nat.le_of_ble_eq_true rfl, Nat.le_of_ble_eq_true rfl⟩) rfl hl.1 rfl (Nat.le_of_ble_eq_true rfl) dL_areKarts_40 ⟨Nat.le_trans (show _ ≤ 44 by omega) (Nat.le_of_ble_eq_true rfl), Nat.le_trans (show _ ≤ 280 by omega) (Nat.le_of_ble_eq_true rfl)⟩ (fun r_10 σ_11 H locs p_12 hw => ?_)
          obtain ⟨er_10, eσ_11⟩ := p_12
          have er_10 := er_10.symm; subst er_10
          have eσ_11 := eσ_11.symm; subst eσ_11
          refine lv_sipush (v := (-3000)) hx hb dL_areKarts_43 (by decide) ?_
          refine lv_icmp_ne (tgt := 85) hx hb dL_areKarts_46 (by decide) (fun c_13 => ?_) (fun c_13 => ?_)
          · skip
            exact absurd c_13 (by decide)
          · skip
            refine lv_aload_n hx hb dL_areKarts_49 rfl (lv_at hl 1 rfl) ?_
            refine lv_bipush (v := 7) hx hb dL_areKarts_50 (by decide) ?_
            refine lv_aload_n hx hb dL_areKarts_52 rfl (lv_at hl 3 rfl) ?_
            refine lv_iconst (v := 2) hx hb dL_areKarts_53 (by decide) ?_
            refine lv_rep0 (x := 2) (y := nI 2) rfl ?_
            refine rAld hx hb fx hw 33 (hF.1 33 (by decide)) hF.2.1 (fun _ => rfl) 2 rfl (by omega) (by decide) dL_areKarts_54 ?_
            refine lv_rep0 (x := (σ 33 2)) (y := (nI n)) (pn hA).1 ?_
            refine lv_iconst (v := 0) hx hb dL_areKarts_55 (by decide) ?_
            refine rCallLS (As := [.ref (gad G 0), .int 7, .int (nI n), .int 0]) (rest := []) ⟨hx, hb, hml, hown, hts⟩ fx hw (a_7T l hlt G hG hF σ hA ((nI n)) 0 (inB_no (Nat.le_refl n) (by omega))) (vx_cwSW 4 hts gL_areKarts_L_asks rfl rfl rfl (by decide +kernel) ⟨Nat.le_of_ble_eq_true rfl, Nat.le_of_ble_eq_true rfl⟩) rfl hl.1 rfl (Nat.le_of_ble_eq_true rfl) dL_areKarts_56 ⟨Nat.le_trans (show _ ≤ 44 by omega) (Nat.le_of_ble_eq_true rfl), Nat.le_trans (show _ ≤ 280 by omega) (Nat.le_of_ble_eq_true rfl)⟩ (fun r_14 σ_15 H locs p_16 hw => ?_)
            obtain ⟨er_14, eσ_15⟩ := p_16
            have er_14 := er_14.symm; subst er_14
            have eσ_15 := eσ_15.symm; subst eσ_15
            refine lv_sipush (v := (-3000)) hx hb dL_areKarts_59 (by decide) ?_
            refine lv_icmp_ne (tgt := 85) hx hb dL_areKarts_62 (by decide) (fun c_17 => ?_) (fun c_17 => ?_)
            · skip
              exact absurd c_17 (by decide)
            · skip
              refine lv_aload_n hx hb dL_areKarts_65 rfl (lv_at hl 1 rfl) ?_
              refine lv_bipush (v := 8) hx hb dL_areKarts_66 (by decide) ?_
              refine lv_aload_n hx hb dL_areKarts_68 rfl (lv_at hl 3 rfl) ?_
              refine lv_iconst (v := 2) hx hb dL_areKarts_69 (by decide) ?_
              refine lv_rep0 (x := 2) (y := nI 2) rfl ?_
              refine rAld hx hb fx hw 33 (hF.1 33 (by decide)) hF.2.1 (fun _ => rfl) 2 rfl (by omega) (by decide) dL_areKarts_70 ?_
              refine lv_rep0 (x := (σ 33 2)) (y := (nI n)) (pn hA).1 ?_
              refine lv_iconst (v := 0) hx hb dL_areKarts_71 (by decide) ?_
              refine rCallLS (As := [.ref (gad G 0), .int 8, .int (nI n), .int 0]) (rest := []) ⟨hx, hb, hml, hown, hts⟩ fx hw (a_8T l hlt G hG hF σ hA ((nI n)) 0 (inB_no (Nat.le_refl n) (by omega))) (vx_cwSW 4 hts gL_areKarts_L_asks rfl rfl rfl (by decide +kernel) ⟨Nat.le_of_ble_eq_true rfl, Nat.le_of_ble_eq_true rfl⟩) rfl hl.1 rfl (Nat.le_of_ble_eq_true rfl) dL_areKarts_72 ⟨Nat.le_trans (show _ ≤ 44 by omega) (Nat.le_of_ble_eq_true rfl), Nat.le_trans (show _ ≤ 280 by omega) (Nat.le_of_ble_eq_true rfl)⟩ (fun r_18 σ_19 H locs p_20 hw => ?_)
              obtain ⟨er_18, eσ_19⟩ := p_20
              have er_18 := er_18.symm; subst er_18
              have eσ_19 := eσ_19.symm; subst eσ_19
              refine lv_sipush (v := (-3000)) hx hb dL_areKarts_75 (by decide) ?_
              refine lv_icmp_ne (tgt := 85) hx hb dL_areKarts_78 (by decide) (fun c_21 => ?_) (fun c_21 => ?_)
              · skip
                exact absurd c_21 (by decide)
              · skip
                refine lv_iconst (v := 1) hx hb dL_areKarts_81 (by decide) ?_
                refine lv_goto (tgt := 86) hx hb dL_areKarts_82 (by decide) ?_
                refine lv_istore (lv' := [(4, .int 1), (3, .int 0), (0, .ref (gad G 0)), (1, .ref (gad G 32)), (2, .ref (gad G 33))]) hx hb dL_areKarts_86 hl (by decide) rfl (fun ls hl => ?_)
                refine lv_iconst (v := 0) hx hb dL_areKarts_88 (by decide) ?_
                refine lv_istore (lv' := [(5, .int 0), (4, .int 1), (3, .int 0), (0, .ref (gad G 0)), (1, .ref (gad G 32)), (2, .ref (gad G 33))]) hx hb dL_areKarts_89 hl (by decide) rfl (fun ls hl => ?_)
                have lab_91 : ∀ (n9 : Nat), ∀ (i : Nat) (τ : St), n - i < n9 → i ≤ n → AgP τ σ → ∀ (H : Heap) (locs : List Loc) (ls : Array Slot), Wd G s τ H locs → lv_has ls 10 [(0, .ref (gad G 0)), (1, .ref (gad G 32)), (2, .ref (gad G 33)), (3, .int (mskA (rkA σ n) i)), (4, .int 1), (5, .int (nI i))] → W p l e rmL_areKarts s m args below meth c H locs (4) (24) (MQ below (va_Qi (fun r σ' => r = 1 ∧ PAll σ' g n e9 z d t b j ∧ AgP σ' σ) (BW G) (gA G)) args s 44 280 (gA G)) (F0 m 91 ls []) := by
                  intro n9
                  induction n9 with
                  | zero => intro i τ hn9; exact absurd hn9 (Nat.not_lt_zero _)
                  | succ n9 ih91 =>
                    intro i τ hn9 h91_0 h91_1 H locs ls hw hl
                    refine lv_iload hx hb dL_areKarts_91 (lv_at hl 5 rfl) ?_
                    refine lv_aload_n hx hb dL_areKarts_93 rfl (lv_at hl 2 rfl) ?_
                    refine lv_iconst (v := 2) hx hb dL_areKarts_94 (by decide) ?_
                    refine lv_rep0 (x := 2) (y := nI 2) rfl ?_
                    refine rAld hx hb fx hw 33 (hF.1 33 (by decide)) hF.2.1 (fun _ => rfl) 2 rfl (by omega) (by decide) dL_areKarts_95 ?_
                    refine lv_rep0 (x := (τ 33 2)) (y := (nI n)) ((congrFun (h91_1 33 (by decide)) 2).trans (pn hA).1) ?_
                    refine lv_icmp_ge (tgt := 400) hx hb dL_areKarts_96 (by decide) (fun c_22 => ?_) (fun c_22 => ?_)
                    · skip
                      have c_22 : n ≤ i := (nI_leI (by omega) (by omega)).mp c_22
                      refine lv_iload hx hb dL_areKarts_400 (lv_at hl 4 rfl) ?_
                      refine lv_if_eq (tgt := 426) hx hb dL_areKarts_402 (by decide) (fun c_23 => ?_) (fun c_23 => ?_)
                      · skip
                        exact absurd c_23 (by decide)
                      · skip
                        refine lv_aload_n hx hb dL_areKarts_405 rfl (lv_at hl 2 rfl) ?_
                        refine lv_iconst (v := 3) hx hb dL_areKarts_406 (by decide) ?_
                        refine lv_rep0 (x := 3) (y := nI 3) rfl ?_
                        refine rAld hx hb fx hw 33 (hF.1 33 (by decide)) hF.2.1 (fun _ => rfl) 3 rfl (by omega) (by decide) dL_areKarts_407 ?_
                        refine lv_rep0 (x := (τ 33 3)) (y := 1) ((congrFun (h91_1 33 (by decide)) 3).trans ((pon hA).trans (by rw [hbo]; rfl))) ?_
                        refine lv_if_eq (tgt := 422) hx hb dL_areKarts_408 (by decide) (fun c_24 => ?_) (fun c_24 => ?_)
                        · skip
                          exact absurd c_24 (by decide)
                        · skip
                          refine lv_iload_n hx hb dL_areKarts_411 rfl (lv_at hl 3 rfl) ?_
                          refine lv_iconst (v := 1) hx hb dL_areKarts_412 (by decide) ?_
                          refine lv_aload_n hx hb dL_areKarts_413 rfl (lv_at hl 2 rfl) ?_
                          refine lv_iconst (v := 2) hx hb dL_areKarts_414 (by decide) ?_
                          refine lv_rep0 (x := 2) (y := nI 2) rfl ?_
                          refine rAld hx hb fx hw 33 (hF.1 33 (by decide)) hF.2.1 (fun _ => rfl) 2 rfl (by omega) (by decide) dL_areKarts_415 ?_
                          refine lv_rep0 (x := (τ 33 2)) (y := (nI n)) ((congrFun (h91_1 33 (by decide)) 2).trans (pn hA).1) ?_
                          refine lv_ishl hx hb dL_areKarts_416 ?_
                          refine lv_iconst (v := 1) hx hb dL_areKarts_417 (by decide) ?_
                          refine lv_isub hx hb dL_areKarts_418 ?_
                          refine lv_icmp_ne (tgt := 426) hx hb dL_areKarts_419 (by decide) (fun c_25 => ?_) (fun c_25 => ?_)
                          · skip
                            exact absurd (by rw [show i = n by omega]; exact pmask hA hbo) c_25
                          · skip
                            refine lv_iconst (v := 1) hx hb dL_areKarts_422 (by decide) ?_
                            refine lv_goto (tgt := 427) hx hb dL_areKarts_423 (by decide) ?_
                            exact rRetZw hx hb hr hw (by decide) (by exact ⟨rfl, PAll_of h91_1 hA, h91_1⟩) hlocks dL_areKarts_427 (by omega) (by omega)
                    · skip
                      have c_22 : ¬ n ≤ i := fun h9 => c_22 ((nI_leI (by omega) (by omega)).mpr h9)
                      refine lv_iload hx hb dL_areKarts_99 (lv_at hl 4 rfl) ?_
                      refine lv_if_eq (tgt := 400) hx hb dL_areKarts_101 (by decide) (fun c_26 => ?_) (fun c_26 => ?_)
                      · skip
                        exact absurd c_26 (by decide)
                      · skip
                        have hit9 := P24 (prace (PAll_of h91_1 hA) hbo) i (by omega)
                        refine lv_aload_n hx hb dL_areKarts_104 rfl (lv_at hl 0 rfl) ?_
                        refine lv_iload hx hb dL_areKarts_105 (lv_at hl 5 rfl) ?_
                        refine rCallN (C := RX5) (As := [.int (nI i)]) (rest := []) ⟨hx, hb, hml, hown, hts⟩ fx hw (n_itemOf1 l hlt G hG hF τ (PAll_of h91_1 hA) hbo i (by omega)) (cwV 1 hts gL_areKarts_X5_itemOf rfl rfl rfl (by decide +kernel) ⟨Nat.le_of_ble_eq_true rfl, Nat.le_of_ble_eq_true rfl⟩) (hF.1 0 (by decide)) rfl rfl rfl rfl hl.1 rfl (Nat.le_of_ble_eq_true rfl) dL_areKarts_107 ⟨Nat.le_trans (show _ ≤ 44 by omega) (Nat.le_of_ble_eq_true rfl), Nat.le_trans (show _ ≤ 280 by omega) (Nat.le_of_ble_eq_true rfl)⟩ (fun r_27 σ_28 H locs p_29 hw => ?_)
                        obtain ⟨er_27, eσ_28⟩ := p_29
                        have er_27 := er_27.symm; subst er_27
                        have eσ_28 := eσ_28.symm; subst eσ_28
                        refine lv_istore (lv' := [(6, .int (τ 24 i)), (0, .ref (gad G 0)), (1, .ref (gad G 32)), (2, .ref (gad G 33)), (3, .int (mskA (rkA σ n) i)), (4, .int 1), (5, .int (nI i))]) hx hb dL_areKarts_110 hl (by decide) rfl (fun ls hl => ?_)
                        refine lv_aload_n hx hb dL_areKarts_112 rfl (lv_at hl 1 rfl) ?_
                        refine lv_iload hx hb dL_areKarts_113 (lv_at hl 6 rfl) ?_
                        refine rCallN (C := RX5) (As := [.int (nI i)]) (rest := []) ⟨hx, hb, hml, hown, hts⟩ fx hw (n_stunned1 l hlt G hG hF τ (PAll_of h91_1 hA) hj hbo i (by omega)) (cwV 1 hts gL_areKarts_X5_stunned rfl rfl rfl (by decide +kernel) ⟨Nat.le_of_ble_eq_true rfl, Nat.le_of_ble_eq_true rfl⟩) (hF.1 0 (by decide)) rfl rfl rfl rfl hl.1 rfl (Nat.le_of_ble_eq_true rfl) dL_areKarts_115 ⟨Nat.le_trans (show _ ≤ 44 by omega) (Nat.le_of_ble_eq_true rfl), Nat.le_trans (show _ ≤ 280 by omega) (Nat.le_of_ble_eq_true rfl)⟩ (fun r_30 σ_31 H locs p_32 hw => ?_)
                        obtain ⟨er_30, eσ_31, p_32_0⟩ := p_32
                        have er_30 := er_30.symm; subst er_30
                        have eσ_31 := eσ_31.symm; subst eσ_31
                        refine lv_istore (lv' := [(7, .int (nI (stN τ i))), (6, .int (τ 24 i)), (0, .ref (gad G 0)), (1, .ref (gad G 32)), (2, .ref (gad G 33)), (3, .int (mskA (rkA σ n) i)), (4, .int 1), (5, .int (nI i))]) hx hb dL_areKarts_118 hl (by decide) rfl (fun ls hl => ?_)
                        refine lv_aload_n hx hb dL_areKarts_120 rfl (lv_at hl 4 rfl) ?_
                        refine lv_iconst (v := 3) hx hb dL_areKarts_121 (by decide) ?_
                        refine lv_rep0 (x := 3) (y := nI 3) rfl ?_
                        refine rAld hx hb fx hw 33 (hF.1 33 (by decide)) hF.2.1 (fun _ => rfl) 3 rfl (by omega) (by decide) dL_areKarts_122 ?_
                        refine lv_rep0 (x := (τ 33 3)) (y := 1) ((congrFun (h91_1 33 (by decide)) 3).trans ((pon hA).trans (by rw [hbo]; rfl))) ?_
                        refine lv_if_ne (tgt := 232) hx hb dL_areKarts_123 (by decide) (fun c_33 => ?_) (fun c_33 => ?_)
                        · skip
                          refine lv_aload_n hx hb dL_areKarts_232 rfl (lv_at hl 2 rfl) ?_
                          refine lv_iload hx hb dL_areKarts_233 (lv_at hl 7 rfl) ?_
                          refine rCallN (C := RX5) (As := [.int (nI i)]) (rest := []) ⟨hx, hb, hml, hown, hts⟩ fx hw (n_rank l hlt G hG hF τ (PAll_of h91_1 hA) hbo i (by omega)) (cwV 1 hts gL_areKarts_X5_rank rfl rfl rfl (by decide +kernel) ⟨Nat.le_of_ble_eq_true rfl, Nat.le_of_ble_eq_true rfl⟩) (hF.1 0 (by decide)) rfl rfl rfl rfl hl.1 rfl (Nat.le_of_ble_eq_true rfl) dL_areKarts_235 ⟨Nat.le_trans (show _ ≤ 44 by omega) (Nat.le_of_ble_eq_true rfl), Nat.le_trans (show _ ≤ 280 by omega) (Nat.le_of_ble_eq_true rfl)⟩ (fun r_34 σ_35 H locs p_36 hw => ?_)
                          obtain ⟨er_34, eσ_35, p_36_0⟩ := p_36
                          have er_34 := er_34.symm; subst er_34
                          have eσ_35 := eσ_35.symm; subst eσ_35
                          refine lv_rep0 (x := (nI (rkA τ n i))) (y := nI (rkA σ n i)) (by rw [rk_ag h91_1]) ?_
                          have hrl9 := rkA_lt (σ := σ) (n := n) (k := i) (by omega)
                          refine lv_istore (lv' := [(8, .int (nI (rkA σ n i))), (7, .int (nI (stN τ i))), (6, .int (τ 24 i)), (0, .ref (gad G 0)), (1, .ref (gad G 32)), (2, .ref (gad G 33)), (3, .int (mskA (rkA σ n) i)), (4, .int 1), (5, .int (nI i))]) hx hb dL_areKarts_238 hl (by decide) rfl (fun ls hl => ?_)
                          refine lv_iload_n hx hb dL_areKarts_240 rfl (lv_at hl 6 rfl) ?_
                          refine lv_iconst (v := 1) hx hb dL_areKarts_241 (by decide) ?_
                          refine lv_iload hx hb dL_areKarts_242 (lv_at hl 0 rfl) ?_
                          refine lv_ishl hx hb dL_areKarts_244 ?_
                          refine lv_ior hx hb dL_areKarts_245 ?_
                          refine lv_istore_n (lv' := [(3, .int ((mskA (rkA σ n) i) ||| ((1 : Int32) <<< ((nI (rkA σ n i)) &&& 31)))), (8, .int (nI (rkA σ n i))), (7, .int (nI (stN τ i))), (6, .int (τ 24 i)), (0, .ref (gad G 0)), (1, .ref (gad G 32)), (2, .ref (gad G 33)), (4, .int 1), (5, .int (nI i))]) hx hb dL_areKarts_246 rfl hl (by decide) rfl (fun ls hl => ?_)
                          refine lv_aload_n hx hb dL_areKarts_247 rfl (lv_at hl 4 rfl) ?_
                          refine lv_iload hx hb dL_areKarts_248 (lv_at hl 8 rfl) ?_
                          refine rCallN (C := RX5) (As := [.int (nI i)]) (rest := []) ⟨hx, hb, hml, hown, hts⟩ fx hw (n_catchUp l hlt G hG hF τ (PAll_of h91_1 hA) hbo i (by omega)) (cwV 1 hts gL_areKarts_X5_catchUp rfl rfl rfl (by decide +kernel) ⟨Nat.le_of_ble_eq_true rfl, Nat.le_of_ble_eq_true rfl⟩) (hF.1 0 (by decide)) rfl rfl rfl rfl hl.1 rfl (Nat.le_of_ble_eq_true rfl) dL_areKarts_250 ⟨Nat.le_trans (show _ ≤ 44 by omega) (Nat.le_of_ble_eq_true rfl), Nat.le_trans (show _ ≤ 280 by omega) (Nat.le_of_ble_eq_true rfl)⟩ (fun r_37 σ_38 H locs p_39 hw => ?_)
                          obtain ⟨er_37, eσ_38, p_39_0, p_39_1⟩ := p_39
                          have er_37 := er_37.symm; subst er_37
                          have eσ_38 := eσ_38.symm; subst eσ_38
                          have hcu8 := p_39_0
                          have hcu9 := p_39_1
                          refine lv_istore (lv' := [(9, .int (nI (cuN τ n i))), (3, .int ((mskA (rkA σ n) i) ||| ((1 : Int32) <<< ((nI (rkA σ n i)) &&& 31)))), (8, .int (nI (rkA σ n i))), (7, .int (nI (stN τ i))), (6, .int (τ 24 i)), (0, .ref (gad G 0)), (1, .ref (gad G 32)), (2, .ref (gad G 33)), (4, .int 1), (5, .int (nI i))]) hx hb dL_areKarts_253 hl (by decide) rfl (fun ls hl => ?_)
                          refine lv_iload hx hb dL_areKarts_255 (lv_at hl 4 rfl) ?_
                          refine lv_iconst (v := (-1)) hx hb dL_areKarts_257 (by decide) ?_
                          refine lv_icmp_lt (tgt := 391) hx hb dL_areKarts_258 (by decide) (fun c_40 => ?_) (fun c_40 => ?_)
                          · skip
                            exact absurd c_40 (it_ge hit9)
                          · skip
                            refine lv_iload hx hb dL_areKarts_261 (lv_at hl 4 rfl) ?_
                            refine lv_iconst (v := 4) hx hb dL_areKarts_263 (by decide) ?_
                            refine lv_icmp_ge (tgt := 391) hx hb dL_areKarts_264 (by decide) (fun c_41 => ?_) (fun c_41 => ?_)
                            · skip
                              exact absurd c_41 (it_l4 hit9)
                            · skip
                              refine lv_iload hx hb dL_areKarts_267 (lv_at hl 3 rfl) ?_
                              refine lv_if_lt (tgt := 391) hx hb dL_areKarts_269 (by decide) (fun c_42 => ?_) (fun c_42 => ?_)
                              · skip
                                exact (n0_ltt (by omega) c_42).elim
                              · skip
                                have c_42 : True := n0_ltf (by omega) c_42
                                refine lv_iload hx hb dL_areKarts_272 (lv_at hl 3 rfl) ?_
                                refine lv_bipush (v := 6) hx hb dL_areKarts_274 (by decide) ?_
                                refine lv_rep0 (x := 6) (y := nI 6) rfl ?_
                                refine lv_icmp_ge (tgt := 391) hx hb dL_areKarts_276 (by decide) (fun c_43 => ?_) (fun c_43 => ?_)
                                · skip
                                  have c_43 : 6 ≤ (stN τ i) := (nI_leI (by omega) (by omega)).mp c_43
                                  omega
                                · skip
                                  have c_43 : ¬ 6 ≤ (stN τ i) := fun h9 => c_43 ((nI_leI (by omega) (by omega)).mpr h9)
                                  refine lv_aload_n hx hb dL_areKarts_279 rfl (lv_at hl 5 rfl) ?_
                                  refine lv_iload hx hb dL_areKarts_280 (lv_at hl 9 rfl) ?_
                                  refine rCallN (C := RX5) (As := [.int (nI i)]) (rest := []) ⟨hx, hb, hml, hown, hts⟩ fx hw (n_gateOf l hlt G hG hF τ (PAll_of h91_1 hA) hbo i (by omega)) (cwV 1 hts gL_areKarts_X5_gateOf rfl rfl rfl (by decide +kernel) ⟨Nat.le_of_ble_eq_true rfl, Nat.le_of_ble_eq_true rfl⟩) (hF.1 0 (by decide)) rfl rfl rfl rfl hl.1 rfl (Nat.le_of_ble_eq_true rfl) dL_areKarts_282 ⟨Nat.le_trans (show _ ≤ 44 by omega) (Nat.le_of_ble_eq_true rfl), Nat.le_trans (show _ ≤ 280 by omega) (Nat.le_of_ble_eq_true rfl)⟩ (fun r_44 σ_45 H locs p_46 hw => ?_)
                                  obtain ⟨er_44, eσ_45⟩ := p_46
                                  have er_44 := er_44.symm; subst er_44
                                  have eσ_45 := eσ_45.symm; subst eσ_45
                                  refine lv_aload_n hx hb dL_areKarts_285 rfl (lv_at hl 6 rfl) ?_
                                  refine lv_bipush (v := 6) hx hb dL_areKarts_286 (by decide) ?_
                                  refine lv_iload hx hb dL_areKarts_288 (lv_at hl 9 rfl) ?_
                                  refine lv_rep1 (x := 6) (y := nI 6) rfl ?_
                                  refine lv_imul hx hb dL_areKarts_290 ?_
                                  refine lv_rep0 (x := ((nI 6) * (nI i))) (y := nI (6 * i)) (pk_mul _ _) ?_
                                  refine lv_iconst (v := 1) hx hb dL_areKarts_291 (by decide) ?_
                                  refine lv_rep0 (x := 1) (y := nI 1) rfl ?_
                                  refine lv_iadd hx hb dL_areKarts_292 ?_
                                  refine lv_rep0 (x := ((nI (6 * i)) + (nI 1))) (y := nI ((6 * i) + 1)) (nI_add _ _) ?_
                                  refine rAld hx hb fx hw 32 (hF.1 32 (by decide)) hF.2.1 (fun _ => rfl) ((6 * i) + 1) rfl (by omega) (by decide) dL_areKarts_293 ?_
                                  refine lv_icmp_ne (tgt := 391) hx hb dL_areKarts_294 (by decide) (fun c_47 => ?_) (fun c_47 => ?_)
                                  · skip
                                    exact absurd rfl c_47
                                  · skip
                                    refine lv_aload_n hx hb dL_areKarts_297 rfl (lv_at hl 5 rfl) ?_
                                    refine lv_iload hx hb dL_areKarts_298 (lv_at hl 9 rfl) ?_
                                    refine rCallN (C := RX5) (As := [.int (nI i)]) (rest := []) ⟨hx, hb, hml, hown, hts⟩ fx hw (n_lapsOf l hlt G hG hF τ (PAll_of h91_1 hA) hbo i (by omega)) (cwV 1 hts gL_areKarts_X5_lapsOf rfl rfl rfl (by decide +kernel) ⟨Nat.le_of_ble_eq_true rfl, Nat.le_of_ble_eq_true rfl⟩) (hF.1 0 (by decide)) rfl rfl rfl rfl hl.1 rfl (Nat.le_of_ble_eq_true rfl) dL_areKarts_300 ⟨Nat.le_trans (show _ ≤ 44 by omega) (Nat.le_of_ble_eq_true rfl), Nat.le_trans (show _ ≤ 280 by omega) (Nat.le_of_ble_eq_true rfl)⟩ (fun r_48 σ_49 H locs p_50 hw => ?_)
                                    obtain ⟨er_48, eσ_49⟩ := p_50
                                    have er_48 := er_48.symm; subst er_48
                                    have eσ_49 := eσ_49.symm; subst eσ_49
                                    refine lv_aload_n hx hb dL_areKarts_303 rfl (lv_at hl 6 rfl) ?_
                                    refine lv_bipush (v := 6) hx hb dL_areKarts_304 (by decide) ?_
                                    refine lv_iload hx hb dL_areKarts_306 (lv_at hl 9 rfl) ?_
                                    refine lv_rep1 (x := 6) (y := nI 6) rfl ?_
                                    refine lv_imul hx hb dL_areKarts_308 ?_
                                    refine lv_rep0 (x := ((nI 6) * (nI i))) (y := nI (6 * i)) (pk_mul _ _) ?_
                                    refine lv_iconst (v := 2) hx hb dL_areKarts_309 (by decide) ?_
                                    refine lv_rep0 (x := 2) (y := nI 2) rfl ?_
                                    refine lv_iadd hx hb dL_areKarts_310 ?_
                                    refine lv_rep0 (x := ((nI (6 * i)) + (nI 2))) (y := nI ((6 * i) + 2)) (nI_add _ _) ?_
                                    refine rAld hx hb fx hw 32 (hF.1 32 (by decide)) hF.2.1 (fun _ => rfl) ((6 * i) + 2) rfl (by omega) (by decide) dL_areKarts_311 ?_
                                    refine lv_aload_n hx hb dL_areKarts_312 rfl (lv_at hl 6 rfl) ?_
                                    refine lv_bipush (v := 6) hx hb dL_areKarts_313 (by decide) ?_
                                    refine lv_iload hx hb dL_areKarts_315 (lv_at hl 9 rfl) ?_
                                    refine lv_rep1 (x := 6) (y := nI 6) rfl ?_
                                    refine lv_imul hx hb dL_areKarts_317 ?_
                                    refine lv_rep0 (x := ((nI 6) * (nI i))) (y := nI (6 * i)) (pk_mul _ _) ?_
                                    refine lv_iconst (v := 3) hx hb dL_areKarts_318 (by decide) ?_
                                    refine lv_rep0 (x := 3) (y := nI 3) rfl ?_
                                    refine lv_iadd hx hb dL_areKarts_319 ?_
                                    refine lv_rep0 (x := ((nI (6 * i)) + (nI 3))) (y := nI ((6 * i) + 3)) (nI_add _ _) ?_
                                    refine rAld hx hb fx hw 32 (hF.1 32 (by decide)) hF.2.1 (fun _ => rfl) ((6 * i) + 3) rfl (by omega) (by decide) dL_areKarts_320 ?_
                                    refine lv_isub hx hb dL_areKarts_321 ?_
                                    refine lv_icmp_ne (tgt := 391) hx hb dL_areKarts_322 (by decide) (fun c_51 => ?_) (fun c_51 => ?_)
                                    · skip
                                      exact absurd rfl c_51
                                    · skip
                                      refine lv_aload_n hx hb dL_areKarts_325 rfl (lv_at hl 5 rfl) ?_
                                      refine lv_iload hx hb dL_areKarts_326 (lv_at hl 9 rfl) ?_
                                      refine rCallN (C := RX5) (As := [.int (nI i)]) (rest := []) ⟨hx, hb, hml, hown, hts⟩ fx hw (n_missing l hlt G hG hF τ (PAll_of h91_1 hA) hbo i (by omega)) (cwV 1 hts gL_areKarts_X5_missing rfl rfl rfl (by decide +kernel) ⟨Nat.le_of_ble_eq_true rfl, Nat.le_of_ble_eq_true rfl⟩) (hF.1 0 (by decide)) rfl rfl rfl rfl hl.1 rfl (Nat.le_of_ble_eq_true rfl) dL_areKarts_328 ⟨Nat.le_trans (show _ ≤ 44 by omega) (Nat.le_of_ble_eq_true rfl), Nat.le_trans (show _ ≤ 280 by omega) (Nat.le_of_ble_eq_true rfl)⟩ (fun r_52 σ_53 H locs p_54 hw => ?_)
                                      obtain ⟨er_52, eσ_53⟩ := p_54
                                      have er_52 := er_52.symm; subst er_52
                                      have eσ_53 := eσ_53.symm; subst eσ_53
                                      refine lv_aload_n hx hb dL_areKarts_331 rfl (lv_at hl 7 rfl) ?_
                                      refine lv_iconst (v := 1) hx hb dL_areKarts_332 (by decide) ?_
                                      refine lv_rep0 (x := 1) (y := nI 1) rfl ?_
                                      refine rAld hx hb fx hw 33 (hF.1 33 (by decide)) hF.2.1 (fun _ => rfl) 1 rfl (by omega) (by decide) dL_areKarts_333 ?_
                                      refine lv_aload_n hx hb dL_areKarts_334 rfl (lv_at hl 6 rfl) ?_
                                      refine lv_bipush (v := 6) hx hb dL_areKarts_335 (by decide) ?_
                                      refine lv_iload hx hb dL_areKarts_337 (lv_at hl 9 rfl) ?_
                                      refine lv_rep1 (x := 6) (y := nI 6) rfl ?_
                                      refine lv_imul hx hb dL_areKarts_339 ?_
                                      refine lv_rep0 (x := ((nI 6) * (nI i))) (y := nI (6 * i)) (pk_mul _ _) ?_
                                      refine lv_iconst (v := 4) hx hb dL_areKarts_340 (by decide) ?_
                                      refine lv_rep0 (x := 4) (y := nI 4) rfl ?_
                                      refine lv_iadd hx hb dL_areKarts_341 ?_
                                      refine lv_rep0 (x := ((nI (6 * i)) + (nI 4))) (y := nI ((6 * i) + 4)) (nI_add _ _) ?_
                                      refine rAld hx hb fx hw 32 (hF.1 32 (by decide)) hF.2.1 (fun _ => rfl) ((6 * i) + 4) rfl (by omega) (by decide) dL_areKarts_342 ?_
                                      refine lv_iconst (v := (-1)) hx hb dL_areKarts_343 (by decide) ?_
                                      refine lv_ixor hx hb dL_areKarts_344 ?_
                                      refine lv_iand hx hb dL_areKarts_345 ?_
                                      refine lv_icmp_ne (tgt := 391) hx hb dL_areKarts_346 (by decide) (fun c_55 => ?_) (fun c_55 => ?_)
                                      · skip
                                        exact absurd rfl c_55
                                      · skip
                                        refine lv_iload hx hb dL_areKarts_349 (lv_at hl 2 rfl) ?_
                                        refine lv_aload_n hx hb dL_areKarts_351 rfl (lv_at hl 5 rfl) ?_
                                        refine lv_iload hx hb dL_areKarts_352 (lv_at hl 9 rfl) ?_
                                        refine rCallN (C := RX5) (As := [.int (nI i)]) (rest := [.int (nI (rkA σ n i))]) ⟨hx, hb, hml, hown, hts⟩ fx hw (n_rankByRecord l hlt G hG hF τ (PAll_of h91_1 hA) hbo i (by omega)) (cwV 1 hts gL_areKarts_X5_rankByRecord rfl rfl rfl (by decide +kernel) ⟨Nat.le_of_ble_eq_true rfl, Nat.le_of_ble_eq_true rfl⟩) (hF.1 0 (by decide)) rfl rfl rfl rfl hl.1 rfl (Nat.le_of_ble_eq_true rfl) dL_areKarts_354 ⟨Nat.le_trans (show _ ≤ 44 by omega) (Nat.le_of_ble_eq_true rfl), Nat.le_trans (show _ ≤ 280 by omega) (Nat.le_of_ble_eq_true rfl)⟩ (fun r_56 σ_57 H locs p_58 hw => ?_)
                                        obtain ⟨er_56, eσ_57⟩ := p_58
                                        have er_56 := er_56.symm; subst er_56
                                        refine lv_rep0 (x := (nI (rkA τ n i))) (y := nI (rkA σ n i)) (by rw [rk_ag h91_1]) ?_
                                        refine lv_icmp_ne (tgt := 391) hx hb dL_areKarts_357 (by decide) (fun c_59 => ?_) (fun c_59 => ?_)
                                        · skip
                                          exact absurd rfl c_59
                                        · skip
                                          refine lv_iload hx hb dL_areKarts_360 (lv_at hl 2 rfl) ?_
                                          refine lv_if_lt (tgt := 391) hx hb dL_areKarts_362 (by decide) (fun c_60 => ?_) (fun c_60 => ?_)
                                          · skip
                                            exact (n0_ltt (by omega) c_60).elim
                                          · skip
                                            have c_60 : True := n0_ltf (by omega) c_60
                                            refine lv_iload hx hb dL_areKarts_365 (lv_at hl 0 rfl) ?_
                                            refine lv_if_lt (tgt := 391) hx hb dL_areKarts_367 (by decide) (fun c_61 => ?_) (fun c_61 => ?_)
                                            · skip
                                              exact (n0_ltt (by omega) c_61).elim
                                            · skip
                                              have c_61 : True := n0_ltf (by omega) c_61
                                              refine lv_iload hx hb dL_areKarts_370 (lv_at hl 0 rfl) ?_
                                              refine lv_bipush (v := 26) hx hb dL_areKarts_372 (by decide) ?_
                                              refine lv_rep0 (x := 26) (y := nI 26) rfl ?_
                                              refine lv_icmp_ge (tgt := 391) hx hb dL_areKarts_374 (by decide) (fun c_62 => ?_) (fun c_62 => ?_)
                                              · skip
                                                have c_62 : 26 ≤ (cuN τ n i) := (nI_leI (by omega) (by omega)).mp c_62
                                                omega
                                              · skip
                                                have c_62 : ¬ 26 ≤ (cuN τ n i) := fun h9 => c_62 ((nI_leI (by omega) (by omega)).mpr h9)
                                                refine lv_iload hx hb dL_areKarts_377 (lv_at hl 2 rfl) ?_
                                                refine lv_if_gt (tgt := 387) hx hb dL_areKarts_379 (by decide) (fun c_63 => ?_) (fun c_63 => ?_)
                                                · skip
                                                  have c_63 : 0 < (rkA σ n i) := n0_gtt (by omega) c_63
                                                  refine lv_iconst (v := 1) hx hb dL_areKarts_387 (by decide) ?_
                                                  refine lv_goto (tgt := 392) hx hb dL_areKarts_388 (by decide) ?_
                                                  refine lv_istore (lv' := [(4, .int 1), (9, .int (nI (cuN τ n i))), (3, .int ((mskA (rkA σ n) i) ||| ((1 : Int32) <<< ((nI (rkA σ n i)) &&& 31)))), (8, .int (nI (rkA σ n i))), (7, .int (nI (stN τ i))), (6, .int (τ 24 i)), (0, .ref (gad G 0)), (1, .ref (gad G 32)), (2, .ref (gad G 33)), (5, .int (nI i))]) hx hb dL_areKarts_392 hl (by decide) rfl (fun ls hl => ?_)
                                                  refine lv_iinc (v := (nI (i + 1))) (lv' := [(5, .int (nI (i + 1))), (4, .int 1), (9, .int (nI (cuN τ n i))), (3, .int ((mskA (rkA σ n) i) ||| ((1 : Int32) <<< ((nI (rkA σ n i)) &&& 31)))), (8, .int (nI (rkA σ n i))), (7, .int (nI (stN τ i))), (6, .int (τ 24 i)), (0, .ref (gad G 0)), (1, .ref (gad G 32)), (2, .ref (gad G 33))]) hx hb dL_areKarts_394 hl (k := 9) rfl (nI_1 _) (by decide) rfl (fun ls hl => ?_)
                                                  refine lv_goto (tgt := 91) hx hb dL_areKarts_397 (by decide) ?_
                                                  have q_64 : ((mskA (rkA σ n) i) ||| ((1 : Int32) <<< ((nI (rkA σ n i)) &&& 31))) = (mskA (rkA σ n) (i + 1)) := by exact mskA_s (fun k9 hk9 => by have := rkA_lt (σ := σ) (n := n) (k := k9) (by omega); omega)
                                                  exact W.widen (by omega) (by omega) (ih91 (i + 1) σ_57 (by omega) (by omega) (AgP_tr (by rw [eσ_57]; exact AgP_fb _ n z) h91_1) _ _ _ hw (lv_c (lv_at hl 7 rfl) (lv_c (lv_at hl 8 rfl) (lv_c (lv_at hl 9 rfl) (lv_c (lv_atq hl 3 rfl q_64) (lv_c (lv_at hl 1 rfl) (lv_c (lv_at hl 0 rfl) (lv_c0 hl))))))))
                                                · skip
                                                  have c_63 : (rkA σ n i) = 0 := n0_gtf (by omega) c_63
                                                  refine lv_iload hx hb dL_areKarts_382 (lv_at hl 0 rfl) ?_
                                                  refine lv_if_ne (tgt := 391) hx hb dL_areKarts_384 (by decide) (fun c_65 => ?_) (fun c_65 => ?_)
                                                  · skip
                                                    have c_65 : ¬ (cuN τ n i) = 0 := n0_net (by omega) c_65
                                                    exact absurd (hcu9 (by rw [rk_ag h91_1]; omega)) c_65
                                                  · skip
                                                    have c_65 : (cuN τ n i) = 0 := n0_nef (by omega) c_65
                                                    refine lv_iconst (v := 1) hx hb dL_areKarts_387 (by decide) ?_
                                                    refine lv_goto (tgt := 392) hx hb dL_areKarts_388 (by decide) ?_
                                                    refine lv_istore (lv' := [(4, .int 1), (9, .int (nI (cuN τ n i))), (3, .int ((mskA (rkA σ n) i) ||| ((1 : Int32) <<< ((nI (rkA σ n i)) &&& 31)))), (8, .int (nI (rkA σ n i))), (7, .int (nI (stN τ i))), (6, .int (τ 24 i)), (0, .ref (gad G 0)), (1, .ref (gad G 32)), (2, .ref (gad G 33)), (5, .int (nI i))]) hx hb dL_areKarts_392 hl (by decide) rfl (fun ls hl => ?_)
                                                    refine lv_iinc (v := (nI (i + 1))) (lv' := [(5, .int (nI (i + 1))), (4, .int 1), (9, .int (nI (cuN τ n i))), (3, .int ((mskA (rkA σ n) i) ||| ((1 : Int32) <<< ((nI (rkA σ n i)) &&& 31)))), (8, .int (nI (rkA σ n i))), (7, .int (nI (stN τ i))), (6, .int (τ 24 i)), (0, .ref (gad G 0)), (1, .ref (gad G 32)), (2, .ref (gad G 33))]) hx hb dL_areKarts_394 hl (k := 9) rfl (nI_1 _) (by decide) rfl (fun ls hl => ?_)
                                                    refine lv_goto (tgt := 91) hx hb dL_areKarts_397 (by decide) ?_
                                                    have q_66 : ((mskA (rkA σ n) i) ||| ((1 : Int32) <<< ((nI (rkA σ n i)) &&& 31))) = (mskA (rkA σ n) (i + 1)) := by exact mskA_s (fun k9 hk9 => by have := rkA_lt (σ := σ) (n := n) (k := k9) (by omega); omega)
                                                    exact W.widen (by omega) (by omega) (ih91 (i + 1) σ_57 (by omega) (by omega) (AgP_tr (by rw [eσ_57]; exact AgP_fb _ n z) h91_1) _ _ _ hw (lv_c (lv_at hl 7 rfl) (lv_c (lv_at hl 8 rfl) (lv_c (lv_at hl 9 rfl) (lv_c (lv_atq hl 3 rfl q_66) (lv_c (lv_at hl 1 rfl) (lv_c (lv_at hl 0 rfl) (lv_c0 hl))))))))
                        · skip
                          exact absurd c_33 (by decide)
                have q_67 : 0 = (mskA (rkA σ n) 0) := by first | rfl | (rw [decide_eq_true (by omega)]; rfl) | (rw [decide_eq_false (by omega)]; rfl) | (congr 1; omega)
                have q_68 : 0 = (nI 0) := by first | rfl | (rw [decide_eq_true (by omega)]; rfl) | (rw [decide_eq_false (by omega)]; rfl) | (congr 1; omega)
                exact W.widen (by omega) (by omega) (lab_91 (n - 0 + 1) 0 σ (by omega) (by omega) (fun _ _ => rfl) _ _ _ hw (lv_c (lv_at hl 3 rfl) (lv_c (lv_at hl 4 rfl) (lv_c (lv_at hl 5 rfl) (lv_c (lv_atq hl 2 rfl q_67) (lv_c (lv_at hl 1 rfl) (lv_c (lv_atq hl 0 rfl q_68) (lv_c0 hl))))))))
  · skip
    refine lv_iconst (v := 0) hx hb dL_areKarts_0 (by decide) ?_
    refine lv_istore_n (lv' := [(3, .int 0), (0, .ref (gad G 0)), (1, .ref (gad G 32)), (2, .ref (gad G 33))]) hx hb dL_areKarts_1 rfl hl (by decide) rfl (fun ls hl => ?_)
    refine lv_aload_n hx hb dL_areKarts_2 rfl (lv_at hl 1 rfl) ?_
    refine rCallI (C := RX5) (As := []) (rest := []) ⟨hx, hb, hml, hown, hts⟩ fx hw (kX5_isOn l G hG hF σ g n e9 z b (pcv hA)) (cwV 0 hts gL_areKarts_X5_isOn rfl rfl rfl (by decide +kernel) ⟨Nat.le_of_ble_eq_true rfl, Nat.le_of_ble_eq_true rfl⟩) (hF.1 0 (by decide)) rfl rfl rfl rfl hl.1 rfl (Nat.le_of_ble_eq_true rfl) dL_areKarts_3 ⟨Nat.le_trans (show _ ≤ 44 by omega) (Nat.le_of_ble_eq_true rfl), Nat.le_trans (show _ ≤ 280 by omega) (Nat.le_of_ble_eq_true rfl)⟩ (fun r_69 σ_70 H locs p_71 hw => ?_)
    obtain ⟨er_69, eσ_70⟩ := p_71
    have er_69 := er_69.symm; subst er_69
    have eσ_70 := eσ_70.symm; subst eσ_70
    refine lv_rep0 (x := (bI b)) (y := 0) (by rw [hbo]; rfl) ?_
    refine lv_aload_n hx hb dL_areKarts_6 rfl (lv_at hl 3 rfl) ?_
    refine lv_iconst (v := 3) hx hb dL_areKarts_7 (by decide) ?_
    refine lv_rep0 (x := 3) (y := nI 3) rfl ?_
    refine rAld hx hb fx hw 33 (hF.1 33 (by decide)) hF.2.1 (fun _ => rfl) 3 rfl (by omega) (by decide) dL_areKarts_8 ?_
    refine lv_rep0 (x := (σ 33 3)) (y := 0) ((pon hA).trans (by rw [hbo]; rfl)) ?_
    refine lv_iconst (v := 1) hx hb dL_areKarts_9 (by decide) ?_
    refine lv_icmp_ne (tgt := 17) hx hb dL_areKarts_10 (by decide) (fun c_72 => ?_) (fun c_72 => ?_)
    · skip
      refine lv_iconst (v := 0) hx hb dL_areKarts_17 (by decide) ?_
      refine lv_icmp_ne (tgt := 85) hx hb dL_areKarts_18 (by decide) (fun c_73 => ?_) (fun c_73 => ?_)
      · skip
        exact absurd c_73 (by decide)
      · skip
        refine lv_aload_n hx hb dL_areKarts_21 rfl (lv_at hl 1 rfl) ?_
        refine lv_iconst (v := 1) hx hb dL_areKarts_22 (by decide) ?_
        refine lv_aload_n hx hb dL_areKarts_23 rfl (lv_at hl 3 rfl) ?_
        refine lv_iconst (v := 2) hx hb dL_areKarts_24 (by decide) ?_
        refine lv_rep0 (x := 2) (y := nI 2) rfl ?_
        refine rAld hx hb fx hw 33 (hF.1 33 (by decide)) hF.2.1 (fun _ => rfl) 2 rfl (by omega) (by decide) dL_areKarts_25 ?_
        refine lv_rep0 (x := (σ 33 2)) (y := (nI n)) (pn hA).1 ?_
        refine lv_iconst (v := 0) hx hb dL_areKarts_26 (by decide) ?_
        refine rCallLS (As := [.ref (gad G 0), .int 1, .int (nI n), .int 0]) (rest := []) ⟨hx, hb, hml, hown, hts⟩ fx hw (a_1T l hlt G hG hF σ hA ((nI n)) 0 (inB_no (Nat.le_refl n) (by omega))) (vx_cwSW 4 hts gL_areKarts_L_asks rfl rfl rfl (by decide +kernel) ⟨Nat.le_of_ble_eq_true rfl, Nat.le_of_ble_eq_true rfl⟩) rfl hl.1 rfl (Nat.le_of_ble_eq_true rfl) dL_areKarts_27 ⟨Nat.le_trans (show _ ≤ 44 by omega) (Nat.le_of_ble_eq_true rfl), Nat.le_trans (show _ ≤ 280 by omega) (Nat.le_of_ble_eq_true rfl)⟩ (fun r_74 σ_75 H locs p_76 hw => ?_)
        obtain ⟨er_74, eσ_75⟩ := p_76
        have er_74 := er_74.symm; subst er_74
        have eσ_75 := eσ_75.symm; subst eσ_75
        refine lv_sipush (v := (-3000)) hx hb dL_areKarts_30 (by decide) ?_
        refine lv_icmp_ne (tgt := 85) hx hb dL_areKarts_33 (by decide) (fun c_77 => ?_) (fun c_77 => ?_)
        · skip
          exact absurd c_77 (by decide)
        · skip
          refine lv_aload_n hx hb dL_areKarts_36 rfl (lv_at hl 1 rfl) ?_
          refine lv_iconst (v := 4) hx hb dL_areKarts_37 (by decide) ?_
          refine lv_iconst (v := (-1)) hx hb dL_areKarts_38 (by decide) ?_
          refine lv_iconst (v := 0) hx hb dL_areKarts_39 (by decide) ?_
          refine rCallLS (As := [.ref (gad G 0), .int 4, .int (-1), .int 0]) (rest := []) ⟨hx, hb, hml, hown, hts⟩ fx hw (a_4T l hlt G hG hF σ hA (-1) 0 (inB_m1 n)) (vx_cwSW 4 hts gL_areKarts_L_asks rfl rfl rfl (by decide +kernel) ⟨Nat.le_of_ble_eq_true rfl, Nat.le_of_ble_eq_true rfl⟩) rfl hl.1 rfl (Nat.le_of_ble_eq_true rfl) dL_areKarts_40 ⟨Nat.le_trans (show _ ≤ 44 by omega) (Nat.le_of_ble_eq_true rfl), Nat.le_trans (show _ ≤ 280 by omega) (Nat.le_of_ble_eq_true rfl)⟩ (fun r_78 σ_79 H locs p_80 hw => ?_)
          obtain ⟨er_78, eσ_79⟩ := p_80
          have er_78 := er_78.symm; subst er_78
          have eσ_79 := eσ_79.symm; subst eσ_79
          refine lv_sipush (v := (-3000)) hx hb dL_areKarts_43 (by decide) ?_
          refine lv_icmp_ne (tgt := 85) hx hb dL_areKarts_46 (by decide) (fun c_81 => ?_) (fun c_81 => ?_)
          · skip
            exact absurd c_81 (by decide)
          · skip
            refine lv_aload_n hx hb dL_areKarts_49 rfl (lv_at hl 1 rfl) ?_
            refine lv_bipush (v := 7) hx hb dL_areKarts_50 (by decide) ?_
            refine lv_aload_n hx hb dL_areKarts_52 rfl (lv_at hl 3 rfl) ?_
            refine lv_iconst (v := 2) hx hb dL_areKarts_53 (by decide) ?_
            refine lv_rep0 (x := 2) (y := nI 2) rfl ?_
            refine rAld hx hb fx hw 33 (hF.1 33 (by decide)) hF.2.1 (fun _ => rfl) 2 rfl (by omega) (by decide) dL_areKarts_54 ?_
            refine lv_rep0 (x := (σ 33 2)) (y := (nI n)) (pn hA).1 ?_
            refine lv_iconst (v := 0) hx hb dL_areKarts_55 (by decide) ?_
            refine rCallLS (As := [.ref (gad G 0), .int 7, .int (nI n), .int 0]) (rest := []) ⟨hx, hb, hml, hown, hts⟩ fx hw (a_7T l hlt G hG hF σ hA ((nI n)) 0 (inB_no (Nat.le_refl n) (by omega))) (vx_cwSW 4 hts gL_areKarts_L_asks rfl rfl rfl (by decide +kernel) ⟨Nat.le_of_ble_eq_true rfl, Nat.le_of_ble_eq_true rfl⟩) rfl hl.1 rfl (Nat.le_of_ble_eq_true rfl) dL_areKarts_56 ⟨Nat.le_trans (show _ ≤ 44 by omega) (Nat.le_of_ble_eq_true rfl), Nat.le_trans (show _ ≤ 280 by omega) (Nat.le_of_ble_eq_true rfl)⟩ (fun r_82 σ_83 H locs p_84 hw => ?_)
            obtain ⟨er_82, eσ_83⟩ := p_84
            have er_82 := er_82.symm; subst er_82
            have eσ_83 := eσ_83.symm; subst eσ_83
            refine lv_sipush (v := (-3000)) hx hb dL_areKarts_59 (by decide) ?_
            refine lv_icmp_ne (tgt := 85) hx hb dL_areKarts_62 (by decide) (fun c_85 => ?_) (fun c_85 => ?_)
            · skip
              exact absurd c_85 (by decide)
            · skip
              refine lv_aload_n hx hb dL_areKarts_65 rfl (lv_at hl 1 rfl) ?_
              refine lv_bipush (v := 8) hx hb dL_areKarts_66 (by decide) ?_
              refine lv_aload_n hx hb dL_areKarts_68 rfl (lv_at hl 3 rfl) ?_
              refine lv_iconst (v := 2) hx hb dL_areKarts_69 (by decide) ?_
              refine lv_rep0 (x := 2) (y := nI 2) rfl ?_
              refine rAld hx hb fx hw 33 (hF.1 33 (by decide)) hF.2.1 (fun _ => rfl) 2 rfl (by omega) (by decide) dL_areKarts_70 ?_
              refine lv_rep0 (x := (σ 33 2)) (y := (nI n)) (pn hA).1 ?_
              refine lv_iconst (v := 0) hx hb dL_areKarts_71 (by decide) ?_
              refine rCallLS (As := [.ref (gad G 0), .int 8, .int (nI n), .int 0]) (rest := []) ⟨hx, hb, hml, hown, hts⟩ fx hw (a_8T l hlt G hG hF σ hA ((nI n)) 0 (inB_no (Nat.le_refl n) (by omega))) (vx_cwSW 4 hts gL_areKarts_L_asks rfl rfl rfl (by decide +kernel) ⟨Nat.le_of_ble_eq_true rfl, Nat.le_of_ble_eq_true rfl⟩) rfl hl.1 rfl (Nat.le_of_ble_eq_true rfl) dL_areKarts_72 ⟨Nat.le_trans (show _ ≤ 44 by omega) (Nat.le_of_ble_eq_true rfl), Nat.le_trans (show _ ≤ 280 by omega) (Nat.le_of_ble_eq_true rfl)⟩ (fun r_86 σ_87 H locs p_88 hw => ?_)
              obtain ⟨er_86, eσ_87⟩ := p_88
              have er_86 := er_86.symm; subst er_86
              have eσ_87 := eσ_87.symm; subst eσ_87
              refine lv_sipush (v := (-3000)) hx hb dL_areKarts_75 (by decide) ?_
              refine lv_icmp_ne (tgt := 85) hx hb dL_areKarts_78 (by decide) (fun c_89 => ?_) (fun c_89 => ?_)
              · skip
                exact absurd c_89 (by decide)
              · skip
                refine lv_iconst (v := 1) hx hb dL_areKarts_81 (by decide) ?_
                refine lv_goto (tgt := 86) hx hb dL_areKarts_82 (by decide) ?_
                refine lv_istore (lv' := [(4, .int 1), (3, .int 0), (0, .ref (gad G 0)), (1, .ref (gad G 32)), (2, .ref (gad G 33))]) hx hb dL_areKarts_86 hl (by decide) rfl (fun ls hl => ?_)
                refine lv_iconst (v := 0) hx hb dL_areKarts_88 (by decide) ?_
                refine lv_istore (lv' := [(5, .int 0), (4, .int 1), (3, .int 0), (0, .ref (gad G 0)), (1, .ref (gad G 32)), (2, .ref (gad G 33))]) hx hb dL_areKarts_89 hl (by decide) rfl (fun ls hl => ?_)
                have lab_91 : ∀ (n9 : Nat), ∀ (i : Nat), n - i < n9 → i ≤ n → ∀ (H : Heap) (locs : List Loc) (ls : Array Slot), Wd G s σ H locs → lv_has ls 10 [(0, .ref (gad G 0)), (1, .ref (gad G 32)), (2, .ref (gad G 33)), (3, .int 0), (4, .int 1), (5, .int (nI i))] → W p l e rmL_areKarts s m args below meth c H locs (4 + 6 * i) (24 + 36 * i) (MQ below (va_Qi (fun r σ' => r = 1 ∧ PAll σ' g n e9 z d t b j ∧ AgP σ' σ) (BW G) (gA G)) args s 44 280 (gA G)) (F0 m 91 ls []) := by
                  intro n9
                  induction n9 with
                  | zero => intro i hn9; exact absurd hn9 (Nat.not_lt_zero _)
                  | succ n9 ih91 =>
                    intro i hn9 h91_0 H locs ls hw hl
                    refine lv_iload hx hb dL_areKarts_91 (lv_at hl 5 rfl) ?_
                    refine lv_aload_n hx hb dL_areKarts_93 rfl (lv_at hl 2 rfl) ?_
                    refine lv_iconst (v := 2) hx hb dL_areKarts_94 (by decide) ?_
                    refine lv_rep0 (x := 2) (y := nI 2) rfl ?_
                    refine rAld hx hb fx hw 33 (hF.1 33 (by decide)) hF.2.1 (fun _ => rfl) 2 rfl (by omega) (by decide) dL_areKarts_95 ?_
                    refine lv_rep0 (x := (σ 33 2)) (y := (nI n)) (pn hA).1 ?_
                    refine lv_icmp_ge (tgt := 400) hx hb dL_areKarts_96 (by decide) (fun c_90 => ?_) (fun c_90 => ?_)
                    · skip
                      have c_90 : n ≤ i := (nI_leI (by omega) (by omega)).mp c_90
                      refine lv_iload hx hb dL_areKarts_400 (lv_at hl 4 rfl) ?_
                      refine lv_if_eq (tgt := 426) hx hb dL_areKarts_402 (by decide) (fun c_91 => ?_) (fun c_91 => ?_)
                      · skip
                        exact absurd c_91 (by decide)
                      · skip
                        refine lv_aload_n hx hb dL_areKarts_405 rfl (lv_at hl 2 rfl) ?_
                        refine lv_iconst (v := 3) hx hb dL_areKarts_406 (by decide) ?_
                        refine lv_rep0 (x := 3) (y := nI 3) rfl ?_
                        refine rAld hx hb fx hw 33 (hF.1 33 (by decide)) hF.2.1 (fun _ => rfl) 3 rfl (by omega) (by decide) dL_areKarts_407 ?_
                        refine lv_rep0 (x := (σ 33 3)) (y := 0) ((pon hA).trans (by rw [hbo]; rfl)) ?_
                        refine lv_if_eq (tgt := 422) hx hb dL_areKarts_408 (by decide) (fun c_92 => ?_) (fun c_92 => ?_)
                        · skip
                          refine lv_iconst (v := 1) hx hb dL_areKarts_422 (by decide) ?_
                          refine lv_goto (tgt := 427) hx hb dL_areKarts_423 (by decide) ?_
                          exact rRetZw hx hb hr hw (by decide) (by exact ⟨rfl, hA, fun _ _ => rfl⟩) hlocks dL_areKarts_427 (by omega) (by omega)
                        · skip
                          exact absurd c_92 (by decide)
                    · skip
                      have c_90 : ¬ n ≤ i := fun h9 => c_90 ((nI_leI (by omega) (by omega)).mpr h9)
                      refine lv_iload hx hb dL_areKarts_99 (lv_at hl 4 rfl) ?_
                      refine lv_if_eq (tgt := 400) hx hb dL_areKarts_101 (by decide) (fun c_93 => ?_) (fun c_93 => ?_)
                      · skip
                        exact absurd c_93 (by decide)
                      · skip
                        refine lv_aload_n hx hb dL_areKarts_104 rfl (lv_at hl 0 rfl) ?_
                        refine lv_iload hx hb dL_areKarts_105 (lv_at hl 5 rfl) ?_
                        refine rCallN (C := RX5) (As := [.int (nI i)]) (rest := []) ⟨hx, hb, hml, hown, hts⟩ fx hw (n_itemOf0 l hlt G hG hF σ hA hbo i (by omega)) (cwV 1 hts gL_areKarts_X5_itemOf rfl rfl rfl (by decide +kernel) ⟨Nat.le_of_ble_eq_true rfl, Nat.le_of_ble_eq_true rfl⟩) (hF.1 0 (by decide)) rfl rfl rfl rfl hl.1 rfl (Nat.le_of_ble_eq_true rfl) dL_areKarts_107 ⟨Nat.le_trans (show _ ≤ 44 by omega) (Nat.le_of_ble_eq_true rfl), Nat.le_trans (show _ ≤ 280 by omega) (Nat.le_of_ble_eq_true rfl)⟩ (fun r_94 σ_95 H locs p_96 hw => ?_)
                        obtain ⟨er_94, eσ_95⟩ := p_96
                        have er_94 := er_94.symm; subst er_94
                        have eσ_95 := eσ_95.symm; subst eσ_95
                        refine lv_istore (lv' := [(6, .int (-1)), (0, .ref (gad G 0)), (1, .ref (gad G 32)), (2, .ref (gad G 33)), (3, .int 0), (4, .int 1), (5, .int (nI i))]) hx hb dL_areKarts_110 hl (by decide) rfl (fun ls hl => ?_)
                        refine lv_aload_n hx hb dL_areKarts_112 rfl (lv_at hl 1 rfl) ?_
                        refine lv_iload hx hb dL_areKarts_113 (lv_at hl 6 rfl) ?_
                        refine rCallN (C := RX5) (As := [.int (nI i)]) (rest := []) ⟨hx, hb, hml, hown, hts⟩ fx hw (n_stunned0 l hlt G hG hF σ hA hbo i (by omega)) (cwV 1 hts gL_areKarts_X5_stunned rfl rfl rfl (by decide +kernel) ⟨Nat.le_of_ble_eq_true rfl, Nat.le_of_ble_eq_true rfl⟩) (hF.1 0 (by decide)) rfl rfl rfl rfl hl.1 rfl (Nat.le_of_ble_eq_true rfl) dL_areKarts_115 ⟨Nat.le_trans (show _ ≤ 44 by omega) (Nat.le_of_ble_eq_true rfl), Nat.le_trans (show _ ≤ 280 by omega) (Nat.le_of_ble_eq_true rfl)⟩ (fun r_97 σ_98 H locs p_99 hw => ?_)
                        obtain ⟨er_97, eσ_98⟩ := p_99
                        have er_97 := er_97.symm; subst er_97
                        have eσ_98 := eσ_98.symm; subst eσ_98
                        refine lv_istore (lv' := [(7, .int 0), (6, .int (-1)), (0, .ref (gad G 0)), (1, .ref (gad G 32)), (2, .ref (gad G 33)), (3, .int 0), (4, .int 1), (5, .int (nI i))]) hx hb dL_areKarts_118 hl (by decide) rfl (fun ls hl => ?_)
                        refine lv_aload_n hx hb dL_areKarts_120 rfl (lv_at hl 4 rfl) ?_
                        refine lv_iconst (v := 3) hx hb dL_areKarts_121 (by decide) ?_
                        refine lv_rep0 (x := 3) (y := nI 3) rfl ?_
                        refine rAld hx hb fx hw 33 (hF.1 33 (by decide)) hF.2.1 (fun _ => rfl) 3 rfl (by omega) (by decide) dL_areKarts_122 ?_
                        refine lv_rep0 (x := (σ 33 3)) (y := 0) ((pon hA).trans (by rw [hbo]; rfl)) ?_
                        refine lv_if_ne (tgt := 232) hx hb dL_areKarts_123 (by decide) (fun c_100 => ?_) (fun c_100 => ?_)
                        · skip
                          exact absurd c_100 (by decide)
                        · skip
                          refine lv_iload hx hb dL_areKarts_126 (lv_at hl 1 rfl) ?_
                          refine lv_iconst (v := (-1)) hx hb dL_areKarts_128 (by decide) ?_
                          refine lv_icmp_ne (tgt := 226) hx hb dL_areKarts_129 (by decide) (fun c_101 => ?_) (fun c_101 => ?_)
                          · skip
                            exact absurd c_101 (by decide)
                          · skip
                            refine lv_iload hx hb dL_areKarts_132 (lv_at hl 0 rfl) ?_
                            refine lv_if_ne (tgt := 226) hx hb dL_areKarts_134 (by decide) (fun c_102 => ?_) (fun c_102 => ?_)
                            · skip
                              exact absurd c_102 (by decide)
                            · skip
                              refine lv_aload_n hx hb dL_areKarts_137 rfl (lv_at hl 2 rfl) ?_
                              refine lv_iconst (v := 1) hx hb dL_areKarts_138 (by decide) ?_
                              refine lv_iload hx hb dL_areKarts_139 (lv_at hl 7 rfl) ?_
                              refine lv_iconst (v := 0) hx hb dL_areKarts_141 (by decide) ?_
                              refine rCallLS (As := [.ref (gad G 0), .int 1, .int (nI i), .int 0]) (rest := []) ⟨hx, hb, hml, hown, hts⟩ fx hw (a_1S l hlt G hG hF σ hA ((nI i)) 0 hbo (inB_y (show i < n by omega) (by omega))) (vx_cwSW 4 hts gL_areKarts_L_asks rfl rfl rfl (by decide +kernel) ⟨Nat.le_of_ble_eq_true rfl, Nat.le_of_ble_eq_true rfl⟩) rfl hl.1 rfl (Nat.le_of_ble_eq_true rfl) dL_areKarts_142 ⟨Nat.le_trans (show _ ≤ 44 by omega) (Nat.le_of_ble_eq_true rfl), Nat.le_trans (show _ ≤ 280 by omega) (Nat.le_of_ble_eq_true rfl)⟩ (fun r_103 σ_104 H locs p_105 hw => ?_)
                              obtain ⟨er_103, eσ_104⟩ := p_105
                              have er_103 := er_103.symm; subst er_103
                              have eσ_104 := eσ_104.symm; subst eσ_104
                              refine lv_sipush (v := (-1000)) hx hb dL_areKarts_145 (by decide) ?_
                              refine lv_icmp_ne (tgt := 226) hx hb dL_areKarts_148 (by decide) (fun c_106 => ?_) (fun c_106 => ?_)
                              · skip
                                exact absurd c_106 (by decide)
                              · skip
                                refine lv_aload_n hx hb dL_areKarts_151 rfl (lv_at hl 2 rfl) ?_
                                refine lv_iconst (v := 2) hx hb dL_areKarts_152 (by decide) ?_
                                refine lv_iload hx hb dL_areKarts_153 (lv_at hl 7 rfl) ?_
                                refine lv_iconst (v := 0) hx hb dL_areKarts_155 (by decide) ?_
                                refine rCallLS (As := [.ref (gad G 0), .int 2, .int (nI i), .int 0]) (rest := []) ⟨hx, hb, hml, hown, hts⟩ fx hw (a_2S l hlt G hG hF σ hA ((nI i)) 0 hbo (inB_y (show i < n by omega) (by omega))) (vx_cwSW 4 hts gL_areKarts_L_asks rfl rfl rfl (by decide +kernel) ⟨Nat.le_of_ble_eq_true rfl, Nat.le_of_ble_eq_true rfl⟩) rfl hl.1 rfl (Nat.le_of_ble_eq_true rfl) dL_areKarts_156 ⟨Nat.le_trans (show _ ≤ 44 by omega) (Nat.le_of_ble_eq_true rfl), Nat.le_trans (show _ ≤ 280 by omega) (Nat.le_of_ble_eq_true rfl)⟩ (fun r_107 σ_108 H locs p_109 hw => ?_)
                                obtain ⟨er_107, eσ_108⟩ := p_109
                                have er_107 := er_107.symm; subst er_107
                                have eσ_108 := eσ_108.symm; subst eσ_108
                                refine lv_sipush (v := (-1000)) hx hb dL_areKarts_159 (by decide) ?_
                                refine lv_icmp_ne (tgt := 226) hx hb dL_areKarts_162 (by decide) (fun c_110 => ?_) (fun c_110 => ?_)
                                · skip
                                  exact absurd c_110 (by decide)
                                · skip
                                  refine lv_aload_n hx hb dL_areKarts_165 rfl (lv_at hl 2 rfl) ?_
                                  refine lv_iconst (v := 3) hx hb dL_areKarts_166 (by decide) ?_
                                  refine lv_iload hx hb dL_areKarts_167 (lv_at hl 7 rfl) ?_
                                  refine lv_iconst (v := 0) hx hb dL_areKarts_169 (by decide) ?_
                                  refine rCallLS (As := [.ref (gad G 0), .int 3, .int (nI i), .int 0]) (rest := []) ⟨hx, hb, hml, hown, hts⟩ fx hw (a_3S l hlt G hG hF σ hA ((nI i)) 0 hbo (inB_y (show i < n by omega) (by omega))) (vx_cwSW 4 hts gL_areKarts_L_asks rfl rfl rfl (by decide +kernel) ⟨Nat.le_of_ble_eq_true rfl, Nat.le_of_ble_eq_true rfl⟩) rfl hl.1 rfl (Nat.le_of_ble_eq_true rfl) dL_areKarts_170 ⟨Nat.le_trans (show _ ≤ 44 by omega) (Nat.le_of_ble_eq_true rfl), Nat.le_trans (show _ ≤ 280 by omega) (Nat.le_of_ble_eq_true rfl)⟩ (fun r_111 σ_112 H locs p_113 hw => ?_)
                                  obtain ⟨er_111, eσ_112⟩ := p_113
                                  have er_111 := er_111.symm; subst er_111
                                  have eσ_112 := eσ_112.symm; subst eσ_112
                                  refine lv_sipush (v := (-1000)) hx hb dL_areKarts_173 (by decide) ?_
                                  refine lv_icmp_ne (tgt := 226) hx hb dL_areKarts_176 (by decide) (fun c_114 => ?_) (fun c_114 => ?_)
                                  · skip
                                    exact absurd c_114 (by decide)
                                  · skip
                                    refine lv_aload_n hx hb dL_areKarts_179 rfl (lv_at hl 2 rfl) ?_
                                    refine lv_iconst (v := 4) hx hb dL_areKarts_180 (by decide) ?_
                                    refine lv_iload hx hb dL_areKarts_181 (lv_at hl 7 rfl) ?_
                                    refine lv_iconst (v := 0) hx hb dL_areKarts_183 (by decide) ?_
                                    refine rCallLS (As := [.ref (gad G 0), .int 4, .int (nI i), .int 0]) (rest := []) ⟨hx, hb, hml, hown, hts⟩ fx hw (a_4S l hlt G hG hF σ hA ((nI i)) 0 hbo (inB_y (show i < n by omega) (by omega))) (vx_cwSW 4 hts gL_areKarts_L_asks rfl rfl rfl (by decide +kernel) ⟨Nat.le_of_ble_eq_true rfl, Nat.le_of_ble_eq_true rfl⟩) rfl hl.1 rfl (Nat.le_of_ble_eq_true rfl) dL_areKarts_184 ⟨Nat.le_trans (show _ ≤ 44 by omega) (Nat.le_of_ble_eq_true rfl), Nat.le_trans (show _ ≤ 280 by omega) (Nat.le_of_ble_eq_true rfl)⟩ (fun r_115 σ_116 H locs p_117 hw => ?_)
                                    obtain ⟨er_115, eσ_116⟩ := p_117
                                    have er_115 := er_115.symm; subst er_115
                                    have eσ_116 := eσ_116.symm; subst eσ_116
                                    refine lv_sipush (v := (-1000)) hx hb dL_areKarts_187 (by decide) ?_
                                    refine lv_icmp_ne (tgt := 226) hx hb dL_areKarts_190 (by decide) (fun c_118 => ?_) (fun c_118 => ?_)
                                    · skip
                                      exact absurd c_118 (by decide)
                                    · skip
                                      refine lv_aload_n hx hb dL_areKarts_193 rfl (lv_at hl 2 rfl) ?_
                                      refine lv_iconst (v := 5) hx hb dL_areKarts_194 (by decide) ?_
                                      refine lv_iload hx hb dL_areKarts_195 (lv_at hl 7 rfl) ?_
                                      refine lv_iconst (v := 0) hx hb dL_areKarts_197 (by decide) ?_
                                      refine rCallLS (As := [.ref (gad G 0), .int 5, .int (nI i), .int 0]) (rest := []) ⟨hx, hb, hml, hown, hts⟩ fx hw (a_5S l hlt G hG hF σ hA ((nI i)) 0 hbo (inB_y (show i < n by omega) (by omega))) (vx_cwSW 4 hts gL_areKarts_L_asks rfl rfl rfl (by decide +kernel) ⟨Nat.le_of_ble_eq_true rfl, Nat.le_of_ble_eq_true rfl⟩) rfl hl.1 rfl (Nat.le_of_ble_eq_true rfl) dL_areKarts_198 ⟨Nat.le_trans (show _ ≤ 44 by omega) (Nat.le_of_ble_eq_true rfl), Nat.le_trans (show _ ≤ 280 by omega) (Nat.le_of_ble_eq_true rfl)⟩ (fun r_119 σ_120 H locs p_121 hw => ?_)
                                      obtain ⟨er_119, eσ_120⟩ := p_121
                                      have er_119 := er_119.symm; subst er_119
                                      have eσ_120 := eσ_120.symm; subst eσ_120
                                      refine lv_sipush (v := (-1000)) hx hb dL_areKarts_201 (by decide) ?_
                                      refine lv_icmp_ne (tgt := 226) hx hb dL_areKarts_204 (by decide) (fun c_122 => ?_) (fun c_122 => ?_)
                                      · skip
                                        exact absurd c_122 (by decide)
                                      · skip
                                        refine lv_aload_n hx hb dL_areKarts_207 rfl (lv_at hl 2 rfl) ?_
                                        refine lv_bipush (v := 6) hx hb dL_areKarts_208 (by decide) ?_
                                        refine lv_iload hx hb dL_areKarts_210 (lv_at hl 7 rfl) ?_
                                        refine lv_iconst (v := 0) hx hb dL_areKarts_212 (by decide) ?_
                                        refine rCallLS (As := [.ref (gad G 0), .int 6, .int (nI i), .int 0]) (rest := []) ⟨hx, hb, hml, hown, hts⟩ fx hw (a_6S l hlt G hG hF σ hA ((nI i)) 0 hbo (inB_y (show i < n by omega) (by omega))) (vx_cwSW 4 hts gL_areKarts_L_asks rfl rfl rfl (by decide +kernel) ⟨Nat.le_of_ble_eq_true rfl, Nat.le_of_ble_eq_true rfl⟩) rfl hl.1 rfl (Nat.le_of_ble_eq_true rfl) dL_areKarts_213 ⟨Nat.le_trans (show _ ≤ 44 by omega) (Nat.le_of_ble_eq_true rfl), Nat.le_trans (show _ ≤ 280 by omega) (Nat.le_of_ble_eq_true rfl)⟩ (fun r_123 σ_124 H locs p_125 hw => ?_)
                                        obtain ⟨er_123, eσ_124⟩ := p_125
                                        have er_123 := er_123.symm; subst er_123
                                        have eσ_124 := eσ_124.symm; subst eσ_124
                                        refine lv_sipush (v := (-1000)) hx hb dL_areKarts_216 (by decide) ?_
                                        refine lv_icmp_ne (tgt := 226) hx hb dL_areKarts_219 (by decide) (fun c_126 => ?_) (fun c_126 => ?_)
                                        · skip
                                          exact absurd c_126 (by decide)
                                        · skip
                                          refine lv_iconst (v := 1) hx hb dL_areKarts_222 (by decide) ?_
                                          refine lv_goto (tgt := 227) hx hb dL_areKarts_223 (by decide) ?_
                                          refine lv_istore (lv' := [(4, .int 1), (7, .int 0), (6, .int (-1)), (0, .ref (gad G 0)), (1, .ref (gad G 32)), (2, .ref (gad G 33)), (3, .int 0), (5, .int (nI i))]) hx hb dL_areKarts_227 hl (by decide) rfl (fun ls hl => ?_)
                                          refine lv_goto (tgt := 394) hx hb dL_areKarts_229 (by decide) ?_
                                          refine lv_iinc (v := (nI (i + 1))) (lv' := [(5, .int (nI (i + 1))), (4, .int 1), (7, .int 0), (6, .int (-1)), (0, .ref (gad G 0)), (1, .ref (gad G 32)), (2, .ref (gad G 33)), (3, .int 0)]) hx hb dL_areKarts_394 hl (k := 7) rfl (nI_1 _) (by decide) rfl (fun ls hl => ?_)
                                          refine lv_goto (tgt := 91) hx hb dL_areKarts_397 (by decide) ?_
                                          exact W.widen (by omega) (by omega) (ih91 (i + 1) (by omega) (by omega) _ _ _ hw (lv_c (lv_at hl 4 rfl) (lv_c (lv_at hl 5 rfl) (lv_c (lv_at hl 6 rfl) (lv_c (lv_at hl 7 rfl) (lv_c (lv_at hl 1 rfl) (lv_c (lv_at hl 0 rfl) (lv_c0 hl))))))))
                have q_127 : 0 = (nI 0) := by first | rfl | (rw [decide_eq_true (by omega)]; rfl) | (rw [decide_eq_false (by omega)]; rfl) | (congr 1; omega)
                exact W.widen (by omega) (by omega) (lab_91 (n - 0 + 1) 0 (by omega) (by omega) _ _ _ hw (lv_c (lv_at hl 3 rfl) (lv_c (lv_at hl 4 rfl) (lv_c (lv_at hl 5 rfl) (lv_c (lv_at hl 2 rfl) (lv_c (lv_at hl 1 rfl) (lv_c (lv_atq hl 0 rfl q_127) (lv_c0 hl))))))))
    · skip
      exact absurd c_72 (by decide)
