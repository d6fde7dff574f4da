/-! isLaid: a gate, a way, a kart added, or refused -/
theorem lay_c (x y w g : Nat) : (¬ x < g) ∨ (x < g ∧ ¬ y < g) ∨ (x < g ∧ y < g ∧ ¬ ((x < y ∨ (y = 0 ∧ 0 < x)) ∧ 0 < w ∧ w < 101)) ∨ (x < g ∧ y < g ∧ (x < y ∨ (y = 0 ∧ 0 < x)) ∧ 0 < w ∧ w < 101) := by omega
theorem way_due {σ τ : St} {g n e z d t j x y : Nat} {b : Bool} (h : PAll σ g n e z d t b j) (hx : x < g) (hy : y < g) (h2 : τ 2 = σ 2) : (σ 31 (12 * x + y) = 0 → (if τ 2 (x * 12 + y) = 0 then -1 else τ 2 (x * 12 + y)) = -1) ∧ (¬ σ 31 (12 * x + y) = 0 → (if τ 2 (x * 12 + y) = 0 then -1 else τ 2 (x * 12 + y)) = σ 31 (12 * x + y)) := by
  rw [w31 h hx hy, h2]
  exact ⟨fun q => if_pos q, fun q => if_neg q⟩

def rmL_isLaid_0 : Room := ({ frames := 9, cells := 3, slots := 20, locals := 148 } : Room)
set_option maxHeartbeats 4000000 in
set_option maxRecDepth 100000 in
theorem kL_isLaid_0 (l : Launch) (hlt : l.stackTraces = false) (G : Gx) (hG : gOk G) (hF : Full G) (σ : St) {g n e9 z d t j : Nat} {b : Bool} (hA : PAll σ g n e9 z d t b j) (hGa : PGat σ g) (hj : j < 100) (o u v : Nat) (ho : o < 6000) (hu : u < 7000) (hv : v < 8000)  : CmI l yL_isLaid wsL_isLaid rmL_isLaid_0 G σ [.ref (gad G 0), .ref (gad G 31), .ref (gad G 32), .ref (gad G 33), .int 0, .int (nI o), .int (nI u), .int (nI v)] (fun r σ' => r = 1 ∧ PIn σ' (j + 1)) 3 20 := by
  refine bgM (cc := cL_isLaid) (maxL := 14) (ret := (some .boolean)) (own := RL) (by decide) rfl rfl hG (Nat.le_of_ble_eq_true rfl) rfl ?_
  intro p e s m args below meth c ls Bd hl
  obtain ⟨hx, hb, hr, hml, hts, hown, hlocks, fx, hw⟩ := Bd
  have hl : lv_has ls 14 [(0, .ref (gad G 0)), (1, .ref (gad G 31)), (2, .ref (gad G 32)), (3, .ref (gad G 33)), (4, .int 0), (5, .int (nI o)), (6, .int (nI u)), (7, .int (nI v))] := hl
  have hg5 := (pg hA).2
  have hn6 := (pn hA).2
  have he8 := (pe hA).2
  rcases pst_cases hA with hst | hst <;> rcases Nat.eq_zero_or_pos (o % 3) with ho3 | ho3
  · skip
    obtain ⟨hbo, he0, hs5⟩ := hst
    refine lv_iload hx hb dL_isLaid_0 (lv_at hl 4 rfl) ?_
    refine lv_if_ne (tgt := 111) hx hb dL_isLaid_2 (by decide) (fun c_1 => ?_) (fun c_1 => ?_)
    · skip
      exact absurd c_1 (by decide)
    · skip
      refine lv_aload_n hx hb dL_isLaid_5 rfl (lv_at hl 3 rfl) ?_
      refine lv_iconst (v := 0) hx hb dL_isLaid_6 (by decide) ?_
      refine lv_rep0 (x := 0) (y := nI 0) rfl ?_
      refine rAld hx hb fx hw 33 (hF.1 33 (by decide)) hF.2.1 (fun _ => rfl) 0 rfl (by omega) (by decide) dL_isLaid_7 ?_
      refine lv_rep0 (x := (σ 33 0)) (y := (nI g)) (pg hA).1 ?_
      refine lv_iconst (v := 5) hx hb dL_isLaid_8 (by decide) ?_
      refine lv_rep0 (x := 5) (y := nI 5) rfl ?_
      refine lv_icmp_ne (tgt := 32) hx hb dL_isLaid_9 (by decide) (fun c_2 => ?_) (fun c_2 => ?_)
      · skip
        have c_2 : ¬ g = 5 := fun h9 => c_2 ((nI_eq (by omega) (by omega)).mpr h9)
        refine lv_aload_n hx hb dL_isLaid_32 rfl (lv_at hl 3 rfl) ?_
        refine lv_iconst (v := 5) hx hb dL_isLaid_33 (by decide) ?_
        refine lv_rep0 (x := 5) (y := nI 5) rfl ?_
        refine rAld hx hb fx hw 33 (hF.1 33 (by decide)) hF.2.1 (fun _ => rfl) 5 rfl (by omega) (by decide) dL_isLaid_34 ?_
        refine lv_rep0 (x := (σ 33 5)) (y := 0) hs5 ?_
        refine lv_if_le (tgt := 43) hx hb dL_isLaid_35 (by decide) (fun c_3 => ?_) (fun c_3 => ?_)
        · skip
          refine lv_aload_n hx hb dL_isLaid_43 rfl (lv_at hl 3 rfl) ?_
          refine lv_iconst (v := 0) hx hb dL_isLaid_44 (by decide) ?_
          refine lv_rep0 (x := 0) (y := nI 0) rfl ?_
          refine rAld hx hb fx hw 33 (hF.1 33 (by decide)) hF.2.1 (fun _ => rfl) 0 rfl (by omega) (by decide) dL_isLaid_45 ?_
          refine lv_rep0 (x := (σ 33 0)) (y := (nI g)) (pg hA).1 ?_
          refine lv_istore (lv' := [(8, .int (nI g)), (0, .ref (gad G 0)), (1, .ref (gad G 31)), (2, .ref (gad G 32)), (3, .ref (gad G 33)), (4, .int 0), (5, .int (nI o)), (6, .int (nI u)), (7, .int (nI v))]) hx hb dL_isLaid_46 hl (by decide) rfl (fun ls hl => ?_)
          refine lv_iload hx hb dL_isLaid_48 (lv_at hl 0 rfl) ?_
          refine lv_if_lt (tgt := 81) hx hb dL_isLaid_50 (by decide) (fun c_4 => ?_) (fun c_4 => ?_)
          · skip
            exact (n0_ltt (by omega) c_4).elim
          · skip
            have c_4 : True := n0_ltf (by omega) c_4
            refine lv_aload_n hx hb dL_isLaid_53 rfl (lv_at hl 4 rfl) ?_
            refine lv_iconst (v := 1) hx hb dL_isLaid_54 (by decide) ?_
            refine lv_rep0 (x := 1) (y := nI 1) rfl ?_
            refine lv_dup2_11 hx hb dL_isLaid_55 rfl rfl ?_
            refine rAld hx hb fx hw 33 (hF.1 33 (by decide)) hF.2.1 (fun _ => rfl) 1 rfl (by omega) (by decide) dL_isLaid_56 ?_
            refine lv_iload hx hb dL_isLaid_57 (lv_at hl 6 rfl) ?_
            refine lv_iconst (v := 3) hx hb dL_isLaid_59 (by decide) ?_
            refine lv_rep0 (x := 3) (y := nI 3) rfl ?_
            refine lv_irem hx hb dL_isLaid_60 (nI_ne0 (by omega) (by omega)) ?_
            refine lv_rep0 (y := nI (o % 3)) (pk_rem (by omega) (by omega) (by omega)) ?_
            refine lv_if_le (tgt := 71) hx hb dL_isLaid_61 (by decide) (fun c_5 => ?_) (fun c_5 => ?_)
            · skip
              have c_5 : (o % 3) = 0 := n0_let (by omega) c_5
              refine lv_iconst (v := 0) hx hb dL_isLaid_71 (by decide) ?_
              refine lv_ior hx hb dL_isLaid_72 ?_
              refine rAst (x := ((σ 33 1) ||| 0)) hx hb fx hw 33 (hF.1 33 (by decide)) hF.2.1 (fun _ => rfl) 1 rfl (by omega) (by decide) dL_isLaid_73 (fun H locs hw => ?_)
              obtain ⟨σ_6, eσ_6⟩ : ∃ w9, w9 = upA σ 33 (upd (σ 33) 1 ((σ 33 1) ||| 0)) := ⟨_, rfl⟩
              rw [← eσ_6] at hw
              refine lv_aload_n hx hb dL_isLaid_74 rfl (lv_at hl 4 rfl) ?_
              refine lv_iconst (v := 0) hx hb dL_isLaid_75 (by decide) ?_
              refine lv_rep0 (x := 0) (y := nI 0) rfl ?_
              refine lv_dup2_11 hx hb dL_isLaid_76 rfl rfl ?_
              refine rAld hx hb fx hw 33 (hF.1 33 (by decide)) hF.2.1 (fun _ => rfl) 0 rfl (by omega) (by decide) dL_isLaid_77 ?_
              refine lv_rep0 (x := (σ_6 33 0)) (y := (nI g)) ((ld_m eσ_6 (by decide)).trans (pg hA).1) ?_
              refine lv_iconst (v := 1) hx hb dL_isLaid_78 (by decide) ?_
              refine lv_rep0 (x := 1) (y := nI 1) rfl ?_
              refine lv_iadd hx hb dL_isLaid_79 ?_
              refine lv_rep0 (x := ((nI g) + (nI 1))) (y := nI (g + 1)) (nI_add _ _) ?_
              refine rAst (x := (nI (g + 1))) hx hb fx hw 33 (hF.1 33 (by decide)) hF.2.1 (fun _ => rfl) 0 rfl (by omega) (by decide) dL_isLaid_80 (fun H locs hw => ?_)
              obtain ⟨σ_7, eσ_7⟩ : ∃ w9, w9 = upA σ_6 33 (upd (σ_6 33) 0 (nI (g + 1))) := ⟨_, rfl⟩
              rw [← eσ_7] at hw
              refine lv_aload_n hx hb dL_isLaid_81 rfl (lv_at hl 1 rfl) ?_
              refine lv_iconst (v := 0) hx hb dL_isLaid_82 (by decide) ?_
              refine lv_iload hx hb dL_isLaid_83 (lv_at hl 6 rfl) ?_
              refine lv_iconst (v := 3) hx hb dL_isLaid_85 (by decide) ?_
              refine lv_rep0 (x := 3) (y := nI 3) rfl ?_
              refine lv_irem hx hb dL_isLaid_86 (nI_ne0 (by omega) (by omega)) ?_
              refine lv_rep0 (y := nI (o % 3)) (pk_rem (by omega) (by omega) (by omega)) ?_
              refine lv_if_le (tgt := 94) hx hb dL_isLaid_87 (by decide) (fun c_8 => ?_) (fun c_8 => ?_)
              · skip
                have c_8 : (o % 3) = 0 := n0_let (by omega) c_8
                refine lv_iconst (v := 0) hx hb dL_isLaid_94 (by decide) ?_
                refine lv_iconst (v := 0) hx hb dL_isLaid_95 (by decide) ?_
                refine lv_iconst (v := 0) hx hb dL_isLaid_96 (by decide) ?_
                refine rCallLS (As := [.ref (gad G 0), .int 0, .int 0, .int 0, .int 0]) (rest := []) ⟨hx, hb, hml, hown, hts⟩ fx hw (d0_0_ok l hlt G hG hF σ_7 (show CIv σ_7 g n b e9 z from by rw [eσ_7, eσ_6]; exact (show CIv σ g n b e9 z from pcv hA)) 0 0 hbo he0 (by omega)) (vx_cwSW 5 hts gL_isLaid_L_does rfl rfl rfl (by decide +kernel) ⟨Nat.le_of_ble_eq_true rfl, Nat.le_of_ble_eq_true rfl⟩) rfl hl.1 rfl (Nat.le_of_ble_eq_true rfl) dL_isLaid_97 ⟨Nat.le_trans (show _ ≤ 3 by omega) (Nat.le_of_ble_eq_true rfl), Nat.le_trans (show _ ≤ 20 by omega) (Nat.le_of_ble_eq_true rfl)⟩ (fun r_9 σ_10 H locs p_11 hw => ?_)
                obtain ⟨er_9, eσ_10⟩ := p_11
                have er_9 := er_9.symm; subst er_9
                refine lv_iload hx hb dL_isLaid_100 (lv_at hl 0 rfl) ?_
                refine lv_icmp_ne (tgt := 109) hx hb dL_isLaid_102 (by decide) (fun c_12 => ?_) (fun c_12 => ?_)
                · skip
                  exact absurd rfl c_12
                · skip
                  refine lv_iconst (v := 1) hx hb dL_isLaid_105 (by decide) ?_
                  refine lv_goto (tgt := 110) hx hb dL_isLaid_106 (by decide) ?_
                  subst eσ_10
                  subst eσ_7
                  subst eσ_6
                  exact rRetZw hx hb hr hw (by decide) (by exact ⟨rfl, po_gate hA hGa hbo (by omega) rfl⟩) hlocks dL_isLaid_110 (by omega) (by omega)
              · skip
                have c_8 : 0 < (o % 3) := n0_lef (by omega) c_8
                omega
            · skip
              have c_5 : 0 < (o % 3) := n0_lef (by omega) c_5
              omega
        · skip
          exact absurd c_3 (by decide)
      · skip
        have c_2 : g = 5 := (nI_eq (by omega) (by omega)).mp c_2
        refine lv_aload_n hx hb dL_isLaid_12 rfl (lv_at hl 3 rfl) ?_
        refine lv_iconst (v := 5) hx hb dL_isLaid_13 (by decide) ?_
        refine lv_rep0 (x := 5) (y := nI 5) rfl ?_
        refine rAld hx hb fx hw 33 (hF.1 33 (by decide)) hF.2.1 (fun _ => rfl) 5 rfl (by omega) (by decide) dL_isLaid_14 ?_
        refine lv_rep0 (x := (σ 33 5)) (y := 0) hs5 ?_
        refine lv_if_ne (tgt := 32) hx hb dL_isLaid_15 (by decide) (fun c_13 => ?_) (fun c_13 => ?_)
        · skip
          exact absurd c_13 (by decide)
        · skip
          refine lv_aload_n hx hb dL_isLaid_18 rfl (lv_at hl 0 rfl) ?_
          refine rCallI (C := RX5) (As := []) (rest := []) ⟨hx, hb, hml, hown, hts⟩ fx hw (kX5_gates l G hG hF σ g n e9 z b (pcv hA)) (cwV 0 hts gL_isLaid_X5_gates rfl rfl rfl (by decide +kernel) ⟨Nat.le_of_ble_eq_true rfl, Nat.le_of_ble_eq_true rfl⟩) (hF.1 0 (by decide)) rfl rfl rfl rfl hl.1 rfl (Nat.le_of_ble_eq_true rfl) dL_isLaid_19 ⟨Nat.le_trans (show _ ≤ 3 by omega) (Nat.le_of_ble_eq_true rfl), Nat.le_trans (show _ ≤ 20 by omega) (Nat.le_of_ble_eq_true rfl)⟩ (fun r_14 σ_15 H locs p_16 hw => ?_)
          obtain ⟨er_14, eσ_15⟩ := p_16
          have er_14 := er_14.symm; subst er_14
          have eσ_15 := eσ_15.symm; subst eσ_15
          refine lv_iconst (v := 5) hx hb dL_isLaid_22 (by decide) ?_
          refine lv_rep0 (x := 5) (y := nI 5) rfl ?_
          refine lv_icmp_ne (tgt := 30) hx hb dL_isLaid_23 (by decide) (fun c_17 => ?_) (fun c_17 => ?_)
          · skip
            have c_17 : ¬ g = 5 := fun h9 => c_17 ((nI_eq (by omega) (by omega)).mpr h9)
            omega
          · skip
            have c_17 : g = 5 := (nI_eq (by omega) (by omega)).mp c_17
            refine lv_iconst (v := 1) hx hb dL_isLaid_26 (by decide) ?_
            refine lv_goto (tgt := 31) hx hb dL_isLaid_27 (by decide) ?_
            exact rRetZw hx hb hr hw (by decide) (by exact ⟨rfl, po_same hA hGa⟩) hlocks dL_isLaid_31 (by omega) (by omega)
  · skip
    obtain ⟨hbo, he0, hs5⟩ := hst
    refine lv_iload hx hb dL_isLaid_0 (lv_at hl 4 rfl) ?_
    refine lv_if_ne (tgt := 111) hx hb dL_isLaid_2 (by decide) (fun c_18 => ?_) (fun c_18 => ?_)
    · skip
      exact absurd c_18 (by decide)
    · skip
      refine lv_aload_n hx hb dL_isLaid_5 rfl (lv_at hl 3 rfl) ?_
      refine lv_iconst (v := 0) hx hb dL_isLaid_6 (by decide) ?_
      refine lv_rep0 (x := 0) (y := nI 0) rfl ?_
      refine rAld hx hb fx hw 33 (hF.1 33 (by decide)) hF.2.1 (fun _ => rfl) 0 rfl (by omega) (by decide) dL_isLaid_7 ?_
      refine lv_rep0 (x := (σ 33 0)) (y := (nI g)) (pg hA).1 ?_
      refine lv_iconst (v := 5) hx hb dL_isLaid_8 (by decide) ?_
      refine lv_rep0 (x := 5) (y := nI 5) rfl ?_
      refine lv_icmp_ne (tgt := 32) hx hb dL_isLaid_9 (by decide) (fun c_19 => ?_) (fun c_19 => ?_)
      · skip
        have c_19 : ¬ g = 5 := fun h9 => c_19 ((nI_eq (by omega) (by omega)).mpr h9)
        refine lv_aload_n hx hb dL_isLaid_32 rfl (lv_at hl 3 rfl) ?_
        refine lv_iconst (v := 5) hx hb dL_isLaid_33 (by decide) ?_
        refine lv_rep0 (x := 5) (y := nI 5) rfl ?_
        refine rAld hx hb fx hw 33 (hF.1 33 (by decide)) hF.2.1 (fun _ => rfl) 5 rfl (by omega) (by decide) dL_isLaid_34 ?_
        refine lv_rep0 (x := (σ 33 5)) (y := 0) hs5 ?_
        refine lv_if_le (tgt := 43) hx hb dL_isLaid_35 (by decide) (fun c_20 => ?_) (fun c_20 => ?_)
        · skip
          refine lv_aload_n hx hb dL_isLaid_43 rfl (lv_at hl 3 rfl) ?_
          refine lv_iconst (v := 0) hx hb dL_isLaid_44 (by decide) ?_
          refine lv_rep0 (x := 0) (y := nI 0) rfl ?_
          refine rAld hx hb fx hw 33 (hF.1 33 (by decide)) hF.2.1 (fun _ => rfl) 0 rfl (by omega) (by decide) dL_isLaid_45 ?_
          refine lv_rep0 (x := (σ 33 0)) (y := (nI g)) (pg hA).1 ?_
          refine lv_istore (lv' := [(8, .int (nI g)), (0, .ref (gad G 0)), (1, .ref (gad G 31)), (2, .ref (gad G 32)), (3, .ref (gad G 33)), (4, .int 0), (5, .int (nI o)), (6, .int (nI u)), (7, .int (nI v))]) hx hb dL_isLaid_46 hl (by decide) rfl (fun ls hl => ?_)
          refine lv_iload hx hb dL_isLaid_48 (lv_at hl 0 rfl) ?_
          refine lv_if_lt (tgt := 81) hx hb dL_isLaid_50 (by decide) (fun c_21 => ?_) (fun c_21 => ?_)
          · skip
            exact (n0_ltt (by omega) c_21).elim
          · skip
            have c_21 : True := n0_ltf (by omega) c_21
            refine lv_aload_n hx hb dL_isLaid_53 rfl (lv_at hl 4 rfl) ?_
            refine lv_iconst (v := 1) hx hb dL_isLaid_54 (by decide) ?_
            refine lv_rep0 (x := 1) (y := nI 1) rfl ?_
            refine lv_dup2_11 hx hb dL_isLaid_55 rfl rfl ?_
            refine rAld hx hb fx hw 33 (hF.1 33 (by decide)) hF.2.1 (fun _ => rfl) 1 rfl (by omega) (by decide) dL_isLaid_56 ?_
            refine lv_iload hx hb dL_isLaid_57 (lv_at hl 6 rfl) ?_
            refine lv_iconst (v := 3) hx hb dL_isLaid_59 (by decide) ?_
            refine lv_rep0 (x := 3) (y := nI 3) rfl ?_
            refine lv_irem hx hb dL_isLaid_60 (nI_ne0 (by omega) (by omega)) ?_
            refine lv_rep0 (y := nI (o % 3)) (pk_rem (by omega) (by omega) (by omega)) ?_
            refine lv_if_le (tgt := 71) hx hb dL_isLaid_61 (by decide) (fun c_22 => ?_) (fun c_22 => ?_)
            · skip
              have c_22 : (o % 3) = 0 := n0_let (by omega) c_22
              omega
            · skip
              have c_22 : 0 < (o % 3) := n0_lef (by omega) c_22
              refine lv_iconst (v := 1) hx hb dL_isLaid_64 (by decide) ?_
              refine lv_iload hx hb dL_isLaid_65 (lv_at hl 0 rfl) ?_
              refine lv_ishl hx hb dL_isLaid_67 ?_
              refine lv_goto (tgt := 72) hx hb dL_isLaid_68 (by decide) ?_
              refine lv_ior hx hb dL_isLaid_72 ?_
              refine rAst (x := ((σ 33 1) ||| ((1 : Int32) <<< ((nI g) &&& 31)))) hx hb fx hw 33 (hF.1 33 (by decide)) hF.2.1 (fun _ => rfl) 1 rfl (by omega) (by decide) dL_isLaid_73 (fun H locs hw => ?_)
              obtain ⟨σ_23, eσ_23⟩ : ∃ w9, w9 = upA σ 33 (upd (σ 33) 1 ((σ 33 1) ||| ((1 : Int32) <<< ((nI g) &&& 31)))) := ⟨_, rfl⟩
              rw [← eσ_23] at hw
              refine lv_aload_n hx hb dL_isLaid_74 rfl (lv_at hl 4 rfl) ?_
              refine lv_iconst (v := 0) hx hb dL_isLaid_75 (by decide) ?_
              refine lv_rep0 (x := 0) (y := nI 0) rfl ?_
              refine lv_dup2_11 hx hb dL_isLaid_76 rfl rfl ?_
              refine rAld hx hb fx hw 33 (hF.1 33 (by decide)) hF.2.1 (fun _ => rfl) 0 rfl (by omega) (by decide) dL_isLaid_77 ?_
              refine lv_rep0 (x := (σ_23 33 0)) (y := (nI g)) ((ld_m eσ_23 (by decide)).trans (pg hA).1) ?_
              refine lv_iconst (v := 1) hx hb dL_isLaid_78 (by decide) ?_
              refine lv_rep0 (x := 1) (y := nI 1) rfl ?_
              refine lv_iadd hx hb dL_isLaid_79 ?_
              refine lv_rep0 (x := ((nI g) + (nI 1))) (y := nI (g + 1)) (nI_add _ _) ?_
              refine rAst (x := (nI (g + 1))) hx hb fx hw 33 (hF.1 33 (by decide)) hF.2.1 (fun _ => rfl) 0 rfl (by omega) (by decide) dL_isLaid_80 (fun H locs hw => ?_)
              obtain ⟨σ_24, eσ_24⟩ : ∃ w9, w9 = upA σ_23 33 (upd (σ_23 33) 0 (nI (g + 1))) := ⟨_, rfl⟩
              rw [← eσ_24] at hw
              refine lv_aload_n hx hb dL_isLaid_81 rfl (lv_at hl 1 rfl) ?_
              refine lv_iconst (v := 0) hx hb dL_isLaid_82 (by decide) ?_
              refine lv_iload hx hb dL_isLaid_83 (lv_at hl 6 rfl) ?_
              refine lv_iconst (v := 3) hx hb dL_isLaid_85 (by decide) ?_
              refine lv_rep0 (x := 3) (y := nI 3) rfl ?_
              refine lv_irem hx hb dL_isLaid_86 (nI_ne0 (by omega) (by omega)) ?_
              refine lv_rep0 (y := nI (o % 3)) (pk_rem (by omega) (by omega) (by omega)) ?_
              refine lv_if_le (tgt := 94) hx hb dL_isLaid_87 (by decide) (fun c_25 => ?_) (fun c_25 => ?_)
              · skip
                have c_25 : (o % 3) = 0 := n0_let (by omega) c_25
                omega
              · skip
                have c_25 : 0 < (o % 3) := n0_lef (by omega) c_25
                refine lv_iconst (v := 1) hx hb dL_isLaid_90 (by decide) ?_
                refine lv_goto (tgt := 95) hx hb dL_isLaid_91 (by decide) ?_
                refine lv_iconst (v := 0) hx hb dL_isLaid_95 (by decide) ?_
                refine lv_iconst (v := 0) hx hb dL_isLaid_96 (by decide) ?_
                refine rCallLS (As := [.ref (gad G 0), .int 0, .int 1, .int 0, .int 0]) (rest := []) ⟨hx, hb, hml, hown, hts⟩ fx hw (d0_1_ok l hlt G hG hF σ_24 (show CIv σ_24 g n b e9 z from by rw [eσ_24, eσ_23]; exact (show CIv σ g n b e9 z from pcv hA)) 0 0 hbo he0 (by omega)) (vx_cwSW 5 hts gL_isLaid_L_does rfl rfl rfl (by decide +kernel) ⟨Nat.le_of_ble_eq_true rfl, Nat.le_of_ble_eq_true rfl⟩) rfl hl.1 rfl (Nat.le_of_ble_eq_true rfl) dL_isLaid_97 ⟨Nat.le_trans (show _ ≤ 3 by omega) (Nat.le_of_ble_eq_true rfl), Nat.le_trans (show _ ≤ 20 by omega) (Nat.le_of_ble_eq_true rfl)⟩ (fun r_26 σ_27 H locs p_28 hw => ?_)
                obtain ⟨er_26, eσ_27⟩ := p_28
                have er_26 := er_26.symm; subst er_26
                refine lv_iload hx hb dL_isLaid_100 (lv_at hl 0 rfl) ?_
                refine lv_icmp_ne (tgt := 109) hx hb dL_isLaid_102 (by decide) (fun c_29 => ?_) (fun c_29 => ?_)
                · skip
                  exact absurd rfl c_29
                · skip
                  refine lv_iconst (v := 1) hx hb dL_isLaid_105 (by decide) ?_
                  refine lv_goto (tgt := 110) hx hb dL_isLaid_106 (by decide) ?_
                  subst eσ_27
                  subst eσ_24
                  subst eσ_23
                  exact rRetZw hx hb hr hw (by decide) (by exact ⟨rfl, po_gate hA hGa hbo (by omega) rfl⟩) hlocks dL_isLaid_110 (by omega) (by omega)
        · skip
          exact absurd c_20 (by decide)
      · skip
        have c_19 : g = 5 := (nI_eq (by omega) (by omega)).mp c_19
        refine lv_aload_n hx hb dL_isLaid_12 rfl (lv_at hl 3 rfl) ?_
        refine lv_iconst (v := 5) hx hb dL_isLaid_13 (by decide) ?_
        refine lv_rep0 (x := 5) (y := nI 5) rfl ?_
        refine rAld hx hb fx hw 33 (hF.1 33 (by decide)) hF.2.1 (fun _ => rfl) 5 rfl (by omega) (by decide) dL_isLaid_14 ?_
        refine lv_rep0 (x := (σ 33 5)) (y := 0) hs5 ?_
        refine lv_if_ne (tgt := 32) hx hb dL_isLaid_15 (by decide) (fun c_30 => ?_) (fun c_30 => ?_)
        · skip
          exact absurd c_30 (by decide)
        · skip
          refine lv_aload_n hx hb dL_isLaid_18 rfl (lv_at hl 0 rfl) ?_
          refine rCallI (C := RX5) (As := []) (rest := []) ⟨hx, hb, hml, hown, hts⟩ fx hw (kX5_gates l G hG hF σ g n e9 z b (pcv hA)) (cwV 0 hts gL_isLaid_X5_gates rfl rfl rfl (by decide +kernel) ⟨Nat.le_of_ble_eq_true rfl, Nat.le_of_ble_eq_true rfl⟩) (hF.1 0 (by decide)) rfl rfl rfl rfl hl.1 rfl (Nat.le_of_ble_eq_true rfl) dL_isLaid_19 ⟨Nat.le_trans (show _ ≤ 3 by omega) (Nat.le_of_ble_eq_true rfl), Nat.le_trans (show _ ≤ 20 by omega) (Nat.le_of_ble_eq_true rfl)⟩ (fun r_31 σ_32 H locs p_33 hw => ?_)
          obtain ⟨er_31, eσ_32⟩ := p_33
          have er_31 := er_31.symm; subst er_31
          have eσ_32 := eσ_32.symm; subst eσ_32
          refine lv_iconst (v := 5) hx hb dL_isLaid_22 (by decide) ?_
          refine lv_rep0 (x := 5) (y := nI 5) rfl ?_
          refine lv_icmp_ne (tgt := 30) hx hb dL_isLaid_23 (by decide) (fun c_34 => ?_) (fun c_34 => ?_)
          · skip
            have c_34 : ¬ g = 5 := fun h9 => c_34 ((nI_eq (by omega) (by omega)).mpr h9)
            omega
          · skip
            have c_34 : g = 5 := (nI_eq (by omega) (by omega)).mp c_34
            refine lv_iconst (v := 1) hx hb dL_isLaid_26 (by decide) ?_
            refine lv_goto (tgt := 31) hx hb dL_isLaid_27 (by decide) ?_
            exact rRetZw hx hb hr hw (by decide) (by exact ⟨rfl, po_same hA hGa⟩) hlocks dL_isLaid_31 (by omega) (by omega)
  · skip
    obtain ⟨s9, hs5, hs1, hs2, hnev⟩ := hst
    refine lv_iload hx hb dL_isLaid_0 (lv_at hl 4 rfl) ?_
    refine lv_if_ne (tgt := 111) hx hb dL_isLaid_2 (by decide) (fun c_35 => ?_) (fun c_35 => ?_)
    · skip
      exact absurd c_35 (by decide)
    · skip
      refine lv_aload_n hx hb dL_isLaid_5 rfl (lv_at hl 3 rfl) ?_
      refine lv_iconst (v := 0) hx hb dL_isLaid_6 (by decide) ?_
      refine lv_rep0 (x := 0) (y := nI 0) rfl ?_
      refine rAld hx hb fx hw 33 (hF.1 33 (by decide)) hF.2.1 (fun _ => rfl) 0 rfl (by omega) (by decide) dL_isLaid_7 ?_
      refine lv_rep0 (x := (σ 33 0)) (y := (nI g)) (pg hA).1 ?_
      refine lv_iconst (v := 5) hx hb dL_isLaid_8 (by decide) ?_
      refine lv_rep0 (x := 5) (y := nI 5) rfl ?_
      refine lv_icmp_ne (tgt := 32) hx hb dL_isLaid_9 (by decide) (fun c_36 => ?_) (fun c_36 => ?_)
      · skip
        have c_36 : ¬ g = 5 := fun h9 => c_36 ((nI_eq (by omega) (by omega)).mpr h9)
        refine lv_aload_n hx hb dL_isLaid_32 rfl (lv_at hl 3 rfl) ?_
        refine lv_iconst (v := 5) hx hb dL_isLaid_33 (by decide) ?_
        refine lv_rep0 (x := 5) (y := nI 5) rfl ?_
        refine rAld hx hb fx hw 33 (hF.1 33 (by decide)) hF.2.1 (fun _ => rfl) 5 rfl (by omega) (by decide) dL_isLaid_34 ?_
        refine lv_rep0 (x := (σ 33 5)) (y := (nI s9)) hs5 ?_
        refine lv_if_le (tgt := 43) hx hb dL_isLaid_35 (by decide) (fun c_37 => ?_) (fun c_37 => ?_)
        · skip
          have c_37 : s9 = 0 := n0_let (by omega) c_37
          omega
        · skip
          have c_37 : 0 < s9 := n0_lef (by omega) c_37
          refine lv_bipush (v := (-10)) hx hb dL_isLaid_38 (by decide) ?_
          refine lv_goto (tgt := 46) hx hb dL_isLaid_40 (by decide) ?_
          refine lv_istore (lv' := [(8, .int (-10)), (0, .ref (gad G 0)), (1, .ref (gad G 31)), (2, .ref (gad G 32)), (3, .ref (gad G 33)), (4, .int 0), (5, .int (nI o)), (6, .int (nI u)), (7, .int (nI v))]) hx hb dL_isLaid_46 hl (by decide) rfl (fun ls hl => ?_)
          refine lv_iload hx hb dL_isLaid_48 (lv_at hl 0 rfl) ?_
          refine lv_if_lt (tgt := 81) hx hb dL_isLaid_50 (by decide) (fun c_38 => ?_) (fun c_38 => ?_)
          · skip
            refine lv_aload_n hx hb dL_isLaid_81 rfl (lv_at hl 1 rfl) ?_
            refine lv_iconst (v := 0) hx hb dL_isLaid_82 (by decide) ?_
            refine lv_iload hx hb dL_isLaid_83 (lv_at hl 6 rfl) ?_
            refine lv_iconst (v := 3) hx hb dL_isLaid_85 (by decide) ?_
            refine lv_rep0 (x := 3) (y := nI 3) rfl ?_
            refine lv_irem hx hb dL_isLaid_86 (nI_ne0 (by omega) (by omega)) ?_
            refine lv_rep0 (y := nI (o % 3)) (pk_rem (by omega) (by omega) (by omega)) ?_
            refine lv_if_le (tgt := 94) hx hb dL_isLaid_87 (by decide) (fun c_39 => ?_) (fun c_39 => ?_)
            · skip
              have c_39 : (o % 3) = 0 := n0_let (by omega) c_39
              refine lv_iconst (v := 0) hx hb dL_isLaid_94 (by decide) ?_
              refine lv_iconst (v := 0) hx hb dL_isLaid_95 (by decide) ?_
              refine lv_iconst (v := 0) hx hb dL_isLaid_96 (by decide) ?_
              refine rCallLS (As := [.ref (gad G 0), .int 0, .int 0, .int 0, .int 0]) (rest := []) ⟨hx, hb, hml, hown, hts⟩ fx hw (d0_0_t1 l hlt G hG hF σ (pcv hA) 0 0 (by rw [hnev]; rfl)) (vx_cwSW 5 hts gL_isLaid_L_does rfl rfl rfl (by decide +kernel) ⟨Nat.le_of_ble_eq_true rfl, Nat.le_of_ble_eq_true rfl⟩) rfl hl.1 rfl (Nat.le_of_ble_eq_true rfl) dL_isLaid_97 ⟨Nat.le_trans (show _ ≤ 3 by omega) (Nat.le_of_ble_eq_true rfl), Nat.le_trans (show _ ≤ 20 by omega) (Nat.le_of_ble_eq_true rfl)⟩ (fun r_40 σ_41 H locs p_42 hw => ?_)
              obtain ⟨er_40, eσ_41⟩ := p_42
              have er_40 := er_40.symm; subst er_40
              have eσ_41 := eσ_41.symm; subst eσ_41
              refine lv_iload hx hb dL_isLaid_100 (lv_at hl 0 rfl) ?_
              refine lv_icmp_ne (tgt := 109) hx hb dL_isLaid_102 (by decide) (fun c_43 => ?_) (fun c_43 => ?_)
              · skip
                exact absurd c_43 (by decide)
              · skip
                refine lv_iconst (v := 1) hx hb dL_isLaid_105 (by decide) ?_
                refine lv_goto (tgt := 110) hx hb dL_isLaid_106 (by decide) ?_
                exact rRetZw hx hb hr hw (by decide) (by exact ⟨rfl, po_same hA hGa⟩) hlocks dL_isLaid_110 (by omega) (by omega)
            · skip
              have c_39 : 0 < (o % 3) := n0_lef (by omega) c_39
              omega
          · skip
            exact absurd c_38 (by decide)
      · skip
        have c_36 : g = 5 := (nI_eq (by omega) (by omega)).mp c_36
        refine lv_aload_n hx hb dL_isLaid_12 rfl (lv_at hl 3 rfl) ?_
        refine lv_iconst (v := 5) hx hb dL_isLaid_13 (by decide) ?_
        refine lv_rep0 (x := 5) (y := nI 5) rfl ?_
        refine rAld hx hb fx hw 33 (hF.1 33 (by decide)) hF.2.1 (fun _ => rfl) 5 rfl (by omega) (by decide) dL_isLaid_14 ?_
        refine lv_rep0 (x := (σ 33 5)) (y := (nI s9)) hs5 ?_
        refine lv_if_ne (tgt := 32) hx hb dL_isLaid_15 (by decide) (fun c_44 => ?_) (fun c_44 => ?_)
        · skip
          have c_44 : ¬ s9 = 0 := n0_net (by omega) c_44
          refine lv_aload_n hx hb dL_isLaid_32 rfl (lv_at hl 3 rfl) ?_
          refine lv_iconst (v := 5) hx hb dL_isLaid_33 (by decide) ?_
          refine lv_rep0 (x := 5) (y := nI 5) rfl ?_
          refine rAld hx hb fx hw 33 (hF.1 33 (by decide)) hF.2.1 (fun _ => rfl) 5 rfl (by omega) (by decide) dL_isLaid_34 ?_
          refine lv_rep0 (x := (σ 33 5)) (y := (nI s9)) hs5 ?_
          refine lv_if_le (tgt := 43) hx hb dL_isLaid_35 (by decide) (fun c_45 => ?_) (fun c_45 => ?_)
          · skip
            have c_45 : s9 = 0 := n0_let (by omega) c_45
            omega
          · skip
            have c_45 : 0 < s9 := n0_lef (by omega) c_45
            refine lv_bipush (v := (-10)) hx hb dL_isLaid_38 (by decide) ?_
            refine lv_goto (tgt := 46) hx hb dL_isLaid_40 (by decide) ?_
            refine lv_istore (lv' := [(8, .int (-10)), (0, .ref (gad G 0)), (1, .ref (gad G 31)), (2, .ref (gad G 32)), (3, .ref (gad G 33)), (4, .int 0), (5, .int (nI o)), (6, .int (nI u)), (7, .int (nI v))]) hx hb dL_isLaid_46 hl (by decide) rfl (fun ls hl => ?_)
            refine lv_iload hx hb dL_isLaid_48 (lv_at hl 0 rfl) ?_
            refine lv_if_lt (tgt := 81) hx hb dL_isLaid_50 (by decide) (fun c_46 => ?_) (fun c_46 => ?_)
            · skip
              refine lv_aload_n hx hb dL_isLaid_81 rfl (lv_at hl 1 rfl) ?_
              refine lv_iconst (v := 0) hx hb dL_isLaid_82 (by decide) ?_
              refine lv_iload hx hb dL_isLaid_83 (lv_at hl 6 rfl) ?_
              refine lv_iconst (v := 3) hx hb dL_isLaid_85 (by decide) ?_
              refine lv_rep0 (x := 3) (y := nI 3) rfl ?_
              refine lv_irem hx hb dL_isLaid_86 (nI_ne0 (by omega) (by omega)) ?_
              refine lv_rep0 (y := nI (o % 3)) (pk_rem (by omega) (by omega) (by omega)) ?_
              refine lv_if_le (tgt := 94) hx hb dL_isLaid_87 (by decide) (fun c_47 => ?_) (fun c_47 => ?_)
              · skip
                have c_47 : (o % 3) = 0 := n0_let (by omega) c_47
                refine lv_iconst (v := 0) hx hb dL_isLaid_94 (by decide) ?_
                refine lv_iconst (v := 0) hx hb dL_isLaid_95 (by decide) ?_
                refine lv_iconst (v := 0) hx hb dL_isLaid_96 (by decide) ?_
                refine rCallLS (As := [.ref (gad G 0), .int 0, .int 0, .int 0, .int 0]) (rest := []) ⟨hx, hb, hml, hown, hts⟩ fx hw (d0_0_t1 l hlt G hG hF σ (pcv hA) 0 0 (by rw [hnev]; rfl)) (vx_cwSW 5 hts gL_isLaid_L_does rfl rfl rfl (by decide +kernel) ⟨Nat.le_of_ble_eq_true rfl, Nat.le_of_ble_eq_true rfl⟩) rfl hl.1 rfl (Nat.le_of_ble_eq_true rfl) dL_isLaid_97 ⟨Nat.le_trans (show _ ≤ 3 by omega) (Nat.le_of_ble_eq_true rfl), Nat.le_trans (show _ ≤ 20 by omega) (Nat.le_of_ble_eq_true rfl)⟩ (fun r_48 σ_49 H locs p_50 hw => ?_)
                obtain ⟨er_48, eσ_49⟩ := p_50
                have er_48 := er_48.symm; subst er_48
                have eσ_49 := eσ_49.symm; subst eσ_49
                refine lv_iload hx hb dL_isLaid_100 (lv_at hl 0 rfl) ?_
                refine lv_icmp_ne (tgt := 109) hx hb dL_isLaid_102 (by decide) (fun c_51 => ?_) (fun c_51 => ?_)
                · skip
                  exact absurd c_51 (by decide)
                · skip
                  refine lv_iconst (v := 1) hx hb dL_isLaid_105 (by decide) ?_
                  refine lv_goto (tgt := 110) hx hb dL_isLaid_106 (by decide) ?_
                  exact rRetZw hx hb hr hw (by decide) (by exact ⟨rfl, po_same hA hGa⟩) hlocks dL_isLaid_110 (by omega) (by omega)
              · skip
                have c_47 : 0 < (o % 3) := n0_lef (by omega) c_47
                omega
            · skip
              exact absurd c_46 (by decide)
        · skip
          have c_44 : s9 = 0 := n0_nef (by omega) c_44
          omega
  · skip
    obtain ⟨s9, hs5, hs1, hs2, hnev⟩ := hst
    refine lv_iload hx hb dL_isLaid_0 (lv_at hl 4 rfl) ?_
    refine lv_if_ne (tgt := 111) hx hb dL_isLaid_2 (by decide) (fun c_52 => ?_) (fun c_52 => ?_)
    · skip
      exact absurd c_52 (by decide)
    · skip
      refine lv_aload_n hx hb dL_isLaid_5 rfl (lv_at hl 3 rfl) ?_
      refine lv_iconst (v := 0) hx hb dL_isLaid_6 (by decide) ?_
      refine lv_rep0 (x := 0) (y := nI 0) rfl ?_
      refine rAld hx hb fx hw 33 (hF.1 33 (by decide)) hF.2.1 (fun _ => rfl) 0 rfl (by omega) (by decide) dL_isLaid_7 ?_
      refine lv_rep0 (x := (σ 33 0)) (y := (nI g)) (pg hA).1 ?_
      refine lv_iconst (v := 5) hx hb dL_isLaid_8 (by decide) ?_
      refine lv_rep0 (x := 5) (y := nI 5) rfl ?_
      refine lv_icmp_ne (tgt := 32) hx hb dL_isLaid_9 (by decide) (fun c_53 => ?_) (fun c_53 => ?_)
      · skip
        have c_53 : ¬ g = 5 := fun h9 => c_53 ((nI_eq (by omega) (by omega)).mpr h9)
        refine lv_aload_n hx hb dL_isLaid_32 rfl (lv_at hl 3 rfl) ?_
        refine lv_iconst (v := 5) hx hb dL_isLaid_33 (by decide) ?_
        refine lv_rep0 (x := 5) (y := nI 5) rfl ?_
        refine rAld hx hb fx hw 33 (hF.1 33 (by decide)) hF.2.1 (fun _ => rfl) 5 rfl (by omega) (by decide) dL_isLaid_34 ?_
        refine lv_rep0 (x := (σ 33 5)) (y := (nI s9)) hs5 ?_
        refine lv_if_le (tgt := 43) hx hb dL_isLaid_35 (by decide) (fun c_54 => ?_) (fun c_54 => ?_)
        · skip
          have c_54 : s9 = 0 := n0_let (by omega) c_54
          omega
        · skip
          have c_54 : 0 < s9 := n0_lef (by omega) c_54
          refine lv_bipush (v := (-10)) hx hb dL_isLaid_38 (by decide) ?_
          refine lv_goto (tgt := 46) hx hb dL_isLaid_40 (by decide) ?_
          refine lv_istore (lv' := [(8, .int (-10)), (0, .ref (gad G 0)), (1, .ref (gad G 31)), (2, .ref (gad G 32)), (3, .ref (gad G 33)), (4, .int 0), (5, .int (nI o)), (6, .int (nI u)), (7, .int (nI v))]) hx hb dL_isLaid_46 hl (by decide) rfl (fun ls hl => ?_)
          refine lv_iload hx hb dL_isLaid_48 (lv_at hl 0 rfl) ?_
          refine lv_if_lt (tgt := 81) hx hb dL_isLaid_50 (by decide) (fun c_55 => ?_) (fun c_55 => ?_)
          · skip
            refine lv_aload_n hx hb dL_isLaid_81 rfl (lv_at hl 1 rfl) ?_
            refine lv_iconst (v := 0) hx hb dL_isLaid_82 (by decide) ?_
            refine lv_iload hx hb dL_isLaid_83 (lv_at hl 6 rfl) ?_
            refine lv_iconst (v := 3) hx hb dL_isLaid_85 (by decide) ?_
            refine lv_rep0 (x := 3) (y := nI 3) rfl ?_
            refine lv_irem hx hb dL_isLaid_86 (nI_ne0 (by omega) (by omega)) ?_
            refine lv_rep0 (y := nI (o % 3)) (pk_rem (by omega) (by omega) (by omega)) ?_
            refine lv_if_le (tgt := 94) hx hb dL_isLaid_87 (by decide) (fun c_56 => ?_) (fun c_56 => ?_)
            · skip
              have c_56 : (o % 3) = 0 := n0_let (by omega) c_56
              omega
            · skip
              have c_56 : 0 < (o % 3) := n0_lef (by omega) c_56
              refine lv_iconst (v := 1) hx hb dL_isLaid_90 (by decide) ?_
              refine lv_goto (tgt := 95) hx hb dL_isLaid_91 (by decide) ?_
              refine lv_iconst (v := 0) hx hb dL_isLaid_95 (by decide) ?_
              refine lv_iconst (v := 0) hx hb dL_isLaid_96 (by decide) ?_
              refine rCallLS (As := [.ref (gad G 0), .int 0, .int 1, .int 0, .int 0]) (rest := []) ⟨hx, hb, hml, hown, hts⟩ fx hw (d0_1_t1 l hlt G hG hF σ (pcv hA) 0 0 (by rw [hnev]; rfl)) (vx_cwSW 5 hts gL_isLaid_L_does rfl rfl rfl (by decide +kernel) ⟨Nat.le_of_ble_eq_true rfl, Nat.le_of_ble_eq_true rfl⟩) rfl hl.1 rfl (Nat.le_of_ble_eq_true rfl) dL_isLaid_97 ⟨Nat.le_trans (show _ ≤ 3 by omega) (Nat.le_of_ble_eq_true rfl), Nat.le_trans (show _ ≤ 20 by omega) (Nat.le_of_ble_eq_true rfl)⟩ (fun r_57 σ_58 H locs p_59 hw => ?_)
              obtain ⟨er_57, eσ_58⟩ := p_59
              have er_57 := er_57.symm; subst er_57
              have eσ_58 := eσ_58.symm; subst eσ_58
              refine lv_iload hx hb dL_isLaid_100 (lv_at hl 0 rfl) ?_
              refine lv_icmp_ne (tgt := 109) hx hb dL_isLaid_102 (by decide) (fun c_60 => ?_) (fun c_60 => ?_)
              · skip
                exact absurd c_60 (by decide)
              · skip
                refine lv_iconst (v := 1) hx hb dL_isLaid_105 (by decide) ?_
                refine lv_goto (tgt := 110) hx hb dL_isLaid_106 (by decide) ?_
                exact rRetZw hx hb hr hw (by decide) (by exact ⟨rfl, po_same hA hGa⟩) hlocks dL_isLaid_110 (by omega) (by omega)
          · skip
            exact absurd c_55 (by decide)
      · skip
        have c_53 : g = 5 := (nI_eq (by omega) (by omega)).mp c_53
        refine lv_aload_n hx hb dL_isLaid_12 rfl (lv_at hl 3 rfl) ?_
        refine lv_iconst (v := 5) hx hb dL_isLaid_13 (by decide) ?_
        refine lv_rep0 (x := 5) (y := nI 5) rfl ?_
        refine rAld hx hb fx hw 33 (hF.1 33 (by decide)) hF.2.1 (fun _ => rfl) 5 rfl (by omega) (by decide) dL_isLaid_14 ?_
        refine lv_rep0 (x := (σ 33 5)) (y := (nI s9)) hs5 ?_
        refine lv_if_ne (tgt := 32) hx hb dL_isLaid_15 (by decide) (fun c_61 => ?_) (fun c_61 => ?_)
        · skip
          have c_61 : ¬ s9 = 0 := n0_net (by omega) c_61
          refine lv_aload_n hx hb dL_isLaid_32 rfl (lv_at hl 3 rfl) ?_
          refine lv_iconst (v := 5) hx hb dL_isLaid_33 (by decide) ?_
          refine lv_rep0 (x := 5) (y := nI 5) rfl ?_
          refine rAld hx hb fx hw 33 (hF.1 33 (by decide)) hF.2.1 (fun _ => rfl) 5 rfl (by omega) (by decide) dL_isLaid_34 ?_
          refine lv_rep0 (x := (σ 33 5)) (y := (nI s9)) hs5 ?_
          refine lv_if_le (tgt := 43) hx hb dL_isLaid_35 (by decide) (fun c_62 => ?_) (fun c_62 => ?_)
          · skip
            have c_62 : s9 = 0 := n0_let (by omega) c_62
            omega
          · skip
            have c_62 : 0 < s9 := n0_lef (by omega) c_62
            refine lv_bipush (v := (-10)) hx hb dL_isLaid_38 (by decide) ?_
            refine lv_goto (tgt := 46) hx hb dL_isLaid_40 (by decide) ?_
            refine lv_istore (lv' := [(8, .int (-10)), (0, .ref (gad G 0)), (1, .ref (gad G 31)), (2, .ref (gad G 32)), (3, .ref (gad G 33)), (4, .int 0), (5, .int (nI o)), (6, .int (nI u)), (7, .int (nI v))]) hx hb dL_isLaid_46 hl (by decide) rfl (fun ls hl => ?_)
            refine lv_iload hx hb dL_isLaid_48 (lv_at hl 0 rfl) ?_
            refine lv_if_lt (tgt := 81) hx hb dL_isLaid_50 (by decide) (fun c_63 => ?_) (fun c_63 => ?_)
            · skip
              refine lv_aload_n hx hb dL_isLaid_81 rfl (lv_at hl 1 rfl) ?_
              refine lv_iconst (v := 0) hx hb dL_isLaid_82 (by decide) ?_
              refine lv_iload hx hb dL_isLaid_83 (lv_at hl 6 rfl) ?_
              refine lv_iconst (v := 3) hx hb dL_isLaid_85 (by decide) ?_
              refine lv_rep0 (x := 3) (y := nI 3) rfl ?_
              refine lv_irem hx hb dL_isLaid_86 (nI_ne0 (by omega) (by omega)) ?_
              refine lv_rep0 (y := nI (o % 3)) (pk_rem (by omega) (by omega) (by omega)) ?_
              refine lv_if_le (tgt := 94) hx hb dL_isLaid_87 (by decide) (fun c_64 => ?_) (fun c_64 => ?_)
              · skip
                have c_64 : (o % 3) = 0 := n0_let (by omega) c_64
                omega
              · skip
                have c_64 : 0 < (o % 3) := n0_lef (by omega) c_64
                refine lv_iconst (v := 1) hx hb dL_isLaid_90 (by decide) ?_
                refine lv_goto (tgt := 95) hx hb dL_isLaid_91 (by decide) ?_
                refine lv_iconst (v := 0) hx hb dL_isLaid_95 (by decide) ?_
                refine lv_iconst (v := 0) hx hb dL_isLaid_96 (by decide) ?_
                refine rCallLS (As := [.ref (gad G 0), .int 0, .int 1, .int 0, .int 0]) (rest := []) ⟨hx, hb, hml, hown, hts⟩ fx hw (d0_1_t1 l hlt G hG hF σ (pcv hA) 0 0 (by rw [hnev]; rfl)) (vx_cwSW 5 hts gL_isLaid_L_does rfl rfl rfl (by decide +kernel) ⟨Nat.le_of_ble_eq_true rfl, Nat.le_of_ble_eq_true rfl⟩) rfl hl.1 rfl (Nat.le_of_ble_eq_true rfl) dL_isLaid_97 ⟨Nat.le_trans (show _ ≤ 3 by omega) (Nat.le_of_ble_eq_true rfl), Nat.le_trans (show _ ≤ 20 by omega) (Nat.le_of_ble_eq_true rfl)⟩ (fun r_65 σ_66 H locs p_67 hw => ?_)
                obtain ⟨er_65, eσ_66⟩ := p_67
                have er_65 := er_65.symm; subst er_65
                have eσ_66 := eσ_66.symm; subst eσ_66
                refine lv_iload hx hb dL_isLaid_100 (lv_at hl 0 rfl) ?_
                refine lv_icmp_ne (tgt := 109) hx hb dL_isLaid_102 (by decide) (fun c_68 => ?_) (fun c_68 => ?_)
                · skip
                  exact absurd c_68 (by decide)
                · skip
                  refine lv_iconst (v := 1) hx hb dL_isLaid_105 (by decide) ?_
                  refine lv_goto (tgt := 110) hx hb dL_isLaid_106 (by decide) ?_
                  exact rRetZw hx hb hr hw (by decide) (by exact ⟨rfl, po_same hA hGa⟩) hlocks dL_isLaid_110 (by omega) (by omega)
            · skip
              exact absurd c_63 (by decide)
        · skip
          have c_61 : s9 = 0 := n0_nef (by omega) c_61
          omega

def rmL_isLaid_1 : Room := ({ frames := 9, cells := 3, slots := 20, locals := 161 } : Room)
set_option maxHeartbeats 4000000 in
set_option maxRecDepth 100000 in
theorem kL_isLaid_1 (l : Launch) (hlt : l.stackTraces = false) (G : Gx) (hG : gOk G) (hF : Full G) (σ : St) {g n e9 z d t j : Nat} {b : Bool} (hA : PAll σ g n e9 z d t b j) (hGa : PGat σ g) (hj : j < 100) (o u v : Nat) (ho : o < 6000) (hu : u < 7000) (hv : v < 8000)  : CmI l yL_isLaid wsL_isLaid rmL_isLaid_1 G σ [.ref (gad G 0), .ref (gad G 31), .ref (gad G 32), .ref (gad G 33), .int 1, .int (nI o), .int (nI u), .int (nI v)] (fun r σ' => r = 1 ∧ PIn σ' (j + 1)) 3 20 := by
  refine bgM (cc := cL_isLaid) (maxL := 14) (ret := (some .boolean)) (own := RL) (by decide) rfl rfl hG (Nat.le_of_ble_eq_true rfl) rfl ?_
  intro p e s m args below meth c ls Bd hl
  obtain ⟨hx, hb, hr, hml, hts, hown, hlocks, fx, hw⟩ := Bd
  have hl : lv_has ls 14 [(0, .ref (gad G 0)), (1, .ref (gad G 31)), (2, .ref (gad G 32)), (3, .ref (gad G 33)), (4, .int 1), (5, .int (nI o)), (6, .int (nI u)), (7, .int (nI v))] := hl
  have hg5 := (pg hA).2
  have hn6 := (pn hA).2
  have he8 := (pe hA).2
  obtain ⟨x9, hx9⟩ : ∃ x9, x9 = o % (g + 1) := ⟨_, rfl⟩
  obtain ⟨y9, hy9⟩ : ∃ y9, y9 = (if v % 3 = 0 then 0 else u % (g + 1)) := ⟨_, rfl⟩
  obtain ⟨v9, hv9⟩ : ∃ v9, v9 = v % 103 := ⟨_, rfl⟩
  have hxg : x9 ≤ g := by have := Nat.mod_lt o (show 0 < g + 1 by omega); omega
  have hyg : y9 ≤ g := by rw [hy9]; have := Nat.mod_lt u (show 0 < g + 1 by omega); split <;> omega
  have hvg : v9 < 103 := by omega
  rcases pst_cases hA with hst | hst <;> rcases lay_c x9 y9 v9 g with hq | hq | hq | hq
  · skip
    obtain ⟨hbo, he0, hs5⟩ := hst
    refine lv_iload hx hb dL_isLaid_0 (lv_at hl 4 rfl) ?_
    refine lv_if_ne (tgt := 111) hx hb dL_isLaid_2 (by decide) (fun c_1 => ?_) (fun c_1 => ?_)
    · skip
      refine lv_iload hx hb dL_isLaid_111 (lv_at hl 4 rfl) ?_
      refine lv_iconst (v := 1) hx hb dL_isLaid_113 (by decide) ?_
      refine lv_icmp_ne (tgt := 320) hx hb dL_isLaid_114 (by decide) (fun c_2 => ?_) (fun c_2 => ?_)
      · skip
        exact absurd c_2 (by decide)
      · skip
        refine lv_iload hx hb dL_isLaid_117 (lv_at hl 5 rfl) ?_
        refine lv_aload_n hx hb dL_isLaid_119 rfl (lv_at hl 3 rfl) ?_
        refine lv_iconst (v := 0) hx hb dL_isLaid_120 (by decide) ?_
        refine lv_rep0 (x := 0) (y := nI 0) rfl ?_
        refine rAld hx hb fx hw 33 (hF.1 33 (by decide)) hF.2.1 (fun _ => rfl) 0 rfl (by omega) (by decide) dL_isLaid_121 ?_
        refine lv_rep0 (x := (σ 33 0)) (y := (nI g)) (pg hA).1 ?_
        refine lv_iconst (v := 1) hx hb dL_isLaid_122 (by decide) ?_
        refine lv_rep0 (x := 1) (y := nI 1) rfl ?_
        refine lv_iadd hx hb dL_isLaid_123 ?_
        refine lv_rep0 (x := ((nI g) + (nI 1))) (y := nI (g + 1)) (nI_add _ _) ?_
        refine lv_irem hx hb dL_isLaid_124 (nI_ne0 (by omega) (by omega)) ?_
        refine lv_rep0 (y := nI (o % (g + 1))) (pk_rem (by omega) (by omega) (by omega)) ?_
        have hrm9 := Nat.mod_lt o (show 0 < (g + 1) by omega)
        refine lv_istore (lv' := [(8, .int (nI (o % (g + 1)))), (0, .ref (gad G 0)), (1, .ref (gad G 31)), (2, .ref (gad G 32)), (3, .ref (gad G 33)), (4, .int 1), (5, .int (nI o)), (6, .int (nI u)), (7, .int (nI v))]) hx hb dL_isLaid_125 hl (by decide) rfl (fun ls hl => ?_)
        have q_3 : (nI (o % (g + 1))) = (nI x9) := by rw [hx9]
        have hl : lv_has ls 14 [(8, .int (nI x9)), (0, .ref (gad G 0)), (1, .ref (gad G 31)), (2, .ref (gad G 32)), (3, .ref (gad G 33)), (4, .int 1), (5, .int (nI o)), (6, .int (nI u)), (7, .int (nI v))] := (lv_c (lv_atq hl 0 rfl q_3) (lv_c (lv_at hl 1 rfl) (lv_c (lv_at hl 2 rfl) (lv_c (lv_at hl 3 rfl) (lv_c (lv_at hl 4 rfl) (lv_c (lv_at hl 5 rfl) (lv_c (lv_at hl 6 rfl) (lv_c (lv_at hl 7 rfl) (lv_c (lv_at hl 8 rfl) (lv_c0 hl))))))))))
        refine lv_iload hx hb dL_isLaid_127 (lv_at hl 8 rfl) ?_
        refine lv_iconst (v := 3) hx hb dL_isLaid_129 (by decide) ?_
        refine lv_rep0 (x := 3) (y := nI 3) rfl ?_
        refine lv_irem hx hb dL_isLaid_130 (nI_ne0 (by omega) (by omega)) ?_
        refine lv_rep0 (y := nI (v % 3)) (pk_rem (by omega) (by omega) (by omega)) ?_
        refine lv_if_ne (tgt := 138) hx hb dL_isLaid_131 (by decide) (fun c_4 => ?_) (fun c_4 => ?_)
        · skip
          have c_4 : ¬ (v % 3) = 0 := n0_net (by omega) c_4
          refine lv_iload hx hb dL_isLaid_138 (lv_at hl 7 rfl) ?_
          refine lv_aload_n hx hb dL_isLaid_140 rfl (lv_at hl 4 rfl) ?_
          refine lv_iconst (v := 0) hx hb dL_isLaid_141 (by decide) ?_
          refine lv_rep0 (x := 0) (y := nI 0) rfl ?_
          refine rAld hx hb fx hw 33 (hF.1 33 (by decide)) hF.2.1 (fun _ => rfl) 0 rfl (by omega) (by decide) dL_isLaid_142 ?_
          refine lv_rep0 (x := (σ 33 0)) (y := (nI g)) (pg hA).1 ?_
          refine lv_iconst (v := 1) hx hb dL_isLaid_143 (by decide) ?_
          refine lv_rep0 (x := 1) (y := nI 1) rfl ?_
          refine lv_iadd hx hb dL_isLaid_144 ?_
          refine lv_rep0 (x := ((nI g) + (nI 1))) (y := nI (g + 1)) (nI_add _ _) ?_
          refine lv_irem hx hb dL_isLaid_145 (nI_ne0 (by omega) (by omega)) ?_
          refine lv_rep0 (y := nI (u % (g + 1))) (pk_rem (by omega) (by omega) (by omega)) ?_
          have hrm9 := Nat.mod_lt u (show 0 < (g + 1) by omega)
          refine lv_istore (lv' := [(9, .int (nI (u % (g + 1)))), (8, .int (nI x9)), (0, .ref (gad G 0)), (1, .ref (gad G 31)), (2, .ref (gad G 32)), (3, .ref (gad G 33)), (4, .int 1), (5, .int (nI o)), (6, .int (nI u)), (7, .int (nI v))]) hx hb dL_isLaid_146 hl (by decide) rfl (fun ls hl => ?_)
          have q_5 : (nI (u % (g + 1))) = (nI y9) := by first | (rw [hy9, if_pos (by omega)]; rfl) | rw [hy9, if_neg (by omega)]
          have hl : lv_has ls 14 [(9, .int (nI y9)), (8, .int (nI x9)), (0, .ref (gad G 0)), (1, .ref (gad G 31)), (2, .ref (gad G 32)), (3, .ref (gad G 33)), (4, .int 1), (5, .int (nI o)), (6, .int (nI u)), (7, .int (nI v))] := (lv_c (lv_atq hl 0 rfl q_5) (lv_c (lv_at hl 1 rfl) (lv_c (lv_at hl 2 rfl) (lv_c (lv_at hl 3 rfl) (lv_c (lv_at hl 4 rfl) (lv_c (lv_at hl 5 rfl) (lv_c (lv_at hl 6 rfl) (lv_c (lv_at hl 7 rfl) (lv_c (lv_at hl 8 rfl) (lv_c (lv_at hl 9 rfl) (lv_c0 hl)))))))))))
          refine lv_iload hx hb dL_isLaid_148 (lv_at hl 9 rfl) ?_
          refine lv_bipush (v := 103) hx hb dL_isLaid_150 (by decide) ?_
          refine lv_rep0 (x := 103) (y := nI 103) rfl ?_
          refine lv_irem hx hb dL_isLaid_152 (nI_ne0 (by omega) (by omega)) ?_
          refine lv_rep0 (y := nI (v % 103)) (pk_rem (by omega) (by omega) (by omega)) ?_
          refine lv_istore (lv' := [(10, .int (nI (v % 103))), (9, .int (nI y9)), (8, .int (nI x9)), (0, .ref (gad G 0)), (1, .ref (gad G 31)), (2, .ref (gad G 32)), (3, .ref (gad G 33)), (4, .int 1), (5, .int (nI o)), (6, .int (nI u)), (7, .int (nI v))]) hx hb dL_isLaid_153 hl (by decide) rfl (fun ls hl => ?_)
          have q_6 : (nI (v % 103)) = (nI v9) := by rw [hv9]
          have hl : lv_has ls 14 [(10, .int (nI v9)), (9, .int (nI y9)), (8, .int (nI x9)), (0, .ref (gad G 0)), (1, .ref (gad G 31)), (2, .ref (gad G 32)), (3, .ref (gad G 33)), (4, .int 1), (5, .int (nI o)), (6, .int (nI u)), (7, .int (nI v))] := (lv_c (lv_atq hl 0 rfl q_6) (lv_c (lv_at hl 1 rfl) (lv_c (lv_at hl 2 rfl) (lv_c (lv_at hl 3 rfl) (lv_c (lv_at hl 4 rfl) (lv_c (lv_at hl 5 rfl) (lv_c (lv_at hl 6 rfl) (lv_c (lv_at hl 7 rfl) (lv_c (lv_at hl 8 rfl) (lv_c (lv_at hl 9 rfl) (lv_c (lv_at hl 10 rfl) (lv_c0 hl))))))))))))
          refine lv_iload hx hb dL_isLaid_155 (lv_at hl 2 rfl) ?_
          refine lv_aload_n hx hb dL_isLaid_157 rfl (lv_at hl 6 rfl) ?_
          refine lv_iconst (v := 0) hx hb dL_isLaid_158 (by decide) ?_
          refine lv_rep0 (x := 0) (y := nI 0) rfl ?_
          refine rAld hx hb fx hw 33 (hF.1 33 (by decide)) hF.2.1 (fun _ => rfl) 0 rfl (by omega) (by decide) dL_isLaid_159 ?_
          refine lv_rep0 (x := (σ 33 0)) (y := (nI g)) (pg hA).1 ?_
          refine lv_icmp_ge (tgt := 175) hx hb dL_isLaid_160 (by decide) (fun c_7 => ?_) (fun c_7 => ?_)
          · skip
            have c_7 : g ≤ x9 := (nI_leI (by omega) (by omega)).mp c_7
            refine lv_iconst (v := 0) hx hb dL_isLaid_175 (by decide) ?_
            refine lv_istore (lv' := [(11, .int 0), (10, .int (nI v9)), (9, .int (nI y9)), (8, .int (nI x9)), (0, .ref (gad G 0)), (1, .ref (gad G 31)), (2, .ref (gad G 32)), (3, .ref (gad G 33)), (4, .int 1), (5, .int (nI o)), (6, .int (nI u)), (7, .int (nI v))]) hx hb dL_isLaid_176 hl (by decide) rfl (fun ls hl => ?_)
            refine lv_iload hx hb dL_isLaid_178 (lv_at hl 2 rfl) ?_
            refine lv_iload hx hb dL_isLaid_180 (lv_at hl 3 rfl) ?_
            refine lv_icmp_gt (tgt := 195) hx hb dL_isLaid_182 (by decide) (fun c_8 => ?_) (fun c_8 => ?_)
            · skip
              have c_8 : x9 < y9 := (nI_ltI (by omega) (by omega)).mp c_8
              refine lv_iload hx hb dL_isLaid_195 (lv_at hl 1 rfl) ?_
              refine lv_if_le (tgt := 211) hx hb dL_isLaid_197 (by decide) (fun c_9 => ?_) (fun c_9 => ?_)
              · skip
                have c_9 : v9 = 0 := n0_let (by omega) c_9
                refine lv_iconst (v := 0) hx hb dL_isLaid_211 (by decide) ?_
                refine lv_istore (lv' := [(12, .int 0), (11, .int 0), (10, .int (nI v9)), (9, .int (nI y9)), (8, .int (nI x9)), (0, .ref (gad G 0)), (1, .ref (gad G 31)), (2, .ref (gad G 32)), (3, .ref (gad G 33)), (4, .int 1), (5, .int (nI o)), (6, .int (nI u)), (7, .int (nI v))]) hx hb dL_isLaid_212 hl (by decide) rfl (fun ls hl => ?_)
                refine lv_iload hx hb dL_isLaid_214 (lv_at hl 1 rfl) ?_
                refine lv_if_ne (tgt := 224) hx hb dL_isLaid_216 (by decide) (fun c_10 => ?_) (fun c_10 => ?_)
                · skip
                  exact absurd c_10 (by decide)
                · skip
                  refine lv_bipush (v := (-30)) hx hb dL_isLaid_219 (by decide) ?_
                  refine lv_goto (tgt := 268) hx hb dL_isLaid_221 (by decide) ?_
                  refine lv_istore (lv' := [(13, .int (-30)), (12, .int 0), (11, .int 0), (10, .int (nI v9)), (9, .int (nI y9)), (8, .int (nI x9)), (0, .ref (gad G 0)), (1, .ref (gad G 31)), (2, .ref (gad G 32)), (3, .ref (gad G 33)), (4, .int 1), (5, .int (nI o)), (6, .int (nI u)), (7, .int (nI v))]) hx hb dL_isLaid_268 hl (by decide) rfl (fun ls hl => ?_)
                  refine lv_iload hx hb dL_isLaid_270 (lv_at hl 2 rfl) ?_
                  refine lv_if_eq (tgt := 298) hx hb dL_isLaid_272 (by decide) (fun c_11 => ?_) (fun c_11 => ?_)
                  · skip
                    refine lv_aload_n hx hb dL_isLaid_298 rfl (lv_at hl 6 rfl) ?_
                    refine lv_iconst (v := 1) hx hb dL_isLaid_299 (by decide) ?_
                    refine lv_iload hx hb dL_isLaid_300 (lv_at hl 5 rfl) ?_
                    refine lv_iload hx hb dL_isLaid_302 (lv_at hl 4 rfl) ?_
                    refine lv_iload hx hb dL_isLaid_304 (lv_at hl 3 rfl) ?_
                    refine rCallLS (As := [.ref (gad G 0), .int 1, .int (nI x9), .int (nI y9), .int (nI v9)]) (rest := []) ⟨hx, hb, hml, hown, hts⟩ fx hw (d1_t1 l hlt G hG hF σ (pcv hA) ((nI x9)) ((nI y9)) ((nI v9)) (by first | (rw [inB_no (a := x9) (n := g) (by omega) (by omega)]; rfl) | (rw [inB_no (a := y9) (n := g) (by omega) (by omega), Bool.and_false]))) (vx_cwSW 5 hts gL_isLaid_L_does rfl rfl rfl (by decide +kernel) ⟨Nat.le_of_ble_eq_true rfl, Nat.le_of_ble_eq_true rfl⟩) rfl hl.1 rfl (Nat.le_of_ble_eq_true rfl) dL_isLaid_306 ⟨Nat.le_trans (show _ ≤ 3 by omega) (Nat.le_of_ble_eq_true rfl), Nat.le_trans (show _ ≤ 20 by omega) (Nat.le_of_ble_eq_true rfl)⟩ (fun r_12 σ_13 H locs p_14 hw => ?_)
                    obtain ⟨er_12, eσ_13⟩ := p_14
                    have er_12 := er_12.symm; subst er_12
                    have eσ_13 := eσ_13.symm; subst eσ_13
                    refine lv_iload hx hb dL_isLaid_309 (lv_at hl 0 rfl) ?_
                    refine lv_icmp_ne (tgt := 318) hx hb dL_isLaid_311 (by decide) (fun c_15 => ?_) (fun c_15 => ?_)
                    · skip
                      exact absurd c_15 (by decide)
                    · skip
                      refine lv_iconst (v := 1) hx hb dL_isLaid_314 (by decide) ?_
                      refine lv_goto (tgt := 319) hx hb dL_isLaid_315 (by decide) ?_
                      exact rRetZw hx hb hr hw (by decide) (by exact ⟨rfl, po_same hA hGa⟩) hlocks dL_isLaid_319 (by omega) (by omega)
                  · skip
                    exact absurd c_11 (by decide)
              · skip
                have c_9 : 0 < v9 := n0_lef (by omega) c_9
                refine lv_iload hx hb dL_isLaid_200 (lv_at hl 1 rfl) ?_
                refine lv_bipush (v := 101) hx hb dL_isLaid_202 (by decide) ?_
                refine lv_rep0 (x := 101) (y := nI 101) rfl ?_
                refine lv_icmp_ge (tgt := 211) hx hb dL_isLaid_204 (by decide) (fun c_16 => ?_) (fun c_16 => ?_)
                · skip
                  have c_16 : 101 ≤ v9 := (nI_leI (by omega) (by omega)).mp c_16
                  refine lv_iconst (v := 0) hx hb dL_isLaid_211 (by decide) ?_
                  refine lv_istore (lv' := [(12, .int 0), (11, .int 0), (10, .int (nI v9)), (9, .int (nI y9)), (8, .int (nI x9)), (0, .ref (gad G 0)), (1, .ref (gad G 31)), (2, .ref (gad G 32)), (3, .ref (gad G 33)), (4, .int 1), (5, .int (nI o)), (6, .int (nI u)), (7, .int (nI v))]) hx hb dL_isLaid_212 hl (by decide) rfl (fun ls hl => ?_)
                  refine lv_iload hx hb dL_isLaid_214 (lv_at hl 1 rfl) ?_
                  refine lv_if_ne (tgt := 224) hx hb dL_isLaid_216 (by decide) (fun c_17 => ?_) (fun c_17 => ?_)
                  · skip
                    exact absurd c_17 (by decide)
                  · skip
                    refine lv_bipush (v := (-30)) hx hb dL_isLaid_219 (by decide) ?_
                    refine lv_goto (tgt := 268) hx hb dL_isLaid_221 (by decide) ?_
                    refine lv_istore (lv' := [(13, .int (-30)), (12, .int 0), (11, .int 0), (10, .int (nI v9)), (9, .int (nI y9)), (8, .int (nI x9)), (0, .ref (gad G 0)), (1, .ref (gad G 31)), (2, .ref (gad G 32)), (3, .ref (gad G 33)), (4, .int 1), (5, .int (nI o)), (6, .int (nI u)), (7, .int (nI v))]) hx hb dL_isLaid_268 hl (by decide) rfl (fun ls hl => ?_)
                    refine lv_iload hx hb dL_isLaid_270 (lv_at hl 2 rfl) ?_
                    refine lv_if_eq (tgt := 298) hx hb dL_isLaid_272 (by decide) (fun c_18 => ?_) (fun c_18 => ?_)
                    · skip
                      refine lv_aload_n hx hb dL_isLaid_298 rfl (lv_at hl 6 rfl) ?_
                      refine lv_iconst (v := 1) hx hb dL_isLaid_299 (by decide) ?_
                      refine lv_iload hx hb dL_isLaid_300 (lv_at hl 5 rfl) ?_
                      refine lv_iload hx hb dL_isLaid_302 (lv_at hl 4 rfl) ?_
                      refine lv_iload hx hb dL_isLaid_304 (lv_at hl 3 rfl) ?_
                      refine rCallLS (As := [.ref (gad G 0), .int 1, .int (nI x9), .int (nI y9), .int (nI v9)]) (rest := []) ⟨hx, hb, hml, hown, hts⟩ fx hw (d1_t1 l hlt G hG hF σ (pcv hA) ((nI x9)) ((nI y9)) ((nI v9)) (by first | (rw [inB_no (a := x9) (n := g) (by omega) (by omega)]; rfl) | (rw [inB_no (a := y9) (n := g) (by omega) (by omega), Bool.and_false]))) (vx_cwSW 5 hts gL_isLaid_L_does rfl rfl rfl (by decide +kernel) ⟨Nat.le_of_ble_eq_true rfl, Nat.le_of_ble_eq_true rfl⟩) rfl hl.1 rfl (Nat.le_of_ble_eq_true rfl) dL_isLaid_306 ⟨Nat.le_trans (show _ ≤ 3 by omega) (Nat.le_of_ble_eq_true rfl), Nat.le_trans (show _ ≤ 20 by omega) (Nat.le_of_ble_eq_true rfl)⟩ (fun r_19 σ_20 H locs p_21 hw => ?_)
                      obtain ⟨er_19, eσ_20⟩ := p_21
                      have er_19 := er_19.symm; subst er_19
                      have eσ_20 := eσ_20.symm; subst eσ_20
                      refine lv_iload hx hb dL_isLaid_309 (lv_at hl 0 rfl) ?_
                      refine lv_icmp_ne (tgt := 318) hx hb dL_isLaid_311 (by decide) (fun c_22 => ?_) (fun c_22 => ?_)
                      · skip
                        exact absurd c_22 (by decide)
                      · skip
                        refine lv_iconst (v := 1) hx hb dL_isLaid_314 (by decide) ?_
                        refine lv_goto (tgt := 319) hx hb dL_isLaid_315 (by decide) ?_
                        exact rRetZw hx hb hr hw (by decide) (by exact ⟨rfl, po_same hA hGa⟩) hlocks dL_isLaid_319 (by omega) (by omega)
                    · skip
                      exact absurd c_18 (by decide)
                · skip
                  have c_16 : ¬ 101 ≤ v9 := fun h9 => c_16 ((nI_leI (by omega) (by omega)).mpr h9)
                  refine lv_iconst (v := 1) hx hb dL_isLaid_207 (by decide) ?_
                  refine lv_goto (tgt := 212) hx hb dL_isLaid_208 (by decide) ?_
                  refine lv_istore (lv' := [(12, .int 1), (11, .int 0), (10, .int (nI v9)), (9, .int (nI y9)), (8, .int (nI x9)), (0, .ref (gad G 0)), (1, .ref (gad G 31)), (2, .ref (gad G 32)), (3, .ref (gad G 33)), (4, .int 1), (5, .int (nI o)), (6, .int (nI u)), (7, .int (nI v))]) hx hb dL_isLaid_212 hl (by decide) rfl (fun ls hl => ?_)
                  refine lv_iload hx hb dL_isLaid_214 (lv_at hl 1 rfl) ?_
                  refine lv_if_ne (tgt := 224) hx hb dL_isLaid_216 (by decide) (fun c_23 => ?_) (fun c_23 => ?_)
                  · skip
                    exact absurd c_23 (by decide)
                  · skip
                    refine lv_bipush (v := (-30)) hx hb dL_isLaid_219 (by decide) ?_
                    refine lv_goto (tgt := 268) hx hb dL_isLaid_221 (by decide) ?_
                    refine lv_istore (lv' := [(13, .int (-30)), (12, .int 1), (11, .int 0), (10, .int (nI v9)), (9, .int (nI y9)), (8, .int (nI x9)), (0, .ref (gad G 0)), (1, .ref (gad G 31)), (2, .ref (gad G 32)), (3, .ref (gad G 33)), (4, .int 1), (5, .int (nI o)), (6, .int (nI u)), (7, .int (nI v))]) hx hb dL_isLaid_268 hl (by decide) rfl (fun ls hl => ?_)
                    refine lv_iload hx hb dL_isLaid_270 (lv_at hl 2 rfl) ?_
                    refine lv_if_eq (tgt := 298) hx hb dL_isLaid_272 (by decide) (fun c_24 => ?_) (fun c_24 => ?_)
                    · skip
                      refine lv_aload_n hx hb dL_isLaid_298 rfl (lv_at hl 6 rfl) ?_
                      refine lv_iconst (v := 1) hx hb dL_isLaid_299 (by decide) ?_
                      refine lv_iload hx hb dL_isLaid_300 (lv_at hl 5 rfl) ?_
                      refine lv_iload hx hb dL_isLaid_302 (lv_at hl 4 rfl) ?_
                      refine lv_iload hx hb dL_isLaid_304 (lv_at hl 3 rfl) ?_
                      refine rCallLS (As := [.ref (gad G 0), .int 1, .int (nI x9), .int (nI y9), .int (nI v9)]) (rest := []) ⟨hx, hb, hml, hown, hts⟩ fx hw (d1_t1 l hlt G hG hF σ (pcv hA) ((nI x9)) ((nI y9)) ((nI v9)) (by first | (rw [inB_no (a := x9) (n := g) (by omega) (by omega)]; rfl) | (rw [inB_no (a := y9) (n := g) (by omega) (by omega), Bool.and_false]))) (vx_cwSW 5 hts gL_isLaid_L_does rfl rfl rfl (by decide +kernel) ⟨Nat.le_of_ble_eq_true rfl, Nat.le_of_ble_eq_true rfl⟩) rfl hl.1 rfl (Nat.le_of_ble_eq_true rfl) dL_isLaid_306 ⟨Nat.le_trans (show _ ≤ 3 by omega) (Nat.le_of_ble_eq_true rfl), Nat.le_trans (show _ ≤ 20 by omega) (Nat.le_of_ble_eq_true rfl)⟩ (fun r_25 σ_26 H locs p_27 hw => ?_)
                      obtain ⟨er_25, eσ_26⟩ := p_27
                      have er_25 := er_25.symm; subst er_25
                      have eσ_26 := eσ_26.symm; subst eσ_26
                      refine lv_iload hx hb dL_isLaid_309 (lv_at hl 0 rfl) ?_
                      refine lv_icmp_ne (tgt := 318) hx hb dL_isLaid_311 (by decide) (fun c_28 => ?_) (fun c_28 => ?_)
                      · skip
                        exact absurd c_28 (by decide)
                      · skip
                        refine lv_iconst (v := 1) hx hb dL_isLaid_314 (by decide) ?_
                        refine lv_goto (tgt := 319) hx hb dL_isLaid_315 (by decide) ?_
                        exact rRetZw hx hb hr hw (by decide) (by exact ⟨rfl, po_same hA hGa⟩) hlocks dL_isLaid_319 (by omega) (by omega)
                    · skip
                      exact absurd c_24 (by decide)
            · skip
              have c_8 : ¬ x9 < y9 := fun h9 => c_8 ((nI_ltI (by omega) (by omega)).mpr h9)
              refine lv_iload hx hb dL_isLaid_185 (lv_at hl 2 rfl) ?_
              refine lv_if_ne (tgt := 211) hx hb dL_isLaid_187 (by decide) (fun c_29 => ?_) (fun c_29 => ?_)
              · skip
                have c_29 : ¬ y9 = 0 := n0_net (by omega) c_29
                refine lv_iconst (v := 0) hx hb dL_isLaid_211 (by decide) ?_
                refine lv_istore (lv' := [(12, .int 0), (11, .int 0), (10, .int (nI v9)), (9, .int (nI y9)), (8, .int (nI x9)), (0, .ref (gad G 0)), (1, .ref (gad G 31)), (2, .ref (gad G 32)), (3, .ref (gad G 33)), (4, .int 1), (5, .int (nI o)), (6, .int (nI u)), (7, .int (nI v))]) hx hb dL_isLaid_212 hl (by decide) rfl (fun ls hl => ?_)
                refine lv_iload hx hb dL_isLaid_214 (lv_at hl 1 rfl) ?_
                refine lv_if_ne (tgt := 224) hx hb dL_isLaid_216 (by decide) (fun c_30 => ?_) (fun c_30 => ?_)
                · skip
                  exact absurd c_30 (by decide)
                · skip
                  refine lv_bipush (v := (-30)) hx hb dL_isLaid_219 (by decide) ?_
                  refine lv_goto (tgt := 268) hx hb dL_isLaid_221 (by decide) ?_
                  refine lv_istore (lv' := [(13, .int (-30)), (12, .int 0), (11, .int 0), (10, .int (nI v9)), (9, .int (nI y9)), (8, .int (nI x9)), (0, .ref (gad G 0)), (1, .ref (gad G 31)), (2, .ref (gad G 32)), (3, .ref (gad G 33)), (4, .int 1), (5, .int (nI o)), (6, .int (nI u)), (7, .int (nI v))]) hx hb dL_isLaid_268 hl (by decide) rfl (fun ls hl => ?_)
                  refine lv_iload hx hb dL_isLaid_270 (lv_at hl 2 rfl) ?_
                  refine lv_if_eq (tgt := 298) hx hb dL_isLaid_272 (by decide) (fun c_31 => ?_) (fun c_31 => ?_)
                  · skip
                    refine lv_aload_n hx hb dL_isLaid_298 rfl (lv_at hl 6 rfl) ?_
                    refine lv_iconst (v := 1) hx hb dL_isLaid_299 (by decide) ?_
                    refine lv_iload hx hb dL_isLaid_300 (lv_at hl 5 rfl) ?_
                    refine lv_iload hx hb dL_isLaid_302 (lv_at hl 4 rfl) ?_
                    refine lv_iload hx hb dL_isLaid_304 (lv_at hl 3 rfl) ?_
                    refine rCallLS (As := [.ref (gad G 0), .int 1, .int (nI x9), .int (nI y9), .int (nI v9)]) (rest := []) ⟨hx, hb, hml, hown, hts⟩ fx hw (d1_t1 l hlt G hG hF σ (pcv hA) ((nI x9)) ((nI y9)) ((nI v9)) (by first | (rw [inB_no (a := x9) (n := g) (by omega) (by omega)]; rfl) | (rw [inB_no (a := y9) (n := g) (by omega) (by omega), Bool.and_false]))) (vx_cwSW 5 hts gL_isLaid_L_does rfl rfl rfl (by decide +kernel) ⟨Nat.le_of_ble_eq_true rfl, Nat.le_of_ble_eq_true rfl⟩) rfl hl.1 rfl (Nat.le_of_ble_eq_true rfl) dL_isLaid_306 ⟨Nat.le_trans (show _ ≤ 3 by omega) (Nat.le_of_ble_eq_true rfl), Nat.le_trans (show _ ≤ 20 by omega) (Nat.le_of_ble_eq_true rfl)⟩ (fun r_32 σ_33 H locs p_34 hw => ?_)
                    obtain ⟨er_32, eσ_33⟩ := p_34
                    have er_32 := er_32.symm; subst er_32
                    have eσ_33 := eσ_33.symm; subst eσ_33
                    refine lv_iload hx hb dL_isLaid_309 (lv_at hl 0 rfl) ?_
                    refine lv_icmp_ne (tgt := 318) hx hb dL_isLaid_311 (by decide) (fun c_35 => ?_) (fun c_35 => ?_)
                    · skip
                      exact absurd c_35 (by decide)
                    · skip
                      refine lv_iconst (v := 1) hx hb dL_isLaid_314 (by decide) ?_
                      refine lv_goto (tgt := 319) hx hb dL_isLaid_315 (by decide) ?_
                      exact rRetZw hx hb hr hw (by decide) (by exact ⟨rfl, po_same hA hGa⟩) hlocks dL_isLaid_319 (by omega) (by omega)
                  · skip
                    exact absurd c_31 (by decide)
              · skip
                have c_29 : y9 = 0 := n0_nef (by omega) c_29
                refine lv_iload hx hb dL_isLaid_190 (lv_at hl 3 rfl) ?_
                refine lv_if_le (tgt := 211) hx hb dL_isLaid_192 (by decide) (fun c_36 => ?_) (fun c_36 => ?_)
                · skip
                  have c_36 : x9 = 0 := n0_let (by omega) c_36
                  refine lv_iconst (v := 0) hx hb dL_isLaid_211 (by decide) ?_
                  refine lv_istore (lv' := [(12, .int 0), (11, .int 0), (10, .int (nI v9)), (9, .int (nI y9)), (8, .int (nI x9)), (0, .ref (gad G 0)), (1, .ref (gad G 31)), (2, .ref (gad G 32)), (3, .ref (gad G 33)), (4, .int 1), (5, .int (nI o)), (6, .int (nI u)), (7, .int (nI v))]) hx hb dL_isLaid_212 hl (by decide) rfl (fun ls hl => ?_)
                  refine lv_iload hx hb dL_isLaid_214 (lv_at hl 1 rfl) ?_
                  refine lv_if_ne (tgt := 224) hx hb dL_isLaid_216 (by decide) (fun c_37 => ?_) (fun c_37 => ?_)
                  · skip
                    exact absurd c_37 (by decide)
                  · skip
                    refine lv_bipush (v := (-30)) hx hb dL_isLaid_219 (by decide) ?_
                    refine lv_goto (tgt := 268) hx hb dL_isLaid_221 (by decide) ?_
                    refine lv_istore (lv' := [(13, .int (-30)), (12, .int 0), (11, .int 0), (10, .int (nI v9)), (9, .int (nI y9)), (8, .int (nI x9)), (0, .ref (gad G 0)), (1, .ref (gad G 31)), (2, .ref (gad G 32)), (3, .ref (gad G 33)), (4, .int 1), (5, .int (nI o)), (6, .int (nI u)), (7, .int (nI v))]) hx hb dL_isLaid_268 hl (by decide) rfl (fun ls hl => ?_)
                    refine lv_iload hx hb dL_isLaid_270 (lv_at hl 2 rfl) ?_
                    refine lv_if_eq (tgt := 298) hx hb dL_isLaid_272 (by decide) (fun c_38 => ?_) (fun c_38 => ?_)
                    · skip
                      refine lv_aload_n hx hb dL_isLaid_298 rfl (lv_at hl 6 rfl) ?_
                      refine lv_iconst (v := 1) hx hb dL_isLaid_299 (by decide) ?_
                      refine lv_iload hx hb dL_isLaid_300 (lv_at hl 5 rfl) ?_
                      refine lv_iload hx hb dL_isLaid_302 (lv_at hl 4 rfl) ?_
                      refine lv_iload hx hb dL_isLaid_304 (lv_at hl 3 rfl) ?_
                      refine rCallLS (As := [.ref (gad G 0), .int 1, .int (nI x9), .int (nI y9), .int (nI v9)]) (rest := []) ⟨hx, hb, hml, hown, hts⟩ fx hw (d1_t1 l hlt G hG hF σ (pcv hA) ((nI x9)) ((nI y9)) ((nI v9)) (by first | (rw [inB_no (a := x9) (n := g) (by omega) (by omega)]; rfl) | (rw [inB_no (a := y9) (n := g) (by omega) (by omega), Bool.and_false]))) (vx_cwSW 5 hts gL_isLaid_L_does rfl rfl rfl (by decide +kernel) ⟨Nat.le_of_ble_eq_true rfl, Nat.le_of_ble_eq_true rfl⟩) rfl hl.1 rfl (Nat.le_of_ble_eq_true rfl) dL_isLaid_306 ⟨Nat.le_trans (show _ ≤ 3 by omega) (Nat.le_of_ble_eq_true rfl), Nat.le_trans (show _ ≤ 20 by omega) (Nat.le_of_ble_eq_true rfl)⟩ (fun r_39 σ_40 H locs p_41 hw => ?_)
                      obtain ⟨er_39, eσ_40⟩ := p_41
                      have er_39 := er_39.symm; subst er_39
                      have eσ_40 := eσ_40.symm; subst eσ_40
                      refine lv_iload hx hb dL_isLaid_309 (lv_at hl 0 rfl) ?_
                      refine lv_icmp_ne (tgt := 318) hx hb dL_isLaid_311 (by decide) (fun c_42 => ?_) (fun c_42 => ?_)
                      · skip
                        exact absurd c_42 (by decide)
                      · skip
                        refine lv_iconst (v := 1) hx hb dL_isLaid_314 (by decide) ?_
                        refine lv_goto (tgt := 319) hx hb dL_isLaid_315 (by decide) ?_
                        exact rRetZw hx hb hr hw (by decide) (by exact ⟨rfl, po_same hA hGa⟩) hlocks dL_isLaid_319 (by omega) (by omega)
                    · skip
                      exact absurd c_38 (by decide)
                · skip
                  have c_36 : 0 < x9 := n0_lef (by omega) c_36
                  refine lv_iload hx hb dL_isLaid_195 (lv_at hl 1 rfl) ?_
                  refine lv_if_le (tgt := 211) hx hb dL_isLaid_197 (by decide) (fun c_43 => ?_) (fun c_43 => ?_)
                  · skip
                    have c_43 : v9 = 0 := n0_let (by omega) c_43
                    refine lv_iconst (v := 0) hx hb dL_isLaid_211 (by decide) ?_
                    refine lv_istore (lv' := [(12, .int 0), (11, .int 0), (10, .int (nI v9)), (9, .int (nI y9)), (8, .int (nI x9)), (0, .ref (gad G 0)), (1, .ref (gad G 31)), (2, .ref (gad G 32)), (3, .ref (gad G 33)), (4, .int 1), (5, .int (nI o)), (6, .int (nI u)), (7, .int (nI v))]) hx hb dL_isLaid_212 hl (by decide) rfl (fun ls hl => ?_)
                    refine lv_iload hx hb dL_isLaid_214 (lv_at hl 1 rfl) ?_
                    refine lv_if_ne (tgt := 224) hx hb dL_isLaid_216 (by decide) (fun c_44 => ?_) (fun c_44 => ?_)
                    · skip
                      exact absurd c_44 (by decide)
                    · skip
                      refine lv_bipush (v := (-30)) hx hb dL_isLaid_219 (by decide) ?_
                      refine lv_goto (tgt := 268) hx hb dL_isLaid_221 (by decide) ?_
                      refine lv_istore (lv' := [(13, .int (-30)), (12, .int 0), (11, .int 0), (10, .int (nI v9)), (9, .int (nI y9)), (8, .int (nI x9)), (0, .ref (gad G 0)), (1, .ref (gad G 31)), (2, .ref (gad G 32)), (3, .ref (gad G 33)), (4, .int 1), (5, .int (nI o)), (6, .int (nI u)), (7, .int (nI v))]) hx hb dL_isLaid_268 hl (by decide) rfl (fun ls hl => ?_)
                      refine lv_iload hx hb dL_isLaid_270 (lv_at hl 2 rfl) ?_
                      refine lv_if_eq (tgt := 298) hx hb dL_isLaid_272 (by decide) (fun c_45 => ?_) (fun c_45 => ?_)
                      · skip
                        refine lv_aload_n hx hb dL_isLaid_298 rfl (lv_at hl 6 rfl) ?_
                        refine lv_iconst (v := 1) hx hb dL_isLaid_299 (by decide) ?_
                        refine lv_iload hx hb dL_isLaid_300 (lv_at hl 5 rfl) ?_
                        refine lv_iload hx hb dL_isLaid_302 (lv_at hl 4 rfl) ?_
                        refine lv_iload hx hb dL_isLaid_304 (lv_at hl 3 rfl) ?_
                        refine rCallLS (As := [.ref (gad G 0), .int 1, .int (nI x9), .int (nI y9), .int (nI v9)]) (rest := []) ⟨hx, hb, hml, hown, hts⟩ fx hw (d1_t1 l hlt G hG hF σ (pcv hA) ((nI x9)) ((nI y9)) ((nI v9)) (by first | (rw [inB_no (a := x9) (n := g) (by omega) (by omega)]; rfl) | (rw [inB_no (a := y9) (n := g) (by omega) (by omega), Bool.and_false]))) (vx_cwSW 5 hts gL_isLaid_L_does rfl rfl rfl (by decide +kernel) ⟨Nat.le_of_ble_eq_true rfl, Nat.le_of_ble_eq_true rfl⟩) rfl hl.1 rfl (Nat.le_of_ble_eq_true rfl) dL_isLaid_306 ⟨Nat.le_trans (show _ ≤ 3 by omega) (Nat.le_of_ble_eq_true rfl), Nat.le_trans (show _ ≤ 20 by omega) (Nat.le_of_ble_eq_true rfl)⟩ (fun r_46 σ_47 H locs p_48 hw => ?_)
                        obtain ⟨er_46, eσ_47⟩ := p_48
                        have er_46 := er_46.symm; subst er_46
                        have eσ_47 := eσ_47.symm; subst eσ_47
                        refine lv_iload hx hb dL_isLaid_309 (lv_at hl 0 rfl) ?_
                        refine lv_icmp_ne (tgt := 318) hx hb dL_isLaid_311 (by decide) (fun c_49 => ?_) (fun c_49 => ?_)
                        · skip
                          exact absurd c_49 (by decide)
                        · skip
                          refine lv_iconst (v := 1) hx hb dL_isLaid_314 (by decide) ?_
                          refine lv_goto (tgt := 319) hx hb dL_isLaid_315 (by decide) ?_
                          exact rRetZw hx hb hr hw (by decide) (by exact ⟨rfl, po_same hA hGa⟩) hlocks dL_isLaid_319 (by omega) (by omega)
                      · skip
                        exact absurd c_45 (by decide)
                  · skip
                    have c_43 : 0 < v9 := n0_lef (by omega) c_43
                    refine lv_iload hx hb dL_isLaid_200 (lv_at hl 1 rfl) ?_
                    refine lv_bipush (v := 101) hx hb dL_isLaid_202 (by decide) ?_
                    refine lv_rep0 (x := 101) (y := nI 101) rfl ?_
                    refine lv_icmp_ge (tgt := 211) hx hb dL_isLaid_204 (by decide) (fun c_50 => ?_) (fun c_50 => ?_)
                    · skip
                      have c_50 : 101 ≤ v9 := (nI_leI (by omega) (by omega)).mp c_50
                      refine lv_iconst (v := 0) hx hb dL_isLaid_211 (by decide) ?_
                      refine lv_istore (lv' := [(12, .int 0), (11, .int 0), (10, .int (nI v9)), (9, .int (nI y9)), (8, .int (nI x9)), (0, .ref (gad G 0)), (1, .ref (gad G 31)), (2, .ref (gad G 32)), (3, .ref (gad G 33)), (4, .int 1), (5, .int (nI o)), (6, .int (nI u)), (7, .int (nI v))]) hx hb dL_isLaid_212 hl (by decide) rfl (fun ls hl => ?_)
                      refine lv_iload hx hb dL_isLaid_214 (lv_at hl 1 rfl) ?_
                      refine lv_if_ne (tgt := 224) hx hb dL_isLaid_216 (by decide) (fun c_51 => ?_) (fun c_51 => ?_)
                      · skip
                        exact absurd c_51 (by decide)
                      · skip
                        refine lv_bipush (v := (-30)) hx hb dL_isLaid_219 (by decide) ?_
                        refine lv_goto (tgt := 268) hx hb dL_isLaid_221 (by decide) ?_
                        refine lv_istore (lv' := [(13, .int (-30)), (12, .int 0), (11, .int 0), (10, .int (nI v9)), (9, .int (nI y9)), (8, .int (nI x9)), (0, .ref (gad G 0)), (1, .ref (gad G 31)), (2, .ref (gad G 32)), (3, .ref (gad G 33)), (4, .int 1), (5, .int (nI o)), (6, .int (nI u)), (7, .int (nI v))]) hx hb dL_isLaid_268 hl (by decide) rfl (fun ls hl => ?_)
                        refine lv_iload hx hb dL_isLaid_270 (lv_at hl 2 rfl) ?_
                        refine lv_if_eq (tgt := 298) hx hb dL_isLaid_272 (by decide) (fun c_52 => ?_) (fun c_52 => ?_)
                        · skip
                          refine lv_aload_n hx hb dL_isLaid_298 rfl (lv_at hl 6 rfl) ?_
                          refine lv_iconst (v := 1) hx hb dL_isLaid_299 (by decide) ?_
                          refine lv_iload hx hb dL_isLaid_300 (lv_at hl 5 rfl) ?_
                          refine lv_iload hx hb dL_isLaid_302 (lv_at hl 4 rfl) ?_
                          refine lv_iload hx hb dL_isLaid_304 (lv_at hl 3 rfl) ?_
                          refine rCallLS (As := [.ref (gad G 0), .int 1, .int (nI x9), .int (nI y9), .int (nI v9)]) (rest := []) ⟨hx, hb, hml, hown, hts⟩ fx hw (d1_t1 l hlt G hG hF σ (pcv hA) ((nI x9)) ((nI y9)) ((nI v9)) (by first | (rw [inB_no (a := x9) (n := g) (by omega) (by omega)]; rfl) | (rw [inB_no (a := y9) (n := g) (by omega) (by omega), Bool.and_false]))) (vx_cwSW 5 hts gL_isLaid_L_does rfl rfl rfl (by decide +kernel) ⟨Nat.le_of_ble_eq_true rfl, Nat.le_of_ble_eq_true rfl⟩) rfl hl.1 rfl (Nat.le_of_ble_eq_true rfl) dL_isLaid_306 ⟨Nat.le_trans (show _ ≤ 3 by omega) (Nat.le_of_ble_eq_true rfl), Nat.le_trans (show _ ≤ 20 by omega) (Nat.le_of_ble_eq_true rfl)⟩ (fun r_53 σ_54 H locs p_55 hw => ?_)
                          obtain ⟨er_53, eσ_54⟩ := p_55
                          have er_53 := er_53.symm; subst er_53
                          have eσ_54 := eσ_54.symm; subst eσ_54
                          refine lv_iload hx hb dL_isLaid_309 (lv_at hl 0 rfl) ?_
                          refine lv_icmp_ne (tgt := 318) hx hb dL_isLaid_311 (by decide) (fun c_56 => ?_) (fun c_56 => ?_)
                          · skip
                            exact absurd c_56 (by decide)
                          · skip
                            refine lv_iconst (v := 1) hx hb dL_isLaid_314 (by decide) ?_
                            refine lv_goto (tgt := 319) hx hb dL_isLaid_315 (by decide) ?_
                            exact rRetZw hx hb hr hw (by decide) (by exact ⟨rfl, po_same hA hGa⟩) hlocks dL_isLaid_319 (by omega) (by omega)
                        · skip
                          exact absurd c_52 (by decide)
                    · skip
                      have c_50 : ¬ 101 ≤ v9 := fun h9 => c_50 ((nI_leI (by omega) (by omega)).mpr h9)
                      refine lv_iconst (v := 1) hx hb dL_isLaid_207 (by decide) ?_
                      refine lv_goto (tgt := 212) hx hb dL_isLaid_208 (by decide) ?_
                      refine lv_istore (lv' := [(12, .int 1), (11, .int 0), (10, .int (nI v9)), (9, .int (nI y9)), (8, .int (nI x9)), (0, .ref (gad G 0)), (1, .ref (gad G 31)), (2, .ref (gad G 32)), (3, .ref (gad G 33)), (4, .int 1), (5, .int (nI o)), (6, .int (nI u)), (7, .int (nI v))]) hx hb dL_isLaid_212 hl (by decide) rfl (fun ls hl => ?_)
                      refine lv_iload hx hb dL_isLaid_214 (lv_at hl 1 rfl) ?_
                      refine lv_if_ne (tgt := 224) hx hb dL_isLaid_216 (by decide) (fun c_57 => ?_) (fun c_57 => ?_)
                      · skip
                        exact absurd c_57 (by decide)
                      · skip
                        refine lv_bipush (v := (-30)) hx hb dL_isLaid_219 (by decide) ?_
                        refine lv_goto (tgt := 268) hx hb dL_isLaid_221 (by decide) ?_
                        refine lv_istore (lv' := [(13, .int (-30)), (12, .int 1), (11, .int 0), (10, .int (nI v9)), (9, .int (nI y9)), (8, .int (nI x9)), (0, .ref (gad G 0)), (1, .ref (gad G 31)), (2, .ref (gad G 32)), (3, .ref (gad G 33)), (4, .int 1), (5, .int (nI o)), (6, .int (nI u)), (7, .int (nI v))]) hx hb dL_isLaid_268 hl (by decide) rfl (fun ls hl => ?_)
                        refine lv_iload hx hb dL_isLaid_270 (lv_at hl 2 rfl) ?_
                        refine lv_if_eq (tgt := 298) hx hb dL_isLaid_272 (by decide) (fun c_58 => ?_) (fun c_58 => ?_)
                        · skip
                          refine lv_aload_n hx hb dL_isLaid_298 rfl (lv_at hl 6 rfl) ?_
                          refine lv_iconst (v := 1) hx hb dL_isLaid_299 (by decide) ?_
                          refine lv_iload hx hb dL_isLaid_300 (lv_at hl 5 rfl) ?_
                          refine lv_iload hx hb dL_isLaid_302 (lv_at hl 4 rfl) ?_
                          refine lv_iload hx hb dL_isLaid_304 (lv_at hl 3 rfl) ?_
                          refine rCallLS (As := [.ref (gad G 0), .int 1, .int (nI x9), .int (nI y9), .int (nI v9)]) (rest := []) ⟨hx, hb, hml, hown, hts⟩ fx hw (d1_t1 l hlt G hG hF σ (pcv hA) ((nI x9)) ((nI y9)) ((nI v9)) (by first | (rw [inB_no (a := x9) (n := g) (by omega) (by omega)]; rfl) | (rw [inB_no (a := y9) (n := g) (by omega) (by omega), Bool.and_false]))) (vx_cwSW 5 hts gL_isLaid_L_does rfl rfl rfl (by decide +kernel) ⟨Nat.le_of_ble_eq_true rfl, Nat.le_of_ble_eq_true rfl⟩) rfl hl.1 rfl (Nat.le_of_ble_eq_true rfl) dL_isLaid_306 ⟨Nat.le_trans (show _ ≤ 3 by omega) (Nat.le_of_ble_eq_true rfl), Nat.le_trans (show _ ≤ 20 by omega) (Nat.le_of_ble_eq_true rfl)⟩ (fun r_59 σ_60 H locs p_61 hw => ?_)
                          obtain ⟨er_59, eσ_60⟩ := p_61
                          have er_59 := er_59.symm; subst er_59
                          have eσ_60 := eσ_60.symm; subst eσ_60
                          refine lv_iload hx hb dL_isLaid_309 (lv_at hl 0 rfl) ?_
                          refine lv_icmp_ne (tgt := 318) hx hb dL_isLaid_311 (by decide) (fun c_62 => ?_) (fun c_62 => ?_)
                          · skip
                            exact absurd c_62 (by decide)
                          · skip
                            refine lv_iconst (v := 1) hx hb dL_isLaid_314 (by decide) ?_
                            refine lv_goto (tgt := 319) hx hb dL_isLaid_315 (by decide) ?_
                            exact rRetZw hx hb hr hw (by decide) (by exact ⟨rfl, po_same hA hGa⟩) hlocks dL_isLaid_319 (by omega) (by omega)
                        · skip
                          exact absurd c_58 (by decide)
          · skip
            have c_7 : ¬ g ≤ x9 := fun h9 => c_7 ((nI_leI (by omega) (by omega)).mpr h9)
            omega
        · skip
          have c_4 : (v % 3) = 0 := n0_nef (by omega) c_4
          refine lv_iconst (v := 0) hx hb dL_isLaid_134 (by decide) ?_
          refine lv_goto (tgt := 146) hx hb dL_isLaid_135 (by decide) ?_
          refine lv_istore (lv' := [(9, .int 0), (8, .int (nI x9)), (0, .ref (gad G 0)), (1, .ref (gad G 31)), (2, .ref (gad G 32)), (3, .ref (gad G 33)), (4, .int 1), (5, .int (nI o)), (6, .int (nI u)), (7, .int (nI v))]) hx hb dL_isLaid_146 hl (by decide) rfl (fun ls hl => ?_)
          have q_63 : 0 = (nI y9) := by first | (rw [hy9, if_pos (by omega)]; rfl) | rw [hy9, if_neg (by omega)]
          have hl : lv_has ls 14 [(9, .int (nI y9)), (8, .int (nI x9)), (0, .ref (gad G 0)), (1, .ref (gad G 31)), (2, .ref (gad G 32)), (3, .ref (gad G 33)), (4, .int 1), (5, .int (nI o)), (6, .int (nI u)), (7, .int (nI v))] := (lv_c (lv_atq hl 0 rfl q_63) (lv_c (lv_at hl 1 rfl) (lv_c (lv_at hl 2 rfl) (lv_c (lv_at hl 3 rfl) (lv_c (lv_at hl 4 rfl) (lv_c (lv_at hl 5 rfl) (lv_c (lv_at hl 6 rfl) (lv_c (lv_at hl 7 rfl) (lv_c (lv_at hl 8 rfl) (lv_c (lv_at hl 9 rfl) (lv_c0 hl)))))))))))
          refine lv_iload hx hb dL_isLaid_148 (lv_at hl 9 rfl) ?_
          refine lv_bipush (v := 103) hx hb dL_isLaid_150 (by decide) ?_
          refine lv_rep0 (x := 103) (y := nI 103) rfl ?_
          refine lv_irem hx hb dL_isLaid_152 (nI_ne0 (by omega) (by omega)) ?_
          refine lv_rep0 (y := nI (v % 103)) (pk_rem (by omega) (by omega) (by omega)) ?_
          refine lv_istore (lv' := [(10, .int (nI (v % 103))), (9, .int (nI y9)), (8, .int (nI x9)), (0, .ref (gad G 0)), (1, .ref (gad G 31)), (2, .ref (gad G 32)), (3, .ref (gad G 33)), (4, .int 1), (5, .int (nI o)), (6, .int (nI u)), (7, .int (nI v))]) hx hb dL_isLaid_153 hl (by decide) rfl (fun ls hl => ?_)
          have q_64 : (nI (v % 103)) = (nI v9) := by rw [hv9]
          have hl : lv_has ls 14 [(10, .int (nI v9)), (9, .int (nI y9)), (8, .int (nI x9)), (0, .ref (gad G 0)), (1, .ref (gad G 31)), (2, .ref (gad G 32)), (3, .ref (gad G 33)), (4, .int 1), (5, .int (nI o)), (6, .int (nI u)), (7, .int (nI v))] := (lv_c (lv_atq hl 0 rfl q_64) (lv_c (lv_at hl 1 rfl) (lv_c (lv_at hl 2 rfl) (lv_c (lv_at hl 3 rfl) (lv_c (lv_at hl 4 rfl) (lv_c (lv_at hl 5 rfl) (lv_c (lv_at hl 6 rfl) (lv_c (lv_at hl 7 rfl) (lv_c (lv_at hl 8 rfl) (lv_c (lv_at hl 9 rfl) (lv_c (lv_at hl 10 rfl) (lv_c0 hl))))))))))))
          refine lv_iload hx hb dL_isLaid_155 (lv_at hl 2 rfl) ?_
          refine lv_aload_n hx hb dL_isLaid_157 rfl (lv_at hl 6 rfl) ?_
          refine lv_iconst (v := 0) hx hb dL_isLaid_158 (by decide) ?_
          refine lv_rep0 (x := 0) (y := nI 0) rfl ?_
          refine rAld hx hb fx hw 33 (hF.1 33 (by decide)) hF.2.1 (fun _ => rfl) 0 rfl (by omega) (by decide) dL_isLaid_159 ?_
          refine lv_rep0 (x := (σ 33 0)) (y := (nI g)) (pg hA).1 ?_
          refine lv_icmp_ge (tgt := 175) hx hb dL_isLaid_160 (by decide) (fun c_65 => ?_) (fun c_65 => ?_)
          · skip
            have c_65 : g ≤ x9 := (nI_leI (by omega) (by omega)).mp c_65
            refine lv_iconst (v := 0) hx hb dL_isLaid_175 (by decide) ?_
            refine lv_istore (lv' := [(11, .int 0), (10, .int (nI v9)), (9, .int (nI y9)), (8, .int (nI x9)), (0, .ref (gad G 0)), (1, .ref (gad G 31)), (2, .ref (gad G 32)), (3, .ref (gad G 33)), (4, .int 1), (5, .int (nI o)), (6, .int (nI u)), (7, .int (nI v))]) hx hb dL_isLaid_176 hl (by decide) rfl (fun ls hl => ?_)
            refine lv_iload hx hb dL_isLaid_178 (lv_at hl 2 rfl) ?_
            refine lv_iload hx hb dL_isLaid_180 (lv_at hl 3 rfl) ?_
            refine lv_icmp_gt (tgt := 195) hx hb dL_isLaid_182 (by decide) (fun c_66 => ?_) (fun c_66 => ?_)
            · skip
              have c_66 : x9 < y9 := (nI_ltI (by omega) (by omega)).mp c_66
              refine lv_iload hx hb dL_isLaid_195 (lv_at hl 1 rfl) ?_
              refine lv_if_le (tgt := 211) hx hb dL_isLaid_197 (by decide) (fun c_67 => ?_) (fun c_67 => ?_)
              · skip
                have c_67 : v9 = 0 := n0_let (by omega) c_67
                refine lv_iconst (v := 0) hx hb dL_isLaid_211 (by decide) ?_
                refine lv_istore (lv' := [(12, .int 0), (11, .int 0), (10, .int (nI v9)), (9, .int (nI y9)), (8, .int (nI x9)), (0, .ref (gad G 0)), (1, .ref (gad G 31)), (2, .ref (gad G 32)), (3, .ref (gad G 33)), (4, .int 1), (5, .int (nI o)), (6, .int (nI u)), (7, .int (nI v))]) hx hb dL_isLaid_212 hl (by decide) rfl (fun ls hl => ?_)
                refine lv_iload hx hb dL_isLaid_214 (lv_at hl 1 rfl) ?_
                refine lv_if_ne (tgt := 224) hx hb dL_isLaid_216 (by decide) (fun c_68 => ?_) (fun c_68 => ?_)
                · skip
                  exact absurd c_68 (by decide)
                · skip
                  refine lv_bipush (v := (-30)) hx hb dL_isLaid_219 (by decide) ?_
                  refine lv_goto (tgt := 268) hx hb dL_isLaid_221 (by decide) ?_
                  refine lv_istore (lv' := [(13, .int (-30)), (12, .int 0), (11, .int 0), (10, .int (nI v9)), (9, .int (nI y9)), (8, .int (nI x9)), (0, .ref (gad G 0)), (1, .ref (gad G 31)), (2, .ref (gad G 32)), (3, .ref (gad G 33)), (4, .int 1), (5, .int (nI o)), (6, .int (nI u)), (7, .int (nI v))]) hx hb dL_isLaid_268 hl (by decide) rfl (fun ls hl => ?_)
                  refine lv_iload hx hb dL_isLaid_270 (lv_at hl 2 rfl) ?_
                  refine lv_if_eq (tgt := 298) hx hb dL_isLaid_272 (by decide) (fun c_69 => ?_) (fun c_69 => ?_)
                  · skip
                    refine lv_aload_n hx hb dL_isLaid_298 rfl (lv_at hl 6 rfl) ?_
                    refine lv_iconst (v := 1) hx hb dL_isLaid_299 (by decide) ?_
                    refine lv_iload hx hb dL_isLaid_300 (lv_at hl 5 rfl) ?_
                    refine lv_iload hx hb dL_isLaid_302 (lv_at hl 4 rfl) ?_
                    refine lv_iload hx hb dL_isLaid_304 (lv_at hl 3 rfl) ?_
                    refine rCallLS (As := [.ref (gad G 0), .int 1, .int (nI x9), .int (nI y9), .int (nI v9)]) (rest := []) ⟨hx, hb, hml, hown, hts⟩ fx hw (d1_t1 l hlt G hG hF σ (pcv hA) ((nI x9)) ((nI y9)) ((nI v9)) (by first | (rw [inB_no (a := x9) (n := g) (by omega) (by omega)]; rfl) | (rw [inB_no (a := y9) (n := g) (by omega) (by omega), Bool.and_false]))) (vx_cwSW 5 hts gL_isLaid_L_does rfl rfl rfl (by decide +kernel) ⟨Nat.le_of_ble_eq_true rfl, Nat.le_of_ble_eq_true rfl⟩) rfl hl.1 rfl (Nat.le_of_ble_eq_true rfl) dL_isLaid_306 ⟨Nat.le_trans (show _ ≤ 3 by omega) (Nat.le_of_ble_eq_true rfl), Nat.le_trans (show _ ≤ 20 by omega) (Nat.le_of_ble_eq_true rfl)⟩ (fun r_70 σ_71 H locs p_72 hw => ?_)
                    obtain ⟨er_70, eσ_71⟩ := p_72
                    have er_70 := er_70.symm; subst er_70
                    have eσ_71 := eσ_71.symm; subst eσ_71
                    refine lv_iload hx hb dL_isLaid_309 (lv_at hl 0 rfl) ?_
                    refine lv_icmp_ne (tgt := 318) hx hb dL_isLaid_311 (by decide) (fun c_73 => ?_) (fun c_73 => ?_)
                    · skip
                      exact absurd c_73 (by decide)
                    · skip
                      refine lv_iconst (v := 1) hx hb dL_isLaid_314 (by decide) ?_
                      refine lv_goto (tgt := 319) hx hb dL_isLaid_315 (by decide) ?_
                      exact rRetZw hx hb hr hw (by decide) (by exact ⟨rfl, po_same hA hGa⟩) hlocks dL_isLaid_319 (by omega) (by omega)
                  · skip
                    exact absurd c_69 (by decide)
              · skip
                have c_67 : 0 < v9 := n0_lef (by omega) c_67
                refine lv_iload hx hb dL_isLaid_200 (lv_at hl 1 rfl) ?_
                refine lv_bipush (v := 101) hx hb dL_isLaid_202 (by decide) ?_
                refine lv_rep0 (x := 101) (y := nI 101) rfl ?_
                refine lv_icmp_ge (tgt := 211) hx hb dL_isLaid_204 (by decide) (fun c_74 => ?_) (fun c_74 => ?_)
                · skip
                  have c_74 : 101 ≤ v9 := (nI_leI (by omega) (by omega)).mp c_74
                  refine lv_iconst (v := 0) hx hb dL_isLaid_211 (by decide) ?_
                  refine lv_istore (lv' := [(12, .int 0), (11, .int 0), (10, .int (nI v9)), (9, .int (nI y9)), (8, .int (nI x9)), (0, .ref (gad G 0)), (1, .ref (gad G 31)), (2, .ref (gad G 32)), (3, .ref (gad G 33)), (4, .int 1), (5, .int (nI o)), (6, .int (nI u)), (7, .int (nI v))]) hx hb dL_isLaid_212 hl (by decide) rfl (fun ls hl => ?_)
                  refine lv_iload hx hb dL_isLaid_214 (lv_at hl 1 rfl) ?_
                  refine lv_if_ne (tgt := 224) hx hb dL_isLaid_216 (by decide) (fun c_75 => ?_) (fun c_75 => ?_)
                  · skip
                    exact absurd c_75 (by decide)
                  · skip
                    refine lv_bipush (v := (-30)) hx hb dL_isLaid_219 (by decide) ?_
                    refine lv_goto (tgt := 268) hx hb dL_isLaid_221 (by decide) ?_
                    refine lv_istore (lv' := [(13, .int (-30)), (12, .int 0), (11, .int 0), (10, .int (nI v9)), (9, .int (nI y9)), (8, .int (nI x9)), (0, .ref (gad G 0)), (1, .ref (gad G 31)), (2, .ref (gad G 32)), (3, .ref (gad G 33)), (4, .int 1), (5, .int (nI o)), (6, .int (nI u)), (7, .int (nI v))]) hx hb dL_isLaid_268 hl (by decide) rfl (fun ls hl => ?_)
                    refine lv_iload hx hb dL_isLaid_270 (lv_at hl 2 rfl) ?_
                    refine lv_if_eq (tgt := 298) hx hb dL_isLaid_272 (by decide) (fun c_76 => ?_) (fun c_76 => ?_)
                    · skip
                      refine lv_aload_n hx hb dL_isLaid_298 rfl (lv_at hl 6 rfl) ?_
                      refine lv_iconst (v := 1) hx hb dL_isLaid_299 (by decide) ?_
                      refine lv_iload hx hb dL_isLaid_300 (lv_at hl 5 rfl) ?_
                      refine lv_iload hx hb dL_isLaid_302 (lv_at hl 4 rfl) ?_
                      refine lv_iload hx hb dL_isLaid_304 (lv_at hl 3 rfl) ?_
                      refine rCallLS (As := [.ref (gad G 0), .int 1, .int (nI x9), .int (nI y9), .int (nI v9)]) (rest := []) ⟨hx, hb, hml, hown, hts⟩ fx hw (d1_t1 l hlt G hG hF σ (pcv hA) ((nI x9)) ((nI y9)) ((nI v9)) (by first | (rw [inB_no (a := x9) (n := g) (by omega) (by omega)]; rfl) | (rw [inB_no (a := y9) (n := g) (by omega) (by omega), Bool.and_false]))) (vx_cwSW 5 hts gL_isLaid_L_does rfl rfl rfl (by decide +kernel) ⟨Nat.le_of_ble_eq_true rfl, Nat.le_of_ble_eq_true rfl⟩) rfl hl.1 rfl (Nat.le_of_ble_eq_true rfl) dL_isLaid_306 ⟨Nat.le_trans (show _ ≤ 3 by omega) (Nat.le_of_ble_eq_true rfl), Nat.le_trans (show _ ≤ 20 by omega) (Nat.le_of_ble_eq_true rfl)⟩ (fun r_77 σ_78 H locs p_79 hw => ?_)
                      obtain ⟨er_77, eσ_78⟩ := p_79
                      have er_77 := er_77.symm; subst er_77
                      have eσ_78 := eσ_78.symm; subst eσ_78
                      refine lv_iload hx hb dL_isLaid_309 (lv_at hl 0 rfl) ?_
                      refine lv_icmp_ne (tgt := 318) hx hb dL_isLaid_311 (by decide) (fun c_80 => ?_) (fun c_80 => ?_)
                      · skip
                        exact absurd c_80 (by decide)
                      · skip
                        refine lv_iconst (v := 1) hx hb dL_isLaid_314 (by decide) ?_
                        refine lv_goto (tgt := 319) hx hb dL_isLaid_315 (by decide) ?_
                        exact rRetZw hx hb hr hw (by decide) (by exact ⟨rfl, po_same hA hGa⟩) hlocks dL_isLaid_319 (by omega) (by omega)
                    · skip
                      exact absurd c_76 (by decide)
                · skip
                  have c_74 : ¬ 101 ≤ v9 := fun h9 => c_74 ((nI_leI (by omega) (by omega)).mpr h9)
                  refine lv_iconst (v := 1) hx hb dL_isLaid_207 (by decide) ?_
                  refine lv_goto (tgt := 212) hx hb dL_isLaid_208 (by decide) ?_
                  refine lv_istore (lv' := [(12, .int 1), (11, .int 0), (10, .int (nI v9)), (9, .int (nI y9)), (8, .int (nI x9)), (0, .ref (gad G 0)), (1, .ref (gad G 31)), (2, .ref (gad G 32)), (3, .ref (gad G 33)), (4, .int 1), (5, .int (nI o)), (6, .int (nI u)), (7, .int (nI v))]) hx hb dL_isLaid_212 hl (by decide) rfl (fun ls hl => ?_)
                  refine lv_iload hx hb dL_isLaid_214 (lv_at hl 1 rfl) ?_
                  refine lv_if_ne (tgt := 224) hx hb dL_isLaid_216 (by decide) (fun c_81 => ?_) (fun c_81 => ?_)
                  · skip
                    exact absurd c_81 (by decide)
                  · skip
                    refine lv_bipush (v := (-30)) hx hb dL_isLaid_219 (by decide) ?_
                    refine lv_goto (tgt := 268) hx hb dL_isLaid_221 (by decide) ?_
                    refine lv_istore (lv' := [(13, .int (-30)), (12, .int 1), (11, .int 0), (10, .int (nI v9)), (9, .int (nI y9)), (8, .int (nI x9)), (0, .ref (gad G 0)), (1, .ref (gad G 31)), (2, .ref (gad G 32)), (3, .ref (gad G 33)), (4, .int 1), (5, .int (nI o)), (6, .int (nI u)), (7, .int (nI v))]) hx hb dL_isLaid_268 hl (by decide) rfl (fun ls hl => ?_)
                    refine lv_iload hx hb dL_isLaid_270 (lv_at hl 2 rfl) ?_
                    refine lv_if_eq (tgt := 298) hx hb dL_isLaid_272 (by decide) (fun c_82 => ?_) (fun c_82 => ?_)
                    · skip
                      refine lv_aload_n hx hb dL_isLaid_298 rfl (lv_at hl 6 rfl) ?_
                      refine lv_iconst (v := 1) hx hb dL_isLaid_299 (by decide) ?_
                      refine lv_iload hx hb dL_isLaid_300 (lv_at hl 5 rfl) ?_
                      refine lv_iload hx hb dL_isLaid_302 (lv_at hl 4 rfl) ?_
                      refine lv_iload hx hb dL_isLaid_304 (lv_at hl 3 rfl) ?_
                      refine rCallLS (As := [.ref (gad G 0), .int 1, .int (nI x9), .int (nI y9), .int (nI v9)]) (rest := []) ⟨hx, hb, hml, hown, hts⟩ fx hw (d1_t1 l hlt G hG hF σ (pcv hA) ((nI x9)) ((nI y9)) ((nI v9)) (by first | (rw [inB_no (a := x9) (n := g) (by omega) (by omega)]; rfl) | (rw [inB_no (a := y9) (n := g) (by omega) (by omega), Bool.and_false]))) (vx_cwSW 5 hts gL_isLaid_L_does rfl rfl rfl (by decide +kernel) ⟨Nat.le_of_ble_eq_true rfl, Nat.le_of_ble_eq_true rfl⟩) rfl hl.1 rfl (Nat.le_of_ble_eq_true rfl) dL_isLaid_306 ⟨Nat.le_trans (show _ ≤ 3 by omega) (Nat.le_of_ble_eq_true rfl), Nat.le_trans (show _ ≤ 20 by omega) (Nat.le_of_ble_eq_true rfl)⟩ (fun r_83 σ_84 H locs p_85 hw => ?_)
                      obtain ⟨er_83, eσ_84⟩ := p_85
                      have er_83 := er_83.symm; subst er_83
                      have eσ_84 := eσ_84.symm; subst eσ_84
                      refine lv_iload hx hb dL_isLaid_309 (lv_at hl 0 rfl) ?_
                      refine lv_icmp_ne (tgt := 318) hx hb dL_isLaid_311 (by decide) (fun c_86 => ?_) (fun c_86 => ?_)
                      · skip
                        exact absurd c_86 (by decide)
                      · skip
                        refine lv_iconst (v := 1) hx hb dL_isLaid_314 (by decide) ?_
                        refine lv_goto (tgt := 319) hx hb dL_isLaid_315 (by decide) ?_
                        exact rRetZw hx hb hr hw (by decide) (by exact ⟨rfl, po_same hA hGa⟩) hlocks dL_isLaid_319 (by omega) (by omega)
                    · skip
                      exact absurd c_82 (by decide)
            · skip
              have c_66 : ¬ x9 < y9 := fun h9 => c_66 ((nI_ltI (by omega) (by omega)).mpr h9)
              refine lv_iload hx hb dL_isLaid_185 (lv_at hl 2 rfl) ?_
              refine lv_if_ne (tgt := 211) hx hb dL_isLaid_187 (by decide) (fun c_87 => ?_) (fun c_87 => ?_)
              · skip
                have c_87 : ¬ y9 = 0 := n0_net (by omega) c_87
                refine lv_iconst (v := 0) hx hb dL_isLaid_211 (by decide) ?_
                refine lv_istore (lv' := [(12, .int 0), (11, .int 0), (10, .int (nI v9)), (9, .int (nI y9)), (8, .int (nI x9)), (0, .ref (gad G 0)), (1, .ref (gad G 31)), (2, .ref (gad G 32)), (3, .ref (gad G 33)), (4, .int 1), (5, .int (nI o)), (6, .int (nI u)), (7, .int (nI v))]) hx hb dL_isLaid_212 hl (by decide) rfl (fun ls hl => ?_)
                refine lv_iload hx hb dL_isLaid_214 (lv_at hl 1 rfl) ?_
                refine lv_if_ne (tgt := 224) hx hb dL_isLaid_216 (by decide) (fun c_88 => ?_) (fun c_88 => ?_)
                · skip
                  exact absurd c_88 (by decide)
                · skip
                  refine lv_bipush (v := (-30)) hx hb dL_isLaid_219 (by decide) ?_
                  refine lv_goto (tgt := 268) hx hb dL_isLaid_221 (by decide) ?_
                  refine lv_istore (lv' := [(13, .int (-30)), (12, .int 0), (11, .int 0), (10, .int (nI v9)), (9, .int (nI y9)), (8, .int (nI x9)), (0, .ref (gad G 0)), (1, .ref (gad G 31)), (2, .ref (gad G 32)), (3, .ref (gad G 33)), (4, .int 1), (5, .int (nI o)), (6, .int (nI u)), (7, .int (nI v))]) hx hb dL_isLaid_268 hl (by decide) rfl (fun ls hl => ?_)
                  refine lv_iload hx hb dL_isLaid_270 (lv_at hl 2 rfl) ?_
                  refine lv_if_eq (tgt := 298) hx hb dL_isLaid_272 (by decide) (fun c_89 => ?_) (fun c_89 => ?_)
                  · skip
                    refine lv_aload_n hx hb dL_isLaid_298 rfl (lv_at hl 6 rfl) ?_
                    refine lv_iconst (v := 1) hx hb dL_isLaid_299 (by decide) ?_
                    refine lv_iload hx hb dL_isLaid_300 (lv_at hl 5 rfl) ?_
                    refine lv_iload hx hb dL_isLaid_302 (lv_at hl 4 rfl) ?_
                    refine lv_iload hx hb dL_isLaid_304 (lv_at hl 3 rfl) ?_
                    refine rCallLS (As := [.ref (gad G 0), .int 1, .int (nI x9), .int (nI y9), .int (nI v9)]) (rest := []) ⟨hx, hb, hml, hown, hts⟩ fx hw (d1_t1 l hlt G hG hF σ (pcv hA) ((nI x9)) ((nI y9)) ((nI v9)) (by first | (rw [inB_no (a := x9) (n := g) (by omega) (by omega)]; rfl) | (rw [inB_no (a := y9) (n := g) (by omega) (by omega), Bool.and_false]))) (vx_cwSW 5 hts gL_isLaid_L_does rfl rfl rfl (by decide +kernel) ⟨Nat.le_of_ble_eq_true rfl, Nat.le_of_ble_eq_true rfl⟩) rfl hl.1 rfl (Nat.le_of_ble_eq_true rfl) dL_isLaid_306 ⟨Nat.le_trans (show _ ≤ 3 by omega) (Nat.le_of_ble_eq_true rfl), Nat.le_trans (show _ ≤ 20 by omega) (Nat.le_of_ble_eq_true rfl)⟩ (fun r_90 σ_91 H locs p_92 hw => ?_)
                    obtain ⟨er_90, eσ_91⟩ := p_92
                    have er_90 := er_90.symm; subst er_90
                    have eσ_91 := eσ_91.symm; subst eσ_91
                    refine lv_iload hx hb dL_isLaid_309 (lv_at hl 0 rfl) ?_
                    refine lv_icmp_ne (tgt := 318) hx hb dL_isLaid_311 (by decide) (fun c_93 => ?_) (fun c_93 => ?_)
                    · skip
                      exact absurd c_93 (by decide)
                    · skip
                      refine lv_iconst (v := 1) hx hb dL_isLaid_314 (by decide) ?_
                      refine lv_goto (tgt := 319) hx hb dL_isLaid_315 (by decide) ?_
                      exact rRetZw hx hb hr hw (by decide) (by exact ⟨rfl, po_same hA hGa⟩) hlocks dL_isLaid_319 (by omega) (by omega)
                  · skip
                    exact absurd c_89 (by decide)
              · skip
                have c_87 : y9 = 0 := n0_nef (by omega) c_87
                refine lv_iload hx hb dL_isLaid_190 (lv_at hl 3 rfl) ?_
                refine lv_if_le (tgt := 211) hx hb dL_isLaid_192 (by decide) (fun c_94 => ?_) (fun c_94 => ?_)
                · skip
                  have c_94 : x9 = 0 := n0_let (by omega) c_94
                  refine lv_iconst (v := 0) hx hb dL_isLaid_211 (by decide) ?_
                  refine lv_istore (lv' := [(12, .int 0), (11, .int 0), (10, .int (nI v9)), (9, .int (nI y9)), (8, .int (nI x9)), (0, .ref (gad G 0)), (1, .ref (gad G 31)), (2, .ref (gad G 32)), (3, .ref (gad G 33)), (4, .int 1), (5, .int (nI o)), (6, .int (nI u)), (7, .int (nI v))]) hx hb dL_isLaid_212 hl (by decide) rfl (fun ls hl => ?_)
                  refine lv_iload hx hb dL_isLaid_214 (lv_at hl 1 rfl) ?_
                  refine lv_if_ne (tgt := 224) hx hb dL_isLaid_216 (by decide) (fun c_95 => ?_) (fun c_95 => ?_)
                  · skip
                    exact absurd c_95 (by decide)
                  · skip
                    refine lv_bipush (v := (-30)) hx hb dL_isLaid_219 (by decide) ?_
                    refine lv_goto (tgt := 268) hx hb dL_isLaid_221 (by decide) ?_
                    refine lv_istore (lv' := [(13, .int (-30)), (12, .int 0), (11, .int 0), (10, .int (nI v9)), (9, .int (nI y9)), (8, .int (nI x9)), (0, .ref (gad G 0)), (1, .ref (gad G 31)), (2, .ref (gad G 32)), (3, .ref (gad G 33)), (4, .int 1), (5, .int (nI o)), (6, .int (nI u)), (7, .int (nI v))]) hx hb dL_isLaid_268 hl (by decide) rfl (fun ls hl => ?_)
                    refine lv_iload hx hb dL_isLaid_270 (lv_at hl 2 rfl) ?_
                    refine lv_if_eq (tgt := 298) hx hb dL_isLaid_272 (by decide) (fun c_96 => ?_) (fun c_96 => ?_)
                    · skip
                      refine lv_aload_n hx hb dL_isLaid_298 rfl (lv_at hl 6 rfl) ?_
                      refine lv_iconst (v := 1) hx hb dL_isLaid_299 (by decide) ?_
                      refine lv_iload hx hb dL_isLaid_300 (lv_at hl 5 rfl) ?_
                      refine lv_iload hx hb dL_isLaid_302 (lv_at hl 4 rfl) ?_
                      refine lv_iload hx hb dL_isLaid_304 (lv_at hl 3 rfl) ?_
                      refine rCallLS (As := [.ref (gad G 0), .int 1, .int (nI x9), .int (nI y9), .int (nI v9)]) (rest := []) ⟨hx, hb, hml, hown, hts⟩ fx hw (d1_t1 l hlt G hG hF σ (pcv hA) ((nI x9)) ((nI y9)) ((nI v9)) (by first | (rw [inB_no (a := x9) (n := g) (by omega) (by omega)]; rfl) | (rw [inB_no (a := y9) (n := g) (by omega) (by omega), Bool.and_false]))) (vx_cwSW 5 hts gL_isLaid_L_does rfl rfl rfl (by decide +kernel) ⟨Nat.le_of_ble_eq_true rfl, Nat.le_of_ble_eq_true rfl⟩) rfl hl.1 rfl (Nat.le_of_ble_eq_true rfl) dL_isLaid_306 ⟨Nat.le_trans (show _ ≤ 3 by omega) (Nat.le_of_ble_eq_true rfl), Nat.le_trans (show _ ≤ 20 by omega) (Nat.le_of_ble_eq_true rfl)⟩ (fun r_97 σ_98 H locs p_99 hw => ?_)
                      obtain ⟨er_97, eσ_98⟩ := p_99
                      have er_97 := er_97.symm; subst er_97
                      have eσ_98 := eσ_98.symm; subst eσ_98
                      refine lv_iload hx hb dL_isLaid_309 (lv_at hl 0 rfl) ?_
                      refine lv_icmp_ne (tgt := 318) hx hb dL_isLaid_311 (by decide) (fun c_100 => ?_) (fun c_100 => ?_)
                      · skip
                        exact absurd c_100 (by decide)
                      · skip
                        refine lv_iconst (v := 1) hx hb dL_isLaid_314 (by decide) ?_
                        refine lv_goto (tgt := 319) hx hb dL_isLaid_315 (by decide) ?_
                        exact rRetZw hx hb hr hw (by decide) (by exact ⟨rfl, po_same hA hGa⟩) hlocks dL_isLaid_319 (by omega) (by omega)
                    · skip
                      exact absurd c_96 (by decide)
                · skip
                  have c_94 : 0 < x9 := n0_lef (by omega) c_94
                  refine lv_iload hx hb dL_isLaid_195 (lv_at hl 1 rfl) ?_
                  refine lv_if_le (tgt := 211) hx hb dL_isLaid_197 (by decide) (fun c_101 => ?_) (fun c_101 => ?_)
                  · skip
                    have c_101 : v9 = 0 := n0_let (by omega) c_101
                    refine lv_iconst (v := 0) hx hb dL_isLaid_211 (by decide) ?_
                    refine lv_istore (lv' := [(12, .int 0), (11, .int 0), (10, .int (nI v9)), (9, .int (nI y9)), (8, .int (nI x9)), (0, .ref (gad G 0)), (1, .ref (gad G 31)), (2, .ref (gad G 32)), (3, .ref (gad G 33)), (4, .int 1), (5, .int (nI o)), (6, .int (nI u)), (7, .int (nI v))]) hx hb dL_isLaid_212 hl (by decide) rfl (fun ls hl => ?_)
                    refine lv_iload hx hb dL_isLaid_214 (lv_at hl 1 rfl) ?_
                    refine lv_if_ne (tgt := 224) hx hb dL_isLaid_216 (by decide) (fun c_102 => ?_) (fun c_102 => ?_)
                    · skip
                      exact absurd c_102 (by decide)
                    · skip
                      refine lv_bipush (v := (-30)) hx hb dL_isLaid_219 (by decide) ?_
                      refine lv_goto (tgt := 268) hx hb dL_isLaid_221 (by decide) ?_
                      refine lv_istore (lv' := [(13, .int (-30)), (12, .int 0), (11, .int 0), (10, .int (nI v9)), (9, .int (nI y9)), (8, .int (nI x9)), (0, .ref (gad G 0)), (1, .ref (gad G 31)), (2, .ref (gad G 32)), (3, .ref (gad G 33)), (4, .int 1), (5, .int (nI o)), (6, .int (nI u)), (7, .int (nI v))]) hx hb dL_isLaid_268 hl (by decide) rfl (fun ls hl => ?_)
                      refine lv_iload hx hb dL_isLaid_270 (lv_at hl 2 rfl) ?_
                      refine lv_if_eq (tgt := 298) hx hb dL_isLaid_272 (by decide) (fun c_103 => ?_) (fun c_103 => ?_)
                      · skip
                        refine lv_aload_n hx hb dL_isLaid_298 rfl (lv_at hl 6 rfl) ?_
                        refine lv_iconst (v := 1) hx hb dL_isLaid_299 (by decide) ?_
                        refine lv_iload hx hb dL_isLaid_300 (lv_at hl 5 rfl) ?_
                        refine lv_iload hx hb dL_isLaid_302 (lv_at hl 4 rfl) ?_
                        refine lv_iload hx hb dL_isLaid_304 (lv_at hl 3 rfl) ?_
                        refine rCallLS (As := [.ref (gad G 0), .int 1, .int (nI x9), .int (nI y9), .int (nI v9)]) (rest := []) ⟨hx, hb, hml, hown, hts⟩ fx hw (d1_t1 l hlt G hG hF σ (pcv hA) ((nI x9)) ((nI y9)) ((nI v9)) (by first | (rw [inB_no (a := x9) (n := g) (by omega) (by omega)]; rfl) | (rw [inB_no (a := y9) (n := g) (by omega) (by omega), Bool.and_false]))) (vx_cwSW 5 hts gL_isLaid_L_does rfl rfl rfl (by decide +kernel) ⟨Nat.le_of_ble_eq_true rfl, Nat.le_of_ble_eq_true rfl⟩) rfl hl.1 rfl (Nat.le_of_ble_eq_true rfl) dL_isLaid_306 ⟨Nat.le_trans (show _ ≤ 3 by omega) (Nat.le_of_ble_eq_true rfl), Nat.le_trans (show _ ≤ 20 by omega) (Nat.le_of_ble_eq_true rfl)⟩ (fun r_104 σ_105 H locs p_106 hw => ?_)
                        obtain ⟨er_104, eσ_105⟩ := p_106
                        have er_104 := er_104.symm; subst er_104
                        have eσ_105 := eσ_105.symm; subst eσ_105
                        refine lv_iload hx hb dL_isLaid_309 (lv_at hl 0 rfl) ?_
                        refine lv_icmp_ne (tgt := 318) hx hb dL_isLaid_311 (by decide) (fun c_107 => ?_) (fun c_107 => ?_)
                        · skip
                          exact absurd c_107 (by decide)
                        · skip
                          refine lv_iconst (v := 1) hx hb dL_isLaid_314 (by decide) ?_
                          refine lv_goto (tgt := 319) hx hb dL_isLaid_315 (by decide) ?_
                          exact rRetZw hx hb hr hw (by decide) (by exact ⟨rfl, po_same hA hGa⟩) hlocks dL_isLaid_319 (by omega) (by omega)
                      · skip
                        exact absurd c_103 (by decide)
                  · skip
                    have c_101 : 0 < v9 := n0_lef (by omega) c_101
                    refine lv_iload hx hb dL_isLaid_200 (lv_at hl 1 rfl) ?_
                    refine lv_bipush (v := 101) hx hb dL_isLaid_202 (by decide) ?_
                    refine lv_rep0 (x := 101) (y := nI 101) rfl ?_
                    refine lv_icmp_ge (tgt := 211) hx hb dL_isLaid_204 (by decide) (fun c_108 => ?_) (fun c_108 => ?_)
                    · skip
                      have c_108 : 101 ≤ v9 := (nI_leI (by omega) (by omega)).mp c_108
                      refine lv_iconst (v := 0) hx hb dL_isLaid_211 (by decide) ?_
                      refine lv_istore (lv' := [(12, .int 0), (11, .int 0), (10, .int (nI v9)), (9, .int (nI y9)), (8, .int (nI x9)), (0, .ref (gad G 0)), (1, .ref (gad G 31)), (2, .ref (gad G 32)), (3, .ref (gad G 33)), (4, .int 1), (5, .int (nI o)), (6, .int (nI u)), (7, .int (nI v))]) hx hb dL_isLaid_212 hl (by decide) rfl (fun ls hl => ?_)
                      refine lv_iload hx hb dL_isLaid_214 (lv_at hl 1 rfl) ?_
                      refine lv_if_ne (tgt := 224) hx hb dL_isLaid_216 (by decide) (fun c_109 => ?_) (fun c_109 => ?_)
                      · skip
                        exact absurd c_109 (by decide)
                      · skip
                        refine lv_bipush (v := (-30)) hx hb dL_isLaid_219 (by decide) ?_
                        refine lv_goto (tgt := 268) hx hb dL_isLaid_221 (by decide) ?_
                        refine lv_istore (lv' := [(13, .int (-30)), (12, .int 0), (11, .int 0), (10, .int (nI v9)), (9, .int (nI y9)), (8, .int (nI x9)), (0, .ref (gad G 0)), (1, .ref (gad G 31)), (2, .ref (gad G 32)), (3, .ref (gad G 33)), (4, .int 1), (5, .int (nI o)), (6, .int (nI u)), (7, .int (nI v))]) hx hb dL_isLaid_268 hl (by decide) rfl (fun ls hl => ?_)
                        refine lv_iload hx hb dL_isLaid_270 (lv_at hl 2 rfl) ?_
                        refine lv_if_eq (tgt := 298) hx hb dL_isLaid_272 (by decide) (fun c_110 => ?_) (fun c_110 => ?_)
                        · skip
                          refine lv_aload_n hx hb dL_isLaid_298 rfl (lv_at hl 6 rfl) ?_
                          refine lv_iconst (v := 1) hx hb dL_isLaid_299 (by decide) ?_
                          refine lv_iload hx hb dL_isLaid_300 (lv_at hl 5 rfl) ?_
                          refine lv_iload hx hb dL_isLaid_302 (lv_at hl 4 rfl) ?_
                          refine lv_iload hx hb dL_isLaid_304 (lv_at hl 3 rfl) ?_
                          refine rCallLS (As := [.ref (gad G 0), .int 1, .int (nI x9), .int (nI y9), .int (nI v9)]) (rest := []) ⟨hx, hb, hml, hown, hts⟩ fx hw (d1_t1 l hlt G hG hF σ (pcv hA) ((nI x9)) ((nI y9)) ((nI v9)) (by first | (rw [inB_no (a := x9) (n := g) (by omega) (by omega)]; rfl) | (rw [inB_no (a := y9) (n := g) (by omega) (by omega), Bool.and_false]))) (vx_cwSW 5 hts gL_isLaid_L_does rfl rfl rfl (by decide +kernel) ⟨Nat.le_of_ble_eq_true rfl, Nat.le_of_ble_eq_true rfl⟩) rfl hl.1 rfl (Nat.le_of_ble_eq_true rfl) dL_isLaid_306 ⟨Nat.le_trans (show _ ≤ 3 by omega) (Nat.le_of_ble_eq_true rfl), Nat.le_trans (show _ ≤ 20 by omega) (Nat.le_of_ble_eq_true rfl)⟩ (fun r_111 σ_112 H locs p_113 hw => ?_)
                          obtain ⟨er_111, eσ_112⟩ := p_113
                          have er_111 := er_111.symm; subst er_111
                          have eσ_112 := eσ_112.symm; subst eσ_112
                          refine lv_iload hx hb dL_isLaid_309 (lv_at hl 0 rfl) ?_
                          refine lv_icmp_ne (tgt := 318) hx hb dL_isLaid_311 (by decide) (fun c_114 => ?_) (fun c_114 => ?_)
                          · skip
                            exact absurd c_114 (by decide)
                          · skip
                            refine lv_iconst (v := 1) hx hb dL_isLaid_314 (by decide) ?_
                            refine lv_goto (tgt := 319) hx hb dL_isLaid_315 (by decide) ?_
                            exact rRetZw hx hb hr hw (by decide) (by exact ⟨rfl, po_same hA hGa⟩) hlocks dL_isLaid_319 (by omega) (by omega)
                        · skip
                          exact absurd c_110 (by decide)
                    · skip
                      have c_108 : ¬ 101 ≤ v9 := fun h9 => c_108 ((nI_leI (by omega) (by omega)).mpr h9)
                      refine lv_iconst (v := 1) hx hb dL_isLaid_207 (by decide) ?_
                      refine lv_goto (tgt := 212) hx hb dL_isLaid_208 (by decide) ?_
                      refine lv_istore (lv' := [(12, .int 1), (11, .int 0), (10, .int (nI v9)), (9, .int (nI y9)), (8, .int (nI x9)), (0, .ref (gad G 0)), (1, .ref (gad G 31)), (2, .ref (gad G 32)), (3, .ref (gad G 33)), (4, .int 1), (5, .int (nI o)), (6, .int (nI u)), (7, .int (nI v))]) hx hb dL_isLaid_212 hl (by decide) rfl (fun ls hl => ?_)
                      refine lv_iload hx hb dL_isLaid_214 (lv_at hl 1 rfl) ?_
                      refine lv_if_ne (tgt := 224) hx hb dL_isLaid_216 (by decide) (fun c_115 => ?_) (fun c_115 => ?_)
                      · skip
                        exact absurd c_115 (by decide)
                      · skip
                        refine lv_bipush (v := (-30)) hx hb dL_isLaid_219 (by decide) ?_
                        refine lv_goto (tgt := 268) hx hb dL_isLaid_221 (by decide) ?_
                        refine lv_istore (lv' := [(13, .int (-30)), (12, .int 1), (11, .int 0), (10, .int (nI v9)), (9, .int (nI y9)), (8, .int (nI x9)), (0, .ref (gad G 0)), (1, .ref (gad G 31)), (2, .ref (gad G 32)), (3, .ref (gad G 33)), (4, .int 1), (5, .int (nI o)), (6, .int (nI u)), (7, .int (nI v))]) hx hb dL_isLaid_268 hl (by decide) rfl (fun ls hl => ?_)
                        refine lv_iload hx hb dL_isLaid_270 (lv_at hl 2 rfl) ?_
                        refine lv_if_eq (tgt := 298) hx hb dL_isLaid_272 (by decide) (fun c_116 => ?_) (fun c_116 => ?_)
                        · skip
                          refine lv_aload_n hx hb dL_isLaid_298 rfl (lv_at hl 6 rfl) ?_
                          refine lv_iconst (v := 1) hx hb dL_isLaid_299 (by decide) ?_
                          refine lv_iload hx hb dL_isLaid_300 (lv_at hl 5 rfl) ?_
                          refine lv_iload hx hb dL_isLaid_302 (lv_at hl 4 rfl) ?_
                          refine lv_iload hx hb dL_isLaid_304 (lv_at hl 3 rfl) ?_
                          refine rCallLS (As := [.ref (gad G 0), .int 1, .int (nI x9), .int (nI y9), .int (nI v9)]) (rest := []) ⟨hx, hb, hml, hown, hts⟩ fx hw (d1_t1 l hlt G hG hF σ (pcv hA) ((nI x9)) ((nI y9)) ((nI v9)) (by first | (rw [inB_no (a := x9) (n := g) (by omega) (by omega)]; rfl) | (rw [inB_no (a := y9) (n := g) (by omega) (by omega), Bool.and_false]))) (vx_cwSW 5 hts gL_isLaid_L_does rfl rfl rfl (by decide +kernel) ⟨Nat.le_of_ble_eq_true rfl, Nat.le_of_ble_eq_true rfl⟩) rfl hl.1 rfl (Nat.le_of_ble_eq_true rfl) dL_isLaid_306 ⟨Nat.le_trans (show _ ≤ 3 by omega) (Nat.le_of_ble_eq_true rfl), Nat.le_trans (show _ ≤ 20 by omega) (Nat.le_of_ble_eq_true rfl)⟩ (fun r_117 σ_118 H locs p_119 hw => ?_)
                          obtain ⟨er_117, eσ_118⟩ := p_119
                          have er_117 := er_117.symm; subst er_117
                          have eσ_118 := eσ_118.symm; subst eσ_118
                          refine lv_iload hx hb dL_isLaid_309 (lv_at hl 0 rfl) ?_
                          refine lv_icmp_ne (tgt := 318) hx hb dL_isLaid_311 (by decide) (fun c_120 => ?_) (fun c_120 => ?_)
                          · skip
                            exact absurd c_120 (by decide)
                          · skip
                            refine lv_iconst (v := 1) hx hb dL_isLaid_314 (by decide) ?_
                            refine lv_goto (tgt := 319) hx hb dL_isLaid_315 (by decide) ?_
                            exact rRetZw hx hb hr hw (by decide) (by exact ⟨rfl, po_same hA hGa⟩) hlocks dL_isLaid_319 (by omega) (by omega)
                        · skip
                          exact absurd c_116 (by decide)
          · skip
            have c_65 : ¬ g ≤ x9 := fun h9 => c_65 ((nI_leI (by omega) (by omega)).mpr h9)
            omega
    · skip
      exact absurd c_1 (by decide)
  · skip
    obtain ⟨hbo, he0, hs5⟩ := hst
    refine lv_iload hx hb dL_isLaid_0 (lv_at hl 4 rfl) ?_
    refine lv_if_ne (tgt := 111) hx hb dL_isLaid_2 (by decide) (fun c_121 => ?_) (fun c_121 => ?_)
    · skip
      refine lv_iload hx hb dL_isLaid_111 (lv_at hl 4 rfl) ?_
      refine lv_iconst (v := 1) hx hb dL_isLaid_113 (by decide) ?_
      refine lv_icmp_ne (tgt := 320) hx hb dL_isLaid_114 (by decide) (fun c_122 => ?_) (fun c_122 => ?_)
      · skip
        exact absurd c_122 (by decide)
      · skip
        refine lv_iload hx hb dL_isLaid_117 (lv_at hl 5 rfl) ?_
        refine lv_aload_n hx hb dL_isLaid_119 rfl (lv_at hl 3 rfl) ?_
        refine lv_iconst (v := 0) hx hb dL_isLaid_120 (by decide) ?_
        refine lv_rep0 (x := 0) (y := nI 0) rfl ?_
        refine rAld hx hb fx hw 33 (hF.1 33 (by decide)) hF.2.1 (fun _ => rfl) 0 rfl (by omega) (by decide) dL_isLaid_121 ?_
        refine lv_rep0 (x := (σ 33 0)) (y := (nI g)) (pg hA).1 ?_
        refine lv_iconst (v := 1) hx hb dL_isLaid_122 (by decide) ?_
        refine lv_rep0 (x := 1) (y := nI 1) rfl ?_
        refine lv_iadd hx hb dL_isLaid_123 ?_
        refine lv_rep0 (x := ((nI g) + (nI 1))) (y := nI (g + 1)) (nI_add _ _) ?_
        refine lv_irem hx hb dL_isLaid_124 (nI_ne0 (by omega) (by omega)) ?_
        refine lv_rep0 (y := nI (o % (g + 1))) (pk_rem (by omega) (by omega) (by omega)) ?_
        have hrm9 := Nat.mod_lt o (show 0 < (g + 1) by omega)
        refine lv_istore (lv' := [(8, .int (nI (o % (g + 1)))), (0, .ref (gad G 0)), (1, .ref (gad G 31)), (2, .ref (gad G 32)), (3, .ref (gad G 33)), (4, .int 1), (5, .int (nI o)), (6, .int (nI u)), (7, .int (nI v))]) hx hb dL_isLaid_125 hl (by decide) rfl (fun ls hl => ?_)
        have q_123 : (nI (o % (g + 1))) = (nI x9) := by rw [hx9]
        have hl : lv_has ls 14 [(8, .int (nI x9)), (0, .ref (gad G 0)), (1, .ref (gad G 31)), (2, .ref (gad G 32)), (3, .ref (gad G 33)), (4, .int 1), (5, .int (nI o)), (6, .int (nI u)), (7, .int (nI v))] := (lv_c (lv_atq hl 0 rfl q_123) (lv_c (lv_at hl 1 rfl) (lv_c (lv_at hl 2 rfl) (lv_c (lv_at hl 3 rfl) (lv_c (lv_at hl 4 rfl) (lv_c (lv_at hl 5 rfl) (lv_c (lv_at hl 6 rfl) (lv_c (lv_at hl 7 rfl) (lv_c (lv_at hl 8 rfl) (lv_c0 hl))))))))))
        refine lv_iload hx hb dL_isLaid_127 (lv_at hl 8 rfl) ?_
        refine lv_iconst (v := 3) hx hb dL_isLaid_129 (by decide) ?_
        refine lv_rep0 (x := 3) (y := nI 3) rfl ?_
        refine lv_irem hx hb dL_isLaid_130 (nI_ne0 (by omega) (by omega)) ?_
        refine lv_rep0 (y := nI (v % 3)) (pk_rem (by omega) (by omega) (by omega)) ?_
        refine lv_if_ne (tgt := 138) hx hb dL_isLaid_131 (by decide) (fun c_124 => ?_) (fun c_124 => ?_)
        · skip
          have c_124 : ¬ (v % 3) = 0 := n0_net (by omega) c_124
          refine lv_iload hx hb dL_isLaid_138 (lv_at hl 7 rfl) ?_
          refine lv_aload_n hx hb dL_isLaid_140 rfl (lv_at hl 4 rfl) ?_
          refine lv_iconst (v := 0) hx hb dL_isLaid_141 (by decide) ?_
          refine lv_rep0 (x := 0) (y := nI 0) rfl ?_
          refine rAld hx hb fx hw 33 (hF.1 33 (by decide)) hF.2.1 (fun _ => rfl) 0 rfl (by omega) (by decide) dL_isLaid_142 ?_
          refine lv_rep0 (x := (σ 33 0)) (y := (nI g)) (pg hA).1 ?_
          refine lv_iconst (v := 1) hx hb dL_isLaid_143 (by decide) ?_
          refine lv_rep0 (x := 1) (y := nI 1) rfl ?_
          refine lv_iadd hx hb dL_isLaid_144 ?_
          refine lv_rep0 (x := ((nI g) + (nI 1))) (y := nI (g + 1)) (nI_add _ _) ?_
          refine lv_irem hx hb dL_isLaid_145 (nI_ne0 (by omega) (by omega)) ?_
          refine lv_rep0 (y := nI (u % (g + 1))) (pk_rem (by omega) (by omega) (by omega)) ?_
          have hrm9 := Nat.mod_lt u (show 0 < (g + 1) by omega)
          refine lv_istore (lv' := [(9, .int (nI (u % (g + 1)))), (8, .int (nI x9)), (0, .ref (gad G 0)), (1, .ref (gad G 31)), (2, .ref (gad G 32)), (3, .ref (gad G 33)), (4, .int 1), (5, .int (nI o)), (6, .int (nI u)), (7, .int (nI v))]) hx hb dL_isLaid_146 hl (by decide) rfl (fun ls hl => ?_)
          have q_125 : (nI (u % (g + 1))) = (nI y9) := by first | (rw [hy9, if_pos (by omega)]; rfl) | rw [hy9, if_neg (by omega)]
          have hl : lv_has ls 14 [(9, .int (nI y9)), (8, .int (nI x9)), (0, .ref (gad G 0)), (1, .ref (gad G 31)), (2, .ref (gad G 32)), (3, .ref (gad G 33)), (4, .int 1), (5, .int (nI o)), (6, .int (nI u)), (7, .int (nI v))] := (lv_c (lv_atq hl 0 rfl q_125) (lv_c (lv_at hl 1 rfl) (lv_c (lv_at hl 2 rfl) (lv_c (lv_at hl 3 rfl) (lv_c (lv_at hl 4 rfl) (lv_c (lv_at hl 5 rfl) (lv_c (lv_at hl 6 rfl) (lv_c (lv_at hl 7 rfl) (lv_c (lv_at hl 8 rfl) (lv_c (lv_at hl 9 rfl) (lv_c0 hl)))))))))))
          refine lv_iload hx hb dL_isLaid_148 (lv_at hl 9 rfl) ?_
          refine lv_bipush (v := 103) hx hb dL_isLaid_150 (by decide) ?_
          refine lv_rep0 (x := 103) (y := nI 103) rfl ?_
          refine lv_irem hx hb dL_isLaid_152 (nI_ne0 (by omega) (by omega)) ?_
          refine lv_rep0 (y := nI (v % 103)) (pk_rem (by omega) (by omega) (by omega)) ?_
          refine lv_istore (lv' := [(10, .int (nI (v % 103))), (9, .int (nI y9)), (8, .int (nI x9)), (0, .ref (gad G 0)), (1, .ref (gad G 31)), (2, .ref (gad G 32)), (3, .ref (gad G 33)), (4, .int 1), (5, .int (nI o)), (6, .int (nI u)), (7, .int (nI v))]) hx hb dL_isLaid_153 hl (by decide) rfl (fun ls hl => ?_)
          have q_126 : (nI (v % 103)) = (nI v9) := by rw [hv9]
          have hl : lv_has ls 14 [(10, .int (nI v9)), (9, .int (nI y9)), (8, .int (nI x9)), (0, .ref (gad G 0)), (1, .ref (gad G 31)), (2, .ref (gad G 32)), (3, .ref (gad G 33)), (4, .int 1), (5, .int (nI o)), (6, .int (nI u)), (7, .int (nI v))] := (lv_c (lv_atq hl 0 rfl q_126) (lv_c (lv_at hl 1 rfl) (lv_c (lv_at hl 2 rfl) (lv_c (lv_at hl 3 rfl) (lv_c (lv_at hl 4 rfl) (lv_c (lv_at hl 5 rfl) (lv_c (lv_at hl 6 rfl) (lv_c (lv_at hl 7 rfl) (lv_c (lv_at hl 8 rfl) (lv_c (lv_at hl 9 rfl) (lv_c (lv_at hl 10 rfl) (lv_c0 hl))))))))))))
          refine lv_iload hx hb dL_isLaid_155 (lv_at hl 2 rfl) ?_
          refine lv_aload_n hx hb dL_isLaid_157 rfl (lv_at hl 6 rfl) ?_
          refine lv_iconst (v := 0) hx hb dL_isLaid_158 (by decide) ?_
          refine lv_rep0 (x := 0) (y := nI 0) rfl ?_
          refine rAld hx hb fx hw 33 (hF.1 33 (by decide)) hF.2.1 (fun _ => rfl) 0 rfl (by omega) (by decide) dL_isLaid_159 ?_
          refine lv_rep0 (x := (σ 33 0)) (y := (nI g)) (pg hA).1 ?_
          refine lv_icmp_ge (tgt := 175) hx hb dL_isLaid_160 (by decide) (fun c_127 => ?_) (fun c_127 => ?_)
          · skip
            have c_127 : g ≤ x9 := (nI_leI (by omega) (by omega)).mp c_127
            omega
          · skip
            have c_127 : ¬ g ≤ x9 := fun h9 => c_127 ((nI_leI (by omega) (by omega)).mpr h9)
            refine lv_iload hx hb dL_isLaid_163 (lv_at hl 1 rfl) ?_
            refine lv_aload_n hx hb dL_isLaid_165 rfl (lv_at hl 6 rfl) ?_
            refine lv_iconst (v := 0) hx hb dL_isLaid_166 (by decide) ?_
            refine lv_rep0 (x := 0) (y := nI 0) rfl ?_
            refine rAld hx hb fx hw 33 (hF.1 33 (by decide)) hF.2.1 (fun _ => rfl) 0 rfl (by omega) (by decide) dL_isLaid_167 ?_
            refine lv_rep0 (x := (σ 33 0)) (y := (nI g)) (pg hA).1 ?_
            refine lv_icmp_ge (tgt := 175) hx hb dL_isLaid_168 (by decide) (fun c_128 => ?_) (fun c_128 => ?_)
            · skip
              have c_128 : g ≤ y9 := (nI_leI (by omega) (by omega)).mp c_128
              refine lv_iconst (v := 0) hx hb dL_isLaid_175 (by decide) ?_
              refine lv_istore (lv' := [(11, .int 0), (10, .int (nI v9)), (9, .int (nI y9)), (8, .int (nI x9)), (0, .ref (gad G 0)), (1, .ref (gad G 31)), (2, .ref (gad G 32)), (3, .ref (gad G 33)), (4, .int 1), (5, .int (nI o)), (6, .int (nI u)), (7, .int (nI v))]) hx hb dL_isLaid_176 hl (by decide) rfl (fun ls hl => ?_)
              refine lv_iload hx hb dL_isLaid_178 (lv_at hl 2 rfl) ?_
              refine lv_iload hx hb dL_isLaid_180 (lv_at hl 3 rfl) ?_
              refine lv_icmp_gt (tgt := 195) hx hb dL_isLaid_182 (by decide) (fun c_129 => ?_) (fun c_129 => ?_)
              · skip
                have c_129 : x9 < y9 := (nI_ltI (by omega) (by omega)).mp c_129
                refine lv_iload hx hb dL_isLaid_195 (lv_at hl 1 rfl) ?_
                refine lv_if_le (tgt := 211) hx hb dL_isLaid_197 (by decide) (fun c_130 => ?_) (fun c_130 => ?_)
                · skip
                  have c_130 : v9 = 0 := n0_let (by omega) c_130
                  refine lv_iconst (v := 0) hx hb dL_isLaid_211 (by decide) ?_
                  refine lv_istore (lv' := [(12, .int 0), (11, .int 0), (10, .int (nI v9)), (9, .int (nI y9)), (8, .int (nI x9)), (0, .ref (gad G 0)), (1, .ref (gad G 31)), (2, .ref (gad G 32)), (3, .ref (gad G 33)), (4, .int 1), (5, .int (nI o)), (6, .int (nI u)), (7, .int (nI v))]) hx hb dL_isLaid_212 hl (by decide) rfl (fun ls hl => ?_)
                  refine lv_iload hx hb dL_isLaid_214 (lv_at hl 1 rfl) ?_
                  refine lv_if_ne (tgt := 224) hx hb dL_isLaid_216 (by decide) (fun c_131 => ?_) (fun c_131 => ?_)
                  · skip
                    exact absurd c_131 (by decide)
                  · skip
                    refine lv_bipush (v := (-30)) hx hb dL_isLaid_219 (by decide) ?_
                    refine lv_goto (tgt := 268) hx hb dL_isLaid_221 (by decide) ?_
                    refine lv_istore (lv' := [(13, .int (-30)), (12, .int 0), (11, .int 0), (10, .int (nI v9)), (9, .int (nI y9)), (8, .int (nI x9)), (0, .ref (gad G 0)), (1, .ref (gad G 31)), (2, .ref (gad G 32)), (3, .ref (gad G 33)), (4, .int 1), (5, .int (nI o)), (6, .int (nI u)), (7, .int (nI v))]) hx hb dL_isLaid_268 hl (by decide) rfl (fun ls hl => ?_)
                    refine lv_iload hx hb dL_isLaid_270 (lv_at hl 2 rfl) ?_
                    refine lv_if_eq (tgt := 298) hx hb dL_isLaid_272 (by decide) (fun c_132 => ?_) (fun c_132 => ?_)
                    · skip
                      refine lv_aload_n hx hb dL_isLaid_298 rfl (lv_at hl 6 rfl) ?_
                      refine lv_iconst (v := 1) hx hb dL_isLaid_299 (by decide) ?_
                      refine lv_iload hx hb dL_isLaid_300 (lv_at hl 5 rfl) ?_
                      refine lv_iload hx hb dL_isLaid_302 (lv_at hl 4 rfl) ?_
                      refine lv_iload hx hb dL_isLaid_304 (lv_at hl 3 rfl) ?_
                      refine rCallLS (As := [.ref (gad G 0), .int 1, .int (nI x9), .int (nI y9), .int (nI v9)]) (rest := []) ⟨hx, hb, hml, hown, hts⟩ fx hw (d1_t1 l hlt G hG hF σ (pcv hA) ((nI x9)) ((nI y9)) ((nI v9)) (by first | (rw [inB_no (a := x9) (n := g) (by omega) (by omega)]; rfl) | (rw [inB_no (a := y9) (n := g) (by omega) (by omega), Bool.and_false]))) (vx_cwSW 5 hts gL_isLaid_L_does rfl rfl rfl (by decide +kernel) ⟨Nat.le_of_ble_eq_true rfl, Nat.le_of_ble_eq_true rfl⟩) rfl hl.1 rfl (Nat.le_of_ble_eq_true rfl) dL_isLaid_306 ⟨Nat.le_trans (show _ ≤ 3 by omega) (Nat.le_of_ble_eq_true rfl), Nat.le_trans (show _ ≤ 20 by omega) (Nat.le_of_ble_eq_true rfl)⟩ (fun r_133 σ_134 H locs p_135 hw => ?_)
                      obtain ⟨er_133, eσ_134⟩ := p_135
                      have er_133 := er_133.symm; subst er_133
                      have eσ_134 := eσ_134.symm; subst eσ_134
                      refine lv_iload hx hb dL_isLaid_309 (lv_at hl 0 rfl) ?_
                      refine lv_icmp_ne (tgt := 318) hx hb dL_isLaid_311 (by decide) (fun c_136 => ?_) (fun c_136 => ?_)
                      · skip
                        exact absurd c_136 (by decide)
                      · skip
                        refine lv_iconst (v := 1) hx hb dL_isLaid_314 (by decide) ?_
                        refine lv_goto (tgt := 319) hx hb dL_isLaid_315 (by decide) ?_
                        exact rRetZw hx hb hr hw (by decide) (by exact ⟨rfl, po_same hA hGa⟩) hlocks dL_isLaid_319 (by omega) (by omega)
                    · skip
                      exact absurd c_132 (by decide)
                · skip
                  have c_130 : 0 < v9 := n0_lef (by omega) c_130
                  refine lv_iload hx hb dL_isLaid_200 (lv_at hl 1 rfl) ?_
                  refine lv_bipush (v := 101) hx hb dL_isLaid_202 (by decide) ?_
                  refine lv_rep0 (x := 101) (y := nI 101) rfl ?_
                  refine lv_icmp_ge (tgt := 211) hx hb dL_isLaid_204 (by decide) (fun c_137 => ?_) (fun c_137 => ?_)
                  · skip
                    have c_137 : 101 ≤ v9 := (nI_leI (by omega) (by omega)).mp c_137
                    refine lv_iconst (v := 0) hx hb dL_isLaid_211 (by decide) ?_
                    refine lv_istore (lv' := [(12, .int 0), (11, .int 0), (10, .int (nI v9)), (9, .int (nI y9)), (8, .int (nI x9)), (0, .ref (gad G 0)), (1, .ref (gad G 31)), (2, .ref (gad G 32)), (3, .ref (gad G 33)), (4, .int 1), (5, .int (nI o)), (6, .int (nI u)), (7, .int (nI v))]) hx hb dL_isLaid_212 hl (by decide) rfl (fun ls hl => ?_)
                    refine lv_iload hx hb dL_isLaid_214 (lv_at hl 1 rfl) ?_
                    refine lv_if_ne (tgt := 224) hx hb dL_isLaid_216 (by decide) (fun c_138 => ?_) (fun c_138 => ?_)
                    · skip
                      exact absurd c_138 (by decide)
                    · skip
                      refine lv_bipush (v := (-30)) hx hb dL_isLaid_219 (by decide) ?_
                      refine lv_goto (tgt := 268) hx hb dL_isLaid_221 (by decide) ?_
                      refine lv_istore (lv' := [(13, .int (-30)), (12, .int 0), (11, .int 0), (10, .int (nI v9)), (9, .int (nI y9)), (8, .int (nI x9)), (0, .ref (gad G 0)), (1, .ref (gad G 31)), (2, .ref (gad G 32)), (3, .ref (gad G 33)), (4, .int 1), (5, .int (nI o)), (6, .int (nI u)), (7, .int (nI v))]) hx hb dL_isLaid_268 hl (by decide) rfl (fun ls hl => ?_)
                      refine lv_iload hx hb dL_isLaid_270 (lv_at hl 2 rfl) ?_
                      refine lv_if_eq (tgt := 298) hx hb dL_isLaid_272 (by decide) (fun c_139 => ?_) (fun c_139 => ?_)
                      · skip
                        refine lv_aload_n hx hb dL_isLaid_298 rfl (lv_at hl 6 rfl) ?_
                        refine lv_iconst (v := 1) hx hb dL_isLaid_299 (by decide) ?_
                        refine lv_iload hx hb dL_isLaid_300 (lv_at hl 5 rfl) ?_
                        refine lv_iload hx hb dL_isLaid_302 (lv_at hl 4 rfl) ?_
                        refine lv_iload hx hb dL_isLaid_304 (lv_at hl 3 rfl) ?_
                        refine rCallLS (As := [.ref (gad G 0), .int 1, .int (nI x9), .int (nI y9), .int (nI v9)]) (rest := []) ⟨hx, hb, hml, hown, hts⟩ fx hw (d1_t1 l hlt G hG hF σ (pcv hA) ((nI x9)) ((nI y9)) ((nI v9)) (by first | (rw [inB_no (a := x9) (n := g) (by omega) (by omega)]; rfl) | (rw [inB_no (a := y9) (n := g) (by omega) (by omega), Bool.and_false]))) (vx_cwSW 5 hts gL_isLaid_L_does rfl rfl rfl (by decide +kernel) ⟨Nat.le_of_ble_eq_true rfl, Nat.le_of_ble_eq_true rfl⟩) rfl hl.1 rfl (Nat.le_of_ble_eq_true rfl) dL_isLaid_306 ⟨Nat.le_trans (show _ ≤ 3 by omega) (Nat.le_of_ble_eq_true rfl), Nat.le_trans (show _ ≤ 20 by omega) (Nat.le_of_ble_eq_true rfl)⟩ (fun r_140 σ_141 H locs p_142 hw => ?_)
                        obtain ⟨er_140, eσ_141⟩ := p_142
                        have er_140 := er_140.symm; subst er_140
                        have eσ_141 := eσ_141.symm; subst eσ_141
                        refine lv_iload hx hb dL_isLaid_309 (lv_at hl 0 rfl) ?_
                        refine lv_icmp_ne (tgt := 318) hx hb dL_isLaid_311 (by decide) (fun c_143 => ?_) (fun c_143 => ?_)
                        · skip
                          exact absurd c_143 (by decide)
                        · skip
                          refine lv_iconst (v := 1) hx hb dL_isLaid_314 (by decide) ?_
                          refine lv_goto (tgt := 319) hx hb dL_isLaid_315 (by decide) ?_
                          exact rRetZw hx hb hr hw (by decide) (by exact ⟨rfl, po_same hA hGa⟩) hlocks dL_isLaid_319 (by omega) (by omega)
                      · skip
                        exact absurd c_139 (by decide)
                  · skip
                    have c_137 : ¬ 101 ≤ v9 := fun h9 => c_137 ((nI_leI (by omega) (by omega)).mpr h9)
                    refine lv_iconst (v := 1) hx hb dL_isLaid_207 (by decide) ?_
                    refine lv_goto (tgt := 212) hx hb dL_isLaid_208 (by decide) ?_
                    refine lv_istore (lv' := [(12, .int 1), (11, .int 0), (10, .int (nI v9)), (9, .int (nI y9)), (8, .int (nI x9)), (0, .ref (gad G 0)), (1, .ref (gad G 31)), (2, .ref (gad G 32)), (3, .ref (gad G 33)), (4, .int 1), (5, .int (nI o)), (6, .int (nI u)), (7, .int (nI v))]) hx hb dL_isLaid_212 hl (by decide) rfl (fun ls hl => ?_)
                    refine lv_iload hx hb dL_isLaid_214 (lv_at hl 1 rfl) ?_
                    refine lv_if_ne (tgt := 224) hx hb dL_isLaid_216 (by decide) (fun c_144 => ?_) (fun c_144 => ?_)
                    · skip
                      exact absurd c_144 (by decide)
                    · skip
                      refine lv_bipush (v := (-30)) hx hb dL_isLaid_219 (by decide) ?_
                      refine lv_goto (tgt := 268) hx hb dL_isLaid_221 (by decide) ?_
                      refine lv_istore (lv' := [(13, .int (-30)), (12, .int 1), (11, .int 0), (10, .int (nI v9)), (9, .int (nI y9)), (8, .int (nI x9)), (0, .ref (gad G 0)), (1, .ref (gad G 31)), (2, .ref (gad G 32)), (3, .ref (gad G 33)), (4, .int 1), (5, .int (nI o)), (6, .int (nI u)), (7, .int (nI v))]) hx hb dL_isLaid_268 hl (by decide) rfl (fun ls hl => ?_)
                      refine lv_iload hx hb dL_isLaid_270 (lv_at hl 2 rfl) ?_
                      refine lv_if_eq (tgt := 298) hx hb dL_isLaid_272 (by decide) (fun c_145 => ?_) (fun c_145 => ?_)
                      · skip
                        refine lv_aload_n hx hb dL_isLaid_298 rfl (lv_at hl 6 rfl) ?_
                        refine lv_iconst (v := 1) hx hb dL_isLaid_299 (by decide) ?_
                        refine lv_iload hx hb dL_isLaid_300 (lv_at hl 5 rfl) ?_
                        refine lv_iload hx hb dL_isLaid_302 (lv_at hl 4 rfl) ?_
                        refine lv_iload hx hb dL_isLaid_304 (lv_at hl 3 rfl) ?_
                        refine rCallLS (As := [.ref (gad G 0), .int 1, .int (nI x9), .int (nI y9), .int (nI v9)]) (rest := []) ⟨hx, hb, hml, hown, hts⟩ fx hw (d1_t1 l hlt G hG hF σ (pcv hA) ((nI x9)) ((nI y9)) ((nI v9)) (by first | (rw [inB_no (a := x9) (n := g) (by omega) (by omega)]; rfl) | (rw [inB_no (a := y9) (n := g) (by omega) (by omega), Bool.and_false]))) (vx_cwSW 5 hts gL_isLaid_L_does rfl rfl rfl (by decide +kernel) ⟨Nat.le_of_ble_eq_true rfl, Nat.le_of_ble_eq_true rfl⟩) rfl hl.1 rfl (Nat.le_of_ble_eq_true rfl) dL_isLaid_306 ⟨Nat.le_trans (show _ ≤ 3 by omega) (Nat.le_of_ble_eq_true rfl), Nat.le_trans (show _ ≤ 20 by omega) (Nat.le_of_ble_eq_true rfl)⟩ (fun r_146 σ_147 H locs p_148 hw => ?_)
                        obtain ⟨er_146, eσ_147⟩ := p_148
                        have er_146 := er_146.symm; subst er_146
                        have eσ_147 := eσ_147.symm; subst eσ_147
                        refine lv_iload hx hb dL_isLaid_309 (lv_at hl 0 rfl) ?_
                        refine lv_icmp_ne (tgt := 318) hx hb dL_isLaid_311 (by decide) (fun c_149 => ?_) (fun c_149 => ?_)
                        · skip
                          exact absurd c_149 (by decide)
                        · skip
                          refine lv_iconst (v := 1) hx hb dL_isLaid_314 (by decide) ?_
                          refine lv_goto (tgt := 319) hx hb dL_isLaid_315 (by decide) ?_
                          exact rRetZw hx hb hr hw (by decide) (by exact ⟨rfl, po_same hA hGa⟩) hlocks dL_isLaid_319 (by omega) (by omega)
                      · skip
                        exact absurd c_145 (by decide)
              · skip
                have c_129 : ¬ x9 < y9 := fun h9 => c_129 ((nI_ltI (by omega) (by omega)).mpr h9)
                refine lv_iload hx hb dL_isLaid_185 (lv_at hl 2 rfl) ?_
                refine lv_if_ne (tgt := 211) hx hb dL_isLaid_187 (by decide) (fun c_150 => ?_) (fun c_150 => ?_)
                · skip
                  have c_150 : ¬ y9 = 0 := n0_net (by omega) c_150
                  refine lv_iconst (v := 0) hx hb dL_isLaid_211 (by decide) ?_
                  refine lv_istore (lv' := [(12, .int 0), (11, .int 0), (10, .int (nI v9)), (9, .int (nI y9)), (8, .int (nI x9)), (0, .ref (gad G 0)), (1, .ref (gad G 31)), (2, .ref (gad G 32)), (3, .ref (gad G 33)), (4, .int 1), (5, .int (nI o)), (6, .int (nI u)), (7, .int (nI v))]) hx hb dL_isLaid_212 hl (by decide) rfl (fun ls hl => ?_)
                  refine lv_iload hx hb dL_isLaid_214 (lv_at hl 1 rfl) ?_
                  refine lv_if_ne (tgt := 224) hx hb dL_isLaid_216 (by decide) (fun c_151 => ?_) (fun c_151 => ?_)
                  · skip
                    exact absurd c_151 (by decide)
                  · skip
                    refine lv_bipush (v := (-30)) hx hb dL_isLaid_219 (by decide) ?_
                    refine lv_goto (tgt := 268) hx hb dL_isLaid_221 (by decide) ?_
                    refine lv_istore (lv' := [(13, .int (-30)), (12, .int 0), (11, .int 0), (10, .int (nI v9)), (9, .int (nI y9)), (8, .int (nI x9)), (0, .ref (gad G 0)), (1, .ref (gad G 31)), (2, .ref (gad G 32)), (3, .ref (gad G 33)), (4, .int 1), (5, .int (nI o)), (6, .int (nI u)), (7, .int (nI v))]) hx hb dL_isLaid_268 hl (by decide) rfl (fun ls hl => ?_)
                    refine lv_iload hx hb dL_isLaid_270 (lv_at hl 2 rfl) ?_
                    refine lv_if_eq (tgt := 298) hx hb dL_isLaid_272 (by decide) (fun c_152 => ?_) (fun c_152 => ?_)
                    · skip
                      refine lv_aload_n hx hb dL_isLaid_298 rfl (lv_at hl 6 rfl) ?_
                      refine lv_iconst (v := 1) hx hb dL_isLaid_299 (by decide) ?_
                      refine lv_iload hx hb dL_isLaid_300 (lv_at hl 5 rfl) ?_
                      refine lv_iload hx hb dL_isLaid_302 (lv_at hl 4 rfl) ?_
                      refine lv_iload hx hb dL_isLaid_304 (lv_at hl 3 rfl) ?_
                      refine rCallLS (As := [.ref (gad G 0), .int 1, .int (nI x9), .int (nI y9), .int (nI v9)]) (rest := []) ⟨hx, hb, hml, hown, hts⟩ fx hw (d1_t1 l hlt G hG hF σ (pcv hA) ((nI x9)) ((nI y9)) ((nI v9)) (by first | (rw [inB_no (a := x9) (n := g) (by omega) (by omega)]; rfl) | (rw [inB_no (a := y9) (n := g) (by omega) (by omega), Bool.and_false]))) (vx_cwSW 5 hts gL_isLaid_L_does rfl rfl rfl (by decide +kernel) ⟨Nat.le_of_ble_eq_true rfl, Nat.le_of_ble_eq_true rfl⟩) rfl hl.1 rfl (Nat.le_of_ble_eq_true rfl) dL_isLaid_306 ⟨Nat.le_trans (show _ ≤ 3 by omega) (Nat.le_of_ble_eq_true rfl), Nat.le_trans (show _ ≤ 20 by omega) (Nat.le_of_ble_eq_true rfl)⟩ (fun r_153 σ_154 H locs p_155 hw => ?_)
                      obtain ⟨er_153, eσ_154⟩ := p_155
                      have er_153 := er_153.symm; subst er_153
                      have eσ_154 := eσ_154.symm; subst eσ_154
                      refine lv_iload hx hb dL_isLaid_309 (lv_at hl 0 rfl) ?_
                      refine lv_icmp_ne (tgt := 318) hx hb dL_isLaid_311 (by decide) (fun c_156 => ?_) (fun c_156 => ?_)
                      · skip
                        exact absurd c_156 (by decide)
                      · skip
                        refine lv_iconst (v := 1) hx hb dL_isLaid_314 (by decide) ?_
                        refine lv_goto (tgt := 319) hx hb dL_isLaid_315 (by decide) ?_
                        exact rRetZw hx hb hr hw (by decide) (by exact ⟨rfl, po_same hA hGa⟩) hlocks dL_isLaid_319 (by omega) (by omega)
                    · skip
                      exact absurd c_152 (by decide)
                · skip
                  have c_150 : y9 = 0 := n0_nef (by omega) c_150
                  refine lv_iload hx hb dL_isLaid_190 (lv_at hl 3 rfl) ?_
                  refine lv_if_le (tgt := 211) hx hb dL_isLaid_192 (by decide) (fun c_157 => ?_) (fun c_157 => ?_)
                  · skip
                    have c_157 : x9 = 0 := n0_let (by omega) c_157
                    refine lv_iconst (v := 0) hx hb dL_isLaid_211 (by decide) ?_
                    refine lv_istore (lv' := [(12, .int 0), (11, .int 0), (10, .int (nI v9)), (9, .int (nI y9)), (8, .int (nI x9)), (0, .ref (gad G 0)), (1, .ref (gad G 31)), (2, .ref (gad G 32)), (3, .ref (gad G 33)), (4, .int 1), (5, .int (nI o)), (6, .int (nI u)), (7, .int (nI v))]) hx hb dL_isLaid_212 hl (by decide) rfl (fun ls hl => ?_)
                    refine lv_iload hx hb dL_isLaid_214 (lv_at hl 1 rfl) ?_
                    refine lv_if_ne (tgt := 224) hx hb dL_isLaid_216 (by decide) (fun c_158 => ?_) (fun c_158 => ?_)
                    · skip
                      exact absurd c_158 (by decide)
                    · skip
                      refine lv_bipush (v := (-30)) hx hb dL_isLaid_219 (by decide) ?_
                      refine lv_goto (tgt := 268) hx hb dL_isLaid_221 (by decide) ?_
                      refine lv_istore (lv' := [(13, .int (-30)), (12, .int 0), (11, .int 0), (10, .int (nI v9)), (9, .int (nI y9)), (8, .int (nI x9)), (0, .ref (gad G 0)), (1, .ref (gad G 31)), (2, .ref (gad G 32)), (3, .ref (gad G 33)), (4, .int 1), (5, .int (nI o)), (6, .int (nI u)), (7, .int (nI v))]) hx hb dL_isLaid_268 hl (by decide) rfl (fun ls hl => ?_)
                      refine lv_iload hx hb dL_isLaid_270 (lv_at hl 2 rfl) ?_
                      refine lv_if_eq (tgt := 298) hx hb dL_isLaid_272 (by decide) (fun c_159 => ?_) (fun c_159 => ?_)
                      · skip
                        refine lv_aload_n hx hb dL_isLaid_298 rfl (lv_at hl 6 rfl) ?_
                        refine lv_iconst (v := 1) hx hb dL_isLaid_299 (by decide) ?_
                        refine lv_iload hx hb dL_isLaid_300 (lv_at hl 5 rfl) ?_
                        refine lv_iload hx hb dL_isLaid_302 (lv_at hl 4 rfl) ?_
                        refine lv_iload hx hb dL_isLaid_304 (lv_at hl 3 rfl) ?_
                        refine rCallLS (As := [.ref (gad G 0), .int 1, .int (nI x9), .int (nI y9), .int (nI v9)]) (rest := []) ⟨hx, hb, hml, hown, hts⟩ fx hw (d1_t1 l hlt G hG hF σ (pcv hA) ((nI x9)) ((nI y9)) ((nI v9)) (by first | (rw [inB_no (a := x9) (n := g) (by omega) (by omega)]; rfl) | (rw [inB_no (a := y9) (n := g) (by omega) (by omega), Bool.and_false]))) (vx_cwSW 5 hts gL_isLaid_L_does rfl rfl rfl (by decide +kernel) ⟨Nat.le_of_ble_eq_true rfl, Nat.le_of_ble_eq_true rfl⟩) rfl hl.1 rfl (Nat.le_of_ble_eq_true rfl) dL_isLaid_306 ⟨Nat.le_trans (show _ ≤ 3 by omega) (Nat.le_of_ble_eq_true rfl), Nat.le_trans (show _ ≤ 20 by omega) (Nat.le_of_ble_eq_true rfl)⟩ (fun r_160 σ_161 H locs p_162 hw => ?_)
                        obtain ⟨er_160, eσ_161⟩ := p_162
                        have er_160 := er_160.symm; subst er_160
                        have eσ_161 := eσ_161.symm; subst eσ_161
                        refine lv_iload hx hb dL_isLaid_309 (lv_at hl 0 rfl) ?_
                        refine lv_icmp_ne (tgt := 318) hx hb dL_isLaid_311 (by decide) (fun c_163 => ?_) (fun c_163 => ?_)
                        · skip
                          exact absurd c_163 (by decide)
                        · skip
                          refine lv_iconst (v := 1) hx hb dL_isLaid_314 (by decide) ?_
                          refine lv_goto (tgt := 319) hx hb dL_isLaid_315 (by decide) ?_
                          exact rRetZw hx hb hr hw (by decide) (by exact ⟨rfl, po_same hA hGa⟩) hlocks dL_isLaid_319 (by omega) (by omega)
                      · skip
                        exact absurd c_159 (by decide)
                  · skip
                    have c_157 : 0 < x9 := n0_lef (by omega) c_157
                    refine lv_iload hx hb dL_isLaid_195 (lv_at hl 1 rfl) ?_
                    refine lv_if_le (tgt := 211) hx hb dL_isLaid_197 (by decide) (fun c_164 => ?_) (fun c_164 => ?_)
                    · skip
                      have c_164 : v9 = 0 := n0_let (by omega) c_164
                      refine lv_iconst (v := 0) hx hb dL_isLaid_211 (by decide) ?_
                      refine lv_istore (lv' := [(12, .int 0), (11, .int 0), (10, .int (nI v9)), (9, .int (nI y9)), (8, .int (nI x9)), (0, .ref (gad G 0)), (1, .ref (gad G 31)), (2, .ref (gad G 32)), (3, .ref (gad G 33)), (4, .int 1), (5, .int (nI o)), (6, .int (nI u)), (7, .int (nI v))]) hx hb dL_isLaid_212 hl (by decide) rfl (fun ls hl => ?_)
                      refine lv_iload hx hb dL_isLaid_214 (lv_at hl 1 rfl) ?_
                      refine lv_if_ne (tgt := 224) hx hb dL_isLaid_216 (by decide) (fun c_165 => ?_) (fun c_165 => ?_)
                      · skip
                        exact absurd c_165 (by decide)
                      · skip
                        refine lv_bipush (v := (-30)) hx hb dL_isLaid_219 (by decide) ?_
                        refine lv_goto (tgt := 268) hx hb dL_isLaid_221 (by decide) ?_
                        refine lv_istore (lv' := [(13, .int (-30)), (12, .int 0), (11, .int 0), (10, .int (nI v9)), (9, .int (nI y9)), (8, .int (nI x9)), (0, .ref (gad G 0)), (1, .ref (gad G 31)), (2, .ref (gad G 32)), (3, .ref (gad G 33)), (4, .int 1), (5, .int (nI o)), (6, .int (nI u)), (7, .int (nI v))]) hx hb dL_isLaid_268 hl (by decide) rfl (fun ls hl => ?_)
                        refine lv_iload hx hb dL_isLaid_270 (lv_at hl 2 rfl) ?_
                        refine lv_if_eq (tgt := 298) hx hb dL_isLaid_272 (by decide) (fun c_166 => ?_) (fun c_166 => ?_)
                        · skip
                          refine lv_aload_n hx hb dL_isLaid_298 rfl (lv_at hl 6 rfl) ?_
                          refine lv_iconst (v := 1) hx hb dL_isLaid_299 (by decide) ?_
                          refine lv_iload hx hb dL_isLaid_300 (lv_at hl 5 rfl) ?_
                          refine lv_iload hx hb dL_isLaid_302 (lv_at hl 4 rfl) ?_
                          refine lv_iload hx hb dL_isLaid_304 (lv_at hl 3 rfl) ?_
                          refine rCallLS (As := [.ref (gad G 0), .int 1, .int (nI x9), .int (nI y9), .int (nI v9)]) (rest := []) ⟨hx, hb, hml, hown, hts⟩ fx hw (d1_t1 l hlt G hG hF σ (pcv hA) ((nI x9)) ((nI y9)) ((nI v9)) (by first | (rw [inB_no (a := x9) (n := g) (by omega) (by omega)]; rfl) | (rw [inB_no (a := y9) (n := g) (by omega) (by omega), Bool.and_false]))) (vx_cwSW 5 hts gL_isLaid_L_does rfl rfl rfl (by decide +kernel) ⟨Nat.le_of_ble_eq_true rfl, Nat.le_of_ble_eq_true rfl⟩) rfl hl.1 rfl (Nat.le_of_ble_eq_true rfl) dL_isLaid_306 ⟨Nat.le_trans (show _ ≤ 3 by omega) (Nat.le_of_ble_eq_true rfl), Nat.le_trans (show _ ≤ 20 by omega) (Nat.le_of_ble_eq_true rfl)⟩ (fun r_167 σ_168 H locs p_169 hw => ?_)
                          obtain ⟨er_167, eσ_168⟩ := p_169
                          have er_167 := er_167.symm; subst er_167
                          have eσ_168 := eσ_168.symm; subst eσ_168
                          refine lv_iload hx hb dL_isLaid_309 (lv_at hl 0 rfl) ?_
                          refine lv_icmp_ne (tgt := 318) hx hb dL_isLaid_311 (by decide) (fun c_170 => ?_) (fun c_170 => ?_)
                          · skip
                            exact absurd c_170 (by decide)
                          · skip
                            refine lv_iconst (v := 1) hx hb dL_isLaid_314 (by decide) ?_
                            refine lv_goto (tgt := 319) hx hb dL_isLaid_315 (by decide) ?_
                            exact rRetZw hx hb hr hw (by decide) (by exact ⟨rfl, po_same hA hGa⟩) hlocks dL_isLaid_319 (by omega) (by omega)
                        · skip
                          exact absurd c_166 (by decide)
                    · skip
                      have c_164 : 0 < v9 := n0_lef (by omega) c_164
                      refine lv_iload hx hb dL_isLaid_200 (lv_at hl 1 rfl) ?_
                      refine lv_bipush (v := 101) hx hb dL_isLaid_202 (by decide) ?_
                      refine lv_rep0 (x := 101) (y := nI 101) rfl ?_
                      refine lv_icmp_ge (tgt := 211) hx hb dL_isLaid_204 (by decide) (fun c_171 => ?_) (fun c_171 => ?_)
                      · skip
                        have c_171 : 101 ≤ v9 := (nI_leI (by omega) (by omega)).mp c_171
                        refine lv_iconst (v := 0) hx hb dL_isLaid_211 (by decide) ?_
                        refine lv_istore (lv' := [(12, .int 0), (11, .int 0), (10, .int (nI v9)), (9, .int (nI y9)), (8, .int (nI x9)), (0, .ref (gad G 0)), (1, .ref (gad G 31)), (2, .ref (gad G 32)), (3, .ref (gad G 33)), (4, .int 1), (5, .int (nI o)), (6, .int (nI u)), (7, .int (nI v))]) hx hb dL_isLaid_212 hl (by decide) rfl (fun ls hl => ?_)
                        refine lv_iload hx hb dL_isLaid_214 (lv_at hl 1 rfl) ?_
                        refine lv_if_ne (tgt := 224) hx hb dL_isLaid_216 (by decide) (fun c_172 => ?_) (fun c_172 => ?_)
                        · skip
                          exact absurd c_172 (by decide)
                        · skip
                          refine lv_bipush (v := (-30)) hx hb dL_isLaid_219 (by decide) ?_
                          refine lv_goto (tgt := 268) hx hb dL_isLaid_221 (by decide) ?_
                          refine lv_istore (lv' := [(13, .int (-30)), (12, .int 0), (11, .int 0), (10, .int (nI v9)), (9, .int (nI y9)), (8, .int (nI x9)), (0, .ref (gad G 0)), (1, .ref (gad G 31)), (2, .ref (gad G 32)), (3, .ref (gad G 33)), (4, .int 1), (5, .int (nI o)), (6, .int (nI u)), (7, .int (nI v))]) hx hb dL_isLaid_268 hl (by decide) rfl (fun ls hl => ?_)
                          refine lv_iload hx hb dL_isLaid_270 (lv_at hl 2 rfl) ?_
                          refine lv_if_eq (tgt := 298) hx hb dL_isLaid_272 (by decide) (fun c_173 => ?_) (fun c_173 => ?_)
                          · skip
                            refine lv_aload_n hx hb dL_isLaid_298 rfl (lv_at hl 6 rfl) ?_
                            refine lv_iconst (v := 1) hx hb dL_isLaid_299 (by decide) ?_
                            refine lv_iload hx hb dL_isLaid_300 (lv_at hl 5 rfl) ?_
                            refine lv_iload hx hb dL_isLaid_302 (lv_at hl 4 rfl) ?_
                            refine lv_iload hx hb dL_isLaid_304 (lv_at hl 3 rfl) ?_
                            refine rCallLS (As := [.ref (gad G 0), .int 1, .int (nI x9), .int (nI y9), .int (nI v9)]) (rest := []) ⟨hx, hb, hml, hown, hts⟩ fx hw (d1_t1 l hlt G hG hF σ (pcv hA) ((nI x9)) ((nI y9)) ((nI v9)) (by first | (rw [inB_no (a := x9) (n := g) (by omega) (by omega)]; rfl) | (rw [inB_no (a := y9) (n := g) (by omega) (by omega), Bool.and_false]))) (vx_cwSW 5 hts gL_isLaid_L_does rfl rfl rfl (by decide +kernel) ⟨Nat.le_of_ble_eq_true rfl, Nat.le_of_ble_eq_true rfl⟩) rfl hl.1 rfl (Nat.le_of_ble_eq_true rfl) dL_isLaid_306 ⟨Nat.le_trans (show _ ≤ 3 by omega) (Nat.le_of_ble_eq_true rfl), Nat.le_trans (show _ ≤ 20 by omega) (Nat.le_of_ble_eq_true rfl)⟩ (fun r_174 σ_175 H locs p_176 hw => ?_)
                            obtain ⟨er_174, eσ_175⟩ := p_176
                            have er_174 := er_174.symm; subst er_174
                            have eσ_175 := eσ_175.symm; subst eσ_175
                            refine lv_iload hx hb dL_isLaid_309 (lv_at hl 0 rfl) ?_
                            refine lv_icmp_ne (tgt := 318) hx hb dL_isLaid_311 (by decide) (fun c_177 => ?_) (fun c_177 => ?_)
                            · skip
                              exact absurd c_177 (by decide)
                            · skip
                              refine lv_iconst (v := 1) hx hb dL_isLaid_314 (by decide) ?_
                              refine lv_goto (tgt := 319) hx hb dL_isLaid_315 (by decide) ?_
                              exact rRetZw hx hb hr hw (by decide) (by exact ⟨rfl, po_same hA hGa⟩) hlocks dL_isLaid_319 (by omega) (by omega)
                          · skip
                            exact absurd c_173 (by decide)
                      · skip
                        have c_171 : ¬ 101 ≤ v9 := fun h9 => c_171 ((nI_leI (by omega) (by omega)).mpr h9)
                        refine lv_iconst (v := 1) hx hb dL_isLaid_207 (by decide) ?_
                        refine lv_goto (tgt := 212) hx hb dL_isLaid_208 (by decide) ?_
                        refine lv_istore (lv' := [(12, .int 1), (11, .int 0), (10, .int (nI v9)), (9, .int (nI y9)), (8, .int (nI x9)), (0, .ref (gad G 0)), (1, .ref (gad G 31)), (2, .ref (gad G 32)), (3, .ref (gad G 33)), (4, .int 1), (5, .int (nI o)), (6, .int (nI u)), (7, .int (nI v))]) hx hb dL_isLaid_212 hl (by decide) rfl (fun ls hl => ?_)
                        refine lv_iload hx hb dL_isLaid_214 (lv_at hl 1 rfl) ?_
                        refine lv_if_ne (tgt := 224) hx hb dL_isLaid_216 (by decide) (fun c_178 => ?_) (fun c_178 => ?_)
                        · skip
                          exact absurd c_178 (by decide)
                        · skip
                          refine lv_bipush (v := (-30)) hx hb dL_isLaid_219 (by decide) ?_
                          refine lv_goto (tgt := 268) hx hb dL_isLaid_221 (by decide) ?_
                          refine lv_istore (lv' := [(13, .int (-30)), (12, .int 1), (11, .int 0), (10, .int (nI v9)), (9, .int (nI y9)), (8, .int (nI x9)), (0, .ref (gad G 0)), (1, .ref (gad G 31)), (2, .ref (gad G 32)), (3, .ref (gad G 33)), (4, .int 1), (5, .int (nI o)), (6, .int (nI u)), (7, .int (nI v))]) hx hb dL_isLaid_268 hl (by decide) rfl (fun ls hl => ?_)
                          refine lv_iload hx hb dL_isLaid_270 (lv_at hl 2 rfl) ?_
                          refine lv_if_eq (tgt := 298) hx hb dL_isLaid_272 (by decide) (fun c_179 => ?_) (fun c_179 => ?_)
                          · skip
                            refine lv_aload_n hx hb dL_isLaid_298 rfl (lv_at hl 6 rfl) ?_
                            refine lv_iconst (v := 1) hx hb dL_isLaid_299 (by decide) ?_
                            refine lv_iload hx hb dL_isLaid_300 (lv_at hl 5 rfl) ?_
                            refine lv_iload hx hb dL_isLaid_302 (lv_at hl 4 rfl) ?_
                            refine lv_iload hx hb dL_isLaid_304 (lv_at hl 3 rfl) ?_
                            refine rCallLS (As := [.ref (gad G 0), .int 1, .int (nI x9), .int (nI y9), .int (nI v9)]) (rest := []) ⟨hx, hb, hml, hown, hts⟩ fx hw (d1_t1 l hlt G hG hF σ (pcv hA) ((nI x9)) ((nI y9)) ((nI v9)) (by first | (rw [inB_no (a := x9) (n := g) (by omega) (by omega)]; rfl) | (rw [inB_no (a := y9) (n := g) (by omega) (by omega), Bool.and_false]))) (vx_cwSW 5 hts gL_isLaid_L_does rfl rfl rfl (by decide +kernel) ⟨Nat.le_of_ble_eq_true rfl, Nat.le_of_ble_eq_true rfl⟩) rfl hl.1 rfl (Nat.le_of_ble_eq_true rfl) dL_isLaid_306 ⟨Nat.le_trans (show _ ≤ 3 by omega) (Nat.le_of_ble_eq_true rfl), Nat.le_trans (show _ ≤ 20 by omega) (Nat.le_of_ble_eq_true rfl)⟩ (fun r_180 σ_181 H locs p_182 hw => ?_)
                            obtain ⟨er_180, eσ_181⟩ := p_182
                            have er_180 := er_180.symm; subst er_180
                            have eσ_181 := eσ_181.symm; subst eσ_181
                            refine lv_iload hx hb dL_isLaid_309 (lv_at hl 0 rfl) ?_
                            refine lv_icmp_ne (tgt := 318) hx hb dL_isLaid_311 (by decide) (fun c_183 => ?_) (fun c_183 => ?_)
                            · skip
                              exact absurd c_183 (by decide)
                            · skip
                              refine lv_iconst (v := 1) hx hb dL_isLaid_314 (by decide) ?_
                              refine lv_goto (tgt := 319) hx hb dL_isLaid_315 (by decide) ?_
                              exact rRetZw hx hb hr hw (by decide) (by exact ⟨rfl, po_same hA hGa⟩) hlocks dL_isLaid_319 (by omega) (by omega)
                          · skip
                            exact absurd c_179 (by decide)
            · skip
              have c_128 : ¬ g ≤ y9 := fun h9 => c_128 ((nI_leI (by omega) (by omega)).mpr h9)
              omega
        · skip
          have c_124 : (v % 3) = 0 := n0_nef (by omega) c_124
          refine lv_iconst (v := 0) hx hb dL_isLaid_134 (by decide) ?_
          refine lv_goto (tgt := 146) hx hb dL_isLaid_135 (by decide) ?_
          refine lv_istore (lv' := [(9, .int 0), (8, .int (nI x9)), (0, .ref (gad G 0)), (1, .ref (gad G 31)), (2, .ref (gad G 32)), (3, .ref (gad G 33)), (4, .int 1), (5, .int (nI o)), (6, .int (nI u)), (7, .int (nI v))]) hx hb dL_isLaid_146 hl (by decide) rfl (fun ls hl => ?_)
          have q_184 : 0 = (nI y9) := by first | (rw [hy9, if_pos (by omega)]; rfl) | rw [hy9, if_neg (by omega)]
          have hl : lv_has ls 14 [(9, .int (nI y9)), (8, .int (nI x9)), (0, .ref (gad G 0)), (1, .ref (gad G 31)), (2, .ref (gad G 32)), (3, .ref (gad G 33)), (4, .int 1), (5, .int (nI o)), (6, .int (nI u)), (7, .int (nI v))] := (lv_c (lv_atq hl 0 rfl q_184) (lv_c (lv_at hl 1 rfl) (lv_c (lv_at hl 2 rfl) (lv_c (lv_at hl 3 rfl) (lv_c (lv_at hl 4 rfl) (lv_c (lv_at hl 5 rfl) (lv_c (lv_at hl 6 rfl) (lv_c (lv_at hl 7 rfl) (lv_c (lv_at hl 8 rfl) (lv_c (lv_at hl 9 rfl) (lv_c0 hl)))))))))))
          refine lv_iload hx hb dL_isLaid_148 (lv_at hl 9 rfl) ?_
          refine lv_bipush (v := 103) hx hb dL_isLaid_150 (by decide) ?_
          refine lv_rep0 (x := 103) (y := nI 103) rfl ?_
          refine lv_irem hx hb dL_isLaid_152 (nI_ne0 (by omega) (by omega)) ?_
          refine lv_rep0 (y := nI (v % 103)) (pk_rem (by omega) (by omega) (by omega)) ?_
          refine lv_istore (lv' := [(10, .int (nI (v % 103))), (9, .int (nI y9)), (8, .int (nI x9)), (0, .ref (gad G 0)), (1, .ref (gad G 31)), (2, .ref (gad G 32)), (3, .ref (gad G 33)), (4, .int 1), (5, .int (nI o)), (6, .int (nI u)), (7, .int (nI v))]) hx hb dL_isLaid_153 hl (by decide) rfl (fun ls hl => ?_)
          have q_185 : (nI (v % 103)) = (nI v9) := by rw [hv9]
          have hl : lv_has ls 14 [(10, .int (nI v9)), (9, .int (nI y9)), (8, .int (nI x9)), (0, .ref (gad G 0)), (1, .ref (gad G 31)), (2, .ref (gad G 32)), (3, .ref (gad G 33)), (4, .int 1), (5, .int (nI o)), (6, .int (nI u)), (7, .int (nI v))] := (lv_c (lv_atq hl 0 rfl q_185) (lv_c (lv_at hl 1 rfl) (lv_c (lv_at hl 2 rfl) (lv_c (lv_at hl 3 rfl) (lv_c (lv_at hl 4 rfl) (lv_c (lv_at hl 5 rfl) (lv_c (lv_at hl 6 rfl) (lv_c (lv_at hl 7 rfl) (lv_c (lv_at hl 8 rfl) (lv_c (lv_at hl 9 rfl) (lv_c (lv_at hl 10 rfl) (lv_c0 hl))))))))))))
          refine lv_iload hx hb dL_isLaid_155 (lv_at hl 2 rfl) ?_
          refine lv_aload_n hx hb dL_isLaid_157 rfl (lv_at hl 6 rfl) ?_
          refine lv_iconst (v := 0) hx hb dL_isLaid_158 (by decide) ?_
          refine lv_rep0 (x := 0) (y := nI 0) rfl ?_
          refine rAld hx hb fx hw 33 (hF.1 33 (by decide)) hF.2.1 (fun _ => rfl) 0 rfl (by omega) (by decide) dL_isLaid_159 ?_
          refine lv_rep0 (x := (σ 33 0)) (y := (nI g)) (pg hA).1 ?_
          refine lv_icmp_ge (tgt := 175) hx hb dL_isLaid_160 (by decide) (fun c_186 => ?_) (fun c_186 => ?_)
          · skip
            have c_186 : g ≤ x9 := (nI_leI (by omega) (by omega)).mp c_186
            omega
          · skip
            have c_186 : ¬ g ≤ x9 := fun h9 => c_186 ((nI_leI (by omega) (by omega)).mpr h9)
            refine lv_iload hx hb dL_isLaid_163 (lv_at hl 1 rfl) ?_
            refine lv_aload_n hx hb dL_isLaid_165 rfl (lv_at hl 6 rfl) ?_
            refine lv_iconst (v := 0) hx hb dL_isLaid_166 (by decide) ?_
            refine lv_rep0 (x := 0) (y := nI 0) rfl ?_
            refine rAld hx hb fx hw 33 (hF.1 33 (by decide)) hF.2.1 (fun _ => rfl) 0 rfl (by omega) (by decide) dL_isLaid_167 ?_
            refine lv_rep0 (x := (σ 33 0)) (y := (nI g)) (pg hA).1 ?_
            refine lv_icmp_ge (tgt := 175) hx hb dL_isLaid_168 (by decide) (fun c_187 => ?_) (fun c_187 => ?_)
            · skip
              have c_187 : g ≤ y9 := (nI_leI (by omega) (by omega)).mp c_187
              refine lv_iconst (v := 0) hx hb dL_isLaid_175 (by decide) ?_
              refine lv_istore (lv' := [(11, .int 0), (10, .int (nI v9)), (9, .int (nI y9)), (8, .int (nI x9)), (0, .ref (gad G 0)), (1, .ref (gad G 31)), (2, .ref (gad G 32)), (3, .ref (gad G 33)), (4, .int 1), (5, .int (nI o)), (6, .int (nI u)), (7, .int (nI v))]) hx hb dL_isLaid_176 hl (by decide) rfl (fun ls hl => ?_)
              refine lv_iload hx hb dL_isLaid_178 (lv_at hl 2 rfl) ?_
              refine lv_iload hx hb dL_isLaid_180 (lv_at hl 3 rfl) ?_
              refine lv_icmp_gt (tgt := 195) hx hb dL_isLaid_182 (by decide) (fun c_188 => ?_) (fun c_188 => ?_)
              · skip
                have c_188 : x9 < y9 := (nI_ltI (by omega) (by omega)).mp c_188
                refine lv_iload hx hb dL_isLaid_195 (lv_at hl 1 rfl) ?_
                refine lv_if_le (tgt := 211) hx hb dL_isLaid_197 (by decide) (fun c_189 => ?_) (fun c_189 => ?_)
                · skip
                  have c_189 : v9 = 0 := n0_let (by omega) c_189
                  refine lv_iconst (v := 0) hx hb dL_isLaid_211 (by decide) ?_
                  refine lv_istore (lv' := [(12, .int 0), (11, .int 0), (10, .int (nI v9)), (9, .int (nI y9)), (8, .int (nI x9)), (0, .ref (gad G 0)), (1, .ref (gad G 31)), (2, .ref (gad G 32)), (3, .ref (gad G 33)), (4, .int 1), (5, .int (nI o)), (6, .int (nI u)), (7, .int (nI v))]) hx hb dL_isLaid_212 hl (by decide) rfl (fun ls hl => ?_)
                  refine lv_iload hx hb dL_isLaid_214 (lv_at hl 1 rfl) ?_
                  refine lv_if_ne (tgt := 224) hx hb dL_isLaid_216 (by decide) (fun c_190 => ?_) (fun c_190 => ?_)
                  · skip
                    exact absurd c_190 (by decide)
                  · skip
                    refine lv_bipush (v := (-30)) hx hb dL_isLaid_219 (by decide) ?_
                    refine lv_goto (tgt := 268) hx hb dL_isLaid_221 (by decide) ?_
                    refine lv_istore (lv' := [(13, .int (-30)), (12, .int 0), (11, .int 0), (10, .int (nI v9)), (9, .int (nI y9)), (8, .int (nI x9)), (0, .ref (gad G 0)), (1, .ref (gad G 31)), (2, .ref (gad G 32)), (3, .ref (gad G 33)), (4, .int 1), (5, .int (nI o)), (6, .int (nI u)), (7, .int (nI v))]) hx hb dL_isLaid_268 hl (by decide) rfl (fun ls hl => ?_)
                    refine lv_iload hx hb dL_isLaid_270 (lv_at hl 2 rfl) ?_
                    refine lv_if_eq (tgt := 298) hx hb dL_isLaid_272 (by decide) (fun c_191 => ?_) (fun c_191 => ?_)
                    · skip
                      refine lv_aload_n hx hb dL_isLaid_298 rfl (lv_at hl 6 rfl) ?_
                      refine lv_iconst (v := 1) hx hb dL_isLaid_299 (by decide) ?_
                      refine lv_iload hx hb dL_isLaid_300 (lv_at hl 5 rfl) ?_
                      refine lv_iload hx hb dL_isLaid_302 (lv_at hl 4 rfl) ?_
                      refine lv_iload hx hb dL_isLaid_304 (lv_at hl 3 rfl) ?_
                      refine rCallLS (As := [.ref (gad G 0), .int 1, .int (nI x9), .int (nI y9), .int (nI v9)]) (rest := []) ⟨hx, hb, hml, hown, hts⟩ fx hw (d1_t1 l hlt G hG hF σ (pcv hA) ((nI x9)) ((nI y9)) ((nI v9)) (by first | (rw [inB_no (a := x9) (n := g) (by omega) (by omega)]; rfl) | (rw [inB_no (a := y9) (n := g) (by omega) (by omega), Bool.and_false]))) (vx_cwSW 5 hts gL_isLaid_L_does rfl rfl rfl (by decide +kernel) ⟨Nat.le_of_ble_eq_true rfl, Nat.le_of_ble_eq_true rfl⟩) rfl hl.1 rfl (Nat.le_of_ble_eq_true rfl) dL_isLaid_306 ⟨Nat.le_trans (show _ ≤ 3 by omega) (Nat.le_of_ble_eq_true rfl), Nat.le_trans (show _ ≤ 20 by omega) (Nat.le_of_ble_eq_true rfl)⟩ (fun r_192 σ_193 H locs p_194 hw => ?_)
                      obtain ⟨er_192, eσ_193⟩ := p_194
                      have er_192 := er_192.symm; subst er_192
                      have eσ_193 := eσ_193.symm; subst eσ_193
                      refine lv_iload hx hb dL_isLaid_309 (lv_at hl 0 rfl) ?_
                      refine lv_icmp_ne (tgt := 318) hx hb dL_isLaid_311 (by decide) (fun c_195 => ?_) (fun c_195 => ?_)
                      · skip
                        exact absurd c_195 (by decide)
                      · skip
                        refine lv_iconst (v := 1) hx hb dL_isLaid_314 (by decide) ?_
                        refine lv_goto (tgt := 319) hx hb dL_isLaid_315 (by decide) ?_
                        exact rRetZw hx hb hr hw (by decide) (by exact ⟨rfl, po_same hA hGa⟩) hlocks dL_isLaid_319 (by omega) (by omega)
                    · skip
                      exact absurd c_191 (by decide)
                · skip
                  have c_189 : 0 < v9 := n0_lef (by omega) c_189
                  refine lv_iload hx hb dL_isLaid_200 (lv_at hl 1 rfl) ?_
                  refine lv_bipush (v := 101) hx hb dL_isLaid_202 (by decide) ?_
                  refine lv_rep0 (x := 101) (y := nI 101) rfl ?_
                  refine lv_icmp_ge (tgt := 211) hx hb dL_isLaid_204 (by decide) (fun c_196 => ?_) (fun c_196 => ?_)
                  · skip
                    have c_196 : 101 ≤ v9 := (nI_leI (by omega) (by omega)).mp c_196
                    refine lv_iconst (v := 0) hx hb dL_isLaid_211 (by decide) ?_
                    refine lv_istore (lv' := [(12, .int 0), (11, .int 0), (10, .int (nI v9)), (9, .int (nI y9)), (8, .int (nI x9)), (0, .ref (gad G 0)), (1, .ref (gad G 31)), (2, .ref (gad G 32)), (3, .ref (gad G 33)), (4, .int 1), (5, .int (nI o)), (6, .int (nI u)), (7, .int (nI v))]) hx hb dL_isLaid_212 hl (by decide) rfl (fun ls hl => ?_)
                    refine lv_iload hx hb dL_isLaid_214 (lv_at hl 1 rfl) ?_
                    refine lv_if_ne (tgt := 224) hx hb dL_isLaid_216 (by decide) (fun c_197 => ?_) (fun c_197 => ?_)
                    · skip
                      exact absurd c_197 (by decide)
                    · skip
                      refine lv_bipush (v := (-30)) hx hb dL_isLaid_219 (by decide) ?_
                      refine lv_goto (tgt := 268) hx hb dL_isLaid_221 (by decide) ?_
                      refine lv_istore (lv' := [(13, .int (-30)), (12, .int 0), (11, .int 0), (10, .int (nI v9)), (9, .int (nI y9)), (8, .int (nI x9)), (0, .ref (gad G 0)), (1, .ref (gad G 31)), (2, .ref (gad G 32)), (3, .ref (gad G 33)), (4, .int 1), (5, .int (nI o)), (6, .int (nI u)), (7, .int (nI v))]) hx hb dL_isLaid_268 hl (by decide) rfl (fun ls hl => ?_)
                      refine lv_iload hx hb dL_isLaid_270 (lv_at hl 2 rfl) ?_
                      refine lv_if_eq (tgt := 298) hx hb dL_isLaid_272 (by decide) (fun c_198 => ?_) (fun c_198 => ?_)
                      · skip
                        refine lv_aload_n hx hb dL_isLaid_298 rfl (lv_at hl 6 rfl) ?_
                        refine lv_iconst (v := 1) hx hb dL_isLaid_299 (by decide) ?_
                        refine lv_iload hx hb dL_isLaid_300 (lv_at hl 5 rfl) ?_
                        refine lv_iload hx hb dL_isLaid_302 (lv_at hl 4 rfl) ?_
                        refine lv_iload hx hb dL_isLaid_304 (lv_at hl 3 rfl) ?_
                        refine rCallLS (As := [.ref (gad G 0), .int 1, .int (nI x9), .int (nI y9), .int (nI v9)]) (rest := []) ⟨hx, hb, hml, hown, hts⟩ fx hw (d1_t1 l hlt G hG hF σ (pcv hA) ((nI x9)) ((nI y9)) ((nI v9)) (by first | (rw [inB_no (a := x9) (n := g) (by omega) (by omega)]; rfl) | (rw [inB_no (a := y9) (n := g) (by omega) (by omega), Bool.and_false]))) (vx_cwSW 5 hts gL_isLaid_L_does rfl rfl rfl (by decide +kernel) ⟨Nat.le_of_ble_eq_true rfl, Nat.le_of_ble_eq_true rfl⟩) rfl hl.1 rfl (Nat.le_of_ble_eq_true rfl) dL_isLaid_306 ⟨Nat.le_trans (show _ ≤ 3 by omega) (Nat.le_of_ble_eq_true rfl), Nat.le_trans (show _ ≤ 20 by omega) (Nat.le_of_ble_eq_true rfl)⟩ (fun r_199 σ_200 H locs p_201 hw => ?_)
                        obtain ⟨er_199, eσ_200⟩ := p_201
                        have er_199 := er_199.symm; subst er_199
                        have eσ_200 := eσ_200.symm; subst eσ_200
                        refine lv_iload hx hb dL_isLaid_309 (lv_at hl 0 rfl) ?_
                        refine lv_icmp_ne (tgt := 318) hx hb dL_isLaid_311 (by decide) (fun c_202 => ?_) (fun c_202 => ?_)
                        · skip
                          exact absurd c_202 (by decide)
                        · skip
                          refine lv_iconst (v := 1) hx hb dL_isLaid_314 (by decide) ?_
                          refine lv_goto (tgt := 319) hx hb dL_isLaid_315 (by decide) ?_
                          exact rRetZw hx hb hr hw (by decide) (by exact ⟨rfl, po_same hA hGa⟩) hlocks dL_isLaid_319 (by omega) (by omega)
                      · skip
                        exact absurd c_198 (by decide)
                  · skip
                    have c_196 : ¬ 101 ≤ v9 := fun h9 => c_196 ((nI_leI (by omega) (by omega)).mpr h9)
                    refine lv_iconst (v := 1) hx hb dL_isLaid_207 (by decide) ?_
                    refine lv_goto (tgt := 212) hx hb dL_isLaid_208 (by decide) ?_
                    refine lv_istore (lv' := [(12, .int 1), (11, .int 0), (10, .int (nI v9)), (9, .int (nI y9)), (8, .int (nI x9)), (0, .ref (gad G 0)), (1, .ref (gad G 31)), (2, .ref (gad G 32)), (3, .ref (gad G 33)), (4, .int 1), (5, .int (nI o)), (6, .int (nI u)), (7, .int (nI v))]) hx hb dL_isLaid_212 hl (by decide) rfl (fun ls hl => ?_)
                    refine lv_iload hx hb dL_isLaid_214 (lv_at hl 1 rfl) ?_
                    refine lv_if_ne (tgt := 224) hx hb dL_isLaid_216 (by decide) (fun c_203 => ?_) (fun c_203 => ?_)
                    · skip
                      exact absurd c_203 (by decide)
                    · skip
                      refine lv_bipush (v := (-30)) hx hb dL_isLaid_219 (by decide) ?_
                      refine lv_goto (tgt := 268) hx hb dL_isLaid_221 (by decide) ?_
                      refine lv_istore (lv' := [(13, .int (-30)), (12, .int 1), (11, .int 0), (10, .int (nI v9)), (9, .int (nI y9)), (8, .int (nI x9)), (0, .ref (gad G 0)), (1, .ref (gad G 31)), (2, .ref (gad G 32)), (3, .ref (gad G 33)), (4, .int 1), (5, .int (nI o)), (6, .int (nI u)), (7, .int (nI v))]) hx hb dL_isLaid_268 hl (by decide) rfl (fun ls hl => ?_)
                      refine lv_iload hx hb dL_isLaid_270 (lv_at hl 2 rfl) ?_
                      refine lv_if_eq (tgt := 298) hx hb dL_isLaid_272 (by decide) (fun c_204 => ?_) (fun c_204 => ?_)
                      · skip
                        refine lv_aload_n hx hb dL_isLaid_298 rfl (lv_at hl 6 rfl) ?_
                        refine lv_iconst (v := 1) hx hb dL_isLaid_299 (by decide) ?_
                        refine lv_iload hx hb dL_isLaid_300 (lv_at hl 5 rfl) ?_
                        refine lv_iload hx hb dL_isLaid_302 (lv_at hl 4 rfl) ?_
                        refine lv_iload hx hb dL_isLaid_304 (lv_at hl 3 rfl) ?_
                        refine rCallLS (As := [.ref (gad G 0), .int 1, .int (nI x9), .int (nI y9), .int (nI v9)]) (rest := []) ⟨hx, hb, hml, hown, hts⟩ fx hw (d1_t1 l hlt G hG hF σ (pcv hA) ((nI x9)) ((nI y9)) ((nI v9)) (by first | (rw [inB_no (a := x9) (n := g) (by omega) (by omega)]; rfl) | (rw [inB_no (a := y9) (n := g) (by omega) (by omega), Bool.and_false]))) (vx_cwSW 5 hts gL_isLaid_L_does rfl rfl rfl (by decide +kernel) ⟨Nat.le_of_ble_eq_true rfl, Nat.le_of_ble_eq_true rfl⟩) rfl hl.1 rfl (Nat.le_of_ble_eq_true rfl) dL_isLaid_306 ⟨Nat.le_trans (show _ ≤ 3 by omega) (Nat.le_of_ble_eq_true rfl), Nat.le_trans (show _ ≤ 20 by omega) (Nat.le_of_ble_eq_true rfl)⟩ (fun r_205 σ_206 H locs p_207 hw => ?_)
                        obtain ⟨er_205, eσ_206⟩ := p_207
                        have er_205 := er_205.symm; subst er_205
                        have eσ_206 := eσ_206.symm; subst eσ_206
                        refine lv_iload hx hb dL_isLaid_309 (lv_at hl 0 rfl) ?_
                        refine lv_icmp_ne (tgt := 318) hx hb dL_isLaid_311 (by decide) (fun c_208 => ?_) (fun c_208 => ?_)
                        · skip
                          exact absurd c_208 (by decide)
                        · skip
                          refine lv_iconst (v := 1) hx hb dL_isLaid_314 (by decide) ?_
                          refine lv_goto (tgt := 319) hx hb dL_isLaid_315 (by decide) ?_
                          exact rRetZw hx hb hr hw (by decide) (by exact ⟨rfl, po_same hA hGa⟩) hlocks dL_isLaid_319 (by omega) (by omega)
                      · skip
                        exact absurd c_204 (by decide)
              · skip
                have c_188 : ¬ x9 < y9 := fun h9 => c_188 ((nI_ltI (by omega) (by omega)).mpr h9)
                refine lv_iload hx hb dL_isLaid_185 (lv_at hl 2 rfl) ?_
                refine lv_if_ne (tgt := 211) hx hb dL_isLaid_187 (by decide) (fun c_209 => ?_) (fun c_209 => ?_)
                · skip
                  have c_209 : ¬ y9 = 0 := n0_net (by omega) c_209
                  refine lv_iconst (v := 0) hx hb dL_isLaid_211 (by decide) ?_
                  refine lv_istore (lv' := [(12, .int 0), (11, .int 0), (10, .int (nI v9)), (9, .int (nI y9)), (8, .int (nI x9)), (0, .ref (gad G 0)), (1, .ref (gad G 31)), (2, .ref (gad G 32)), (3, .ref (gad G 33)), (4, .int 1), (5, .int (nI o)), (6, .int (nI u)), (7, .int (nI v))]) hx hb dL_isLaid_212 hl (by decide) rfl (fun ls hl => ?_)
                  refine lv_iload hx hb dL_isLaid_214 (lv_at hl 1 rfl) ?_
                  refine lv_if_ne (tgt := 224) hx hb dL_isLaid_216 (by decide) (fun c_210 => ?_) (fun c_210 => ?_)
                  · skip
                    exact absurd c_210 (by decide)
                  · skip
                    refine lv_bipush (v := (-30)) hx hb dL_isLaid_219 (by decide) ?_
                    refine lv_goto (tgt := 268) hx hb dL_isLaid_221 (by decide) ?_
                    refine lv_istore (lv' := [(13, .int (-30)), (12, .int 0), (11, .int 0), (10, .int (nI v9)), (9, .int (nI y9)), (8, .int (nI x9)), (0, .ref (gad G 0)), (1, .ref (gad G 31)), (2, .ref (gad G 32)), (3, .ref (gad G 33)), (4, .int 1), (5, .int (nI o)), (6, .int (nI u)), (7, .int (nI v))]) hx hb dL_isLaid_268 hl (by decide) rfl (fun ls hl => ?_)
                    refine lv_iload hx hb dL_isLaid_270 (lv_at hl 2 rfl) ?_
                    refine lv_if_eq (tgt := 298) hx hb dL_isLaid_272 (by decide) (fun c_211 => ?_) (fun c_211 => ?_)
                    · skip
                      refine lv_aload_n hx hb dL_isLaid_298 rfl (lv_at hl 6 rfl) ?_
                      refine lv_iconst (v := 1) hx hb dL_isLaid_299 (by decide) ?_
                      refine lv_iload hx hb dL_isLaid_300 (lv_at hl 5 rfl) ?_
                      refine lv_iload hx hb dL_isLaid_302 (lv_at hl 4 rfl) ?_
                      refine lv_iload hx hb dL_isLaid_304 (lv_at hl 3 rfl) ?_
                      refine rCallLS (As := [.ref (gad G 0), .int 1, .int (nI x9), .int (nI y9), .int (nI v9)]) (rest := []) ⟨hx, hb, hml, hown, hts⟩ fx hw (d1_t1 l hlt G hG hF σ (pcv hA) ((nI x9)) ((nI y9)) ((nI v9)) (by first | (rw [inB_no (a := x9) (n := g) (by omega) (by omega)]; rfl) | (rw [inB_no (a := y9) (n := g) (by omega) (by omega), Bool.and_false]))) (vx_cwSW 5 hts gL_isLaid_L_does rfl rfl rfl (by decide +kernel) ⟨Nat.le_of_ble_eq_true rfl, Nat.le_of_ble_eq_true rfl⟩) rfl hl.1 rfl (Nat.le_of_ble_eq_true rfl) dL_isLaid_306 ⟨Nat.le_trans (show _ ≤ 3 by omega) (Nat.le_of_ble_eq_true rfl), Nat.le_trans (show _ ≤ 20 by omega) (Nat.le_of_ble_eq_true rfl)⟩ (fun r_212 σ_213 H locs p_214 hw => ?_)
                      obtain ⟨er_212, eσ_213⟩ := p_214
                      have er_212 := er_212.symm; subst er_212
                      have eσ_213 := eσ_213.symm; subst eσ_213
                      refine lv_iload hx hb dL_isLaid_309 (lv_at hl 0 rfl) ?_
                      refine lv_icmp_ne (tgt := 318) hx hb dL_isLaid_311 (by decide) (fun c_215 => ?_) (fun c_215 => ?_)
                      · skip
                        exact absurd c_215 (by decide)
                      · skip
                        refine lv_iconst (v := 1) hx hb dL_isLaid_314 (by decide) ?_
                        refine lv_goto (tgt := 319) hx hb dL_isLaid_315 (by decide) ?_
                        exact rRetZw hx hb hr hw (by decide) (by exact ⟨rfl, po_same hA hGa⟩) hlocks dL_isLaid_319 (by omega) (by omega)
                    · skip
                      exact absurd c_211 (by decide)
                · skip
                  have c_209 : y9 = 0 := n0_nef (by omega) c_209
                  refine lv_iload hx hb dL_isLaid_190 (lv_at hl 3 rfl) ?_
                  refine lv_if_le (tgt := 211) hx hb dL_isLaid_192 (by decide) (fun c_216 => ?_) (fun c_216 => ?_)
                  · skip
                    have c_216 : x9 = 0 := n0_let (by omega) c_216
                    refine lv_iconst (v := 0) hx hb dL_isLaid_211 (by decide) ?_
                    refine lv_istore (lv' := [(12, .int 0), (11, .int 0), (10, .int (nI v9)), (9, .int (nI y9)), (8, .int (nI x9)), (0, .ref (gad G 0)), (1, .ref (gad G 31)), (2, .ref (gad G 32)), (3, .ref (gad G 33)), (4, .int 1), (5, .int (nI o)), (6, .int (nI u)), (7, .int (nI v))]) hx hb dL_isLaid_212 hl (by decide) rfl (fun ls hl => ?_)
                    refine lv_iload hx hb dL_isLaid_214 (lv_at hl 1 rfl) ?_
                    refine lv_if_ne (tgt := 224) hx hb dL_isLaid_216 (by decide) (fun c_217 => ?_) (fun c_217 => ?_)
                    · skip
                      exact absurd c_217 (by decide)
                    · skip
                      refine lv_bipush (v := (-30)) hx hb dL_isLaid_219 (by decide) ?_
                      refine lv_goto (tgt := 268) hx hb dL_isLaid_221 (by decide) ?_
                      refine lv_istore (lv' := [(13, .int (-30)), (12, .int 0), (11, .int 0), (10, .int (nI v9)), (9, .int (nI y9)), (8, .int (nI x9)), (0, .ref (gad G 0)), (1, .ref (gad G 31)), (2, .ref (gad G 32)), (3, .ref (gad G 33)), (4, .int 1), (5, .int (nI o)), (6, .int (nI u)), (7, .int (nI v))]) hx hb dL_isLaid_268 hl (by decide) rfl (fun ls hl => ?_)
                      refine lv_iload hx hb dL_isLaid_270 (lv_at hl 2 rfl) ?_
                      refine lv_if_eq (tgt := 298) hx hb dL_isLaid_272 (by decide) (fun c_218 => ?_) (fun c_218 => ?_)
                      · skip
                        refine lv_aload_n hx hb dL_isLaid_298 rfl (lv_at hl 6 rfl) ?_
                        refine lv_iconst (v := 1) hx hb dL_isLaid_299 (by decide) ?_
                        refine lv_iload hx hb dL_isLaid_300 (lv_at hl 5 rfl) ?_
                        refine lv_iload hx hb dL_isLaid_302 (lv_at hl 4 rfl) ?_
                        refine lv_iload hx hb dL_isLaid_304 (lv_at hl 3 rfl) ?_
                        refine rCallLS (As := [.ref (gad G 0), .int 1, .int (nI x9), .int (nI y9), .int (nI v9)]) (rest := []) ⟨hx, hb, hml, hown, hts⟩ fx hw (d1_t1 l hlt G hG hF σ (pcv hA) ((nI x9)) ((nI y9)) ((nI v9)) (by first | (rw [inB_no (a := x9) (n := g) (by omega) (by omega)]; rfl) | (rw [inB_no (a := y9) (n := g) (by omega) (by omega), Bool.and_false]))) (vx_cwSW 5 hts gL_isLaid_L_does rfl rfl rfl (by decide +kernel) ⟨Nat.le_of_ble_eq_true rfl, Nat.le_of_ble_eq_true rfl⟩) rfl hl.1 rfl (Nat.le_of_ble_eq_true rfl) dL_isLaid_306 ⟨Nat.le_trans (show _ ≤ 3 by omega) (Nat.le_of_ble_eq_true rfl), Nat.le_trans (show _ ≤ 20 by omega) (Nat.le_of_ble_eq_true rfl)⟩ (fun r_219 σ_220 H locs p_221 hw => ?_)
                        obtain ⟨er_219, eσ_220⟩ := p_221
                        have er_219 := er_219.symm; subst er_219
                        have eσ_220 := eσ_220.symm; subst eσ_220
                        refine lv_iload hx hb dL_isLaid_309 (lv_at hl 0 rfl) ?_
                        refine lv_icmp_ne (tgt := 318) hx hb dL_isLaid_311 (by decide) (fun c_222 => ?_) (fun c_222 => ?_)
                        · skip
                          exact absurd c_222 (by decide)
                        · skip
                          refine lv_iconst (v := 1) hx hb dL_isLaid_314 (by decide) ?_
                          refine lv_goto (tgt := 319) hx hb dL_isLaid_315 (by decide) ?_
                          exact rRetZw hx hb hr hw (by decide) (by exact ⟨rfl, po_same hA hGa⟩) hlocks dL_isLaid_319 (by omega) (by omega)
                      · skip
                        exact absurd c_218 (by decide)
                  · skip
                    have c_216 : 0 < x9 := n0_lef (by omega) c_216
                    refine lv_iload hx hb dL_isLaid_195 (lv_at hl 1 rfl) ?_
                    refine lv_if_le (tgt := 211) hx hb dL_isLaid_197 (by decide) (fun c_223 => ?_) (fun c_223 => ?_)
                    · skip
                      have c_223 : v9 = 0 := n0_let (by omega) c_223
                      refine lv_iconst (v := 0) hx hb dL_isLaid_211 (by decide) ?_
                      refine lv_istore (lv' := [(12, .int 0), (11, .int 0), (10, .int (nI v9)), (9, .int (nI y9)), (8, .int (nI x9)), (0, .ref (gad G 0)), (1, .ref (gad G 31)), (2, .ref (gad G 32)), (3, .ref (gad G 33)), (4, .int 1), (5, .int (nI o)), (6, .int (nI u)), (7, .int (nI v))]) hx hb dL_isLaid_212 hl (by decide) rfl (fun ls hl => ?_)
                      refine lv_iload hx hb dL_isLaid_214 (lv_at hl 1 rfl) ?_
                      refine lv_if_ne (tgt := 224) hx hb dL_isLaid_216 (by decide) (fun c_224 => ?_) (fun c_224 => ?_)
                      · skip
                        exact absurd c_224 (by decide)
                      · skip
                        refine lv_bipush (v := (-30)) hx hb dL_isLaid_219 (by decide) ?_
                        refine lv_goto (tgt := 268) hx hb dL_isLaid_221 (by decide) ?_
                        refine lv_istore (lv' := [(13, .int (-30)), (12, .int 0), (11, .int 0), (10, .int (nI v9)), (9, .int (nI y9)), (8, .int (nI x9)), (0, .ref (gad G 0)), (1, .ref (gad G 31)), (2, .ref (gad G 32)), (3, .ref (gad G 33)), (4, .int 1), (5, .int (nI o)), (6, .int (nI u)), (7, .int (nI v))]) hx hb dL_isLaid_268 hl (by decide) rfl (fun ls hl => ?_)
                        refine lv_iload hx hb dL_isLaid_270 (lv_at hl 2 rfl) ?_
                        refine lv_if_eq (tgt := 298) hx hb dL_isLaid_272 (by decide) (fun c_225 => ?_) (fun c_225 => ?_)
                        · skip
                          refine lv_aload_n hx hb dL_isLaid_298 rfl (lv_at hl 6 rfl) ?_
                          refine lv_iconst (v := 1) hx hb dL_isLaid_299 (by decide) ?_
                          refine lv_iload hx hb dL_isLaid_300 (lv_at hl 5 rfl) ?_
                          refine lv_iload hx hb dL_isLaid_302 (lv_at hl 4 rfl) ?_
                          refine lv_iload hx hb dL_isLaid_304 (lv_at hl 3 rfl) ?_
                          refine rCallLS (As := [.ref (gad G 0), .int 1, .int (nI x9), .int (nI y9), .int (nI v9)]) (rest := []) ⟨hx, hb, hml, hown, hts⟩ fx hw (d1_t1 l hlt G hG hF σ (pcv hA) ((nI x9)) ((nI y9)) ((nI v9)) (by first | (rw [inB_no (a := x9) (n := g) (by omega) (by omega)]; rfl) | (rw [inB_no (a := y9) (n := g) (by omega) (by omega), Bool.and_false]))) (vx_cwSW 5 hts gL_isLaid_L_does rfl rfl rfl (by decide +kernel) ⟨Nat.le_of_ble_eq_true rfl, Nat.le_of_ble_eq_true rfl⟩) rfl hl.1 rfl (Nat.le_of_ble_eq_true rfl) dL_isLaid_306 ⟨Nat.le_trans (show _ ≤ 3 by omega) (Nat.le_of_ble_eq_true rfl), Nat.le_trans (show _ ≤ 20 by omega) (Nat.le_of_ble_eq_true rfl)⟩ (fun r_226 σ_227 H locs p_228 hw => ?_)
                          obtain ⟨er_226, eσ_227⟩ := p_228
                          have er_226 := er_226.symm; subst er_226
                          have eσ_227 := eσ_227.symm; subst eσ_227
                          refine lv_iload hx hb dL_isLaid_309 (lv_at hl 0 rfl) ?_
                          refine lv_icmp_ne (tgt := 318) hx hb dL_isLaid_311 (by decide) (fun c_229 => ?_) (fun c_229 => ?_)
                          · skip
                            exact absurd c_229 (by decide)
                          · skip
                            refine lv_iconst (v := 1) hx hb dL_isLaid_314 (by decide) ?_
                            refine lv_goto (tgt := 319) hx hb dL_isLaid_315 (by decide) ?_
                            exact rRetZw hx hb hr hw (by decide) (by exact ⟨rfl, po_same hA hGa⟩) hlocks dL_isLaid_319 (by omega) (by omega)
                        · skip
                          exact absurd c_225 (by decide)
                    · skip
                      have c_223 : 0 < v9 := n0_lef (by omega) c_223
                      refine lv_iload hx hb dL_isLaid_200 (lv_at hl 1 rfl) ?_
                      refine lv_bipush (v := 101) hx hb dL_isLaid_202 (by decide) ?_
                      refine lv_rep0 (x := 101) (y := nI 101) rfl ?_
                      refine lv_icmp_ge (tgt := 211) hx hb dL_isLaid_204 (by decide) (fun c_230 => ?_) (fun c_230 => ?_)
                      · skip
                        have c_230 : 101 ≤ v9 := (nI_leI (by omega) (by omega)).mp c_230
                        refine lv_iconst (v := 0) hx hb dL_isLaid_211 (by decide) ?_
                        refine lv_istore (lv' := [(12, .int 0), (11, .int 0), (10, .int (nI v9)), (9, .int (nI y9)), (8, .int (nI x9)), (0, .ref (gad G 0)), (1, .ref (gad G 31)), (2, .ref (gad G 32)), (3, .ref (gad G 33)), (4, .int 1), (5, .int (nI o)), (6, .int (nI u)), (7, .int (nI v))]) hx hb dL_isLaid_212 hl (by decide) rfl (fun ls hl => ?_)
                        refine lv_iload hx hb dL_isLaid_214 (lv_at hl 1 rfl) ?_
                        refine lv_if_ne (tgt := 224) hx hb dL_isLaid_216 (by decide) (fun c_231 => ?_) (fun c_231 => ?_)
                        · skip
                          exact absurd c_231 (by decide)
                        · skip
                          refine lv_bipush (v := (-30)) hx hb dL_isLaid_219 (by decide) ?_
                          refine lv_goto (tgt := 268) hx hb dL_isLaid_221 (by decide) ?_
                          refine lv_istore (lv' := [(13, .int (-30)), (12, .int 0), (11, .int 0), (10, .int (nI v9)), (9, .int (nI y9)), (8, .int (nI x9)), (0, .ref (gad G 0)), (1, .ref (gad G 31)), (2, .ref (gad G 32)), (3, .ref (gad G 33)), (4, .int 1), (5, .int (nI o)), (6, .int (nI u)), (7, .int (nI v))]) hx hb dL_isLaid_268 hl (by decide) rfl (fun ls hl => ?_)
                          refine lv_iload hx hb dL_isLaid_270 (lv_at hl 2 rfl) ?_
                          refine lv_if_eq (tgt := 298) hx hb dL_isLaid_272 (by decide) (fun c_232 => ?_) (fun c_232 => ?_)
                          · skip
                            refine lv_aload_n hx hb dL_isLaid_298 rfl (lv_at hl 6 rfl) ?_
                            refine lv_iconst (v := 1) hx hb dL_isLaid_299 (by decide) ?_
                            refine lv_iload hx hb dL_isLaid_300 (lv_at hl 5 rfl) ?_
                            refine lv_iload hx hb dL_isLaid_302 (lv_at hl 4 rfl) ?_
                            refine lv_iload hx hb dL_isLaid_304 (lv_at hl 3 rfl) ?_
                            refine rCallLS (As := [.ref (gad G 0), .int 1, .int (nI x9), .int (nI y9), .int (nI v9)]) (rest := []) ⟨hx, hb, hml, hown, hts⟩ fx hw (d1_t1 l hlt G hG hF σ (pcv hA) ((nI x9)) ((nI y9)) ((nI v9)) (by first | (rw [inB_no (a := x9) (n := g) (by omega) (by omega)]; rfl) | (rw [inB_no (a := y9) (n := g) (by omega) (by omega), Bool.and_false]))) (vx_cwSW 5 hts gL_isLaid_L_does rfl rfl rfl (by decide +kernel) ⟨Nat.le_of_ble_eq_true rfl, Nat.le_of_ble_eq_true rfl⟩) rfl hl.1 rfl (Nat.le_of_ble_eq_true rfl) dL_isLaid_306 ⟨Nat.le_trans (show _ ≤ 3 by omega) (Nat.le_of_ble_eq_true rfl), Nat.le_trans (show _ ≤ 20 by omega) (Nat.le_of_ble_eq_true rfl)⟩ (fun r_233 σ_234 H locs p_235 hw => ?_)
                            obtain ⟨er_233, eσ_234⟩ := p_235
                            have er_233 := er_233.symm; subst er_233
                            have eσ_234 := eσ_234.symm; subst eσ_234
                            refine lv_iload hx hb dL_isLaid_309 (lv_at hl 0 rfl) ?_
                            refine lv_icmp_ne (tgt := 318) hx hb dL_isLaid_311 (by decide) (fun c_236 => ?_) (fun c_236 => ?_)
                            · skip
                              exact absurd c_236 (by decide)
                            · skip
                              refine lv_iconst (v := 1) hx hb dL_isLaid_314 (by decide) ?_
                              refine lv_goto (tgt := 319) hx hb dL_isLaid_315 (by decide) ?_
                              exact rRetZw hx hb hr hw (by decide) (by exact ⟨rfl, po_same hA hGa⟩) hlocks dL_isLaid_319 (by omega) (by omega)
                          · skip
                            exact absurd c_232 (by decide)
                      · skip
                        have c_230 : ¬ 101 ≤ v9 := fun h9 => c_230 ((nI_leI (by omega) (by omega)).mpr h9)
                        refine lv_iconst (v := 1) hx hb dL_isLaid_207 (by decide) ?_
                        refine lv_goto (tgt := 212) hx hb dL_isLaid_208 (by decide) ?_
                        refine lv_istore (lv' := [(12, .int 1), (11, .int 0), (10, .int (nI v9)), (9, .int (nI y9)), (8, .int (nI x9)), (0, .ref (gad G 0)), (1, .ref (gad G 31)), (2, .ref (gad G 32)), (3, .ref (gad G 33)), (4, .int 1), (5, .int (nI o)), (6, .int (nI u)), (7, .int (nI v))]) hx hb dL_isLaid_212 hl (by decide) rfl (fun ls hl => ?_)
                        refine lv_iload hx hb dL_isLaid_214 (lv_at hl 1 rfl) ?_
                        refine lv_if_ne (tgt := 224) hx hb dL_isLaid_216 (by decide) (fun c_237 => ?_) (fun c_237 => ?_)
                        · skip
                          exact absurd c_237 (by decide)
                        · skip
                          refine lv_bipush (v := (-30)) hx hb dL_isLaid_219 (by decide) ?_
                          refine lv_goto (tgt := 268) hx hb dL_isLaid_221 (by decide) ?_
                          refine lv_istore (lv' := [(13, .int (-30)), (12, .int 1), (11, .int 0), (10, .int (nI v9)), (9, .int (nI y9)), (8, .int (nI x9)), (0, .ref (gad G 0)), (1, .ref (gad G 31)), (2, .ref (gad G 32)), (3, .ref (gad G 33)), (4, .int 1), (5, .int (nI o)), (6, .int (nI u)), (7, .int (nI v))]) hx hb dL_isLaid_268 hl (by decide) rfl (fun ls hl => ?_)
                          refine lv_iload hx hb dL_isLaid_270 (lv_at hl 2 rfl) ?_
                          refine lv_if_eq (tgt := 298) hx hb dL_isLaid_272 (by decide) (fun c_238 => ?_) (fun c_238 => ?_)
                          · skip
                            refine lv_aload_n hx hb dL_isLaid_298 rfl (lv_at hl 6 rfl) ?_
                            refine lv_iconst (v := 1) hx hb dL_isLaid_299 (by decide) ?_
                            refine lv_iload hx hb dL_isLaid_300 (lv_at hl 5 rfl) ?_
                            refine lv_iload hx hb dL_isLaid_302 (lv_at hl 4 rfl) ?_
                            refine lv_iload hx hb dL_isLaid_304 (lv_at hl 3 rfl) ?_
                            refine rCallLS (As := [.ref (gad G 0), .int 1, .int (nI x9), .int (nI y9), .int (nI v9)]) (rest := []) ⟨hx, hb, hml, hown, hts⟩ fx hw (d1_t1 l hlt G hG hF σ (pcv hA) ((nI x9)) ((nI y9)) ((nI v9)) (by first | (rw [inB_no (a := x9) (n := g) (by omega) (by omega)]; rfl) | (rw [inB_no (a := y9) (n := g) (by omega) (by omega), Bool.and_false]))) (vx_cwSW 5 hts gL_isLaid_L_does rfl rfl rfl (by decide +kernel) ⟨Nat.le_of_ble_eq_true rfl, Nat.le_of_ble_eq_true rfl⟩) rfl hl.1 rfl (Nat.le_of_ble_eq_true rfl) dL_isLaid_306 ⟨Nat.le_trans (show _ ≤ 3 by omega) (Nat.le_of_ble_eq_true rfl), Nat.le_trans (show _ ≤ 20 by omega) (Nat.le_of_ble_eq_true rfl)⟩ (fun r_239 σ_240 H locs p_241 hw => ?_)
                            obtain ⟨er_239, eσ_240⟩ := p_241
                            have er_239 := er_239.symm; subst er_239
                            have eσ_240 := eσ_240.symm; subst eσ_240
                            refine lv_iload hx hb dL_isLaid_309 (lv_at hl 0 rfl) ?_
                            refine lv_icmp_ne (tgt := 318) hx hb dL_isLaid_311 (by decide) (fun c_242 => ?_) (fun c_242 => ?_)
                            · skip
                              exact absurd c_242 (by decide)
                            · skip
                              refine lv_iconst (v := 1) hx hb dL_isLaid_314 (by decide) ?_
                              refine lv_goto (tgt := 319) hx hb dL_isLaid_315 (by decide) ?_
                              exact rRetZw hx hb hr hw (by decide) (by exact ⟨rfl, po_same hA hGa⟩) hlocks dL_isLaid_319 (by omega) (by omega)
                          · skip
                            exact absurd c_238 (by decide)
            · skip
              have c_187 : ¬ g ≤ y9 := fun h9 => c_187 ((nI_leI (by omega) (by omega)).mpr h9)
              omega
    · skip
      exact absurd c_121 (by decide)
  · skip
    obtain ⟨hbo, he0, hs5⟩ := hst
    refine lv_iload hx hb dL_isLaid_0 (lv_at hl 4 rfl) ?_
    refine lv_if_ne (tgt := 111) hx hb dL_isLaid_2 (by decide) (fun c_243 => ?_) (fun c_243 => ?_)
    · skip
      refine lv_iload hx hb dL_isLaid_111 (lv_at hl 4 rfl) ?_
      refine lv_iconst (v := 1) hx hb dL_isLaid_113 (by decide) ?_
      refine lv_icmp_ne (tgt := 320) hx hb dL_isLaid_114 (by decide) (fun c_244 => ?_) (fun c_244 => ?_)
      · skip
        exact absurd c_244 (by decide)
      · skip
        refine lv_iload hx hb dL_isLaid_117 (lv_at hl 5 rfl) ?_
        refine lv_aload_n hx hb dL_isLaid_119 rfl (lv_at hl 3 rfl) ?_
        refine lv_iconst (v := 0) hx hb dL_isLaid_120 (by decide) ?_
        refine lv_rep0 (x := 0) (y := nI 0) rfl ?_
        refine rAld hx hb fx hw 33 (hF.1 33 (by decide)) hF.2.1 (fun _ => rfl) 0 rfl (by omega) (by decide) dL_isLaid_121 ?_
        refine lv_rep0 (x := (σ 33 0)) (y := (nI g)) (pg hA).1 ?_
        refine lv_iconst (v := 1) hx hb dL_isLaid_122 (by decide) ?_
        refine lv_rep0 (x := 1) (y := nI 1) rfl ?_
        refine lv_iadd hx hb dL_isLaid_123 ?_
        refine lv_rep0 (x := ((nI g) + (nI 1))) (y := nI (g + 1)) (nI_add _ _) ?_
        refine lv_irem hx hb dL_isLaid_124 (nI_ne0 (by omega) (by omega)) ?_
        refine lv_rep0 (y := nI (o % (g + 1))) (pk_rem (by omega) (by omega) (by omega)) ?_
        have hrm9 := Nat.mod_lt o (show 0 < (g + 1) by omega)
        refine lv_istore (lv' := [(8, .int (nI (o % (g + 1)))), (0, .ref (gad G 0)), (1, .ref (gad G 31)), (2, .ref (gad G 32)), (3, .ref (gad G 33)), (4, .int 1), (5, .int (nI o)), (6, .int (nI u)), (7, .int (nI v))]) hx hb dL_isLaid_125 hl (by decide) rfl (fun ls hl => ?_)
        have q_245 : (nI (o % (g + 1))) = (nI x9) := by rw [hx9]
        have hl : lv_has ls 14 [(8, .int (nI x9)), (0, .ref (gad G 0)), (1, .ref (gad G 31)), (2, .ref (gad G 32)), (3, .ref (gad G 33)), (4, .int 1), (5, .int (nI o)), (6, .int (nI u)), (7, .int (nI v))] := (lv_c (lv_atq hl 0 rfl q_245) (lv_c (lv_at hl 1 rfl) (lv_c (lv_at hl 2 rfl) (lv_c (lv_at hl 3 rfl) (lv_c (lv_at hl 4 rfl) (lv_c (lv_at hl 5 rfl) (lv_c (lv_at hl 6 rfl) (lv_c (lv_at hl 7 rfl) (lv_c (lv_at hl 8 rfl) (lv_c0 hl))))))))))
        refine lv_iload hx hb dL_isLaid_127 (lv_at hl 8 rfl) ?_
        refine lv_iconst (v := 3) hx hb dL_isLaid_129 (by decide) ?_
        refine lv_rep0 (x := 3) (y := nI 3) rfl ?_
        refine lv_irem hx hb dL_isLaid_130 (nI_ne0 (by omega) (by omega)) ?_
        refine lv_rep0 (y := nI (v % 3)) (pk_rem (by omega) (by omega) (by omega)) ?_
        refine lv_if_ne (tgt := 138) hx hb dL_isLaid_131 (by decide) (fun c_246 => ?_) (fun c_246 => ?_)
        · skip
          have c_246 : ¬ (v % 3) = 0 := n0_net (by omega) c_246
          refine lv_iload hx hb dL_isLaid_138 (lv_at hl 7 rfl) ?_
          refine lv_aload_n hx hb dL_isLaid_140 rfl (lv_at hl 4 rfl) ?_
          refine lv_iconst (v := 0) hx hb dL_isLaid_141 (by decide) ?_
          refine lv_rep0 (x := 0) (y := nI 0) rfl ?_
          refine rAld hx hb fx hw 33 (hF.1 33 (by decide)) hF.2.1 (fun _ => rfl) 0 rfl (by omega) (by decide) dL_isLaid_142 ?_
          refine lv_rep0 (x := (σ 33 0)) (y := (nI g)) (pg hA).1 ?_
          refine lv_iconst (v := 1) hx hb dL_isLaid_143 (by decide) ?_
          refine lv_rep0 (x := 1) (y := nI 1) rfl ?_
          refine lv_iadd hx hb dL_isLaid_144 ?_
          refine lv_rep0 (x := ((nI g) + (nI 1))) (y := nI (g + 1)) (nI_add _ _) ?_
          refine lv_irem hx hb dL_isLaid_145 (nI_ne0 (by omega) (by omega)) ?_
          refine lv_rep0 (y := nI (u % (g + 1))) (pk_rem (by omega) (by omega) (by omega)) ?_
          have hrm9 := Nat.mod_lt u (show 0 < (g + 1) by omega)
          refine lv_istore (lv' := [(9, .int (nI (u % (g + 1)))), (8, .int (nI x9)), (0, .ref (gad G 0)), (1, .ref (gad G 31)), (2, .ref (gad G 32)), (3, .ref (gad G 33)), (4, .int 1), (5, .int (nI o)), (6, .int (nI u)), (7, .int (nI v))]) hx hb dL_isLaid_146 hl (by decide) rfl (fun ls hl => ?_)
          have q_247 : (nI (u % (g + 1))) = (nI y9) := by first | (rw [hy9, if_pos (by omega)]; rfl) | rw [hy9, if_neg (by omega)]
          have hl : lv_has ls 14 [(9, .int (nI y9)), (8, .int (nI x9)), (0, .ref (gad G 0)), (1, .ref (gad G 31)), (2, .ref (gad G 32)), (3, .ref (gad G 33)), (4, .int 1), (5, .int (nI o)), (6, .int (nI u)), (7, .int (nI v))] := (lv_c (lv_atq hl 0 rfl q_247) (lv_c (lv_at hl 1 rfl) (lv_c (lv_at hl 2 rfl) (lv_c (lv_at hl 3 rfl) (lv_c (lv_at hl 4 rfl) (lv_c (lv_at hl 5 rfl) (lv_c (lv_at hl 6 rfl) (lv_c (lv_at hl 7 rfl) (lv_c (lv_at hl 8 rfl) (lv_c (lv_at hl 9 rfl) (lv_c0 hl)))))))))))
          refine lv_iload hx hb dL_isLaid_148 (lv_at hl 9 rfl) ?_
          refine lv_bipush (v := 103) hx hb dL_isLaid_150 (by decide) ?_
          refine lv_rep0 (x := 103) (y := nI 103) rfl ?_
          refine lv_irem hx hb dL_isLaid_152 (nI_ne0 (by omega) (by omega)) ?_
          refine lv_rep0 (y := nI (v % 103)) (pk_rem (by omega) (by omega) (by omega)) ?_
          refine lv_istore (lv' := [(10, .int (nI (v % 103))), (9, .int (nI y9)), (8, .int (nI x9)), (0, .ref (gad G 0)), (1, .ref (gad G 31)), (2, .ref (gad G 32)), (3, .ref (gad G 33)), (4, .int 1), (5, .int (nI o)), (6, .int (nI u)), (7, .int (nI v))]) hx hb dL_isLaid_153 hl (by decide) rfl (fun ls hl => ?_)
          have q_248 : (nI (v % 103)) = (nI v9) := by rw [hv9]
          have hl : lv_has ls 14 [(10, .int (nI v9)), (9, .int (nI y9)), (8, .int (nI x9)), (0, .ref (gad G 0)), (1, .ref (gad G 31)), (2, .ref (gad G 32)), (3, .ref (gad G 33)), (4, .int 1), (5, .int (nI o)), (6, .int (nI u)), (7, .int (nI v))] := (lv_c (lv_atq hl 0 rfl q_248) (lv_c (lv_at hl 1 rfl) (lv_c (lv_at hl 2 rfl) (lv_c (lv_at hl 3 rfl) (lv_c (lv_at hl 4 rfl) (lv_c (lv_at hl 5 rfl) (lv_c (lv_at hl 6 rfl) (lv_c (lv_at hl 7 rfl) (lv_c (lv_at hl 8 rfl) (lv_c (lv_at hl 9 rfl) (lv_c (lv_at hl 10 rfl) (lv_c0 hl))))))))))))
          refine lv_iload hx hb dL_isLaid_155 (lv_at hl 2 rfl) ?_
          refine lv_aload_n hx hb dL_isLaid_157 rfl (lv_at hl 6 rfl) ?_
          refine lv_iconst (v := 0) hx hb dL_isLaid_158 (by decide) ?_
          refine lv_rep0 (x := 0) (y := nI 0) rfl ?_
          refine rAld hx hb fx hw 33 (hF.1 33 (by decide)) hF.2.1 (fun _ => rfl) 0 rfl (by omega) (by decide) dL_isLaid_159 ?_
          refine lv_rep0 (x := (σ 33 0)) (y := (nI g)) (pg hA).1 ?_
          refine lv_icmp_ge (tgt := 175) hx hb dL_isLaid_160 (by decide) (fun c_249 => ?_) (fun c_249 => ?_)
          · skip
            have c_249 : g ≤ x9 := (nI_leI (by omega) (by omega)).mp c_249
            omega
          · skip
            have c_249 : ¬ g ≤ x9 := fun h9 => c_249 ((nI_leI (by omega) (by omega)).mpr h9)
            refine lv_iload hx hb dL_isLaid_163 (lv_at hl 1 rfl) ?_
            refine lv_aload_n hx hb dL_isLaid_165 rfl (lv_at hl 6 rfl) ?_
            refine lv_iconst (v := 0) hx hb dL_isLaid_166 (by decide) ?_
            refine lv_rep0 (x := 0) (y := nI 0) rfl ?_
            refine rAld hx hb fx hw 33 (hF.1 33 (by decide)) hF.2.1 (fun _ => rfl) 0 rfl (by omega) (by decide) dL_isLaid_167 ?_
            refine lv_rep0 (x := (σ 33 0)) (y := (nI g)) (pg hA).1 ?_
            refine lv_icmp_ge (tgt := 175) hx hb dL_isLaid_168 (by decide) (fun c_250 => ?_) (fun c_250 => ?_)
            · skip
              have c_250 : g ≤ y9 := (nI_leI (by omega) (by omega)).mp c_250
              omega
            · skip
              have c_250 : ¬ g ≤ y9 := fun h9 => c_250 ((nI_leI (by omega) (by omega)).mpr h9)
              refine lv_iconst (v := 1) hx hb dL_isLaid_171 (by decide) ?_
              refine lv_goto (tgt := 176) hx hb dL_isLaid_172 (by decide) ?_
              refine lv_istore (lv' := [(11, .int 1), (10, .int (nI v9)), (9, .int (nI y9)), (8, .int (nI x9)), (0, .ref (gad G 0)), (1, .ref (gad G 31)), (2, .ref (gad G 32)), (3, .ref (gad G 33)), (4, .int 1), (5, .int (nI o)), (6, .int (nI u)), (7, .int (nI v))]) hx hb dL_isLaid_176 hl (by decide) rfl (fun ls hl => ?_)
              refine lv_iload hx hb dL_isLaid_178 (lv_at hl 2 rfl) ?_
              refine lv_iload hx hb dL_isLaid_180 (lv_at hl 3 rfl) ?_
              refine lv_icmp_gt (tgt := 195) hx hb dL_isLaid_182 (by decide) (fun c_251 => ?_) (fun c_251 => ?_)
              · skip
                have c_251 : x9 < y9 := (nI_ltI (by omega) (by omega)).mp c_251
                refine lv_iload hx hb dL_isLaid_195 (lv_at hl 1 rfl) ?_
                refine lv_if_le (tgt := 211) hx hb dL_isLaid_197 (by decide) (fun c_252 => ?_) (fun c_252 => ?_)
                · skip
                  have c_252 : v9 = 0 := n0_let (by omega) c_252
                  refine lv_iconst (v := 0) hx hb dL_isLaid_211 (by decide) ?_
                  refine lv_istore (lv' := [(12, .int 0), (11, .int 1), (10, .int (nI v9)), (9, .int (nI y9)), (8, .int (nI x9)), (0, .ref (gad G 0)), (1, .ref (gad G 31)), (2, .ref (gad G 32)), (3, .ref (gad G 33)), (4, .int 1), (5, .int (nI o)), (6, .int (nI u)), (7, .int (nI v))]) hx hb dL_isLaid_212 hl (by decide) rfl (fun ls hl => ?_)
                  refine lv_iload hx hb dL_isLaid_214 (lv_at hl 1 rfl) ?_
                  refine lv_if_ne (tgt := 224) hx hb dL_isLaid_216 (by decide) (fun c_253 => ?_) (fun c_253 => ?_)
                  · skip
                    refine lv_iload hx hb dL_isLaid_224 (lv_at hl 0 rfl) ?_
                    refine lv_if_ne (tgt := 234) hx hb dL_isLaid_226 (by decide) (fun c_254 => ?_) (fun c_254 => ?_)
                    · skip
                      exact absurd c_254 (by decide)
                    · skip
                      refine lv_bipush (v := (-20)) hx hb dL_isLaid_229 (by decide) ?_
                      refine lv_goto (tgt := 268) hx hb dL_isLaid_231 (by decide) ?_
                      refine lv_istore (lv' := [(13, .int (-20)), (12, .int 0), (11, .int 1), (10, .int (nI v9)), (9, .int (nI y9)), (8, .int (nI x9)), (0, .ref (gad G 0)), (1, .ref (gad G 31)), (2, .ref (gad G 32)), (3, .ref (gad G 33)), (4, .int 1), (5, .int (nI o)), (6, .int (nI u)), (7, .int (nI v))]) hx hb dL_isLaid_268 hl (by decide) rfl (fun ls hl => ?_)
                      refine lv_iload hx hb dL_isLaid_270 (lv_at hl 2 rfl) ?_
                      refine lv_if_eq (tgt := 298) hx hb dL_isLaid_272 (by decide) (fun c_255 => ?_) (fun c_255 => ?_)
                      · skip
                        exact absurd c_255 (by decide)
                      · skip
                        refine lv_iload hx hb dL_isLaid_275 (lv_at hl 1 rfl) ?_
                        refine lv_if_eq (tgt := 298) hx hb dL_isLaid_277 (by decide) (fun c_256 => ?_) (fun c_256 => ?_)
                        · skip
                          refine lv_aload_n hx hb dL_isLaid_298 rfl (lv_at hl 6 rfl) ?_
                          refine lv_iconst (v := 1) hx hb dL_isLaid_299 (by decide) ?_
                          refine lv_iload hx hb dL_isLaid_300 (lv_at hl 5 rfl) ?_
                          refine lv_iload hx hb dL_isLaid_302 (lv_at hl 4 rfl) ?_
                          refine lv_iload hx hb dL_isLaid_304 (lv_at hl 3 rfl) ?_
                          refine rCallLS (As := [.ref (gad G 0), .int 1, .int (nI x9), .int (nI y9), .int (nI v9)]) (rest := []) ⟨hx, hb, hml, hown, hts⟩ fx hw (d1_t2 l hlt G hG hF σ (pcv hA) ((nI x9)) ((nI y9)) ((nI v9)) (by rw [inB_y (show x9 < g by omega) (by omega), inB_y (show y9 < g by omega) (by omega)]; rfl) (rgt_n (by omega) (by omega) (by omega) (by omega))) (vx_cwSW 5 hts gL_isLaid_L_does rfl rfl rfl (by decide +kernel) ⟨Nat.le_of_ble_eq_true rfl, Nat.le_of_ble_eq_true rfl⟩) rfl hl.1 rfl (Nat.le_of_ble_eq_true rfl) dL_isLaid_306 ⟨Nat.le_trans (show _ ≤ 3 by omega) (Nat.le_of_ble_eq_true rfl), Nat.le_trans (show _ ≤ 20 by omega) (Nat.le_of_ble_eq_true rfl)⟩ (fun r_257 σ_258 H locs p_259 hw => ?_)
                          obtain ⟨er_257, eσ_258⟩ := p_259
                          have er_257 := er_257.symm; subst er_257
                          have eσ_258 := eσ_258.symm; subst eσ_258
                          refine lv_iload hx hb dL_isLaid_309 (lv_at hl 0 rfl) ?_
                          refine lv_icmp_ne (tgt := 318) hx hb dL_isLaid_311 (by decide) (fun c_260 => ?_) (fun c_260 => ?_)
                          · skip
                            exact absurd c_260 (by decide)
                          · skip
                            refine lv_iconst (v := 1) hx hb dL_isLaid_314 (by decide) ?_
                            refine lv_goto (tgt := 319) hx hb dL_isLaid_315 (by decide) ?_
                            exact rRetZw hx hb hr hw (by decide) (by exact ⟨rfl, po_same hA hGa⟩) hlocks dL_isLaid_319 (by omega) (by omega)
                        · skip
                          exact absurd c_256 (by decide)
                  · skip
                    exact absurd c_253 (by decide)
                · skip
                  have c_252 : 0 < v9 := n0_lef (by omega) c_252
                  refine lv_iload hx hb dL_isLaid_200 (lv_at hl 1 rfl) ?_
                  refine lv_bipush (v := 101) hx hb dL_isLaid_202 (by decide) ?_
                  refine lv_rep0 (x := 101) (y := nI 101) rfl ?_
                  refine lv_icmp_ge (tgt := 211) hx hb dL_isLaid_204 (by decide) (fun c_261 => ?_) (fun c_261 => ?_)
                  · skip
                    have c_261 : 101 ≤ v9 := (nI_leI (by omega) (by omega)).mp c_261
                    refine lv_iconst (v := 0) hx hb dL_isLaid_211 (by decide) ?_
                    refine lv_istore (lv' := [(12, .int 0), (11, .int 1), (10, .int (nI v9)), (9, .int (nI y9)), (8, .int (nI x9)), (0, .ref (gad G 0)), (1, .ref (gad G 31)), (2, .ref (gad G 32)), (3, .ref (gad G 33)), (4, .int 1), (5, .int (nI o)), (6, .int (nI u)), (7, .int (nI v))]) hx hb dL_isLaid_212 hl (by decide) rfl (fun ls hl => ?_)
                    refine lv_iload hx hb dL_isLaid_214 (lv_at hl 1 rfl) ?_
                    refine lv_if_ne (tgt := 224) hx hb dL_isLaid_216 (by decide) (fun c_262 => ?_) (fun c_262 => ?_)
                    · skip
                      refine lv_iload hx hb dL_isLaid_224 (lv_at hl 0 rfl) ?_
                      refine lv_if_ne (tgt := 234) hx hb dL_isLaid_226 (by decide) (fun c_263 => ?_) (fun c_263 => ?_)
                      · skip
                        exact absurd c_263 (by decide)
                      · skip
                        refine lv_bipush (v := (-20)) hx hb dL_isLaid_229 (by decide) ?_
                        refine lv_goto (tgt := 268) hx hb dL_isLaid_231 (by decide) ?_
                        refine lv_istore (lv' := [(13, .int (-20)), (12, .int 0), (11, .int 1), (10, .int (nI v9)), (9, .int (nI y9)), (8, .int (nI x9)), (0, .ref (gad G 0)), (1, .ref (gad G 31)), (2, .ref (gad G 32)), (3, .ref (gad G 33)), (4, .int 1), (5, .int (nI o)), (6, .int (nI u)), (7, .int (nI v))]) hx hb dL_isLaid_268 hl (by decide) rfl (fun ls hl => ?_)
                        refine lv_iload hx hb dL_isLaid_270 (lv_at hl 2 rfl) ?_
                        refine lv_if_eq (tgt := 298) hx hb dL_isLaid_272 (by decide) (fun c_264 => ?_) (fun c_264 => ?_)
                        · skip
                          exact absurd c_264 (by decide)
                        · skip
                          refine lv_iload hx hb dL_isLaid_275 (lv_at hl 1 rfl) ?_
                          refine lv_if_eq (tgt := 298) hx hb dL_isLaid_277 (by decide) (fun c_265 => ?_) (fun c_265 => ?_)
                          · skip
                            refine lv_aload_n hx hb dL_isLaid_298 rfl (lv_at hl 6 rfl) ?_
                            refine lv_iconst (v := 1) hx hb dL_isLaid_299 (by decide) ?_
                            refine lv_iload hx hb dL_isLaid_300 (lv_at hl 5 rfl) ?_
                            refine lv_iload hx hb dL_isLaid_302 (lv_at hl 4 rfl) ?_
                            refine lv_iload hx hb dL_isLaid_304 (lv_at hl 3 rfl) ?_
                            refine rCallLS (As := [.ref (gad G 0), .int 1, .int (nI x9), .int (nI y9), .int (nI v9)]) (rest := []) ⟨hx, hb, hml, hown, hts⟩ fx hw (d1_t2 l hlt G hG hF σ (pcv hA) ((nI x9)) ((nI y9)) ((nI v9)) (by rw [inB_y (show x9 < g by omega) (by omega), inB_y (show y9 < g by omega) (by omega)]; rfl) (rgt_n (by omega) (by omega) (by omega) (by omega))) (vx_cwSW 5 hts gL_isLaid_L_does rfl rfl rfl (by decide +kernel) ⟨Nat.le_of_ble_eq_true rfl, Nat.le_of_ble_eq_true rfl⟩) rfl hl.1 rfl (Nat.le_of_ble_eq_true rfl) dL_isLaid_306 ⟨Nat.le_trans (show _ ≤ 3 by omega) (Nat.le_of_ble_eq_true rfl), Nat.le_trans (show _ ≤ 20 by omega) (Nat.le_of_ble_eq_true rfl)⟩ (fun r_266 σ_267 H locs p_268 hw => ?_)
                            obtain ⟨er_266, eσ_267⟩ := p_268
                            have er_266 := er_266.symm; subst er_266
                            have eσ_267 := eσ_267.symm; subst eσ_267
                            refine lv_iload hx hb dL_isLaid_309 (lv_at hl 0 rfl) ?_
                            refine lv_icmp_ne (tgt := 318) hx hb dL_isLaid_311 (by decide) (fun c_269 => ?_) (fun c_269 => ?_)
                            · skip
                              exact absurd c_269 (by decide)
                            · skip
                              refine lv_iconst (v := 1) hx hb dL_isLaid_314 (by decide) ?_
                              refine lv_goto (tgt := 319) hx hb dL_isLaid_315 (by decide) ?_
                              exact rRetZw hx hb hr hw (by decide) (by exact ⟨rfl, po_same hA hGa⟩) hlocks dL_isLaid_319 (by omega) (by omega)
                          · skip
                            exact absurd c_265 (by decide)
                    · skip
                      exact absurd c_262 (by decide)
                  · skip
                    have c_261 : ¬ 101 ≤ v9 := fun h9 => c_261 ((nI_leI (by omega) (by omega)).mpr h9)
                    omega
              · skip
                have c_251 : ¬ x9 < y9 := fun h9 => c_251 ((nI_ltI (by omega) (by omega)).mpr h9)
                refine lv_iload hx hb dL_isLaid_185 (lv_at hl 2 rfl) ?_
                refine lv_if_ne (tgt := 211) hx hb dL_isLaid_187 (by decide) (fun c_270 => ?_) (fun c_270 => ?_)
                · skip
                  have c_270 : ¬ y9 = 0 := n0_net (by omega) c_270
                  refine lv_iconst (v := 0) hx hb dL_isLaid_211 (by decide) ?_
                  refine lv_istore (lv' := [(12, .int 0), (11, .int 1), (10, .int (nI v9)), (9, .int (nI y9)), (8, .int (nI x9)), (0, .ref (gad G 0)), (1, .ref (gad G 31)), (2, .ref (gad G 32)), (3, .ref (gad G 33)), (4, .int 1), (5, .int (nI o)), (6, .int (nI u)), (7, .int (nI v))]) hx hb dL_isLaid_212 hl (by decide) rfl (fun ls hl => ?_)
                  refine lv_iload hx hb dL_isLaid_214 (lv_at hl 1 rfl) ?_
                  refine lv_if_ne (tgt := 224) hx hb dL_isLaid_216 (by decide) (fun c_271 => ?_) (fun c_271 => ?_)
                  · skip
                    refine lv_iload hx hb dL_isLaid_224 (lv_at hl 0 rfl) ?_
                    refine lv_if_ne (tgt := 234) hx hb dL_isLaid_226 (by decide) (fun c_272 => ?_) (fun c_272 => ?_)
                    · skip
                      exact absurd c_272 (by decide)
                    · skip
                      refine lv_bipush (v := (-20)) hx hb dL_isLaid_229 (by decide) ?_
                      refine lv_goto (tgt := 268) hx hb dL_isLaid_231 (by decide) ?_
                      refine lv_istore (lv' := [(13, .int (-20)), (12, .int 0), (11, .int 1), (10, .int (nI v9)), (9, .int (nI y9)), (8, .int (nI x9)), (0, .ref (gad G 0)), (1, .ref (gad G 31)), (2, .ref (gad G 32)), (3, .ref (gad G 33)), (4, .int 1), (5, .int (nI o)), (6, .int (nI u)), (7, .int (nI v))]) hx hb dL_isLaid_268 hl (by decide) rfl (fun ls hl => ?_)
                      refine lv_iload hx hb dL_isLaid_270 (lv_at hl 2 rfl) ?_
                      refine lv_if_eq (tgt := 298) hx hb dL_isLaid_272 (by decide) (fun c_273 => ?_) (fun c_273 => ?_)
                      · skip
                        exact absurd c_273 (by decide)
                      · skip
                        refine lv_iload hx hb dL_isLaid_275 (lv_at hl 1 rfl) ?_
                        refine lv_if_eq (tgt := 298) hx hb dL_isLaid_277 (by decide) (fun c_274 => ?_) (fun c_274 => ?_)
                        · skip
                          refine lv_aload_n hx hb dL_isLaid_298 rfl (lv_at hl 6 rfl) ?_
                          refine lv_iconst (v := 1) hx hb dL_isLaid_299 (by decide) ?_
                          refine lv_iload hx hb dL_isLaid_300 (lv_at hl 5 rfl) ?_
                          refine lv_iload hx hb dL_isLaid_302 (lv_at hl 4 rfl) ?_
                          refine lv_iload hx hb dL_isLaid_304 (lv_at hl 3 rfl) ?_
                          refine rCallLS (As := [.ref (gad G 0), .int 1, .int (nI x9), .int (nI y9), .int (nI v9)]) (rest := []) ⟨hx, hb, hml, hown, hts⟩ fx hw (d1_t2 l hlt G hG hF σ (pcv hA) ((nI x9)) ((nI y9)) ((nI v9)) (by rw [inB_y (show x9 < g by omega) (by omega), inB_y (show y9 < g by omega) (by omega)]; rfl) (rgt_n (by omega) (by omega) (by omega) (by omega))) (vx_cwSW 5 hts gL_isLaid_L_does rfl rfl rfl (by decide +kernel) ⟨Nat.le_of_ble_eq_true rfl, Nat.le_of_ble_eq_true rfl⟩) rfl hl.1 rfl (Nat.le_of_ble_eq_true rfl) dL_isLaid_306 ⟨Nat.le_trans (show _ ≤ 3 by omega) (Nat.le_of_ble_eq_true rfl), Nat.le_trans (show _ ≤ 20 by omega) (Nat.le_of_ble_eq_true rfl)⟩ (fun r_275 σ_276 H locs p_277 hw => ?_)
                          obtain ⟨er_275, eσ_276⟩ := p_277
                          have er_275 := er_275.symm; subst er_275
                          have eσ_276 := eσ_276.symm; subst eσ_276
                          refine lv_iload hx hb dL_isLaid_309 (lv_at hl 0 rfl) ?_
                          refine lv_icmp_ne (tgt := 318) hx hb dL_isLaid_311 (by decide) (fun c_278 => ?_) (fun c_278 => ?_)
                          · skip
                            exact absurd c_278 (by decide)
                          · skip
                            refine lv_iconst (v := 1) hx hb dL_isLaid_314 (by decide) ?_
                            refine lv_goto (tgt := 319) hx hb dL_isLaid_315 (by decide) ?_
                            exact rRetZw hx hb hr hw (by decide) (by exact ⟨rfl, po_same hA hGa⟩) hlocks dL_isLaid_319 (by omega) (by omega)
                        · skip
                          exact absurd c_274 (by decide)
                  · skip
                    exact absurd c_271 (by decide)
                · skip
                  have c_270 : y9 = 0 := n0_nef (by omega) c_270
                  refine lv_iload hx hb dL_isLaid_190 (lv_at hl 3 rfl) ?_
                  refine lv_if_le (tgt := 211) hx hb dL_isLaid_192 (by decide) (fun c_279 => ?_) (fun c_279 => ?_)
                  · skip
                    have c_279 : x9 = 0 := n0_let (by omega) c_279
                    refine lv_iconst (v := 0) hx hb dL_isLaid_211 (by decide) ?_
                    refine lv_istore (lv' := [(12, .int 0), (11, .int 1), (10, .int (nI v9)), (9, .int (nI y9)), (8, .int (nI x9)), (0, .ref (gad G 0)), (1, .ref (gad G 31)), (2, .ref (gad G 32)), (3, .ref (gad G 33)), (4, .int 1), (5, .int (nI o)), (6, .int (nI u)), (7, .int (nI v))]) hx hb dL_isLaid_212 hl (by decide) rfl (fun ls hl => ?_)
                    refine lv_iload hx hb dL_isLaid_214 (lv_at hl 1 rfl) ?_
                    refine lv_if_ne (tgt := 224) hx hb dL_isLaid_216 (by decide) (fun c_280 => ?_) (fun c_280 => ?_)
                    · skip
                      refine lv_iload hx hb dL_isLaid_224 (lv_at hl 0 rfl) ?_
                      refine lv_if_ne (tgt := 234) hx hb dL_isLaid_226 (by decide) (fun c_281 => ?_) (fun c_281 => ?_)
                      · skip
                        exact absurd c_281 (by decide)
                      · skip
                        refine lv_bipush (v := (-20)) hx hb dL_isLaid_229 (by decide) ?_
                        refine lv_goto (tgt := 268) hx hb dL_isLaid_231 (by decide) ?_
                        refine lv_istore (lv' := [(13, .int (-20)), (12, .int 0), (11, .int 1), (10, .int (nI v9)), (9, .int (nI y9)), (8, .int (nI x9)), (0, .ref (gad G 0)), (1, .ref (gad G 31)), (2, .ref (gad G 32)), (3, .ref (gad G 33)), (4, .int 1), (5, .int (nI o)), (6, .int (nI u)), (7, .int (nI v))]) hx hb dL_isLaid_268 hl (by decide) rfl (fun ls hl => ?_)
                        refine lv_iload hx hb dL_isLaid_270 (lv_at hl 2 rfl) ?_
                        refine lv_if_eq (tgt := 298) hx hb dL_isLaid_272 (by decide) (fun c_282 => ?_) (fun c_282 => ?_)
                        · skip
                          exact absurd c_282 (by decide)
                        · skip
                          refine lv_iload hx hb dL_isLaid_275 (lv_at hl 1 rfl) ?_
                          refine lv_if_eq (tgt := 298) hx hb dL_isLaid_277 (by decide) (fun c_283 => ?_) (fun c_283 => ?_)
                          · skip
                            refine lv_aload_n hx hb dL_isLaid_298 rfl (lv_at hl 6 rfl) ?_
                            refine lv_iconst (v := 1) hx hb dL_isLaid_299 (by decide) ?_
                            refine lv_iload hx hb dL_isLaid_300 (lv_at hl 5 rfl) ?_
                            refine lv_iload hx hb dL_isLaid_302 (lv_at hl 4 rfl) ?_
                            refine lv_iload hx hb dL_isLaid_304 (lv_at hl 3 rfl) ?_
                            refine rCallLS (As := [.ref (gad G 0), .int 1, .int (nI x9), .int (nI y9), .int (nI v9)]) (rest := []) ⟨hx, hb, hml, hown, hts⟩ fx hw (d1_t2 l hlt G hG hF σ (pcv hA) ((nI x9)) ((nI y9)) ((nI v9)) (by rw [inB_y (show x9 < g by omega) (by omega), inB_y (show y9 < g by omega) (by omega)]; rfl) (rgt_n (by omega) (by omega) (by omega) (by omega))) (vx_cwSW 5 hts gL_isLaid_L_does rfl rfl rfl (by decide +kernel) ⟨Nat.le_of_ble_eq_true rfl, Nat.le_of_ble_eq_true rfl⟩) rfl hl.1 rfl (Nat.le_of_ble_eq_true rfl) dL_isLaid_306 ⟨Nat.le_trans (show _ ≤ 3 by omega) (Nat.le_of_ble_eq_true rfl), Nat.le_trans (show _ ≤ 20 by omega) (Nat.le_of_ble_eq_true rfl)⟩ (fun r_284 σ_285 H locs p_286 hw => ?_)
                            obtain ⟨er_284, eσ_285⟩ := p_286
                            have er_284 := er_284.symm; subst er_284
                            have eσ_285 := eσ_285.symm; subst eσ_285
                            refine lv_iload hx hb dL_isLaid_309 (lv_at hl 0 rfl) ?_
                            refine lv_icmp_ne (tgt := 318) hx hb dL_isLaid_311 (by decide) (fun c_287 => ?_) (fun c_287 => ?_)
                            · skip
                              exact absurd c_287 (by decide)
                            · skip
                              refine lv_iconst (v := 1) hx hb dL_isLaid_314 (by decide) ?_
                              refine lv_goto (tgt := 319) hx hb dL_isLaid_315 (by decide) ?_
                              exact rRetZw hx hb hr hw (by decide) (by exact ⟨rfl, po_same hA hGa⟩) hlocks dL_isLaid_319 (by omega) (by omega)
                          · skip
                            exact absurd c_283 (by decide)
                    · skip
                      exact absurd c_280 (by decide)
                  · skip
                    have c_279 : 0 < x9 := n0_lef (by omega) c_279
                    refine lv_iload hx hb dL_isLaid_195 (lv_at hl 1 rfl) ?_
                    refine lv_if_le (tgt := 211) hx hb dL_isLaid_197 (by decide) (fun c_288 => ?_) (fun c_288 => ?_)
                    · skip
                      have c_288 : v9 = 0 := n0_let (by omega) c_288
                      refine lv_iconst (v := 0) hx hb dL_isLaid_211 (by decide) ?_
                      refine lv_istore (lv' := [(12, .int 0), (11, .int 1), (10, .int (nI v9)), (9, .int (nI y9)), (8, .int (nI x9)), (0, .ref (gad G 0)), (1, .ref (gad G 31)), (2, .ref (gad G 32)), (3, .ref (gad G 33)), (4, .int 1), (5, .int (nI o)), (6, .int (nI u)), (7, .int (nI v))]) hx hb dL_isLaid_212 hl (by decide) rfl (fun ls hl => ?_)
                      refine lv_iload hx hb dL_isLaid_214 (lv_at hl 1 rfl) ?_
                      refine lv_if_ne (tgt := 224) hx hb dL_isLaid_216 (by decide) (fun c_289 => ?_) (fun c_289 => ?_)
                      · skip
                        refine lv_iload hx hb dL_isLaid_224 (lv_at hl 0 rfl) ?_
                        refine lv_if_ne (tgt := 234) hx hb dL_isLaid_226 (by decide) (fun c_290 => ?_) (fun c_290 => ?_)
                        · skip
                          exact absurd c_290 (by decide)
                        · skip
                          refine lv_bipush (v := (-20)) hx hb dL_isLaid_229 (by decide) ?_
                          refine lv_goto (tgt := 268) hx hb dL_isLaid_231 (by decide) ?_
                          refine lv_istore (lv' := [(13, .int (-20)), (12, .int 0), (11, .int 1), (10, .int (nI v9)), (9, .int (nI y9)), (8, .int (nI x9)), (0, .ref (gad G 0)), (1, .ref (gad G 31)), (2, .ref (gad G 32)), (3, .ref (gad G 33)), (4, .int 1), (5, .int (nI o)), (6, .int (nI u)), (7, .int (nI v))]) hx hb dL_isLaid_268 hl (by decide) rfl (fun ls hl => ?_)
                          refine lv_iload hx hb dL_isLaid_270 (lv_at hl 2 rfl) ?_
                          refine lv_if_eq (tgt := 298) hx hb dL_isLaid_272 (by decide) (fun c_291 => ?_) (fun c_291 => ?_)
                          · skip
                            exact absurd c_291 (by decide)
                          · skip
                            refine lv_iload hx hb dL_isLaid_275 (lv_at hl 1 rfl) ?_
                            refine lv_if_eq (tgt := 298) hx hb dL_isLaid_277 (by decide) (fun c_292 => ?_) (fun c_292 => ?_)
                            · skip
                              refine lv_aload_n hx hb dL_isLaid_298 rfl (lv_at hl 6 rfl) ?_
                              refine lv_iconst (v := 1) hx hb dL_isLaid_299 (by decide) ?_
                              refine lv_iload hx hb dL_isLaid_300 (lv_at hl 5 rfl) ?_
                              refine lv_iload hx hb dL_isLaid_302 (lv_at hl 4 rfl) ?_
                              refine lv_iload hx hb dL_isLaid_304 (lv_at hl 3 rfl) ?_
                              refine rCallLS (As := [.ref (gad G 0), .int 1, .int (nI x9), .int (nI y9), .int (nI v9)]) (rest := []) ⟨hx, hb, hml, hown, hts⟩ fx hw (d1_t2 l hlt G hG hF σ (pcv hA) ((nI x9)) ((nI y9)) ((nI v9)) (by rw [inB_y (show x9 < g by omega) (by omega), inB_y (show y9 < g by omega) (by omega)]; rfl) (rgt_n (by omega) (by omega) (by omega) (by omega))) (vx_cwSW 5 hts gL_isLaid_L_does rfl rfl rfl (by decide +kernel) ⟨Nat.le_of_ble_eq_true rfl, Nat.le_of_ble_eq_true rfl⟩) rfl hl.1 rfl (Nat.le_of_ble_eq_true rfl) dL_isLaid_306 ⟨Nat.le_trans (show _ ≤ 3 by omega) (Nat.le_of_ble_eq_true rfl), Nat.le_trans (show _ ≤ 20 by omega) (Nat.le_of_ble_eq_true rfl)⟩ (fun r_293 σ_294 H locs p_295 hw => ?_)
                              obtain ⟨er_293, eσ_294⟩ := p_295
                              have er_293 := er_293.symm; subst er_293
                              have eσ_294 := eσ_294.symm; subst eσ_294
                              refine lv_iload hx hb dL_isLaid_309 (lv_at hl 0 rfl) ?_
                              refine lv_icmp_ne (tgt := 318) hx hb dL_isLaid_311 (by decide) (fun c_296 => ?_) (fun c_296 => ?_)
                              · skip
                                exact absurd c_296 (by decide)
                              · skip
                                refine lv_iconst (v := 1) hx hb dL_isLaid_314 (by decide) ?_
                                refine lv_goto (tgt := 319) hx hb dL_isLaid_315 (by decide) ?_
                                exact rRetZw hx hb hr hw (by decide) (by exact ⟨rfl, po_same hA hGa⟩) hlocks dL_isLaid_319 (by omega) (by omega)
                            · skip
                              exact absurd c_292 (by decide)
                      · skip
                        exact absurd c_289 (by decide)
                    · skip
                      have c_288 : 0 < v9 := n0_lef (by omega) c_288
                      refine lv_iload hx hb dL_isLaid_200 (lv_at hl 1 rfl) ?_
                      refine lv_bipush (v := 101) hx hb dL_isLaid_202 (by decide) ?_
                      refine lv_rep0 (x := 101) (y := nI 101) rfl ?_
                      refine lv_icmp_ge (tgt := 211) hx hb dL_isLaid_204 (by decide) (fun c_297 => ?_) (fun c_297 => ?_)
                      · skip
                        have c_297 : 101 ≤ v9 := (nI_leI (by omega) (by omega)).mp c_297
                        refine lv_iconst (v := 0) hx hb dL_isLaid_211 (by decide) ?_
                        refine lv_istore (lv' := [(12, .int 0), (11, .int 1), (10, .int (nI v9)), (9, .int (nI y9)), (8, .int (nI x9)), (0, .ref (gad G 0)), (1, .ref (gad G 31)), (2, .ref (gad G 32)), (3, .ref (gad G 33)), (4, .int 1), (5, .int (nI o)), (6, .int (nI u)), (7, .int (nI v))]) hx hb dL_isLaid_212 hl (by decide) rfl (fun ls hl => ?_)
                        refine lv_iload hx hb dL_isLaid_214 (lv_at hl 1 rfl) ?_
                        refine lv_if_ne (tgt := 224) hx hb dL_isLaid_216 (by decide) (fun c_298 => ?_) (fun c_298 => ?_)
                        · skip
                          refine lv_iload hx hb dL_isLaid_224 (lv_at hl 0 rfl) ?_
                          refine lv_if_ne (tgt := 234) hx hb dL_isLaid_226 (by decide) (fun c_299 => ?_) (fun c_299 => ?_)
                          · skip
                            exact absurd c_299 (by decide)
                          · skip
                            refine lv_bipush (v := (-20)) hx hb dL_isLaid_229 (by decide) ?_
                            refine lv_goto (tgt := 268) hx hb dL_isLaid_231 (by decide) ?_
                            refine lv_istore (lv' := [(13, .int (-20)), (12, .int 0), (11, .int 1), (10, .int (nI v9)), (9, .int (nI y9)), (8, .int (nI x9)), (0, .ref (gad G 0)), (1, .ref (gad G 31)), (2, .ref (gad G 32)), (3, .ref (gad G 33)), (4, .int 1), (5, .int (nI o)), (6, .int (nI u)), (7, .int (nI v))]) hx hb dL_isLaid_268 hl (by decide) rfl (fun ls hl => ?_)
                            refine lv_iload hx hb dL_isLaid_270 (lv_at hl 2 rfl) ?_
                            refine lv_if_eq (tgt := 298) hx hb dL_isLaid_272 (by decide) (fun c_300 => ?_) (fun c_300 => ?_)
                            · skip
                              exact absurd c_300 (by decide)
                            · skip
                              refine lv_iload hx hb dL_isLaid_275 (lv_at hl 1 rfl) ?_
                              refine lv_if_eq (tgt := 298) hx hb dL_isLaid_277 (by decide) (fun c_301 => ?_) (fun c_301 => ?_)
                              · skip
                                refine lv_aload_n hx hb dL_isLaid_298 rfl (lv_at hl 6 rfl) ?_
                                refine lv_iconst (v := 1) hx hb dL_isLaid_299 (by decide) ?_
                                refine lv_iload hx hb dL_isLaid_300 (lv_at hl 5 rfl) ?_
                                refine lv_iload hx hb dL_isLaid_302 (lv_at hl 4 rfl) ?_
                                refine lv_iload hx hb dL_isLaid_304 (lv_at hl 3 rfl) ?_
                                refine rCallLS (As := [.ref (gad G 0), .int 1, .int (nI x9), .int (nI y9), .int (nI v9)]) (rest := []) ⟨hx, hb, hml, hown, hts⟩ fx hw (d1_t2 l hlt G hG hF σ (pcv hA) ((nI x9)) ((nI y9)) ((nI v9)) (by rw [inB_y (show x9 < g by omega) (by omega), inB_y (show y9 < g by omega) (by omega)]; rfl) (rgt_n (by omega) (by omega) (by omega) (by omega))) (vx_cwSW 5 hts gL_isLaid_L_does rfl rfl rfl (by decide +kernel) ⟨Nat.le_of_ble_eq_true rfl, Nat.le_of_ble_eq_true rfl⟩) rfl hl.1 rfl (Nat.le_of_ble_eq_true rfl) dL_isLaid_306 ⟨Nat.le_trans (show _ ≤ 3 by omega) (Nat.le_of_ble_eq_true rfl), Nat.le_trans (show _ ≤ 20 by omega) (Nat.le_of_ble_eq_true rfl)⟩ (fun r_302 σ_303 H locs p_304 hw => ?_)
                                obtain ⟨er_302, eσ_303⟩ := p_304
                                have er_302 := er_302.symm; subst er_302
                                have eσ_303 := eσ_303.symm; subst eσ_303
                                refine lv_iload hx hb dL_isLaid_309 (lv_at hl 0 rfl) ?_
                                refine lv_icmp_ne (tgt := 318) hx hb dL_isLaid_311 (by decide) (fun c_305 => ?_) (fun c_305 => ?_)
                                · skip
                                  exact absurd c_305 (by decide)
                                · skip
                                  refine lv_iconst (v := 1) hx hb dL_isLaid_314 (by decide) ?_
                                  refine lv_goto (tgt := 319) hx hb dL_isLaid_315 (by decide) ?_
                                  exact rRetZw hx hb hr hw (by decide) (by exact ⟨rfl, po_same hA hGa⟩) hlocks dL_isLaid_319 (by omega) (by omega)
                              · skip
                                exact absurd c_301 (by decide)
                        · skip
                          exact absurd c_298 (by decide)
                      · skip
                        have c_297 : ¬ 101 ≤ v9 := fun h9 => c_297 ((nI_leI (by omega) (by omega)).mpr h9)
                        omega
        · skip
          have c_246 : (v % 3) = 0 := n0_nef (by omega) c_246
          refine lv_iconst (v := 0) hx hb dL_isLaid_134 (by decide) ?_
          refine lv_goto (tgt := 146) hx hb dL_isLaid_135 (by decide) ?_
          refine lv_istore (lv' := [(9, .int 0), (8, .int (nI x9)), (0, .ref (gad G 0)), (1, .ref (gad G 31)), (2, .ref (gad G 32)), (3, .ref (gad G 33)), (4, .int 1), (5, .int (nI o)), (6, .int (nI u)), (7, .int (nI v))]) hx hb dL_isLaid_146 hl (by decide) rfl (fun ls hl => ?_)
          have q_306 : 0 = (nI y9) := by first | (rw [hy9, if_pos (by omega)]; rfl) | rw [hy9, if_neg (by omega)]
          have hl : lv_has ls 14 [(9, .int (nI y9)), (8, .int (nI x9)), (0, .ref (gad G 0)), (1, .ref (gad G 31)), (2, .ref (gad G 32)), (3, .ref (gad G 33)), (4, .int 1), (5, .int (nI o)), (6, .int (nI u)), (7, .int (nI v))] := (lv_c (lv_atq hl 0 rfl q_306) (lv_c (lv_at hl 1 rfl) (lv_c (lv_at hl 2 rfl) (lv_c (lv_at hl 3 rfl) (lv_c (lv_at hl 4 rfl) (lv_c (lv_at hl 5 rfl) (lv_c (lv_at hl 6 rfl) (lv_c (lv_at hl 7 rfl) (lv_c (lv_at hl 8 rfl) (lv_c (lv_at hl 9 rfl) (lv_c0 hl)))))))))))
          refine lv_iload hx hb dL_isLaid_148 (lv_at hl 9 rfl) ?_
          refine lv_bipush (v := 103) hx hb dL_isLaid_150 (by decide) ?_
          refine lv_rep0 (x := 103) (y := nI 103) rfl ?_
          refine lv_irem hx hb dL_isLaid_152 (nI_ne0 (by omega) (by omega)) ?_
          refine lv_rep0 (y := nI (v % 103)) (pk_rem (by omega) (by omega) (by omega)) ?_
          refine lv_istore (lv' := [(10, .int (nI (v % 103))), (9, .int (nI y9)), (8, .int (nI x9)), (0, .ref (gad G 0)), (1, .ref (gad G 31)), (2, .ref (gad G 32)), (3, .ref (gad G 33)), (4, .int 1), (5, .int (nI o)), (6, .int (nI u)), (7, .int (nI v))]) hx hb dL_isLaid_153 hl (by decide) rfl (fun ls hl => ?_)
          have q_307 : (nI (v % 103)) = (nI v9) := by rw [hv9]
          have hl : lv_has ls 14 [(10, .int (nI v9)), (9, .int (nI y9)), (8, .int (nI x9)), (0, .ref (gad G 0)), (1, .ref (gad G 31)), (2, .ref (gad G 32)), (3, .ref (gad G 33)), (4, .int 1), (5, .int (nI o)), (6, .int (nI u)), (7, .int (nI v))] := (lv_c (lv_atq hl 0 rfl q_307) (lv_c (lv_at hl 1 rfl) (lv_c (lv_at hl 2 rfl) (lv_c (lv_at hl 3 rfl) (lv_c (lv_at hl 4 rfl) (lv_c (lv_at hl 5 rfl) (lv_c (lv_at hl 6 rfl) (lv_c (lv_at hl 7 rfl) (lv_c (lv_at hl 8 rfl) (lv_c (lv_at hl 9 rfl) (lv_c (lv_at hl 10 rfl) (lv_c0 hl))))))))))))
          refine lv_iload hx hb dL_isLaid_155 (lv_at hl 2 rfl) ?_
          refine lv_aload_n hx hb dL_isLaid_157 rfl (lv_at hl 6 rfl) ?_
          refine lv_iconst (v := 0) hx hb dL_isLaid_158 (by decide) ?_
          refine lv_rep0 (x := 0) (y := nI 0) rfl ?_
          refine rAld hx hb fx hw 33 (hF.1 33 (by decide)) hF.2.1 (fun _ => rfl) 0 rfl (by omega) (by decide) dL_isLaid_159 ?_
          refine lv_rep0 (x := (σ 33 0)) (y := (nI g)) (pg hA).1 ?_
          refine lv_icmp_ge (tgt := 175) hx hb dL_isLaid_160 (by decide) (fun c_308 => ?_) (fun c_308 => ?_)
          · skip
            have c_308 : g ≤ x9 := (nI_leI (by omega) (by omega)).mp c_308
            omega
          · skip
            have c_308 : ¬ g ≤ x9 := fun h9 => c_308 ((nI_leI (by omega) (by omega)).mpr h9)
            refine lv_iload hx hb dL_isLaid_163 (lv_at hl 1 rfl) ?_
            refine lv_aload_n hx hb dL_isLaid_165 rfl (lv_at hl 6 rfl) ?_
            refine lv_iconst (v := 0) hx hb dL_isLaid_166 (by decide) ?_
            refine lv_rep0 (x := 0) (y := nI 0) rfl ?_
            refine rAld hx hb fx hw 33 (hF.1 33 (by decide)) hF.2.1 (fun _ => rfl) 0 rfl (by omega) (by decide) dL_isLaid_167 ?_
            refine lv_rep0 (x := (σ 33 0)) (y := (nI g)) (pg hA).1 ?_
            refine lv_icmp_ge (tgt := 175) hx hb dL_isLaid_168 (by decide) (fun c_309 => ?_) (fun c_309 => ?_)
            · skip
              have c_309 : g ≤ y9 := (nI_leI (by omega) (by omega)).mp c_309
              omega
            · skip
              have c_309 : ¬ g ≤ y9 := fun h9 => c_309 ((nI_leI (by omega) (by omega)).mpr h9)
              refine lv_iconst (v := 1) hx hb dL_isLaid_171 (by decide) ?_
              refine lv_goto (tgt := 176) hx hb dL_isLaid_172 (by decide) ?_
              refine lv_istore (lv' := [(11, .int 1), (10, .int (nI v9)), (9, .int (nI y9)), (8, .int (nI x9)), (0, .ref (gad G 0)), (1, .ref (gad G 31)), (2, .ref (gad G 32)), (3, .ref (gad G 33)), (4, .int 1), (5, .int (nI o)), (6, .int (nI u)), (7, .int (nI v))]) hx hb dL_isLaid_176 hl (by decide) rfl (fun ls hl => ?_)
              refine lv_iload hx hb dL_isLaid_178 (lv_at hl 2 rfl) ?_
              refine lv_iload hx hb dL_isLaid_180 (lv_at hl 3 rfl) ?_
              refine lv_icmp_gt (tgt := 195) hx hb dL_isLaid_182 (by decide) (fun c_310 => ?_) (fun c_310 => ?_)
              · skip
                have c_310 : x9 < y9 := (nI_ltI (by omega) (by omega)).mp c_310
                refine lv_iload hx hb dL_isLaid_195 (lv_at hl 1 rfl) ?_
                refine lv_if_le (tgt := 211) hx hb dL_isLaid_197 (by decide) (fun c_311 => ?_) (fun c_311 => ?_)
                · skip
                  have c_311 : v9 = 0 := n0_let (by omega) c_311
                  refine lv_iconst (v := 0) hx hb dL_isLaid_211 (by decide) ?_
                  refine lv_istore (lv' := [(12, .int 0), (11, .int 1), (10, .int (nI v9)), (9, .int (nI y9)), (8, .int (nI x9)), (0, .ref (gad G 0)), (1, .ref (gad G 31)), (2, .ref (gad G 32)), (3, .ref (gad G 33)), (4, .int 1), (5, .int (nI o)), (6, .int (nI u)), (7, .int (nI v))]) hx hb dL_isLaid_212 hl (by decide) rfl (fun ls hl => ?_)
                  refine lv_iload hx hb dL_isLaid_214 (lv_at hl 1 rfl) ?_
                  refine lv_if_ne (tgt := 224) hx hb dL_isLaid_216 (by decide) (fun c_312 => ?_) (fun c_312 => ?_)
                  · skip
                    refine lv_iload hx hb dL_isLaid_224 (lv_at hl 0 rfl) ?_
                    refine lv_if_ne (tgt := 234) hx hb dL_isLaid_226 (by decide) (fun c_313 => ?_) (fun c_313 => ?_)
                    · skip
                      exact absurd c_313 (by decide)
                    · skip
                      refine lv_bipush (v := (-20)) hx hb dL_isLaid_229 (by decide) ?_
                      refine lv_goto (tgt := 268) hx hb dL_isLaid_231 (by decide) ?_
                      refine lv_istore (lv' := [(13, .int (-20)), (12, .int 0), (11, .int 1), (10, .int (nI v9)), (9, .int (nI y9)), (8, .int (nI x9)), (0, .ref (gad G 0)), (1, .ref (gad G 31)), (2, .ref (gad G 32)), (3, .ref (gad G 33)), (4, .int 1), (5, .int (nI o)), (6, .int (nI u)), (7, .int (nI v))]) hx hb dL_isLaid_268 hl (by decide) rfl (fun ls hl => ?_)
                      refine lv_iload hx hb dL_isLaid_270 (lv_at hl 2 rfl) ?_
                      refine lv_if_eq (tgt := 298) hx hb dL_isLaid_272 (by decide) (fun c_314 => ?_) (fun c_314 => ?_)
                      · skip
                        exact absurd c_314 (by decide)
                      · skip
                        refine lv_iload hx hb dL_isLaid_275 (lv_at hl 1 rfl) ?_
                        refine lv_if_eq (tgt := 298) hx hb dL_isLaid_277 (by decide) (fun c_315 => ?_) (fun c_315 => ?_)
                        · skip
                          refine lv_aload_n hx hb dL_isLaid_298 rfl (lv_at hl 6 rfl) ?_
                          refine lv_iconst (v := 1) hx hb dL_isLaid_299 (by decide) ?_
                          refine lv_iload hx hb dL_isLaid_300 (lv_at hl 5 rfl) ?_
                          refine lv_iload hx hb dL_isLaid_302 (lv_at hl 4 rfl) ?_
                          refine lv_iload hx hb dL_isLaid_304 (lv_at hl 3 rfl) ?_
                          refine rCallLS (As := [.ref (gad G 0), .int 1, .int (nI x9), .int (nI y9), .int (nI v9)]) (rest := []) ⟨hx, hb, hml, hown, hts⟩ fx hw (d1_t2 l hlt G hG hF σ (pcv hA) ((nI x9)) ((nI y9)) ((nI v9)) (by rw [inB_y (show x9 < g by omega) (by omega), inB_y (show y9 < g by omega) (by omega)]; rfl) (rgt_n (by omega) (by omega) (by omega) (by omega))) (vx_cwSW 5 hts gL_isLaid_L_does rfl rfl rfl (by decide +kernel) ⟨Nat.le_of_ble_eq_true rfl, Nat.le_of_ble_eq_true rfl⟩) rfl hl.1 rfl (Nat.le_of_ble_eq_true rfl) dL_isLaid_306 ⟨Nat.le_trans (show _ ≤ 3 by omega) (Nat.le_of_ble_eq_true rfl), Nat.le_trans (show _ ≤ 20 by omega) (Nat.le_of_ble_eq_true rfl)⟩ (fun r_316 σ_317 H locs p_318 hw => ?_)
                          obtain ⟨er_316, eσ_317⟩ := p_318
                          have er_316 := er_316.symm; subst er_316
                          have eσ_317 := eσ_317.symm; subst eσ_317
                          refine lv_iload hx hb dL_isLaid_309 (lv_at hl 0 rfl) ?_
                          refine lv_icmp_ne (tgt := 318) hx hb dL_isLaid_311 (by decide) (fun c_319 => ?_) (fun c_319 => ?_)
                          · skip
                            exact absurd c_319 (by decide)
                          · skip
                            refine lv_iconst (v := 1) hx hb dL_isLaid_314 (by decide) ?_
                            refine lv_goto (tgt := 319) hx hb dL_isLaid_315 (by decide) ?_
                            exact rRetZw hx hb hr hw (by decide) (by exact ⟨rfl, po_same hA hGa⟩) hlocks dL_isLaid_319 (by omega) (by omega)
                        · skip
                          exact absurd c_315 (by decide)
                  · skip
                    exact absurd c_312 (by decide)
                · skip
                  have c_311 : 0 < v9 := n0_lef (by omega) c_311
                  refine lv_iload hx hb dL_isLaid_200 (lv_at hl 1 rfl) ?_
                  refine lv_bipush (v := 101) hx hb dL_isLaid_202 (by decide) ?_
                  refine lv_rep0 (x := 101) (y := nI 101) rfl ?_
                  refine lv_icmp_ge (tgt := 211) hx hb dL_isLaid_204 (by decide) (fun c_320 => ?_) (fun c_320 => ?_)
                  · skip
                    have c_320 : 101 ≤ v9 := (nI_leI (by omega) (by omega)).mp c_320
                    refine lv_iconst (v := 0) hx hb dL_isLaid_211 (by decide) ?_
                    refine lv_istore (lv' := [(12, .int 0), (11, .int 1), (10, .int (nI v9)), (9, .int (nI y9)), (8, .int (nI x9)), (0, .ref (gad G 0)), (1, .ref (gad G 31)), (2, .ref (gad G 32)), (3, .ref (gad G 33)), (4, .int 1), (5, .int (nI o)), (6, .int (nI u)), (7, .int (nI v))]) hx hb dL_isLaid_212 hl (by decide) rfl (fun ls hl => ?_)
                    refine lv_iload hx hb dL_isLaid_214 (lv_at hl 1 rfl) ?_
                    refine lv_if_ne (tgt := 224) hx hb dL_isLaid_216 (by decide) (fun c_321 => ?_) (fun c_321 => ?_)
                    · skip
                      refine lv_iload hx hb dL_isLaid_224 (lv_at hl 0 rfl) ?_
                      refine lv_if_ne (tgt := 234) hx hb dL_isLaid_226 (by decide) (fun c_322 => ?_) (fun c_322 => ?_)
                      · skip
                        exact absurd c_322 (by decide)
                      · skip
                        refine lv_bipush (v := (-20)) hx hb dL_isLaid_229 (by decide) ?_
                        refine lv_goto (tgt := 268) hx hb dL_isLaid_231 (by decide) ?_
                        refine lv_istore (lv' := [(13, .int (-20)), (12, .int 0), (11, .int 1), (10, .int (nI v9)), (9, .int (nI y9)), (8, .int (nI x9)), (0, .ref (gad G 0)), (1, .ref (gad G 31)), (2, .ref (gad G 32)), (3, .ref (gad G 33)), (4, .int 1), (5, .int (nI o)), (6, .int (nI u)), (7, .int (nI v))]) hx hb dL_isLaid_268 hl (by decide) rfl (fun ls hl => ?_)
                        refine lv_iload hx hb dL_isLaid_270 (lv_at hl 2 rfl) ?_
                        refine lv_if_eq (tgt := 298) hx hb dL_isLaid_272 (by decide) (fun c_323 => ?_) (fun c_323 => ?_)
                        · skip
                          exact absurd c_323 (by decide)
                        · skip
                          refine lv_iload hx hb dL_isLaid_275 (lv_at hl 1 rfl) ?_
                          refine lv_if_eq (tgt := 298) hx hb dL_isLaid_277 (by decide) (fun c_324 => ?_) (fun c_324 => ?_)
                          · skip
                            refine lv_aload_n hx hb dL_isLaid_298 rfl (lv_at hl 6 rfl) ?_
                            refine lv_iconst (v := 1) hx hb dL_isLaid_299 (by decide) ?_
                            refine lv_iload hx hb dL_isLaid_300 (lv_at hl 5 rfl) ?_
                            refine lv_iload hx hb dL_isLaid_302 (lv_at hl 4 rfl) ?_
                            refine lv_iload hx hb dL_isLaid_304 (lv_at hl 3 rfl) ?_
                            refine rCallLS (As := [.ref (gad G 0), .int 1, .int (nI x9), .int (nI y9), .int (nI v9)]) (rest := []) ⟨hx, hb, hml, hown, hts⟩ fx hw (d1_t2 l hlt G hG hF σ (pcv hA) ((nI x9)) ((nI y9)) ((nI v9)) (by rw [inB_y (show x9 < g by omega) (by omega), inB_y (show y9 < g by omega) (by omega)]; rfl) (rgt_n (by omega) (by omega) (by omega) (by omega))) (vx_cwSW 5 hts gL_isLaid_L_does rfl rfl rfl (by decide +kernel) ⟨Nat.le_of_ble_eq_true rfl, Nat.le_of_ble_eq_true rfl⟩) rfl hl.1 rfl (Nat.le_of_ble_eq_true rfl) dL_isLaid_306 ⟨Nat.le_trans (show _ ≤ 3 by omega) (Nat.le_of_ble_eq_true rfl), Nat.le_trans (show _ ≤ 20 by omega) (Nat.le_of_ble_eq_true rfl)⟩ (fun r_325 σ_326 H locs p_327 hw => ?_)
                            obtain ⟨er_325, eσ_326⟩ := p_327
                            have er_325 := er_325.symm; subst er_325
                            have eσ_326 := eσ_326.symm; subst eσ_326
                            refine lv_iload hx hb dL_isLaid_309 (lv_at hl 0 rfl) ?_
                            refine lv_icmp_ne (tgt := 318) hx hb dL_isLaid_311 (by decide) (fun c_328 => ?_) (fun c_328 => ?_)
                            · skip
                              exact absurd c_328 (by decide)
                            · skip
                              refine lv_iconst (v := 1) hx hb dL_isLaid_314 (by decide) ?_
                              refine lv_goto (tgt := 319) hx hb dL_isLaid_315 (by decide) ?_
                              exact rRetZw hx hb hr hw (by decide) (by exact ⟨rfl, po_same hA hGa⟩) hlocks dL_isLaid_319 (by omega) (by omega)
                          · skip
                            exact absurd c_324 (by decide)
                    · skip
                      exact absurd c_321 (by decide)
                  · skip
                    have c_320 : ¬ 101 ≤ v9 := fun h9 => c_320 ((nI_leI (by omega) (by omega)).mpr h9)
                    omega
              · skip
                have c_310 : ¬ x9 < y9 := fun h9 => c_310 ((nI_ltI (by omega) (by omega)).mpr h9)
                refine lv_iload hx hb dL_isLaid_185 (lv_at hl 2 rfl) ?_
                refine lv_if_ne (tgt := 211) hx hb dL_isLaid_187 (by decide) (fun c_329 => ?_) (fun c_329 => ?_)
                · skip
                  have c_329 : ¬ y9 = 0 := n0_net (by omega) c_329
                  refine lv_iconst (v := 0) hx hb dL_isLaid_211 (by decide) ?_
                  refine lv_istore (lv' := [(12, .int 0), (11, .int 1), (10, .int (nI v9)), (9, .int (nI y9)), (8, .int (nI x9)), (0, .ref (gad G 0)), (1, .ref (gad G 31)), (2, .ref (gad G 32)), (3, .ref (gad G 33)), (4, .int 1), (5, .int (nI o)), (6, .int (nI u)), (7, .int (nI v))]) hx hb dL_isLaid_212 hl (by decide) rfl (fun ls hl => ?_)
                  refine lv_iload hx hb dL_isLaid_214 (lv_at hl 1 rfl) ?_
                  refine lv_if_ne (tgt := 224) hx hb dL_isLaid_216 (by decide) (fun c_330 => ?_) (fun c_330 => ?_)
                  · skip
                    refine lv_iload hx hb dL_isLaid_224 (lv_at hl 0 rfl) ?_
                    refine lv_if_ne (tgt := 234) hx hb dL_isLaid_226 (by decide) (fun c_331 => ?_) (fun c_331 => ?_)
                    · skip
                      exact absurd c_331 (by decide)
                    · skip
                      refine lv_bipush (v := (-20)) hx hb dL_isLaid_229 (by decide) ?_
                      refine lv_goto (tgt := 268) hx hb dL_isLaid_231 (by decide) ?_
                      refine lv_istore (lv' := [(13, .int (-20)), (12, .int 0), (11, .int 1), (10, .int (nI v9)), (9, .int (nI y9)), (8, .int (nI x9)), (0, .ref (gad G 0)), (1, .ref (gad G 31)), (2, .ref (gad G 32)), (3, .ref (gad G 33)), (4, .int 1), (5, .int (nI o)), (6, .int (nI u)), (7, .int (nI v))]) hx hb dL_isLaid_268 hl (by decide) rfl (fun ls hl => ?_)
                      refine lv_iload hx hb dL_isLaid_270 (lv_at hl 2 rfl) ?_
                      refine lv_if_eq (tgt := 298) hx hb dL_isLaid_272 (by decide) (fun c_332 => ?_) (fun c_332 => ?_)
                      · skip
                        exact absurd c_332 (by decide)
                      · skip
                        refine lv_iload hx hb dL_isLaid_275 (lv_at hl 1 rfl) ?_
                        refine lv_if_eq (tgt := 298) hx hb dL_isLaid_277 (by decide) (fun c_333 => ?_) (fun c_333 => ?_)
                        · skip
                          refine lv_aload_n hx hb dL_isLaid_298 rfl (lv_at hl 6 rfl) ?_
                          refine lv_iconst (v := 1) hx hb dL_isLaid_299 (by decide) ?_
                          refine lv_iload hx hb dL_isLaid_300 (lv_at hl 5 rfl) ?_
                          refine lv_iload hx hb dL_isLaid_302 (lv_at hl 4 rfl) ?_
                          refine lv_iload hx hb dL_isLaid_304 (lv_at hl 3 rfl) ?_
                          refine rCallLS (As := [.ref (gad G 0), .int 1, .int (nI x9), .int (nI y9), .int (nI v9)]) (rest := []) ⟨hx, hb, hml, hown, hts⟩ fx hw (d1_t2 l hlt G hG hF σ (pcv hA) ((nI x9)) ((nI y9)) ((nI v9)) (by rw [inB_y (show x9 < g by omega) (by omega), inB_y (show y9 < g by omega) (by omega)]; rfl) (rgt_n (by omega) (by omega) (by omega) (by omega))) (vx_cwSW 5 hts gL_isLaid_L_does rfl rfl rfl (by decide +kernel) ⟨Nat.le_of_ble_eq_true rfl, Nat.le_of_ble_eq_true rfl⟩) rfl hl.1 rfl (Nat.le_of_ble_eq_true rfl) dL_isLaid_306 ⟨Nat.le_trans (show _ ≤ 3 by omega) (Nat.le_of_ble_eq_true rfl), Nat.le_trans (show _ ≤ 20 by omega) (Nat.le_of_ble_eq_true rfl)⟩ (fun r_334 σ_335 H locs p_336 hw => ?_)
                          obtain ⟨er_334, eσ_335⟩ := p_336
                          have er_334 := er_334.symm; subst er_334
                          have eσ_335 := eσ_335.symm; subst eσ_335
                          refine lv_iload hx hb dL_isLaid_309 (lv_at hl 0 rfl) ?_
                          refine lv_icmp_ne (tgt := 318) hx hb dL_isLaid_311 (by decide) (fun c_337 => ?_) (fun c_337 => ?_)
                          · skip
                            exact absurd c_337 (by decide)
                          · skip
                            refine lv_iconst (v := 1) hx hb dL_isLaid_314 (by decide) ?_
                            refine lv_goto (tgt := 319) hx hb dL_isLaid_315 (by decide) ?_
                            exact rRetZw hx hb hr hw (by decide) (by exact ⟨rfl, po_same hA hGa⟩) hlocks dL_isLaid_319 (by omega) (by omega)
                        · skip
                          exact absurd c_333 (by decide)
                  · skip
                    exact absurd c_330 (by decide)
                · skip
                  have c_329 : y9 = 0 := n0_nef (by omega) c_329
                  refine lv_iload hx hb dL_isLaid_190 (lv_at hl 3 rfl) ?_
                  refine lv_if_le (tgt := 211) hx hb dL_isLaid_192 (by decide) (fun c_338 => ?_) (fun c_338 => ?_)
                  · skip
                    have c_338 : x9 = 0 := n0_let (by omega) c_338
                    refine lv_iconst (v := 0) hx hb dL_isLaid_211 (by decide) ?_
                    refine lv_istore (lv' := [(12, .int 0), (11, .int 1), (10, .int (nI v9)), (9, .int (nI y9)), (8, .int (nI x9)), (0, .ref (gad G 0)), (1, .ref (gad G 31)), (2, .ref (gad G 32)), (3, .ref (gad G 33)), (4, .int 1), (5, .int (nI o)), (6, .int (nI u)), (7, .int (nI v))]) hx hb dL_isLaid_212 hl (by decide) rfl (fun ls hl => ?_)
                    refine lv_iload hx hb dL_isLaid_214 (lv_at hl 1 rfl) ?_
                    refine lv_if_ne (tgt := 224) hx hb dL_isLaid_216 (by decide) (fun c_339 => ?_) (fun c_339 => ?_)
                    · skip
                      refine lv_iload hx hb dL_isLaid_224 (lv_at hl 0 rfl) ?_
                      refine lv_if_ne (tgt := 234) hx hb dL_isLaid_226 (by decide) (fun c_340 => ?_) (fun c_340 => ?_)
                      · skip
                        exact absurd c_340 (by decide)
                      · skip
                        refine lv_bipush (v := (-20)) hx hb dL_isLaid_229 (by decide) ?_
                        refine lv_goto (tgt := 268) hx hb dL_isLaid_231 (by decide) ?_
                        refine lv_istore (lv' := [(13, .int (-20)), (12, .int 0), (11, .int 1), (10, .int (nI v9)), (9, .int (nI y9)), (8, .int (nI x9)), (0, .ref (gad G 0)), (1, .ref (gad G 31)), (2, .ref (gad G 32)), (3, .ref (gad G 33)), (4, .int 1), (5, .int (nI o)), (6, .int (nI u)), (7, .int (nI v))]) hx hb dL_isLaid_268 hl (by decide) rfl (fun ls hl => ?_)
                        refine lv_iload hx hb dL_isLaid_270 (lv_at hl 2 rfl) ?_
                        refine lv_if_eq (tgt := 298) hx hb dL_isLaid_272 (by decide) (fun c_341 => ?_) (fun c_341 => ?_)
                        · skip
                          exact absurd c_341 (by decide)
                        · skip
                          refine lv_iload hx hb dL_isLaid_275 (lv_at hl 1 rfl) ?_
                          refine lv_if_eq (tgt := 298) hx hb dL_isLaid_277 (by decide) (fun c_342 => ?_) (fun c_342 => ?_)
                          · skip
                            refine lv_aload_n hx hb dL_isLaid_298 rfl (lv_at hl 6 rfl) ?_
                            refine lv_iconst (v := 1) hx hb dL_isLaid_299 (by decide) ?_
                            refine lv_iload hx hb dL_isLaid_300 (lv_at hl 5 rfl) ?_
                            refine lv_iload hx hb dL_isLaid_302 (lv_at hl 4 rfl) ?_
                            refine lv_iload hx hb dL_isLaid_304 (lv_at hl 3 rfl) ?_
                            refine rCallLS (As := [.ref (gad G 0), .int 1, .int (nI x9), .int (nI y9), .int (nI v9)]) (rest := []) ⟨hx, hb, hml, hown, hts⟩ fx hw (d1_t2 l hlt G hG hF σ (pcv hA) ((nI x9)) ((nI y9)) ((nI v9)) (by rw [inB_y (show x9 < g by omega) (by omega), inB_y (show y9 < g by omega) (by omega)]; rfl) (rgt_n (by omega) (by omega) (by omega) (by omega))) (vx_cwSW 5 hts gL_isLaid_L_does rfl rfl rfl (by decide +kernel) ⟨Nat.le_of_ble_eq_true rfl, Nat.le_of_ble_eq_true rfl⟩) rfl hl.1 rfl (Nat.le_of_ble_eq_true rfl) dL_isLaid_306 ⟨Nat.le_trans (show _ ≤ 3 by omega) (Nat.le_of_ble_eq_true rfl), Nat.le_trans (show _ ≤ 20 by omega) (Nat.le_of_ble_eq_true rfl)⟩ (fun r_343 σ_344 H locs p_345 hw => ?_)
                            obtain ⟨er_343, eσ_344⟩ := p_345
                            have er_343 := er_343.symm; subst er_343
                            have eσ_344 := eσ_344.symm; subst eσ_344
                            refine lv_iload hx hb dL_isLaid_309 (lv_at hl 0 rfl) ?_
                            refine lv_icmp_ne (tgt := 318) hx hb dL_isLaid_311 (by decide) (fun c_346 => ?_) (fun c_346 => ?_)
                            · skip
                              exact absurd c_346 (by decide)
                            · skip
                              refine lv_iconst (v := 1) hx hb dL_isLaid_314 (by decide) ?_
                              refine lv_goto (tgt := 319) hx hb dL_isLaid_315 (by decide) ?_
                              exact rRetZw hx hb hr hw (by decide) (by exact ⟨rfl, po_same hA hGa⟩) hlocks dL_isLaid_319 (by omega) (by omega)
                          · skip
                            exact absurd c_342 (by decide)
                    · skip
                      exact absurd c_339 (by decide)
                  · skip
                    have c_338 : 0 < x9 := n0_lef (by omega) c_338
                    refine lv_iload hx hb dL_isLaid_195 (lv_at hl 1 rfl) ?_
                    refine lv_if_le (tgt := 211) hx hb dL_isLaid_197 (by decide) (fun c_347 => ?_) (fun c_347 => ?_)
                    · skip
                      have c_347 : v9 = 0 := n0_let (by omega) c_347
                      refine lv_iconst (v := 0) hx hb dL_isLaid_211 (by decide) ?_
                      refine lv_istore (lv' := [(12, .int 0), (11, .int 1), (10, .int (nI v9)), (9, .int (nI y9)), (8, .int (nI x9)), (0, .ref (gad G 0)), (1, .ref (gad G 31)), (2, .ref (gad G 32)), (3, .ref (gad G 33)), (4, .int 1), (5, .int (nI o)), (6, .int (nI u)), (7, .int (nI v))]) hx hb dL_isLaid_212 hl (by decide) rfl (fun ls hl => ?_)
                      refine lv_iload hx hb dL_isLaid_214 (lv_at hl 1 rfl) ?_
                      refine lv_if_ne (tgt := 224) hx hb dL_isLaid_216 (by decide) (fun c_348 => ?_) (fun c_348 => ?_)
                      · skip
                        refine lv_iload hx hb dL_isLaid_224 (lv_at hl 0 rfl) ?_
                        refine lv_if_ne (tgt := 234) hx hb dL_isLaid_226 (by decide) (fun c_349 => ?_) (fun c_349 => ?_)
                        · skip
                          exact absurd c_349 (by decide)
                        · skip
                          refine lv_bipush (v := (-20)) hx hb dL_isLaid_229 (by decide) ?_
                          refine lv_goto (tgt := 268) hx hb dL_isLaid_231 (by decide) ?_
                          refine lv_istore (lv' := [(13, .int (-20)), (12, .int 0), (11, .int 1), (10, .int (nI v9)), (9, .int (nI y9)), (8, .int (nI x9)), (0, .ref (gad G 0)), (1, .ref (gad G 31)), (2, .ref (gad G 32)), (3, .ref (gad G 33)), (4, .int 1), (5, .int (nI o)), (6, .int (nI u)), (7, .int (nI v))]) hx hb dL_isLaid_268 hl (by decide) rfl (fun ls hl => ?_)
                          refine lv_iload hx hb dL_isLaid_270 (lv_at hl 2 rfl) ?_
                          refine lv_if_eq (tgt := 298) hx hb dL_isLaid_272 (by decide) (fun c_350 => ?_) (fun c_350 => ?_)
                          · skip
                            exact absurd c_350 (by decide)
                          · skip
                            refine lv_iload hx hb dL_isLaid_275 (lv_at hl 1 rfl) ?_
                            refine lv_if_eq (tgt := 298) hx hb dL_isLaid_277 (by decide) (fun c_351 => ?_) (fun c_351 => ?_)
                            · skip
                              refine lv_aload_n hx hb dL_isLaid_298 rfl (lv_at hl 6 rfl) ?_
                              refine lv_iconst (v := 1) hx hb dL_isLaid_299 (by decide) ?_
                              refine lv_iload hx hb dL_isLaid_300 (lv_at hl 5 rfl) ?_
                              refine lv_iload hx hb dL_isLaid_302 (lv_at hl 4 rfl) ?_
                              refine lv_iload hx hb dL_isLaid_304 (lv_at hl 3 rfl) ?_
                              refine rCallLS (As := [.ref (gad G 0), .int 1, .int (nI x9), .int (nI y9), .int (nI v9)]) (rest := []) ⟨hx, hb, hml, hown, hts⟩ fx hw (d1_t2 l hlt G hG hF σ (pcv hA) ((nI x9)) ((nI y9)) ((nI v9)) (by rw [inB_y (show x9 < g by omega) (by omega), inB_y (show y9 < g by omega) (by omega)]; rfl) (rgt_n (by omega) (by omega) (by omega) (by omega))) (vx_cwSW 5 hts gL_isLaid_L_does rfl rfl rfl (by decide +kernel) ⟨Nat.le_of_ble_eq_true rfl, Nat.le_of_ble_eq_true rfl⟩) rfl hl.1 rfl (Nat.le_of_ble_eq_true rfl) dL_isLaid_306 ⟨Nat.le_trans (show _ ≤ 3 by omega) (Nat.le_of_ble_eq_true rfl), Nat.le_trans (show _ ≤ 20 by omega) (Nat.le_of_ble_eq_true rfl)⟩ (fun r_352 σ_353 H locs p_354 hw => ?_)
                              obtain ⟨er_352, eσ_353⟩ := p_354
                              have er_352 := er_352.symm; subst er_352
                              have eσ_353 := eσ_353.symm; subst eσ_353
                              refine lv_iload hx hb dL_isLaid_309 (lv_at hl 0 rfl) ?_
                              refine lv_icmp_ne (tgt := 318) hx hb dL_isLaid_311 (by decide) (fun c_355 => ?_) (fun c_355 => ?_)
                              · skip
                                exact absurd c_355 (by decide)
                              · skip
                                refine lv_iconst (v := 1) hx hb dL_isLaid_314 (by decide) ?_
                                refine lv_goto (tgt := 319) hx hb dL_isLaid_315 (by decide) ?_
                                exact rRetZw hx hb hr hw (by decide) (by exact ⟨rfl, po_same hA hGa⟩) hlocks dL_isLaid_319 (by omega) (by omega)
                            · skip
                              exact absurd c_351 (by decide)
                      · skip
                        exact absurd c_348 (by decide)
                    · skip
                      have c_347 : 0 < v9 := n0_lef (by omega) c_347
                      refine lv_iload hx hb dL_isLaid_200 (lv_at hl 1 rfl) ?_
                      refine lv_bipush (v := 101) hx hb dL_isLaid_202 (by decide) ?_
                      refine lv_rep0 (x := 101) (y := nI 101) rfl ?_
                      refine lv_icmp_ge (tgt := 211) hx hb dL_isLaid_204 (by decide) (fun c_356 => ?_) (fun c_356 => ?_)
                      · skip
                        have c_356 : 101 ≤ v9 := (nI_leI (by omega) (by omega)).mp c_356
                        refine lv_iconst (v := 0) hx hb dL_isLaid_211 (by decide) ?_
                        refine lv_istore (lv' := [(12, .int 0), (11, .int 1), (10, .int (nI v9)), (9, .int (nI y9)), (8, .int (nI x9)), (0, .ref (gad G 0)), (1, .ref (gad G 31)), (2, .ref (gad G 32)), (3, .ref (gad G 33)), (4, .int 1), (5, .int (nI o)), (6, .int (nI u)), (7, .int (nI v))]) hx hb dL_isLaid_212 hl (by decide) rfl (fun ls hl => ?_)
                        refine lv_iload hx hb dL_isLaid_214 (lv_at hl 1 rfl) ?_
                        refine lv_if_ne (tgt := 224) hx hb dL_isLaid_216 (by decide) (fun c_357 => ?_) (fun c_357 => ?_)
                        · skip
                          refine lv_iload hx hb dL_isLaid_224 (lv_at hl 0 rfl) ?_
                          refine lv_if_ne (tgt := 234) hx hb dL_isLaid_226 (by decide) (fun c_358 => ?_) (fun c_358 => ?_)
                          · skip
                            exact absurd c_358 (by decide)
                          · skip
                            refine lv_bipush (v := (-20)) hx hb dL_isLaid_229 (by decide) ?_
                            refine lv_goto (tgt := 268) hx hb dL_isLaid_231 (by decide) ?_
                            refine lv_istore (lv' := [(13, .int (-20)), (12, .int 0), (11, .int 1), (10, .int (nI v9)), (9, .int (nI y9)), (8, .int (nI x9)), (0, .ref (gad G 0)), (1, .ref (gad G 31)), (2, .ref (gad G 32)), (3, .ref (gad G 33)), (4, .int 1), (5, .int (nI o)), (6, .int (nI u)), (7, .int (nI v))]) hx hb dL_isLaid_268 hl (by decide) rfl (fun ls hl => ?_)
                            refine lv_iload hx hb dL_isLaid_270 (lv_at hl 2 rfl) ?_
                            refine lv_if_eq (tgt := 298) hx hb dL_isLaid_272 (by decide) (fun c_359 => ?_) (fun c_359 => ?_)
                            · skip
                              exact absurd c_359 (by decide)
                            · skip
                              refine lv_iload hx hb dL_isLaid_275 (lv_at hl 1 rfl) ?_
                              refine lv_if_eq (tgt := 298) hx hb dL_isLaid_277 (by decide) (fun c_360 => ?_) (fun c_360 => ?_)
                              · skip
                                refine lv_aload_n hx hb dL_isLaid_298 rfl (lv_at hl 6 rfl) ?_
                                refine lv_iconst (v := 1) hx hb dL_isLaid_299 (by decide) ?_
                                refine lv_iload hx hb dL_isLaid_300 (lv_at hl 5 rfl) ?_
                                refine lv_iload hx hb dL_isLaid_302 (lv_at hl 4 rfl) ?_
                                refine lv_iload hx hb dL_isLaid_304 (lv_at hl 3 rfl) ?_
                                refine rCallLS (As := [.ref (gad G 0), .int 1, .int (nI x9), .int (nI y9), .int (nI v9)]) (rest := []) ⟨hx, hb, hml, hown, hts⟩ fx hw (d1_t2 l hlt G hG hF σ (pcv hA) ((nI x9)) ((nI y9)) ((nI v9)) (by rw [inB_y (show x9 < g by omega) (by omega), inB_y (show y9 < g by omega) (by omega)]; rfl) (rgt_n (by omega) (by omega) (by omega) (by omega))) (vx_cwSW 5 hts gL_isLaid_L_does rfl rfl rfl (by decide +kernel) ⟨Nat.le_of_ble_eq_true rfl, Nat.le_of_ble_eq_true rfl⟩) rfl hl.1 rfl (Nat.le_of_ble_eq_true rfl) dL_isLaid_306 ⟨Nat.le_trans (show _ ≤ 3 by omega) (Nat.le_of_ble_eq_true rfl), Nat.le_trans (show _ ≤ 20 by omega) (Nat.le_of_ble_eq_true rfl)⟩ (fun r_361 σ_362 H locs p_363 hw => ?_)
                                obtain ⟨er_361, eσ_362⟩ := p_363
                                have er_361 := er_361.symm; subst er_361
                                have eσ_362 := eσ_362.symm; subst eσ_362
                                refine lv_iload hx hb dL_isLaid_309 (lv_at hl 0 rfl) ?_
                                refine lv_icmp_ne (tgt := 318) hx hb dL_isLaid_311 (by decide) (fun c_364 => ?_) (fun c_364 => ?_)
                                · skip
                                  exact absurd c_364 (by decide)
                                · skip
                                  refine lv_iconst (v := 1) hx hb dL_isLaid_314 (by decide) ?_
                                  refine lv_goto (tgt := 319) hx hb dL_isLaid_315 (by decide) ?_
                                  exact rRetZw hx hb hr hw (by decide) (by exact ⟨rfl, po_same hA hGa⟩) hlocks dL_isLaid_319 (by omega) (by omega)
                              · skip
                                exact absurd c_360 (by decide)
                        · skip
                          exact absurd c_357 (by decide)
                      · skip
                        have c_356 : ¬ 101 ≤ v9 := fun h9 => c_356 ((nI_leI (by omega) (by omega)).mpr h9)
                        omega
    · skip
      exact absurd c_243 (by decide)
  · skip
    obtain ⟨hbo, he0, hs5⟩ := hst
    refine lv_iload hx hb dL_isLaid_0 (lv_at hl 4 rfl) ?_
    refine lv_if_ne (tgt := 111) hx hb dL_isLaid_2 (by decide) (fun c_365 => ?_) (fun c_365 => ?_)
    · skip
      refine lv_iload hx hb dL_isLaid_111 (lv_at hl 4 rfl) ?_
      refine lv_iconst (v := 1) hx hb dL_isLaid_113 (by decide) ?_
      refine lv_icmp_ne (tgt := 320) hx hb dL_isLaid_114 (by decide) (fun c_366 => ?_) (fun c_366 => ?_)
      · skip
        exact absurd c_366 (by decide)
      · skip
        refine lv_iload hx hb dL_isLaid_117 (lv_at hl 5 rfl) ?_
        refine lv_aload_n hx hb dL_isLaid_119 rfl (lv_at hl 3 rfl) ?_
        refine lv_iconst (v := 0) hx hb dL_isLaid_120 (by decide) ?_
        refine lv_rep0 (x := 0) (y := nI 0) rfl ?_
        refine rAld hx hb fx hw 33 (hF.1 33 (by decide)) hF.2.1 (fun _ => rfl) 0 rfl (by omega) (by decide) dL_isLaid_121 ?_
        refine lv_rep0 (x := (σ 33 0)) (y := (nI g)) (pg hA).1 ?_
        refine lv_iconst (v := 1) hx hb dL_isLaid_122 (by decide) ?_
        refine lv_rep0 (x := 1) (y := nI 1) rfl ?_
        refine lv_iadd hx hb dL_isLaid_123 ?_
        refine lv_rep0 (x := ((nI g) + (nI 1))) (y := nI (g + 1)) (nI_add _ _) ?_
        refine lv_irem hx hb dL_isLaid_124 (nI_ne0 (by omega) (by omega)) ?_
        refine lv_rep0 (y := nI (o % (g + 1))) (pk_rem (by omega) (by omega) (by omega)) ?_
        have hrm9 := Nat.mod_lt o (show 0 < (g + 1) by omega)
        refine lv_istore (lv' := [(8, .int (nI (o % (g + 1)))), (0, .ref (gad G 0)), (1, .ref (gad G 31)), (2, .ref (gad G 32)), (3, .ref (gad G 33)), (4, .int 1), (5, .int (nI o)), (6, .int (nI u)), (7, .int (nI v))]) hx hb dL_isLaid_125 hl (by decide) rfl (fun ls hl => ?_)
        have q_367 : (nI (o % (g + 1))) = (nI x9) := by rw [hx9]
        have hl : lv_has ls 14 [(8, .int (nI x9)), (0, .ref (gad G 0)), (1, .ref (gad G 31)), (2, .ref (gad G 32)), (3, .ref (gad G 33)), (4, .int 1), (5, .int (nI o)), (6, .int (nI u)), (7, .int (nI v))] := (lv_c (lv_atq hl 0 rfl q_367) (lv_c (lv_at hl 1 rfl) (lv_c (lv_at hl 2 rfl) (lv_c (lv_at hl 3 rfl) (lv_c (lv_at hl 4 rfl) (lv_c (lv_at hl 5 rfl) (lv_c (lv_at hl 6 rfl) (lv_c (lv_at hl 7 rfl) (lv_c (lv_at hl 8 rfl) (lv_c0 hl))))))))))
        refine lv_iload hx hb dL_isLaid_127 (lv_at hl 8 rfl) ?_
        refine lv_iconst (v := 3) hx hb dL_isLaid_129 (by decide) ?_
        refine lv_rep0 (x := 3) (y := nI 3) rfl ?_
        refine lv_irem hx hb dL_isLaid_130 (nI_ne0 (by omega) (by omega)) ?_
        refine lv_rep0 (y := nI (v % 3)) (pk_rem (by omega) (by omega) (by omega)) ?_
        refine lv_if_ne (tgt := 138) hx hb dL_isLaid_131 (by decide) (fun c_368 => ?_) (fun c_368 => ?_)
        · skip
          have c_368 : ¬ (v % 3) = 0 := n0_net (by omega) c_368
          refine lv_iload hx hb dL_isLaid_138 (lv_at hl 7 rfl) ?_
          refine lv_aload_n hx hb dL_isLaid_140 rfl (lv_at hl 4 rfl) ?_
          refine lv_iconst (v := 0) hx hb dL_isLaid_141 (by decide) ?_
          refine lv_rep0 (x := 0) (y := nI 0) rfl ?_
          refine rAld hx hb fx hw 33 (hF.1 33 (by decide)) hF.2.1 (fun _ => rfl) 0 rfl (by omega) (by decide) dL_isLaid_142 ?_
          refine lv_rep0 (x := (σ 33 0)) (y := (nI g)) (pg hA).1 ?_
          refine lv_iconst (v := 1) hx hb dL_isLaid_143 (by decide) ?_
          refine lv_rep0 (x := 1) (y := nI 1) rfl ?_
          refine lv_iadd hx hb dL_isLaid_144 ?_
          refine lv_rep0 (x := ((nI g) + (nI 1))) (y := nI (g + 1)) (nI_add _ _) ?_
          refine lv_irem hx hb dL_isLaid_145 (nI_ne0 (by omega) (by omega)) ?_
          refine lv_rep0 (y := nI (u % (g + 1))) (pk_rem (by omega) (by omega) (by omega)) ?_
          have hrm9 := Nat.mod_lt u (show 0 < (g + 1) by omega)
          refine lv_istore (lv' := [(9, .int (nI (u % (g + 1)))), (8, .int (nI x9)), (0, .ref (gad G 0)), (1, .ref (gad G 31)), (2, .ref (gad G 32)), (3, .ref (gad G 33)), (4, .int 1), (5, .int (nI o)), (6, .int (nI u)), (7, .int (nI v))]) hx hb dL_isLaid_146 hl (by decide) rfl (fun ls hl => ?_)
          have q_369 : (nI (u % (g + 1))) = (nI y9) := by first | (rw [hy9, if_pos (by omega)]; rfl) | rw [hy9, if_neg (by omega)]
          have hl : lv_has ls 14 [(9, .int (nI y9)), (8, .int (nI x9)), (0, .ref (gad G 0)), (1, .ref (gad G 31)), (2, .ref (gad G 32)), (3, .ref (gad G 33)), (4, .int 1), (5, .int (nI o)), (6, .int (nI u)), (7, .int (nI v))] := (lv_c (lv_atq hl 0 rfl q_369) (lv_c (lv_at hl 1 rfl) (lv_c (lv_at hl 2 rfl) (lv_c (lv_at hl 3 rfl) (lv_c (lv_at hl 4 rfl) (lv_c (lv_at hl 5 rfl) (lv_c (lv_at hl 6 rfl) (lv_c (lv_at hl 7 rfl) (lv_c (lv_at hl 8 rfl) (lv_c (lv_at hl 9 rfl) (lv_c0 hl)))))))))))
          refine lv_iload hx hb dL_isLaid_148 (lv_at hl 9 rfl) ?_
          refine lv_bipush (v := 103) hx hb dL_isLaid_150 (by decide) ?_
          refine lv_rep0 (x := 103) (y := nI 103) rfl ?_
          refine lv_irem hx hb dL_isLaid_152 (nI_ne0 (by omega) (by omega)) ?_
          refine lv_rep0 (y := nI (v % 103)) (pk_rem (by omega) (by omega) (by omega)) ?_
          refine lv_istore (lv' := [(10, .int (nI (v % 103))), (9, .int (nI y9)), (8, .int (nI x9)), (0, .ref (gad G 0)), (1, .ref (gad G 31)), (2, .ref (gad G 32)), (3, .ref (gad G 33)), (4, .int 1), (5, .int (nI o)), (6, .int (nI u)), (7, .int (nI v))]) hx hb dL_isLaid_153 hl (by decide) rfl (fun ls hl => ?_)
          have q_370 : (nI (v % 103)) = (nI v9) := by rw [hv9]
          have hl : lv_has ls 14 [(10, .int (nI v9)), (9, .int (nI y9)), (8, .int (nI x9)), (0, .ref (gad G 0)), (1, .ref (gad G 31)), (2, .ref (gad G 32)), (3, .ref (gad G 33)), (4, .int 1), (5, .int (nI o)), (6, .int (nI u)), (7, .int (nI v))] := (lv_c (lv_atq hl 0 rfl q_370) (lv_c (lv_at hl 1 rfl) (lv_c (lv_at hl 2 rfl) (lv_c (lv_at hl 3 rfl) (lv_c (lv_at hl 4 rfl) (lv_c (lv_at hl 5 rfl) (lv_c (lv_at hl 6 rfl) (lv_c (lv_at hl 7 rfl) (lv_c (lv_at hl 8 rfl) (lv_c (lv_at hl 9 rfl) (lv_c (lv_at hl 10 rfl) (lv_c0 hl))))))))))))
          refine lv_iload hx hb dL_isLaid_155 (lv_at hl 2 rfl) ?_
          refine lv_aload_n hx hb dL_isLaid_157 rfl (lv_at hl 6 rfl) ?_
          refine lv_iconst (v := 0) hx hb dL_isLaid_158 (by decide) ?_
          refine lv_rep0 (x := 0) (y := nI 0) rfl ?_
          refine rAld hx hb fx hw 33 (hF.1 33 (by decide)) hF.2.1 (fun _ => rfl) 0 rfl (by omega) (by decide) dL_isLaid_159 ?_
          refine lv_rep0 (x := (σ 33 0)) (y := (nI g)) (pg hA).1 ?_
          refine lv_icmp_ge (tgt := 175) hx hb dL_isLaid_160 (by decide) (fun c_371 => ?_) (fun c_371 => ?_)
          · skip
            have c_371 : g ≤ x9 := (nI_leI (by omega) (by omega)).mp c_371
            omega
          · skip
            have c_371 : ¬ g ≤ x9 := fun h9 => c_371 ((nI_leI (by omega) (by omega)).mpr h9)
            refine lv_iload hx hb dL_isLaid_163 (lv_at hl 1 rfl) ?_
            refine lv_aload_n hx hb dL_isLaid_165 rfl (lv_at hl 6 rfl) ?_
            refine lv_iconst (v := 0) hx hb dL_isLaid_166 (by decide) ?_
            refine lv_rep0 (x := 0) (y := nI 0) rfl ?_
            refine rAld hx hb fx hw 33 (hF.1 33 (by decide)) hF.2.1 (fun _ => rfl) 0 rfl (by omega) (by decide) dL_isLaid_167 ?_
            refine lv_rep0 (x := (σ 33 0)) (y := (nI g)) (pg hA).1 ?_
            refine lv_icmp_ge (tgt := 175) hx hb dL_isLaid_168 (by decide) (fun c_372 => ?_) (fun c_372 => ?_)
            · skip
              have c_372 : g ≤ y9 := (nI_leI (by omega) (by omega)).mp c_372
              omega
            · skip
              have c_372 : ¬ g ≤ y9 := fun h9 => c_372 ((nI_leI (by omega) (by omega)).mpr h9)
              refine lv_iconst (v := 1) hx hb dL_isLaid_171 (by decide) ?_
              refine lv_goto (tgt := 176) hx hb dL_isLaid_172 (by decide) ?_
              refine lv_istore (lv' := [(11, .int 1), (10, .int (nI v9)), (9, .int (nI y9)), (8, .int (nI x9)), (0, .ref (gad G 0)), (1, .ref (gad G 31)), (2, .ref (gad G 32)), (3, .ref (gad G 33)), (4, .int 1), (5, .int (nI o)), (6, .int (nI u)), (7, .int (nI v))]) hx hb dL_isLaid_176 hl (by decide) rfl (fun ls hl => ?_)
              refine lv_iload hx hb dL_isLaid_178 (lv_at hl 2 rfl) ?_
              refine lv_iload hx hb dL_isLaid_180 (lv_at hl 3 rfl) ?_
              refine lv_icmp_gt (tgt := 195) hx hb dL_isLaid_182 (by decide) (fun c_373 => ?_) (fun c_373 => ?_)
              · skip
                have c_373 : x9 < y9 := (nI_ltI (by omega) (by omega)).mp c_373
                refine lv_iload hx hb dL_isLaid_195 (lv_at hl 1 rfl) ?_
                refine lv_if_le (tgt := 211) hx hb dL_isLaid_197 (by decide) (fun c_374 => ?_) (fun c_374 => ?_)
                · skip
                  have c_374 : v9 = 0 := n0_let (by omega) c_374
                  omega
                · skip
                  have c_374 : 0 < v9 := n0_lef (by omega) c_374
                  refine lv_iload hx hb dL_isLaid_200 (lv_at hl 1 rfl) ?_
                  refine lv_bipush (v := 101) hx hb dL_isLaid_202 (by decide) ?_
                  refine lv_rep0 (x := 101) (y := nI 101) rfl ?_
                  refine lv_icmp_ge (tgt := 211) hx hb dL_isLaid_204 (by decide) (fun c_375 => ?_) (fun c_375 => ?_)
                  · skip
                    have c_375 : 101 ≤ v9 := (nI_leI (by omega) (by omega)).mp c_375
                    omega
                  · skip
                    have c_375 : ¬ 101 ≤ v9 := fun h9 => c_375 ((nI_leI (by omega) (by omega)).mpr h9)
                    refine lv_iconst (v := 1) hx hb dL_isLaid_207 (by decide) ?_
                    refine lv_goto (tgt := 212) hx hb dL_isLaid_208 (by decide) ?_
                    refine lv_istore (lv' := [(12, .int 1), (11, .int 1), (10, .int (nI v9)), (9, .int (nI y9)), (8, .int (nI x9)), (0, .ref (gad G 0)), (1, .ref (gad G 31)), (2, .ref (gad G 32)), (3, .ref (gad G 33)), (4, .int 1), (5, .int (nI o)), (6, .int (nI u)), (7, .int (nI v))]) hx hb dL_isLaid_212 hl (by decide) rfl (fun ls hl => ?_)
                    refine lv_iload hx hb dL_isLaid_214 (lv_at hl 1 rfl) ?_
                    refine lv_if_ne (tgt := 224) hx hb dL_isLaid_216 (by decide) (fun c_376 => ?_) (fun c_376 => ?_)
                    · skip
                      refine lv_iload hx hb dL_isLaid_224 (lv_at hl 0 rfl) ?_
                      refine lv_if_ne (tgt := 234) hx hb dL_isLaid_226 (by decide) (fun c_377 => ?_) (fun c_377 => ?_)
                      · skip
                        refine lv_aload_n hx hb dL_isLaid_234 rfl (lv_at hl 8 rfl) ?_
                        refine lv_iconst (v := 5) hx hb dL_isLaid_235 (by decide) ?_
                        refine lv_rep0 (x := 5) (y := nI 5) rfl ?_
                        refine rAld hx hb fx hw 33 (hF.1 33 (by decide)) hF.2.1 (fun _ => rfl) 5 rfl (by omega) (by decide) dL_isLaid_236 ?_
                        refine lv_rep0 (x := (σ 33 5)) (y := 0) hs5 ?_
                        refine lv_if_le (tgt := 245) hx hb dL_isLaid_237 (by decide) (fun c_378 => ?_) (fun c_378 => ?_)
                        · skip
                          refine lv_aload_n hx hb dL_isLaid_245 rfl (lv_at hl 6 rfl) ?_
                          refine lv_iload hx hb dL_isLaid_246 (lv_at hl 4 rfl) ?_
                          refine lv_iload hx hb dL_isLaid_248 (lv_at hl 3 rfl) ?_
                          refine rCallM (As := [.ref (gad G 31), .int (nI x9), .int (nI y9)]) (rest := []) ⟨hx, hb, hml, hown, hts⟩ fx hw (kL_way l hlt G hG hF σ x9 y9 (by omega) (by omega)) (va_cwS 3 hts gL_isLaid_L_way rfl rfl rfl (by decide +kernel) ⟨Nat.le_of_ble_eq_true rfl, Nat.le_of_ble_eq_true rfl⟩) rfl hl.1 rfl (Nat.le_of_ble_eq_true rfl) dL_isLaid_250 ⟨Nat.le_trans (show _ ≤ 3 by omega) (Nat.le_of_ble_eq_true rfl), Nat.le_trans (show _ ≤ 20 by omega) (Nat.le_of_ble_eq_true rfl)⟩ (fun r_379 σ_380 H locs p_381 hw => ?_)
                          obtain ⟨er_379, eσ_380⟩ := p_381
                          have er_379 := er_379.symm; subst er_379
                          have eσ_380 := eσ_380.symm; subst eσ_380
                          refine lv_if_ne (tgt := 260) hx hb dL_isLaid_253 (by decide) (fun c_382 => ?_) (fun c_382 => ?_)
                          · skip
                            refine lv_aload_n hx hb dL_isLaid_260 rfl (lv_at hl 6 rfl) ?_
                            refine lv_iload hx hb dL_isLaid_261 (lv_at hl 4 rfl) ?_
                            refine lv_iload hx hb dL_isLaid_263 (lv_at hl 3 rfl) ?_
                            refine rCallM (As := [.ref (gad G 31), .int (nI x9), .int (nI y9)]) (rest := []) ⟨hx, hb, hml, hown, hts⟩ fx hw (kL_way l hlt G hG hF σ x9 y9 (by omega) (by omega)) (va_cwS 3 hts gL_isLaid_L_way rfl rfl rfl (by decide +kernel) ⟨Nat.le_of_ble_eq_true rfl, Nat.le_of_ble_eq_true rfl⟩) rfl hl.1 rfl (Nat.le_of_ble_eq_true rfl) dL_isLaid_265 ⟨Nat.le_trans (show _ ≤ 3 by omega) (Nat.le_of_ble_eq_true rfl), Nat.le_trans (show _ ≤ 20 by omega) (Nat.le_of_ble_eq_true rfl)⟩ (fun r_383 σ_384 H locs p_385 hw => ?_)
                            obtain ⟨er_383, eσ_384⟩ := p_385
                            have er_383 := er_383.symm; subst er_383
                            have eσ_384 := eσ_384.symm; subst eσ_384
                            refine lv_istore (lv' := [(13, .int (σ 31 ((12 * x9) + y9))), (12, .int 1), (11, .int 1), (10, .int (nI v9)), (9, .int (nI y9)), (8, .int (nI x9)), (0, .ref (gad G 0)), (1, .ref (gad G 31)), (2, .ref (gad G 32)), (3, .ref (gad G 33)), (4, .int 1), (5, .int (nI o)), (6, .int (nI u)), (7, .int (nI v))]) hx hb dL_isLaid_268 hl (by decide) rfl (fun ls hl => ?_)
                            refine lv_iload hx hb dL_isLaid_270 (lv_at hl 2 rfl) ?_
                            refine lv_if_eq (tgt := 298) hx hb dL_isLaid_272 (by decide) (fun c_386 => ?_) (fun c_386 => ?_)
                            · skip
                              exact absurd c_386 (by decide)
                            · skip
                              refine lv_iload hx hb dL_isLaid_275 (lv_at hl 1 rfl) ?_
                              refine lv_if_eq (tgt := 298) hx hb dL_isLaid_277 (by decide) (fun c_387 => ?_) (fun c_387 => ?_)
                              · skip
                                exact absurd c_387 (by decide)
                              · skip
                                refine lv_aload_n hx hb dL_isLaid_280 rfl (lv_at hl 9 rfl) ?_
                                refine lv_iconst (v := 5) hx hb dL_isLaid_281 (by decide) ?_
                                refine lv_rep0 (x := 5) (y := nI 5) rfl ?_
                                refine rAld hx hb fx hw 33 (hF.1 33 (by decide)) hF.2.1 (fun _ => rfl) 5 rfl (by omega) (by decide) dL_isLaid_282 ?_
                                refine lv_rep0 (x := (σ 33 5)) (y := 0) hs5 ?_
                                refine lv_if_ne (tgt := 298) hx hb dL_isLaid_283 (by decide) (fun c_388 => ?_) (fun c_388 => ?_)
                                · skip
                                  exact absurd c_388 (by decide)
                                · skip
                                  refine lv_aload_n hx hb dL_isLaid_286 rfl (lv_at hl 7 rfl) ?_
                                  refine lv_bipush (v := 12) hx hb dL_isLaid_287 (by decide) ?_
                                  refine lv_iload hx hb dL_isLaid_289 (lv_at hl 5 rfl) ?_
                                  refine lv_rep1 (x := 12) (y := nI 12) rfl ?_
                                  refine lv_imul hx hb dL_isLaid_291 ?_
                                  refine lv_rep0 (x := ((nI 12) * (nI x9))) (y := nI (12 * x9)) (pk_mul _ _) ?_
                                  refine lv_iload hx hb dL_isLaid_292 (lv_at hl 4 rfl) ?_
                                  refine lv_iadd hx hb dL_isLaid_294 ?_
                                  refine lv_rep0 (x := ((nI (12 * x9)) + (nI y9))) (y := nI ((12 * x9) + y9)) (nI_add _ _) ?_
                                  refine lv_iload hx hb dL_isLaid_295 (lv_at hl 3 rfl) ?_
                                  refine rAst (x := (nI v9)) hx hb fx hw 31 (hF.1 31 (by decide)) hF.2.1 (fun _ => rfl) ((12 * x9) + y9) rfl (by omega) (by decide) dL_isLaid_297 (fun H locs hw => ?_)
                                  obtain ⟨σ_389, eσ_389⟩ : ∃ w9, w9 = upA σ 31 (upd (σ 31) ((12 * x9) + y9) (nI v9)) := ⟨_, rfl⟩
                                  rw [← eσ_389] at hw
                                  refine lv_aload_n hx hb dL_isLaid_298 rfl (lv_at hl 6 rfl) ?_
                                  refine lv_iconst (v := 1) hx hb dL_isLaid_299 (by decide) ?_
                                  refine lv_iload hx hb dL_isLaid_300 (lv_at hl 5 rfl) ?_
                                  refine lv_iload hx hb dL_isLaid_302 (lv_at hl 4 rfl) ?_
                                  refine lv_iload hx hb dL_isLaid_304 (lv_at hl 3 rfl) ?_
                                  refine rCallLS (As := [.ref (gad G 0), .int 1, .int (nI x9), .int (nI y9), .int (nI v9)]) (rest := []) ⟨hx, hb, hml, hown, hts⟩ fx hw (d1_ok l hlt G hG hF σ_389 (show CIv σ_389 g n b e9 z from by rw [eσ_389]; exact (show CIv σ g n b e9 z from pcv hA)) x9 y9 v9 (by omega) (by omega) (by omega) (by omega) (by omega) hbo he0) (vx_cwSW 5 hts gL_isLaid_L_does rfl rfl rfl (by decide +kernel) ⟨Nat.le_of_ble_eq_true rfl, Nat.le_of_ble_eq_true rfl⟩) rfl hl.1 rfl (Nat.le_of_ble_eq_true rfl) dL_isLaid_306 ⟨Nat.le_trans (show _ ≤ 3 by omega) (Nat.le_of_ble_eq_true rfl), Nat.le_trans (show _ ≤ 20 by omega) (Nat.le_of_ble_eq_true rfl)⟩ (fun r_390 σ_391 H locs p_392 hw => ?_)
                                  obtain ⟨er_390, eσ_391⟩ := p_392
                                  have er_390 := er_390.symm; subst er_390
                                  refine lv_iload hx hb dL_isLaid_309 (lv_at hl 0 rfl) ?_
                                  refine lv_icmp_ne (tgt := 318) hx hb dL_isLaid_311 (by decide) (fun c_393 => ?_) (fun c_393 => ?_)
                                  · skip
                                    first | exact (c_393 ((way_due hA (show x9 < g by omega) (show y9 < g by omega) (by subst_vars; rfl)).1 (by assumption))).elim | exact (c_393 ((way_due hA (show x9 < g by omega) (show y9 < g by omega) (by subst_vars; rfl)).2 (by assumption))).elim
                                  · skip
                                    refine lv_iconst (v := 1) hx hb dL_isLaid_314 (by decide) ?_
                                    refine lv_goto (tgt := 319) hx hb dL_isLaid_315 (by decide) ?_
                                    subst eσ_391
                                    subst eσ_389
                                    exact rRetZw hx hb hr hw (by decide) (by exact ⟨rfl, po_way hA hGa hbo (by omega) (by omega) (by omega) (by omega)⟩) hlocks dL_isLaid_319 (by omega) (by omega)
                          · skip
                            refine lv_iconst (v := (-1)) hx hb dL_isLaid_256 (by decide) ?_
                            refine lv_goto (tgt := 268) hx hb dL_isLaid_257 (by decide) ?_
                            refine lv_istore (lv' := [(13, .int (-1)), (12, .int 1), (11, .int 1), (10, .int (nI v9)), (9, .int (nI y9)), (8, .int (nI x9)), (0, .ref (gad G 0)), (1, .ref (gad G 31)), (2, .ref (gad G 32)), (3, .ref (gad G 33)), (4, .int 1), (5, .int (nI o)), (6, .int (nI u)), (7, .int (nI v))]) hx hb dL_isLaid_268 hl (by decide) rfl (fun ls hl => ?_)
                            refine lv_iload hx hb dL_isLaid_270 (lv_at hl 2 rfl) ?_
                            refine lv_if_eq (tgt := 298) hx hb dL_isLaid_272 (by decide) (fun c_394 => ?_) (fun c_394 => ?_)
                            · skip
                              exact absurd c_394 (by decide)
                            · skip
                              refine lv_iload hx hb dL_isLaid_275 (lv_at hl 1 rfl) ?_
                              refine lv_if_eq (tgt := 298) hx hb dL_isLaid_277 (by decide) (fun c_395 => ?_) (fun c_395 => ?_)
                              · skip
                                exact absurd c_395 (by decide)
                              · skip
                                refine lv_aload_n hx hb dL_isLaid_280 rfl (lv_at hl 9 rfl) ?_
                                refine lv_iconst (v := 5) hx hb dL_isLaid_281 (by decide) ?_
                                refine lv_rep0 (x := 5) (y := nI 5) rfl ?_
                                refine rAld hx hb fx hw 33 (hF.1 33 (by decide)) hF.2.1 (fun _ => rfl) 5 rfl (by omega) (by decide) dL_isLaid_282 ?_
                                refine lv_rep0 (x := (σ 33 5)) (y := 0) hs5 ?_
                                refine lv_if_ne (tgt := 298) hx hb dL_isLaid_283 (by decide) (fun c_396 => ?_) (fun c_396 => ?_)
                                · skip
                                  exact absurd c_396 (by decide)
                                · skip
                                  refine lv_aload_n hx hb dL_isLaid_286 rfl (lv_at hl 7 rfl) ?_
                                  refine lv_bipush (v := 12) hx hb dL_isLaid_287 (by decide) ?_
                                  refine lv_iload hx hb dL_isLaid_289 (lv_at hl 5 rfl) ?_
                                  refine lv_rep1 (x := 12) (y := nI 12) rfl ?_
                                  refine lv_imul hx hb dL_isLaid_291 ?_
                                  refine lv_rep0 (x := ((nI 12) * (nI x9))) (y := nI (12 * x9)) (pk_mul _ _) ?_
                                  refine lv_iload hx hb dL_isLaid_292 (lv_at hl 4 rfl) ?_
                                  refine lv_iadd hx hb dL_isLaid_294 ?_
                                  refine lv_rep0 (x := ((nI (12 * x9)) + (nI y9))) (y := nI ((12 * x9) + y9)) (nI_add _ _) ?_
                                  refine lv_iload hx hb dL_isLaid_295 (lv_at hl 3 rfl) ?_
                                  refine rAst (x := (nI v9)) hx hb fx hw 31 (hF.1 31 (by decide)) hF.2.1 (fun _ => rfl) ((12 * x9) + y9) rfl (by omega) (by decide) dL_isLaid_297 (fun H locs hw => ?_)
                                  obtain ⟨σ_397, eσ_397⟩ : ∃ w9, w9 = upA σ 31 (upd (σ 31) ((12 * x9) + y9) (nI v9)) := ⟨_, rfl⟩
                                  rw [← eσ_397] at hw
                                  refine lv_aload_n hx hb dL_isLaid_298 rfl (lv_at hl 6 rfl) ?_
                                  refine lv_iconst (v := 1) hx hb dL_isLaid_299 (by decide) ?_
                                  refine lv_iload hx hb dL_isLaid_300 (lv_at hl 5 rfl) ?_
                                  refine lv_iload hx hb dL_isLaid_302 (lv_at hl 4 rfl) ?_
                                  refine lv_iload hx hb dL_isLaid_304 (lv_at hl 3 rfl) ?_
                                  refine rCallLS (As := [.ref (gad G 0), .int 1, .int (nI x9), .int (nI y9), .int (nI v9)]) (rest := []) ⟨hx, hb, hml, hown, hts⟩ fx hw (d1_ok l hlt G hG hF σ_397 (show CIv σ_397 g n b e9 z from by rw [eσ_397]; exact (show CIv σ g n b e9 z from pcv hA)) x9 y9 v9 (by omega) (by omega) (by omega) (by omega) (by omega) hbo he0) (vx_cwSW 5 hts gL_isLaid_L_does rfl rfl rfl (by decide +kernel) ⟨Nat.le_of_ble_eq_true rfl, Nat.le_of_ble_eq_true rfl⟩) rfl hl.1 rfl (Nat.le_of_ble_eq_true rfl) dL_isLaid_306 ⟨Nat.le_trans (show _ ≤ 3 by omega) (Nat.le_of_ble_eq_true rfl), Nat.le_trans (show _ ≤ 20 by omega) (Nat.le_of_ble_eq_true rfl)⟩ (fun r_398 σ_399 H locs p_400 hw => ?_)
                                  obtain ⟨er_398, eσ_399⟩ := p_400
                                  have er_398 := er_398.symm; subst er_398
                                  refine lv_iload hx hb dL_isLaid_309 (lv_at hl 0 rfl) ?_
                                  refine lv_icmp_ne (tgt := 318) hx hb dL_isLaid_311 (by decide) (fun c_401 => ?_) (fun c_401 => ?_)
                                  · skip
                                    first | exact (c_401 ((way_due hA (show x9 < g by omega) (show y9 < g by omega) (by subst_vars; rfl)).1 (by assumption))).elim | exact (c_401 ((way_due hA (show x9 < g by omega) (show y9 < g by omega) (by subst_vars; rfl)).2 (by assumption))).elim
                                  · skip
                                    refine lv_iconst (v := 1) hx hb dL_isLaid_314 (by decide) ?_
                                    refine lv_goto (tgt := 319) hx hb dL_isLaid_315 (by decide) ?_
                                    subst eσ_399
                                    subst eσ_397
                                    exact rRetZw hx hb hr hw (by decide) (by exact ⟨rfl, po_way hA hGa hbo (by omega) (by omega) (by omega) (by omega)⟩) hlocks dL_isLaid_319 (by omega) (by omega)
                        · skip
                          exact absurd c_378 (by decide)
                      · skip
                        exact absurd c_377 (by decide)
                    · skip
                      exact absurd c_376 (by decide)
              · skip
                have c_373 : ¬ x9 < y9 := fun h9 => c_373 ((nI_ltI (by omega) (by omega)).mpr h9)
                refine lv_iload hx hb dL_isLaid_185 (lv_at hl 2 rfl) ?_
                refine lv_if_ne (tgt := 211) hx hb dL_isLaid_187 (by decide) (fun c_402 => ?_) (fun c_402 => ?_)
                · skip
                  have c_402 : ¬ y9 = 0 := n0_net (by omega) c_402
                  omega
                · skip
                  have c_402 : y9 = 0 := n0_nef (by omega) c_402
                  refine lv_iload hx hb dL_isLaid_190 (lv_at hl 3 rfl) ?_
                  refine lv_if_le (tgt := 211) hx hb dL_isLaid_192 (by decide) (fun c_403 => ?_) (fun c_403 => ?_)
                  · skip
                    have c_403 : x9 = 0 := n0_let (by omega) c_403
                    omega
                  · skip
                    have c_403 : 0 < x9 := n0_lef (by omega) c_403
                    refine lv_iload hx hb dL_isLaid_195 (lv_at hl 1 rfl) ?_
                    refine lv_if_le (tgt := 211) hx hb dL_isLaid_197 (by decide) (fun c_404 => ?_) (fun c_404 => ?_)
                    · skip
                      have c_404 : v9 = 0 := n0_let (by omega) c_404
                      omega
                    · skip
                      have c_404 : 0 < v9 := n0_lef (by omega) c_404
                      refine lv_iload hx hb dL_isLaid_200 (lv_at hl 1 rfl) ?_
                      refine lv_bipush (v := 101) hx hb dL_isLaid_202 (by decide) ?_
                      refine lv_rep0 (x := 101) (y := nI 101) rfl ?_
                      refine lv_icmp_ge (tgt := 211) hx hb dL_isLaid_204 (by decide) (fun c_405 => ?_) (fun c_405 => ?_)
                      · skip
                        have c_405 : 101 ≤ v9 := (nI_leI (by omega) (by omega)).mp c_405
                        omega
                      · skip
                        have c_405 : ¬ 101 ≤ v9 := fun h9 => c_405 ((nI_leI (by omega) (by omega)).mpr h9)
                        refine lv_iconst (v := 1) hx hb dL_isLaid_207 (by decide) ?_
                        refine lv_goto (tgt := 212) hx hb dL_isLaid_208 (by decide) ?_
                        refine lv_istore (lv' := [(12, .int 1), (11, .int 1), (10, .int (nI v9)), (9, .int (nI y9)), (8, .int (nI x9)), (0, .ref (gad G 0)), (1, .ref (gad G 31)), (2, .ref (gad G 32)), (3, .ref (gad G 33)), (4, .int 1), (5, .int (nI o)), (6, .int (nI u)), (7, .int (nI v))]) hx hb dL_isLaid_212 hl (by decide) rfl (fun ls hl => ?_)
                        refine lv_iload hx hb dL_isLaid_214 (lv_at hl 1 rfl) ?_
                        refine lv_if_ne (tgt := 224) hx hb dL_isLaid_216 (by decide) (fun c_406 => ?_) (fun c_406 => ?_)
                        · skip
                          refine lv_iload hx hb dL_isLaid_224 (lv_at hl 0 rfl) ?_
                          refine lv_if_ne (tgt := 234) hx hb dL_isLaid_226 (by decide) (fun c_407 => ?_) (fun c_407 => ?_)
                          · skip
                            refine lv_aload_n hx hb dL_isLaid_234 rfl (lv_at hl 8 rfl) ?_
                            refine lv_iconst (v := 5) hx hb dL_isLaid_235 (by decide) ?_
                            refine lv_rep0 (x := 5) (y := nI 5) rfl ?_
                            refine rAld hx hb fx hw 33 (hF.1 33 (by decide)) hF.2.1 (fun _ => rfl) 5 rfl (by omega) (by decide) dL_isLaid_236 ?_
                            refine lv_rep0 (x := (σ 33 5)) (y := 0) hs5 ?_
                            refine lv_if_le (tgt := 245) hx hb dL_isLaid_237 (by decide) (fun c_408 => ?_) (fun c_408 => ?_)
                            · skip
                              refine lv_aload_n hx hb dL_isLaid_245 rfl (lv_at hl 6 rfl) ?_
                              refine lv_iload hx hb dL_isLaid_246 (lv_at hl 4 rfl) ?_
                              refine lv_iload hx hb dL_isLaid_248 (lv_at hl 3 rfl) ?_
                              refine rCallM (As := [.ref (gad G 31), .int (nI x9), .int (nI y9)]) (rest := []) ⟨hx, hb, hml, hown, hts⟩ fx hw (kL_way l hlt G hG hF σ x9 y9 (by omega) (by omega)) (va_cwS 3 hts gL_isLaid_L_way rfl rfl rfl (by decide +kernel) ⟨Nat.le_of_ble_eq_true rfl, Nat.le_of_ble_eq_true rfl⟩) rfl hl.1 rfl (Nat.le_of_ble_eq_true rfl) dL_isLaid_250 ⟨Nat.le_trans (show _ ≤ 3 by omega) (Nat.le_of_ble_eq_true rfl), Nat.le_trans (show _ ≤ 20 by omega) (Nat.le_of_ble_eq_true rfl)⟩ (fun r_409 σ_410 H locs p_411 hw => ?_)
                              obtain ⟨er_409, eσ_410⟩ := p_411
                              have er_409 := er_409.symm; subst er_409
                              have eσ_410 := eσ_410.symm; subst eσ_410
                              refine lv_if_ne (tgt := 260) hx hb dL_isLaid_253 (by decide) (fun c_412 => ?_) (fun c_412 => ?_)
                              · skip
                                refine lv_aload_n hx hb dL_isLaid_260 rfl (lv_at hl 6 rfl) ?_
                                refine lv_iload hx hb dL_isLaid_261 (lv_at hl 4 rfl) ?_
                                refine lv_iload hx hb dL_isLaid_263 (lv_at hl 3 rfl) ?_
                                refine rCallM (As := [.ref (gad G 31), .int (nI x9), .int (nI y9)]) (rest := []) ⟨hx, hb, hml, hown, hts⟩ fx hw (kL_way l hlt G hG hF σ x9 y9 (by omega) (by omega)) (va_cwS 3 hts gL_isLaid_L_way rfl rfl rfl (by decide +kernel) ⟨Nat.le_of_ble_eq_true rfl, Nat.le_of_ble_eq_true rfl⟩) rfl hl.1 rfl (Nat.le_of_ble_eq_true rfl) dL_isLaid_265 ⟨Nat.le_trans (show _ ≤ 3 by omega) (Nat.le_of_ble_eq_true rfl), Nat.le_trans (show _ ≤ 20 by omega) (Nat.le_of_ble_eq_true rfl)⟩ (fun r_413 σ_414 H locs p_415 hw => ?_)
                                obtain ⟨er_413, eσ_414⟩ := p_415
                                have er_413 := er_413.symm; subst er_413
                                have eσ_414 := eσ_414.symm; subst eσ_414
                                refine lv_istore (lv' := [(13, .int (σ 31 ((12 * x9) + y9))), (12, .int 1), (11, .int 1), (10, .int (nI v9)), (9, .int (nI y9)), (8, .int (nI x9)), (0, .ref (gad G 0)), (1, .ref (gad G 31)), (2, .ref (gad G 32)), (3, .ref (gad G 33)), (4, .int 1), (5, .int (nI o)), (6, .int (nI u)), (7, .int (nI v))]) hx hb dL_isLaid_268 hl (by decide) rfl (fun ls hl => ?_)
                                refine lv_iload hx hb dL_isLaid_270 (lv_at hl 2 rfl) ?_
                                refine lv_if_eq (tgt := 298) hx hb dL_isLaid_272 (by decide) (fun c_416 => ?_) (fun c_416 => ?_)
                                · skip
                                  exact absurd c_416 (by decide)
                                · skip
                                  refine lv_iload hx hb dL_isLaid_275 (lv_at hl 1 rfl) ?_
                                  refine lv_if_eq (tgt := 298) hx hb dL_isLaid_277 (by decide) (fun c_417 => ?_) (fun c_417 => ?_)
                                  · skip
                                    exact absurd c_417 (by decide)
                                  · skip
                                    refine lv_aload_n hx hb dL_isLaid_280 rfl (lv_at hl 9 rfl) ?_
                                    refine lv_iconst (v := 5) hx hb dL_isLaid_281 (by decide) ?_
                                    refine lv_rep0 (x := 5) (y := nI 5) rfl ?_
                                    refine rAld hx hb fx hw 33 (hF.1 33 (by decide)) hF.2.1 (fun _ => rfl) 5 rfl (by omega) (by decide) dL_isLaid_282 ?_
                                    refine lv_rep0 (x := (σ 33 5)) (y := 0) hs5 ?_
                                    refine lv_if_ne (tgt := 298) hx hb dL_isLaid_283 (by decide) (fun c_418 => ?_) (fun c_418 => ?_)
                                    · skip
                                      exact absurd c_418 (by decide)
                                    · skip
                                      refine lv_aload_n hx hb dL_isLaid_286 rfl (lv_at hl 7 rfl) ?_
                                      refine lv_bipush (v := 12) hx hb dL_isLaid_287 (by decide) ?_
                                      refine lv_iload hx hb dL_isLaid_289 (lv_at hl 5 rfl) ?_
                                      refine lv_rep1 (x := 12) (y := nI 12) rfl ?_
                                      refine lv_imul hx hb dL_isLaid_291 ?_
                                      refine lv_rep0 (x := ((nI 12) * (nI x9))) (y := nI (12 * x9)) (pk_mul _ _) ?_
                                      refine lv_iload hx hb dL_isLaid_292 (lv_at hl 4 rfl) ?_
                                      refine lv_iadd hx hb dL_isLaid_294 ?_
                                      refine lv_rep0 (x := ((nI (12 * x9)) + (nI y9))) (y := nI ((12 * x9) + y9)) (nI_add _ _) ?_
                                      refine lv_iload hx hb dL_isLaid_295 (lv_at hl 3 rfl) ?_
                                      refine rAst (x := (nI v9)) hx hb fx hw 31 (hF.1 31 (by decide)) hF.2.1 (fun _ => rfl) ((12 * x9) + y9) rfl (by omega) (by decide) dL_isLaid_297 (fun H locs hw => ?_)
                                      obtain ⟨σ_419, eσ_419⟩ : ∃ w9, w9 = upA σ 31 (upd (σ 31) ((12 * x9) + y9) (nI v9)) := ⟨_, rfl⟩
                                      rw [← eσ_419] at hw
                                      refine lv_aload_n hx hb dL_isLaid_298 rfl (lv_at hl 6 rfl) ?_
                                      refine lv_iconst (v := 1) hx hb dL_isLaid_299 (by decide) ?_
                                      refine lv_iload hx hb dL_isLaid_300 (lv_at hl 5 rfl) ?_
                                      refine lv_iload hx hb dL_isLaid_302 (lv_at hl 4 rfl) ?_
                                      refine lv_iload hx hb dL_isLaid_304 (lv_at hl 3 rfl) ?_
                                      refine rCallLS (As := [.ref (gad G 0), .int 1, .int (nI x9), .int (nI y9), .int (nI v9)]) (rest := []) ⟨hx, hb, hml, hown, hts⟩ fx hw (d1_ok l hlt G hG hF σ_419 (show CIv σ_419 g n b e9 z from by rw [eσ_419]; exact (show CIv σ g n b e9 z from pcv hA)) x9 y9 v9 (by omega) (by omega) (by omega) (by omega) (by omega) hbo he0) (vx_cwSW 5 hts gL_isLaid_L_does rfl rfl rfl (by decide +kernel) ⟨Nat.le_of_ble_eq_true rfl, Nat.le_of_ble_eq_true rfl⟩) rfl hl.1 rfl (Nat.le_of_ble_eq_true rfl) dL_isLaid_306 ⟨Nat.le_trans (show _ ≤ 3 by omega) (Nat.le_of_ble_eq_true rfl), Nat.le_trans (show _ ≤ 20 by omega) (Nat.le_of_ble_eq_true rfl)⟩ (fun r_420 σ_421 H locs p_422 hw => ?_)
                                      obtain ⟨er_420, eσ_421⟩ := p_422
                                      have er_420 := er_420.symm; subst er_420
                                      refine lv_iload hx hb dL_isLaid_309 (lv_at hl 0 rfl) ?_
                                      refine lv_icmp_ne (tgt := 318) hx hb dL_isLaid_311 (by decide) (fun c_423 => ?_) (fun c_423 => ?_)
                                      · skip
                                        first | exact (c_423 ((way_due hA (show x9 < g by omega) (show y9 < g by omega) (by subst_vars; rfl)).1 (by assumption))).elim | exact (c_423 ((way_due hA (show x9 < g by omega) (show y9 < g by omega) (by subst_vars; rfl)).2 (by assumption))).elim
                                      · skip
                                        refine lv_iconst (v := 1) hx hb dL_isLaid_314 (by decide) ?_
                                        refine lv_goto (tgt := 319) hx hb dL_isLaid_315 (by decide) ?_
                                        subst eσ_421
                                        subst eσ_419
                                        exact rRetZw hx hb hr hw (by decide) (by exact ⟨rfl, po_way hA hGa hbo (by omega) (by omega) (by omega) (by omega)⟩) hlocks dL_isLaid_319 (by omega) (by omega)
                              · skip
                                refine lv_iconst (v := (-1)) hx hb dL_isLaid_256 (by decide) ?_
                                refine lv_goto (tgt := 268) hx hb dL_isLaid_257 (by decide) ?_
                                refine lv_istore (lv' := [(13, .int (-1)), (12, .int 1), (11, .int 1), (10, .int (nI v9)), (9, .int (nI y9)), (8, .int (nI x9)), (0, .ref (gad G 0)), (1, .ref (gad G 31)), (2, .ref (gad G 32)), (3, .ref (gad G 33)), (4, .int 1), (5, .int (nI o)), (6, .int (nI u)), (7, .int (nI v))]) hx hb dL_isLaid_268 hl (by decide) rfl (fun ls hl => ?_)
                                refine lv_iload hx hb dL_isLaid_270 (lv_at hl 2 rfl) ?_
                                refine lv_if_eq (tgt := 298) hx hb dL_isLaid_272 (by decide) (fun c_424 => ?_) (fun c_424 => ?_)
                                · skip
                                  exact absurd c_424 (by decide)
                                · skip
                                  refine lv_iload hx hb dL_isLaid_275 (lv_at hl 1 rfl) ?_
                                  refine lv_if_eq (tgt := 298) hx hb dL_isLaid_277 (by decide) (fun c_425 => ?_) (fun c_425 => ?_)
                                  · skip
                                    exact absurd c_425 (by decide)
                                  · skip
                                    refine lv_aload_n hx hb dL_isLaid_280 rfl (lv_at hl 9 rfl) ?_
                                    refine lv_iconst (v := 5) hx hb dL_isLaid_281 (by decide) ?_
                                    refine lv_rep0 (x := 5) (y := nI 5) rfl ?_
                                    refine rAld hx hb fx hw 33 (hF.1 33 (by decide)) hF.2.1 (fun _ => rfl) 5 rfl (by omega) (by decide) dL_isLaid_282 ?_
                                    refine lv_rep0 (x := (σ 33 5)) (y := 0) hs5 ?_
                                    refine lv_if_ne (tgt := 298) hx hb dL_isLaid_283 (by decide) (fun c_426 => ?_) (fun c_426 => ?_)
                                    · skip
                                      exact absurd c_426 (by decide)
                                    · skip
                                      refine lv_aload_n hx hb dL_isLaid_286 rfl (lv_at hl 7 rfl) ?_
                                      refine lv_bipush (v := 12) hx hb dL_isLaid_287 (by decide) ?_
                                      refine lv_iload hx hb dL_isLaid_289 (lv_at hl 5 rfl) ?_
                                      refine lv_rep1 (x := 12) (y := nI 12) rfl ?_
                                      refine lv_imul hx hb dL_isLaid_291 ?_
                                      refine lv_rep0 (x := ((nI 12) * (nI x9))) (y := nI (12 * x9)) (pk_mul _ _) ?_
                                      refine lv_iload hx hb dL_isLaid_292 (lv_at hl 4 rfl) ?_
                                      refine lv_iadd hx hb dL_isLaid_294 ?_
                                      refine lv_rep0 (x := ((nI (12 * x9)) + (nI y9))) (y := nI ((12 * x9) + y9)) (nI_add _ _) ?_
                                      refine lv_iload hx hb dL_isLaid_295 (lv_at hl 3 rfl) ?_
                                      refine rAst (x := (nI v9)) hx hb fx hw 31 (hF.1 31 (by decide)) hF.2.1 (fun _ => rfl) ((12 * x9) + y9) rfl (by omega) (by decide) dL_isLaid_297 (fun H locs hw => ?_)
                                      obtain ⟨σ_427, eσ_427⟩ : ∃ w9, w9 = upA σ 31 (upd (σ 31) ((12 * x9) + y9) (nI v9)) := ⟨_, rfl⟩
                                      rw [← eσ_427] at hw
                                      refine lv_aload_n hx hb dL_isLaid_298 rfl (lv_at hl 6 rfl) ?_
                                      refine lv_iconst (v := 1) hx hb dL_isLaid_299 (by decide) ?_
                                      refine lv_iload hx hb dL_isLaid_300 (lv_at hl 5 rfl) ?_
                                      refine lv_iload hx hb dL_isLaid_302 (lv_at hl 4 rfl) ?_
                                      refine lv_iload hx hb dL_isLaid_304 (lv_at hl 3 rfl) ?_
                                      refine rCallLS (As := [.ref (gad G 0), .int 1, .int (nI x9), .int (nI y9), .int (nI v9)]) (rest := []) ⟨hx, hb, hml, hown, hts⟩ fx hw (d1_ok l hlt G hG hF σ_427 (show CIv σ_427 g n b e9 z from by rw [eσ_427]; exact (show CIv σ g n b e9 z from pcv hA)) x9 y9 v9 (by omega) (by omega) (by omega) (by omega) (by omega) hbo he0) (vx_cwSW 5 hts gL_isLaid_L_does rfl rfl rfl (by decide +kernel) ⟨Nat.le_of_ble_eq_true rfl, Nat.le_of_ble_eq_true rfl⟩) rfl hl.1 rfl (Nat.le_of_ble_eq_true rfl) dL_isLaid_306 ⟨Nat.le_trans (show _ ≤ 3 by omega) (Nat.le_of_ble_eq_true rfl), Nat.le_trans (show _ ≤ 20 by omega) (Nat.le_of_ble_eq_true rfl)⟩ (fun r_428 σ_429 H locs p_430 hw => ?_)
                                      obtain ⟨er_428, eσ_429⟩ := p_430
                                      have er_428 := er_428.symm; subst er_428
                                      refine lv_iload hx hb dL_isLaid_309 (lv_at hl 0 rfl) ?_
                                      refine lv_icmp_ne (tgt := 318) hx hb dL_isLaid_311 (by decide) (fun c_431 => ?_) (fun c_431 => ?_)
                                      · skip
                                        first | exact (c_431 ((way_due hA (show x9 < g by omega) (show y9 < g by omega) (by subst_vars; rfl)).1 (by assumption))).elim | exact (c_431 ((way_due hA (show x9 < g by omega) (show y9 < g by omega) (by subst_vars; rfl)).2 (by assumption))).elim
                                      · skip
                                        refine lv_iconst (v := 1) hx hb dL_isLaid_314 (by decide) ?_
                                        refine lv_goto (tgt := 319) hx hb dL_isLaid_315 (by decide) ?_
                                        subst eσ_429
                                        subst eσ_427
                                        exact rRetZw hx hb hr hw (by decide) (by exact ⟨rfl, po_way hA hGa hbo (by omega) (by omega) (by omega) (by omega)⟩) hlocks dL_isLaid_319 (by omega) (by omega)
                            · skip
                              exact absurd c_408 (by decide)
                          · skip
                            exact absurd c_407 (by decide)
                        · skip
                          exact absurd c_406 (by decide)
        · skip
          have c_368 : (v % 3) = 0 := n0_nef (by omega) c_368
          refine lv_iconst (v := 0) hx hb dL_isLaid_134 (by decide) ?_
          refine lv_goto (tgt := 146) hx hb dL_isLaid_135 (by decide) ?_
          refine lv_istore (lv' := [(9, .int 0), (8, .int (nI x9)), (0, .ref (gad G 0)), (1, .ref (gad G 31)), (2, .ref (gad G 32)), (3, .ref (gad G 33)), (4, .int 1), (5, .int (nI o)), (6, .int (nI u)), (7, .int (nI v))]) hx hb dL_isLaid_146 hl (by decide) rfl (fun ls hl => ?_)
          have q_432 : 0 = (nI y9) := by first | (rw [hy9, if_pos (by omega)]; rfl) | rw [hy9, if_neg (by omega)]
          have hl : lv_has ls 14 [(9, .int (nI y9)), (8, .int (nI x9)), (0, .ref (gad G 0)), (1, .ref (gad G 31)), (2, .ref (gad G 32)), (3, .ref (gad G 33)), (4, .int 1), (5, .int (nI o)), (6, .int (nI u)), (7, .int (nI v))] := (lv_c (lv_atq hl 0 rfl q_432) (lv_c (lv_at hl 1 rfl) (lv_c (lv_at hl 2 rfl) (lv_c (lv_at hl 3 rfl) (lv_c (lv_at hl 4 rfl) (lv_c (lv_at hl 5 rfl) (lv_c (lv_at hl 6 rfl) (lv_c (lv_at hl 7 rfl) (lv_c (lv_at hl 8 rfl) (lv_c (lv_at hl 9 rfl) (lv_c0 hl)))))))))))
          refine lv_iload hx hb dL_isLaid_148 (lv_at hl 9 rfl) ?_
          refine lv_bipush (v := 103) hx hb dL_isLaid_150 (by decide) ?_
          refine lv_rep0 (x := 103) (y := nI 103) rfl ?_
          refine lv_irem hx hb dL_isLaid_152 (nI_ne0 (by omega) (by omega)) ?_
          refine lv_rep0 (y := nI (v % 103)) (pk_rem (by omega) (by omega) (by omega)) ?_
          refine lv_istore (lv' := [(10, .int (nI (v % 103))), (9, .int (nI y9)), (8, .int (nI x9)), (0, .ref (gad G 0)), (1, .ref (gad G 31)), (2, .ref (gad G 32)), (3, .ref (gad G 33)), (4, .int 1), (5, .int (nI o)), (6, .int (nI u)), (7, .int (nI v))]) hx hb dL_isLaid_153 hl (by decide) rfl (fun ls hl => ?_)
          have q_433 : (nI (v % 103)) = (nI v9) := by rw [hv9]
          have hl : lv_has ls 14 [(10, .int (nI v9)), (9, .int (nI y9)), (8, .int (nI x9)), (0, .ref (gad G 0)), (1, .ref (gad G 31)), (2, .ref (gad G 32)), (3, .ref (gad G 33)), (4, .int 1), (5, .int (nI o)), (6, .int (nI u)), (7, .int (nI v))] := (lv_c (lv_atq hl 0 rfl q_433) (lv_c (lv_at hl 1 rfl) (lv_c (lv_at hl 2 rfl) (lv_c (lv_at hl 3 rfl) (lv_c (lv_at hl 4 rfl) (lv_c (lv_at hl 5 rfl) (lv_c (lv_at hl 6 rfl) (lv_c (lv_at hl 7 rfl) (lv_c (lv_at hl 8 rfl) (lv_c (lv_at hl 9 rfl) (lv_c (lv_at hl 10 rfl) (lv_c0 hl))))))))))))
          refine lv_iload hx hb dL_isLaid_155 (lv_at hl 2 rfl) ?_
          refine lv_aload_n hx hb dL_isLaid_157 rfl (lv_at hl 6 rfl) ?_
          refine lv_iconst (v := 0) hx hb dL_isLaid_158 (by decide) ?_
          refine lv_rep0 (x := 0) (y := nI 0) rfl ?_
          refine rAld hx hb fx hw 33 (hF.1 33 (by decide)) hF.2.1 (fun _ => rfl) 0 rfl (by omega) (by decide) dL_isLaid_159 ?_
          refine lv_rep0 (x := (σ 33 0)) (y := (nI g)) (pg hA).1 ?_
          refine lv_icmp_ge (tgt := 175) hx hb dL_isLaid_160 (by decide) (fun c_434 => ?_) (fun c_434 => ?_)
          · skip
            have c_434 : g ≤ x9 := (nI_leI (by omega) (by omega)).mp c_434
            omega
          · skip
            have c_434 : ¬ g ≤ x9 := fun h9 => c_434 ((nI_leI (by omega) (by omega)).mpr h9)
            refine lv_iload hx hb dL_isLaid_163 (lv_at hl 1 rfl) ?_
            refine lv_aload_n hx hb dL_isLaid_165 rfl (lv_at hl 6 rfl) ?_
            refine lv_iconst (v := 0) hx hb dL_isLaid_166 (by decide) ?_
            refine lv_rep0 (x := 0) (y := nI 0) rfl ?_
            refine rAld hx hb fx hw 33 (hF.1 33 (by decide)) hF.2.1 (fun _ => rfl) 0 rfl (by omega) (by decide) dL_isLaid_167 ?_
            refine lv_rep0 (x := (σ 33 0)) (y := (nI g)) (pg hA).1 ?_
            refine lv_icmp_ge (tgt := 175) hx hb dL_isLaid_168 (by decide) (fun c_435 => ?_) (fun c_435 => ?_)
            · skip
              have c_435 : g ≤ y9 := (nI_leI (by omega) (by omega)).mp c_435
              omega
            · skip
              have c_435 : ¬ g ≤ y9 := fun h9 => c_435 ((nI_leI (by omega) (by omega)).mpr h9)
              refine lv_iconst (v := 1) hx hb dL_isLaid_171 (by decide) ?_
              refine lv_goto (tgt := 176) hx hb dL_isLaid_172 (by decide) ?_
              refine lv_istore (lv' := [(11, .int 1), (10, .int (nI v9)), (9, .int (nI y9)), (8, .int (nI x9)), (0, .ref (gad G 0)), (1, .ref (gad G 31)), (2, .ref (gad G 32)), (3, .ref (gad G 33)), (4, .int 1), (5, .int (nI o)), (6, .int (nI u)), (7, .int (nI v))]) hx hb dL_isLaid_176 hl (by decide) rfl (fun ls hl => ?_)
              refine lv_iload hx hb dL_isLaid_178 (lv_at hl 2 rfl) ?_
              refine lv_iload hx hb dL_isLaid_180 (lv_at hl 3 rfl) ?_
              refine lv_icmp_gt (tgt := 195) hx hb dL_isLaid_182 (by decide) (fun c_436 => ?_) (fun c_436 => ?_)
              · skip
                have c_436 : x9 < y9 := (nI_ltI (by omega) (by omega)).mp c_436
                refine lv_iload hx hb dL_isLaid_195 (lv_at hl 1 rfl) ?_
                refine lv_if_le (tgt := 211) hx hb dL_isLaid_197 (by decide) (fun c_437 => ?_) (fun c_437 => ?_)
                · skip
                  have c_437 : v9 = 0 := n0_let (by omega) c_437
                  omega
                · skip
                  have c_437 : 0 < v9 := n0_lef (by omega) c_437
                  refine lv_iload hx hb dL_isLaid_200 (lv_at hl 1 rfl) ?_
                  refine lv_bipush (v := 101) hx hb dL_isLaid_202 (by decide) ?_
                  refine lv_rep0 (x := 101) (y := nI 101) rfl ?_
                  refine lv_icmp_ge (tgt := 211) hx hb dL_isLaid_204 (by decide) (fun c_438 => ?_) (fun c_438 => ?_)
                  · skip
                    have c_438 : 101 ≤ v9 := (nI_leI (by omega) (by omega)).mp c_438
                    omega
                  · skip
                    have c_438 : ¬ 101 ≤ v9 := fun h9 => c_438 ((nI_leI (by omega) (by omega)).mpr h9)
                    refine lv_iconst (v := 1) hx hb dL_isLaid_207 (by decide) ?_
                    refine lv_goto (tgt := 212) hx hb dL_isLaid_208 (by decide) ?_
                    refine lv_istore (lv' := [(12, .int 1), (11, .int 1), (10, .int (nI v9)), (9, .int (nI y9)), (8, .int (nI x9)), (0, .ref (gad G 0)), (1, .ref (gad G 31)), (2, .ref (gad G 32)), (3, .ref (gad G 33)), (4, .int 1), (5, .int (nI o)), (6, .int (nI u)), (7, .int (nI v))]) hx hb dL_isLaid_212 hl (by decide) rfl (fun ls hl => ?_)
                    refine lv_iload hx hb dL_isLaid_214 (lv_at hl 1 rfl) ?_
                    refine lv_if_ne (tgt := 224) hx hb dL_isLaid_216 (by decide) (fun c_439 => ?_) (fun c_439 => ?_)
                    · skip
                      refine lv_iload hx hb dL_isLaid_224 (lv_at hl 0 rfl) ?_
                      refine lv_if_ne (tgt := 234) hx hb dL_isLaid_226 (by decide) (fun c_440 => ?_) (fun c_440 => ?_)
                      · skip
                        refine lv_aload_n hx hb dL_isLaid_234 rfl (lv_at hl 8 rfl) ?_
                        refine lv_iconst (v := 5) hx hb dL_isLaid_235 (by decide) ?_
                        refine lv_rep0 (x := 5) (y := nI 5) rfl ?_
                        refine rAld hx hb fx hw 33 (hF.1 33 (by decide)) hF.2.1 (fun _ => rfl) 5 rfl (by omega) (by decide) dL_isLaid_236 ?_
                        refine lv_rep0 (x := (σ 33 5)) (y := 0) hs5 ?_
                        refine lv_if_le (tgt := 245) hx hb dL_isLaid_237 (by decide) (fun c_441 => ?_) (fun c_441 => ?_)
                        · skip
                          refine lv_aload_n hx hb dL_isLaid_245 rfl (lv_at hl 6 rfl) ?_
                          refine lv_iload hx hb dL_isLaid_246 (lv_at hl 4 rfl) ?_
                          refine lv_iload hx hb dL_isLaid_248 (lv_at hl 3 rfl) ?_
                          refine rCallM (As := [.ref (gad G 31), .int (nI x9), .int (nI y9)]) (rest := []) ⟨hx, hb, hml, hown, hts⟩ fx hw (kL_way l hlt G hG hF σ x9 y9 (by omega) (by omega)) (va_cwS 3 hts gL_isLaid_L_way rfl rfl rfl (by decide +kernel) ⟨Nat.le_of_ble_eq_true rfl, Nat.le_of_ble_eq_true rfl⟩) rfl hl.1 rfl (Nat.le_of_ble_eq_true rfl) dL_isLaid_250 ⟨Nat.le_trans (show _ ≤ 3 by omega) (Nat.le_of_ble_eq_true rfl), Nat.le_trans (show _ ≤ 20 by omega) (Nat.le_of_ble_eq_true rfl)⟩ (fun r_442 σ_443 H locs p_444 hw => ?_)
                          obtain ⟨er_442, eσ_443⟩ := p_444
                          have er_442 := er_442.symm; subst er_442
                          have eσ_443 := eσ_443.symm; subst eσ_443
                          refine lv_if_ne (tgt := 260) hx hb dL_isLaid_253 (by decide) (fun c_445 => ?_) (fun c_445 => ?_)
                          · skip
                            refine lv_aload_n hx hb dL_isLaid_260 rfl (lv_at hl 6 rfl) ?_
                            refine lv_iload hx hb dL_isLaid_261 (lv_at hl 4 rfl) ?_
                            refine lv_iload hx hb dL_isLaid_263 (lv_at hl 3 rfl) ?_
                            refine rCallM (As := [.ref (gad G 31), .int (nI x9), .int (nI y9)]) (rest := []) ⟨hx, hb, hml, hown, hts⟩ fx hw (kL_way l hlt G hG hF σ x9 y9 (by omega) (by omega)) (va_cwS 3 hts gL_isLaid_L_way rfl rfl rfl (by decide +kernel) ⟨Nat.le_of_ble_eq_true rfl, Nat.le_of_ble_eq_true rfl⟩) rfl hl.1 rfl (Nat.le_of_ble_eq_true rfl) dL_isLaid_265 ⟨Nat.le_trans (show _ ≤ 3 by omega) (Nat.le_of_ble_eq_true rfl), Nat.le_trans (show _ ≤ 20 by omega) (Nat.le_of_ble_eq_true rfl)⟩ (fun r_446 σ_447 H locs p_448 hw => ?_)
                            obtain ⟨er_446, eσ_447⟩ := p_448
                            have er_446 := er_446.symm; subst er_446
                            have eσ_447 := eσ_447.symm; subst eσ_447
                            refine lv_istore (lv' := [(13, .int (σ 31 ((12 * x9) + y9))), (12, .int 1), (11, .int 1), (10, .int (nI v9)), (9, .int (nI y9)), (8, .int (nI x9)), (0, .ref (gad G 0)), (1, .ref (gad G 31)), (2, .ref (gad G 32)), (3, .ref (gad G 33)), (4, .int 1), (5, .int (nI o)), (6, .int (nI u)), (7, .int (nI v))]) hx hb dL_isLaid_268 hl (by decide) rfl (fun ls hl => ?_)
                            refine lv_iload hx hb dL_isLaid_270 (lv_at hl 2 rfl) ?_
                            refine lv_if_eq (tgt := 298) hx hb dL_isLaid_272 (by decide) (fun c_449 => ?_) (fun c_449 => ?_)
                            · skip
                              exact absurd c_449 (by decide)
                            · skip
                              refine lv_iload hx hb dL_isLaid_275 (lv_at hl 1 rfl) ?_
                              refine lv_if_eq (tgt := 298) hx hb dL_isLaid_277 (by decide) (fun c_450 => ?_) (fun c_450 => ?_)
                              · skip
                                exact absurd c_450 (by decide)
                              · skip
                                refine lv_aload_n hx hb dL_isLaid_280 rfl (lv_at hl 9 rfl) ?_
                                refine lv_iconst (v := 5) hx hb dL_isLaid_281 (by decide) ?_
                                refine lv_rep0 (x := 5) (y := nI 5) rfl ?_
                                refine rAld hx hb fx hw 33 (hF.1 33 (by decide)) hF.2.1 (fun _ => rfl) 5 rfl (by omega) (by decide) dL_isLaid_282 ?_
                                refine lv_rep0 (x := (σ 33 5)) (y := 0) hs5 ?_
                                refine lv_if_ne (tgt := 298) hx hb dL_isLaid_283 (by decide) (fun c_451 => ?_) (fun c_451 => ?_)
                                · skip
                                  exact absurd c_451 (by decide)
                                · skip
                                  refine lv_aload_n hx hb dL_isLaid_286 rfl (lv_at hl 7 rfl) ?_
                                  refine lv_bipush (v := 12) hx hb dL_isLaid_287 (by decide) ?_
                                  refine lv_iload hx hb dL_isLaid_289 (lv_at hl 5 rfl) ?_
                                  refine lv_rep1 (x := 12) (y := nI 12) rfl ?_
                                  refine lv_imul hx hb dL_isLaid_291 ?_
                                  refine lv_rep0 (x := ((nI 12) * (nI x9))) (y := nI (12 * x9)) (pk_mul _ _) ?_
                                  refine lv_iload hx hb dL_isLaid_292 (lv_at hl 4 rfl) ?_
                                  refine lv_iadd hx hb dL_isLaid_294 ?_
                                  refine lv_rep0 (x := ((nI (12 * x9)) + (nI y9))) (y := nI ((12 * x9) + y9)) (nI_add _ _) ?_
                                  refine lv_iload hx hb dL_isLaid_295 (lv_at hl 3 rfl) ?_
                                  refine rAst (x := (nI v9)) hx hb fx hw 31 (hF.1 31 (by decide)) hF.2.1 (fun _ => rfl) ((12 * x9) + y9) rfl (by omega) (by decide) dL_isLaid_297 (fun H locs hw => ?_)
                                  obtain ⟨σ_452, eσ_452⟩ : ∃ w9, w9 = upA σ 31 (upd (σ 31) ((12 * x9) + y9) (nI v9)) := ⟨_, rfl⟩
                                  rw [← eσ_452] at hw
                                  refine lv_aload_n hx hb dL_isLaid_298 rfl (lv_at hl 6 rfl) ?_
                                  refine lv_iconst (v := 1) hx hb dL_isLaid_299 (by decide) ?_
                                  refine lv_iload hx hb dL_isLaid_300 (lv_at hl 5 rfl) ?_
                                  refine lv_iload hx hb dL_isLaid_302 (lv_at hl 4 rfl) ?_
                                  refine lv_iload hx hb dL_isLaid_304 (lv_at hl 3 rfl) ?_
                                  refine rCallLS (As := [.ref (gad G 0), .int 1, .int (nI x9), .int (nI y9), .int (nI v9)]) (rest := []) ⟨hx, hb, hml, hown, hts⟩ fx hw (d1_ok l hlt G hG hF σ_452 (show CIv σ_452 g n b e9 z from by rw [eσ_452]; exact (show CIv σ g n b e9 z from pcv hA)) x9 y9 v9 (by omega) (by omega) (by omega) (by omega) (by omega) hbo he0) (vx_cwSW 5 hts gL_isLaid_L_does rfl rfl rfl (by decide +kernel) ⟨Nat.le_of_ble_eq_true rfl, Nat.le_of_ble_eq_true rfl⟩) rfl hl.1 rfl (Nat.le_of_ble_eq_true rfl) dL_isLaid_306 ⟨Nat.le_trans (show _ ≤ 3 by omega) (Nat.le_of_ble_eq_true rfl), Nat.le_trans (show _ ≤ 20 by omega) (Nat.le_of_ble_eq_true rfl)⟩ (fun r_453 σ_454 H locs p_455 hw => ?_)
                                  obtain ⟨er_453, eσ_454⟩ := p_455
                                  have er_453 := er_453.symm; subst er_453
                                  refine lv_iload hx hb dL_isLaid_309 (lv_at hl 0 rfl) ?_
                                  refine lv_icmp_ne (tgt := 318) hx hb dL_isLaid_311 (by decide) (fun c_456 => ?_) (fun c_456 => ?_)
                                  · skip
                                    first | exact (c_456 ((way_due hA (show x9 < g by omega) (show y9 < g by omega) (by subst_vars; rfl)).1 (by assumption))).elim | exact (c_456 ((way_due hA (show x9 < g by omega) (show y9 < g by omega) (by subst_vars; rfl)).2 (by assumption))).elim
                                  · skip
                                    refine lv_iconst (v := 1) hx hb dL_isLaid_314 (by decide) ?_
                                    refine lv_goto (tgt := 319) hx hb dL_isLaid_315 (by decide) ?_
                                    subst eσ_454
                                    subst eσ_452
                                    exact rRetZw hx hb hr hw (by decide) (by exact ⟨rfl, po_way hA hGa hbo (by omega) (by omega) (by omega) (by omega)⟩) hlocks dL_isLaid_319 (by omega) (by omega)
                          · skip
                            refine lv_iconst (v := (-1)) hx hb dL_isLaid_256 (by decide) ?_
                            refine lv_goto (tgt := 268) hx hb dL_isLaid_257 (by decide) ?_
                            refine lv_istore (lv' := [(13, .int (-1)), (12, .int 1), (11, .int 1), (10, .int (nI v9)), (9, .int (nI y9)), (8, .int (nI x9)), (0, .ref (gad G 0)), (1, .ref (gad G 31)), (2, .ref (gad G 32)), (3, .ref (gad G 33)), (4, .int 1), (5, .int (nI o)), (6, .int (nI u)), (7, .int (nI v))]) hx hb dL_isLaid_268 hl (by decide) rfl (fun ls hl => ?_)
                            refine lv_iload hx hb dL_isLaid_270 (lv_at hl 2 rfl) ?_
                            refine lv_if_eq (tgt := 298) hx hb dL_isLaid_272 (by decide) (fun c_457 => ?_) (fun c_457 => ?_)
                            · skip
                              exact absurd c_457 (by decide)
                            · skip
                              refine lv_iload hx hb dL_isLaid_275 (lv_at hl 1 rfl) ?_
                              refine lv_if_eq (tgt := 298) hx hb dL_isLaid_277 (by decide) (fun c_458 => ?_) (fun c_458 => ?_)
                              · skip
                                exact absurd c_458 (by decide)
                              · skip
                                refine lv_aload_n hx hb dL_isLaid_280 rfl (lv_at hl 9 rfl) ?_
                                refine lv_iconst (v := 5) hx hb dL_isLaid_281 (by decide) ?_
                                refine lv_rep0 (x := 5) (y := nI 5) rfl ?_
                                refine rAld hx hb fx hw 33 (hF.1 33 (by decide)) hF.2.1 (fun _ => rfl) 5 rfl (by omega) (by decide) dL_isLaid_282 ?_
                                refine lv_rep0 (x := (σ 33 5)) (y := 0) hs5 ?_
                                refine lv_if_ne (tgt := 298) hx hb dL_isLaid_283 (by decide) (fun c_459 => ?_) (fun c_459 => ?_)
                                · skip
                                  exact absurd c_459 (by decide)
                                · skip
                                  refine lv_aload_n hx hb dL_isLaid_286 rfl (lv_at hl 7 rfl) ?_
                                  refine lv_bipush (v := 12) hx hb dL_isLaid_287 (by decide) ?_
                                  refine lv_iload hx hb dL_isLaid_289 (lv_at hl 5 rfl) ?_
                                  refine lv_rep1 (x := 12) (y := nI 12) rfl ?_
                                  refine lv_imul hx hb dL_isLaid_291 ?_
                                  refine lv_rep0 (x := ((nI 12) * (nI x9))) (y := nI (12 * x9)) (pk_mul _ _) ?_
                                  refine lv_iload hx hb dL_isLaid_292 (lv_at hl 4 rfl) ?_
                                  refine lv_iadd hx hb dL_isLaid_294 ?_
                                  refine lv_rep0 (x := ((nI (12 * x9)) + (nI y9))) (y := nI ((12 * x9) + y9)) (nI_add _ _) ?_
                                  refine lv_iload hx hb dL_isLaid_295 (lv_at hl 3 rfl) ?_
                                  refine rAst (x := (nI v9)) hx hb fx hw 31 (hF.1 31 (by decide)) hF.2.1 (fun _ => rfl) ((12 * x9) + y9) rfl (by omega) (by decide) dL_isLaid_297 (fun H locs hw => ?_)
                                  obtain ⟨σ_460, eσ_460⟩ : ∃ w9, w9 = upA σ 31 (upd (σ 31) ((12 * x9) + y9) (nI v9)) := ⟨_, rfl⟩
                                  rw [← eσ_460] at hw
                                  refine lv_aload_n hx hb dL_isLaid_298 rfl (lv_at hl 6 rfl) ?_
                                  refine lv_iconst (v := 1) hx hb dL_isLaid_299 (by decide) ?_
                                  refine lv_iload hx hb dL_isLaid_300 (lv_at hl 5 rfl) ?_
                                  refine lv_iload hx hb dL_isLaid_302 (lv_at hl 4 rfl) ?_
                                  refine lv_iload hx hb dL_isLaid_304 (lv_at hl 3 rfl) ?_
                                  refine rCallLS (As := [.ref (gad G 0), .int 1, .int (nI x9), .int (nI y9), .int (nI v9)]) (rest := []) ⟨hx, hb, hml, hown, hts⟩ fx hw (d1_ok l hlt G hG hF σ_460 (show CIv σ_460 g n b e9 z from by rw [eσ_460]; exact (show CIv σ g n b e9 z from pcv hA)) x9 y9 v9 (by omega) (by omega) (by omega) (by omega) (by omega) hbo he0) (vx_cwSW 5 hts gL_isLaid_L_does rfl rfl rfl (by decide +kernel) ⟨Nat.le_of_ble_eq_true rfl, Nat.le_of_ble_eq_true rfl⟩) rfl hl.1 rfl (Nat.le_of_ble_eq_true rfl) dL_isLaid_306 ⟨Nat.le_trans (show _ ≤ 3 by omega) (Nat.le_of_ble_eq_true rfl), Nat.le_trans (show _ ≤ 20 by omega) (Nat.le_of_ble_eq_true rfl)⟩ (fun r_461 σ_462 H locs p_463 hw => ?_)
                                  obtain ⟨er_461, eσ_462⟩ := p_463
                                  have er_461 := er_461.symm; subst er_461
                                  refine lv_iload hx hb dL_isLaid_309 (lv_at hl 0 rfl) ?_
                                  refine lv_icmp_ne (tgt := 318) hx hb dL_isLaid_311 (by decide) (fun c_464 => ?_) (fun c_464 => ?_)
                                  · skip
                                    first | exact (c_464 ((way_due hA (show x9 < g by omega) (show y9 < g by omega) (by subst_vars; rfl)).1 (by assumption))).elim | exact (c_464 ((way_due hA (show x9 < g by omega) (show y9 < g by omega) (by subst_vars; rfl)).2 (by assumption))).elim
                                  · skip
                                    refine lv_iconst (v := 1) hx hb dL_isLaid_314 (by decide) ?_
                                    refine lv_goto (tgt := 319) hx hb dL_isLaid_315 (by decide) ?_
                                    subst eσ_462
                                    subst eσ_460
                                    exact rRetZw hx hb hr hw (by decide) (by exact ⟨rfl, po_way hA hGa hbo (by omega) (by omega) (by omega) (by omega)⟩) hlocks dL_isLaid_319 (by omega) (by omega)
                        · skip
                          exact absurd c_441 (by decide)
                      · skip
                        exact absurd c_440 (by decide)
                    · skip
                      exact absurd c_439 (by decide)
              · skip
                have c_436 : ¬ x9 < y9 := fun h9 => c_436 ((nI_ltI (by omega) (by omega)).mpr h9)
                refine lv_iload hx hb dL_isLaid_185 (lv_at hl 2 rfl) ?_
                refine lv_if_ne (tgt := 211) hx hb dL_isLaid_187 (by decide) (fun c_465 => ?_) (fun c_465 => ?_)
                · skip
                  have c_465 : ¬ y9 = 0 := n0_net (by omega) c_465
                  omega
                · skip
                  have c_465 : y9 = 0 := n0_nef (by omega) c_465
                  refine lv_iload hx hb dL_isLaid_190 (lv_at hl 3 rfl) ?_
                  refine lv_if_le (tgt := 211) hx hb dL_isLaid_192 (by decide) (fun c_466 => ?_) (fun c_466 => ?_)
                  · skip
                    have c_466 : x9 = 0 := n0_let (by omega) c_466
                    omega
                  · skip
                    have c_466 : 0 < x9 := n0_lef (by omega) c_466
                    refine lv_iload hx hb dL_isLaid_195 (lv_at hl 1 rfl) ?_
                    refine lv_if_le (tgt := 211) hx hb dL_isLaid_197 (by decide) (fun c_467 => ?_) (fun c_467 => ?_)
                    · skip
                      have c_467 : v9 = 0 := n0_let (by omega) c_467
                      omega
                    · skip
                      have c_467 : 0 < v9 := n0_lef (by omega) c_467
                      refine lv_iload hx hb dL_isLaid_200 (lv_at hl 1 rfl) ?_
                      refine lv_bipush (v := 101) hx hb dL_isLaid_202 (by decide) ?_
                      refine lv_rep0 (x := 101) (y := nI 101) rfl ?_
                      refine lv_icmp_ge (tgt := 211) hx hb dL_isLaid_204 (by decide) (fun c_468 => ?_) (fun c_468 => ?_)
                      · skip
                        have c_468 : 101 ≤ v9 := (nI_leI (by omega) (by omega)).mp c_468
                        omega
                      · skip
                        have c_468 : ¬ 101 ≤ v9 := fun h9 => c_468 ((nI_leI (by omega) (by omega)).mpr h9)
                        refine lv_iconst (v := 1) hx hb dL_isLaid_207 (by decide) ?_
                        refine lv_goto (tgt := 212) hx hb dL_isLaid_208 (by decide) ?_
                        refine lv_istore (lv' := [(12, .int 1), (11, .int 1), (10, .int (nI v9)), (9, .int (nI y9)), (8, .int (nI x9)), (0, .ref (gad G 0)), (1, .ref (gad G 31)), (2, .ref (gad G 32)), (3, .ref (gad G 33)), (4, .int 1), (5, .int (nI o)), (6, .int (nI u)), (7, .int (nI v))]) hx hb dL_isLaid_212 hl (by decide) rfl (fun ls hl => ?_)
                        refine lv_iload hx hb dL_isLaid_214 (lv_at hl 1 rfl) ?_
                        refine lv_if_ne (tgt := 224) hx hb dL_isLaid_216 (by decide) (fun c_469 => ?_) (fun c_469 => ?_)
                        · skip
                          refine lv_iload hx hb dL_isLaid_224 (lv_at hl 0 rfl) ?_
                          refine lv_if_ne (tgt := 234) hx hb dL_isLaid_226 (by decide) (fun c_470 => ?_) (fun c_470 => ?_)
                          · skip
                            refine lv_aload_n hx hb dL_isLaid_234 rfl (lv_at hl 8 rfl) ?_
                            refine lv_iconst (v := 5) hx hb dL_isLaid_235 (by decide) ?_
                            refine lv_rep0 (x := 5) (y := nI 5) rfl ?_
                            refine rAld hx hb fx hw 33 (hF.1 33 (by decide)) hF.2.1 (fun _ => rfl) 5 rfl (by omega) (by decide) dL_isLaid_236 ?_
                            refine lv_rep0 (x := (σ 33 5)) (y := 0) hs5 ?_
                            refine lv_if_le (tgt := 245) hx hb dL_isLaid_237 (by decide) (fun c_471 => ?_) (fun c_471 => ?_)
                            · skip
                              refine lv_aload_n hx hb dL_isLaid_245 rfl (lv_at hl 6 rfl) ?_
                              refine lv_iload hx hb dL_isLaid_246 (lv_at hl 4 rfl) ?_
                              refine lv_iload hx hb dL_isLaid_248 (lv_at hl 3 rfl) ?_
                              refine rCallM (As := [.ref (gad G 31), .int (nI x9), .int (nI y9)]) (rest := []) ⟨hx, hb, hml, hown, hts⟩ fx hw (kL_way l hlt G hG hF σ x9 y9 (by omega) (by omega)) (va_cwS 3 hts gL_isLaid_L_way rfl rfl rfl (by decide +kernel) ⟨Nat.le_of_ble_eq_true rfl, Nat.le_of_ble_eq_true rfl⟩) rfl hl.1 rfl (Nat.le_of_ble_eq_true rfl) dL_isLaid_250 ⟨Nat.le_trans (show _ ≤ 3 by omega) (Nat.le_of_ble_eq_true rfl), Nat.le_trans (show _ ≤ 20 by omega) (Nat.le_of_ble_eq_true rfl)⟩ (fun r_472 σ_473 H locs p_474 hw => ?_)
                              obtain ⟨er_472, eσ_473⟩ := p_474
                              have er_472 := er_472.symm; subst er_472
                              have eσ_473 := eσ_473.symm; subst eσ_473
                              refine lv_if_ne (tgt := 260) hx hb dL_isLaid_253 (by decide) (fun c_475 => ?_) (fun c_475 => ?_)
                              · skip
                                refine lv_aload_n hx hb dL_isLaid_260 rfl (lv_at hl 6 rfl) ?_
                                refine lv_iload hx hb dL_isLaid_261 (lv_at hl 4 rfl) ?_
                                refine lv_iload hx hb dL_isLaid_263 (lv_at hl 3 rfl) ?_
                                refine rCallM (As := [.ref (gad G 31), .int (nI x9), .int (nI y9)]) (rest := []) ⟨hx, hb, hml, hown, hts⟩ fx hw (kL_way l hlt G hG hF σ x9 y9 (by omega) (by omega)) (va_cwS 3 hts gL_isLaid_L_way rfl rfl rfl (by decide +kernel) ⟨Nat.le_of_ble_eq_true rfl, Nat.le_of_ble_eq_true rfl⟩) rfl hl.1 rfl (Nat.le_of_ble_eq_true rfl) dL_isLaid_265 ⟨Nat.le_trans (show _ ≤ 3 by omega) (Nat.le_of_ble_eq_true rfl), Nat.le_trans (show _ ≤ 20 by omega) (Nat.le_of_ble_eq_true rfl)⟩ (fun r_476 σ_477 H locs p_478 hw => ?_)
                                obtain ⟨er_476, eσ_477⟩ := p_478
                                have er_476 := er_476.symm; subst er_476
                                have eσ_477 := eσ_477.symm; subst eσ_477
                                refine lv_istore (lv' := [(13, .int (σ 31 ((12 * x9) + y9))), (12, .int 1), (11, .int 1), (10, .int (nI v9)), (9, .int (nI y9)), (8, .int (nI x9)), (0, .ref (gad G 0)), (1, .ref (gad G 31)), (2, .ref (gad G 32)), (3, .ref (gad G 33)), (4, .int 1), (5, .int (nI o)), (6, .int (nI u)), (7, .int (nI v))]) hx hb dL_isLaid_268 hl (by decide) rfl (fun ls hl => ?_)
                                refine lv_iload hx hb dL_isLaid_270 (lv_at hl 2 rfl) ?_
                                refine lv_if_eq (tgt := 298) hx hb dL_isLaid_272 (by decide) (fun c_479 => ?_) (fun c_479 => ?_)
                                · skip
                                  exact absurd c_479 (by decide)
                                · skip
                                  refine lv_iload hx hb dL_isLaid_275 (lv_at hl 1 rfl) ?_
                                  refine lv_if_eq (tgt := 298) hx hb dL_isLaid_277 (by decide) (fun c_480 => ?_) (fun c_480 => ?_)
                                  · skip
                                    exact absurd c_480 (by decide)
                                  · skip
                                    refine lv_aload_n hx hb dL_isLaid_280 rfl (lv_at hl 9 rfl) ?_
                                    refine lv_iconst (v := 5) hx hb dL_isLaid_281 (by decide) ?_
                                    refine lv_rep0 (x := 5) (y := nI 5) rfl ?_
                                    refine rAld hx hb fx hw 33 (hF.1 33 (by decide)) hF.2.1 (fun _ => rfl) 5 rfl (by omega) (by decide) dL_isLaid_282 ?_
                                    refine lv_rep0 (x := (σ 33 5)) (y := 0) hs5 ?_
                                    refine lv_if_ne (tgt := 298) hx hb dL_isLaid_283 (by decide) (fun c_481 => ?_) (fun c_481 => ?_)
                                    · skip
                                      exact absurd c_481 (by decide)
                                    · skip
                                      refine lv_aload_n hx hb dL_isLaid_286 rfl (lv_at hl 7 rfl) ?_
                                      refine lv_bipush (v := 12) hx hb dL_isLaid_287 (by decide) ?_
                                      refine lv_iload hx hb dL_isLaid_289 (lv_at hl 5 rfl) ?_
                                      refine lv_rep1 (x := 12) (y := nI 12) rfl ?_
                                      refine lv_imul hx hb dL_isLaid_291 ?_
                                      refine lv_rep0 (x := ((nI 12) * (nI x9))) (y := nI (12 * x9)) (pk_mul _ _) ?_
                                      refine lv_iload hx hb dL_isLaid_292 (lv_at hl 4 rfl) ?_
                                      refine lv_iadd hx hb dL_isLaid_294 ?_
                                      refine lv_rep0 (x := ((nI (12 * x9)) + (nI y9))) (y := nI ((12 * x9) + y9)) (nI_add _ _) ?_
                                      refine lv_iload hx hb dL_isLaid_295 (lv_at hl 3 rfl) ?_
                                      refine rAst (x := (nI v9)) hx hb fx hw 31 (hF.1 31 (by decide)) hF.2.1 (fun _ => rfl) ((12 * x9) + y9) rfl (by omega) (by decide) dL_isLaid_297 (fun H locs hw => ?_)
                                      obtain ⟨σ_482, eσ_482⟩ : ∃ w9, w9 = upA σ 31 (upd (σ 31) ((12 * x9) + y9) (nI v9)) := ⟨_, rfl⟩
                                      rw [← eσ_482] at hw
                                      refine lv_aload_n hx hb dL_isLaid_298 rfl (lv_at hl 6 rfl) ?_
                                      refine lv_iconst (v := 1) hx hb dL_isLaid_299 (by decide) ?_
                                      refine lv_iload hx hb dL_isLaid_300 (lv_at hl 5 rfl) ?_
                                      refine lv_iload hx hb dL_isLaid_302 (lv_at hl 4 rfl) ?_
                                      refine lv_iload hx hb dL_isLaid_304 (lv_at hl 3 rfl) ?_
                                      refine rCallLS (As := [.ref (gad G 0), .int 1, .int (nI x9), .int (nI y9), .int (nI v9)]) (rest := []) ⟨hx, hb, hml, hown, hts⟩ fx hw (d1_ok l hlt G hG hF σ_482 (show CIv σ_482 g n b e9 z from by rw [eσ_482]; exact (show CIv σ g n b e9 z from pcv hA)) x9 y9 v9 (by omega) (by omega) (by omega) (by omega) (by omega) hbo he0) (vx_cwSW 5 hts gL_isLaid_L_does rfl rfl rfl (by decide +kernel) ⟨Nat.le_of_ble_eq_true rfl, Nat.le_of_ble_eq_true rfl⟩) rfl hl.1 rfl (Nat.le_of_ble_eq_true rfl) dL_isLaid_306 ⟨Nat.le_trans (show _ ≤ 3 by omega) (Nat.le_of_ble_eq_true rfl), Nat.le_trans (show _ ≤ 20 by omega) (Nat.le_of_ble_eq_true rfl)⟩ (fun r_483 σ_484 H locs p_485 hw => ?_)
                                      obtain ⟨er_483, eσ_484⟩ := p_485
                                      have er_483 := er_483.symm; subst er_483
                                      refine lv_iload hx hb dL_isLaid_309 (lv_at hl 0 rfl) ?_
                                      refine lv_icmp_ne (tgt := 318) hx hb dL_isLaid_311 (by decide) (fun c_486 => ?_) (fun c_486 => ?_)
                                      · skip
                                        first | exact (c_486 ((way_due hA (show x9 < g by omega) (show y9 < g by omega) (by subst_vars; rfl)).1 (by assumption))).elim | exact (c_486 ((way_due hA (show x9 < g by omega) (show y9 < g by omega) (by subst_vars; rfl)).2 (by assumption))).elim
                                      · skip
                                        refine lv_iconst (v := 1) hx hb dL_isLaid_314 (by decide) ?_
                                        refine lv_goto (tgt := 319) hx hb dL_isLaid_315 (by decide) ?_
                                        subst eσ_484
                                        subst eσ_482
                                        exact rRetZw hx hb hr hw (by decide) (by exact ⟨rfl, po_way hA hGa hbo (by omega) (by omega) (by omega) (by omega)⟩) hlocks dL_isLaid_319 (by omega) (by omega)
                              · skip
                                refine lv_iconst (v := (-1)) hx hb dL_isLaid_256 (by decide) ?_
                                refine lv_goto (tgt := 268) hx hb dL_isLaid_257 (by decide) ?_
                                refine lv_istore (lv' := [(13, .int (-1)), (12, .int 1), (11, .int 1), (10, .int (nI v9)), (9, .int (nI y9)), (8, .int (nI x9)), (0, .ref (gad G 0)), (1, .ref (gad G 31)), (2, .ref (gad G 32)), (3, .ref (gad G 33)), (4, .int 1), (5, .int (nI o)), (6, .int (nI u)), (7, .int (nI v))]) hx hb dL_isLaid_268 hl (by decide) rfl (fun ls hl => ?_)
                                refine lv_iload hx hb dL_isLaid_270 (lv_at hl 2 rfl) ?_
                                refine lv_if_eq (tgt := 298) hx hb dL_isLaid_272 (by decide) (fun c_487 => ?_) (fun c_487 => ?_)
                                · skip
                                  exact absurd c_487 (by decide)
                                · skip
                                  refine lv_iload hx hb dL_isLaid_275 (lv_at hl 1 rfl) ?_
                                  refine lv_if_eq (tgt := 298) hx hb dL_isLaid_277 (by decide) (fun c_488 => ?_) (fun c_488 => ?_)
                                  · skip
                                    exact absurd c_488 (by decide)
                                  · skip
                                    refine lv_aload_n hx hb dL_isLaid_280 rfl (lv_at hl 9 rfl) ?_
                                    refine lv_iconst (v := 5) hx hb dL_isLaid_281 (by decide) ?_
                                    refine lv_rep0 (x := 5) (y := nI 5) rfl ?_
                                    refine rAld hx hb fx hw 33 (hF.1 33 (by decide)) hF.2.1 (fun _ => rfl) 5 rfl (by omega) (by decide) dL_isLaid_282 ?_
                                    refine lv_rep0 (x := (σ 33 5)) (y := 0) hs5 ?_
                                    refine lv_if_ne (tgt := 298) hx hb dL_isLaid_283 (by decide) (fun c_489 => ?_) (fun c_489 => ?_)
                                    · skip
                                      exact absurd c_489 (by decide)
                                    · skip
                                      refine lv_aload_n hx hb dL_isLaid_286 rfl (lv_at hl 7 rfl) ?_
                                      refine lv_bipush (v := 12) hx hb dL_isLaid_287 (by decide) ?_
                                      refine lv_iload hx hb dL_isLaid_289 (lv_at hl 5 rfl) ?_
                                      refine lv_rep1 (x := 12) (y := nI 12) rfl ?_
                                      refine lv_imul hx hb dL_isLaid_291 ?_
                                      refine lv_rep0 (x := ((nI 12) * (nI x9))) (y := nI (12 * x9)) (pk_mul _ _) ?_
                                      refine lv_iload hx hb dL_isLaid_292 (lv_at hl 4 rfl) ?_
                                      refine lv_iadd hx hb dL_isLaid_294 ?_
                                      refine lv_rep0 (x := ((nI (12 * x9)) + (nI y9))) (y := nI ((12 * x9) + y9)) (nI_add _ _) ?_
                                      refine lv_iload hx hb dL_isLaid_295 (lv_at hl 3 rfl) ?_
                                      refine rAst (x := (nI v9)) hx hb fx hw 31 (hF.1 31 (by decide)) hF.2.1 (fun _ => rfl) ((12 * x9) + y9) rfl (by omega) (by decide) dL_isLaid_297 (fun H locs hw => ?_)
                                      obtain ⟨σ_490, eσ_490⟩ : ∃ w9, w9 = upA σ 31 (upd (σ 31) ((12 * x9) + y9) (nI v9)) := ⟨_, rfl⟩
                                      rw [← eσ_490] at hw
                                      refine lv_aload_n hx hb dL_isLaid_298 rfl (lv_at hl 6 rfl) ?_
                                      refine lv_iconst (v := 1) hx hb dL_isLaid_299 (by decide) ?_
                                      refine lv_iload hx hb dL_isLaid_300 (lv_at hl 5 rfl) ?_
                                      refine lv_iload hx hb dL_isLaid_302 (lv_at hl 4 rfl) ?_
                                      refine lv_iload hx hb dL_isLaid_304 (lv_at hl 3 rfl) ?_
                                      refine rCallLS (As := [.ref (gad G 0), .int 1, .int (nI x9), .int (nI y9), .int (nI v9)]) (rest := []) ⟨hx, hb, hml, hown, hts⟩ fx hw (d1_ok l hlt G hG hF σ_490 (show CIv σ_490 g n b e9 z from by rw [eσ_490]; exact (show CIv σ g n b e9 z from pcv hA)) x9 y9 v9 (by omega) (by omega) (by omega) (by omega) (by omega) hbo he0) (vx_cwSW 5 hts gL_isLaid_L_does rfl rfl rfl (by decide +kernel) ⟨Nat.le_of_ble_eq_true rfl, Nat.le_of_ble_eq_true rfl⟩) rfl hl.1 rfl (Nat.le_of_ble_eq_true rfl) dL_isLaid_306 ⟨Nat.le_trans (show _ ≤ 3 by omega) (Nat.le_of_ble_eq_true rfl), Nat.le_trans (show _ ≤ 20 by omega) (Nat.le_of_ble_eq_true rfl)⟩ (fun r_491 σ_492 H locs p_493 hw => ?_)
                                      obtain ⟨er_491, eσ_492⟩ := p_493
                                      have er_491 := er_491.symm; subst er_491
                                      refine lv_iload hx hb dL_isLaid_309 (lv_at hl 0 rfl) ?_
                                      refine lv_icmp_ne (tgt := 318) hx hb dL_isLaid_311 (by decide) (fun c_494 => ?_) (fun c_494 => ?_)
                                      · skip
                                        first | exact (c_494 ((way_due hA (show x9 < g by omega) (show y9 < g by omega) (by subst_vars; rfl)).1 (by assumption))).elim | exact (c_494 ((way_due hA (show x9 < g by omega) (show y9 < g by omega) (by subst_vars; rfl)).2 (by assumption))).elim
                                      · skip
                                        refine lv_iconst (v := 1) hx hb dL_isLaid_314 (by decide) ?_
                                        refine lv_goto (tgt := 319) hx hb dL_isLaid_315 (by decide) ?_
                                        subst eσ_492
                                        subst eσ_490
                                        exact rRetZw hx hb hr hw (by decide) (by exact ⟨rfl, po_way hA hGa hbo (by omega) (by omega) (by omega) (by omega)⟩) hlocks dL_isLaid_319 (by omega) (by omega)
                            · skip
                              exact absurd c_471 (by decide)
                          · skip
                            exact absurd c_470 (by decide)
                        · skip
                          exact absurd c_469 (by decide)
    · skip
      exact absurd c_365 (by decide)
  · skip
    obtain ⟨s9, hs5, hs1, hs2, hnev⟩ := hst
    refine lv_iload hx hb dL_isLaid_0 (lv_at hl 4 rfl) ?_
    refine lv_if_ne (tgt := 111) hx hb dL_isLaid_2 (by decide) (fun c_495 => ?_) (fun c_495 => ?_)
    · skip
      refine lv_iload hx hb dL_isLaid_111 (lv_at hl 4 rfl) ?_
      refine lv_iconst (v := 1) hx hb dL_isLaid_113 (by decide) ?_
      refine lv_icmp_ne (tgt := 320) hx hb dL_isLaid_114 (by decide) (fun c_496 => ?_) (fun c_496 => ?_)
      · skip
        exact absurd c_496 (by decide)
      · skip
        refine lv_iload hx hb dL_isLaid_117 (lv_at hl 5 rfl) ?_
        refine lv_aload_n hx hb dL_isLaid_119 rfl (lv_at hl 3 rfl) ?_
        refine lv_iconst (v := 0) hx hb dL_isLaid_120 (by decide) ?_
        refine lv_rep0 (x := 0) (y := nI 0) rfl ?_
        refine rAld hx hb fx hw 33 (hF.1 33 (by decide)) hF.2.1 (fun _ => rfl) 0 rfl (by omega) (by decide) dL_isLaid_121 ?_
        refine lv_rep0 (x := (σ 33 0)) (y := (nI g)) (pg hA).1 ?_
        refine lv_iconst (v := 1) hx hb dL_isLaid_122 (by decide) ?_
        refine lv_rep0 (x := 1) (y := nI 1) rfl ?_
        refine lv_iadd hx hb dL_isLaid_123 ?_
        refine lv_rep0 (x := ((nI g) + (nI 1))) (y := nI (g + 1)) (nI_add _ _) ?_
        refine lv_irem hx hb dL_isLaid_124 (nI_ne0 (by omega) (by omega)) ?_
        refine lv_rep0 (y := nI (o % (g + 1))) (pk_rem (by omega) (by omega) (by omega)) ?_
        have hrm9 := Nat.mod_lt o (show 0 < (g + 1) by omega)
        refine lv_istore (lv' := [(8, .int (nI (o % (g + 1)))), (0, .ref (gad G 0)), (1, .ref (gad G 31)), (2, .ref (gad G 32)), (3, .ref (gad G 33)), (4, .int 1), (5, .int (nI o)), (6, .int (nI u)), (7, .int (nI v))]) hx hb dL_isLaid_125 hl (by decide) rfl (fun ls hl => ?_)
        have q_497 : (nI (o % (g + 1))) = (nI x9) := by rw [hx9]
        have hl : lv_has ls 14 [(8, .int (nI x9)), (0, .ref (gad G 0)), (1, .ref (gad G 31)), (2, .ref (gad G 32)), (3, .ref (gad G 33)), (4, .int 1), (5, .int (nI o)), (6, .int (nI u)), (7, .int (nI v))] := (lv_c (lv_atq hl 0 rfl q_497) (lv_c (lv_at hl 1 rfl) (lv_c (lv_at hl 2 rfl) (lv_c (lv_at hl 3 rfl) (lv_c (lv_at hl 4 rfl) (lv_c (lv_at hl 5 rfl) (lv_c (lv_at hl 6 rfl) (lv_c (lv_at hl 7 rfl) (lv_c (lv_at hl 8 rfl) (lv_c0 hl))))))))))
        refine lv_iload hx hb dL_isLaid_127 (lv_at hl 8 rfl) ?_
        refine lv_iconst (v := 3) hx hb dL_isLaid_129 (by decide) ?_
        refine lv_rep0 (x := 3) (y := nI 3) rfl ?_
        refine lv_irem hx hb dL_isLaid_130 (nI_ne0 (by omega) (by omega)) ?_
        refine lv_rep0 (y := nI (v % 3)) (pk_rem (by omega) (by omega) (by omega)) ?_
        refine lv_if_ne (tgt := 138) hx hb dL_isLaid_131 (by decide) (fun c_498 => ?_) (fun c_498 => ?_)
        · skip
          have c_498 : ¬ (v % 3) = 0 := n0_net (by omega) c_498
          refine lv_iload hx hb dL_isLaid_138 (lv_at hl 7 rfl) ?_
          refine lv_aload_n hx hb dL_isLaid_140 rfl (lv_at hl 4 rfl) ?_
          refine lv_iconst (v := 0) hx hb dL_isLaid_141 (by decide) ?_
          refine lv_rep0 (x := 0) (y := nI 0) rfl ?_
          refine rAld hx hb fx hw 33 (hF.1 33 (by decide)) hF.2.1 (fun _ => rfl) 0 rfl (by omega) (by decide) dL_isLaid_142 ?_
          refine lv_rep0 (x := (σ 33 0)) (y := (nI g)) (pg hA).1 ?_
          refine lv_iconst (v := 1) hx hb dL_isLaid_143 (by decide) ?_
          refine lv_rep0 (x := 1) (y := nI 1) rfl ?_
          refine lv_iadd hx hb dL_isLaid_144 ?_
          refine lv_rep0 (x := ((nI g) + (nI 1))) (y := nI (g + 1)) (nI_add _ _) ?_
          refine lv_irem hx hb dL_isLaid_145 (nI_ne0 (by omega) (by omega)) ?_
          refine lv_rep0 (y := nI (u % (g + 1))) (pk_rem (by omega) (by omega) (by omega)) ?_
          have hrm9 := Nat.mod_lt u (show 0 < (g + 1) by omega)
          refine lv_istore (lv' := [(9, .int (nI (u % (g + 1)))), (8, .int (nI x9)), (0, .ref (gad G 0)), (1, .ref (gad G 31)), (2, .ref (gad G 32)), (3, .ref (gad G 33)), (4, .int 1), (5, .int (nI o)), (6, .int (nI u)), (7, .int (nI v))]) hx hb dL_isLaid_146 hl (by decide) rfl (fun ls hl => ?_)
          have q_499 : (nI (u % (g + 1))) = (nI y9) := by first | (rw [hy9, if_pos (by omega)]; rfl) | rw [hy9, if_neg (by omega)]
          have hl : lv_has ls 14 [(9, .int (nI y9)), (8, .int (nI x9)), (0, .ref (gad G 0)), (1, .ref (gad G 31)), (2, .ref (gad G 32)), (3, .ref (gad G 33)), (4, .int 1), (5, .int (nI o)), (6, .int (nI u)), (7, .int (nI v))] := (lv_c (lv_atq hl 0 rfl q_499) (lv_c (lv_at hl 1 rfl) (lv_c (lv_at hl 2 rfl) (lv_c (lv_at hl 3 rfl) (lv_c (lv_at hl 4 rfl) (lv_c (lv_at hl 5 rfl) (lv_c (lv_at hl 6 rfl) (lv_c (lv_at hl 7 rfl) (lv_c (lv_at hl 8 rfl) (lv_c (lv_at hl 9 rfl) (lv_c0 hl)))))))))))
          refine lv_iload hx hb dL_isLaid_148 (lv_at hl 9 rfl) ?_
          refine lv_bipush (v := 103) hx hb dL_isLaid_150 (by decide) ?_
          refine lv_rep0 (x := 103) (y := nI 103) rfl ?_
          refine lv_irem hx hb dL_isLaid_152 (nI_ne0 (by omega) (by omega)) ?_
          refine lv_rep0 (y := nI (v % 103)) (pk_rem (by omega) (by omega) (by omega)) ?_
          refine lv_istore (lv' := [(10, .int (nI (v % 103))), (9, .int (nI y9)), (8, .int (nI x9)), (0, .ref (gad G 0)), (1, .ref (gad G 31)), (2, .ref (gad G 32)), (3, .ref (gad G 33)), (4, .int 1), (5, .int (nI o)), (6, .int (nI u)), (7, .int (nI v))]) hx hb dL_isLaid_153 hl (by decide) rfl (fun ls hl => ?_)
          have q_500 : (nI (v % 103)) = (nI v9) := by rw [hv9]
          have hl : lv_has ls 14 [(10, .int (nI v9)), (9, .int (nI y9)), (8, .int (nI x9)), (0, .ref (gad G 0)), (1, .ref (gad G 31)), (2, .ref (gad G 32)), (3, .ref (gad G 33)), (4, .int 1), (5, .int (nI o)), (6, .int (nI u)), (7, .int (nI v))] := (lv_c (lv_atq hl 0 rfl q_500) (lv_c (lv_at hl 1 rfl) (lv_c (lv_at hl 2 rfl) (lv_c (lv_at hl 3 rfl) (lv_c (lv_at hl 4 rfl) (lv_c (lv_at hl 5 rfl) (lv_c (lv_at hl 6 rfl) (lv_c (lv_at hl 7 rfl) (lv_c (lv_at hl 8 rfl) (lv_c (lv_at hl 9 rfl) (lv_c (lv_at hl 10 rfl) (lv_c0 hl))))))))))))
          refine lv_iload hx hb dL_isLaid_155 (lv_at hl 2 rfl) ?_
          refine lv_aload_n hx hb dL_isLaid_157 rfl (lv_at hl 6 rfl) ?_
          refine lv_iconst (v := 0) hx hb dL_isLaid_158 (by decide) ?_
          refine lv_rep0 (x := 0) (y := nI 0) rfl ?_
          refine rAld hx hb fx hw 33 (hF.1 33 (by decide)) hF.2.1 (fun _ => rfl) 0 rfl (by omega) (by decide) dL_isLaid_159 ?_
          refine lv_rep0 (x := (σ 33 0)) (y := (nI g)) (pg hA).1 ?_
          refine lv_icmp_ge (tgt := 175) hx hb dL_isLaid_160 (by decide) (fun c_501 => ?_) (fun c_501 => ?_)
          · skip
            have c_501 : g ≤ x9 := (nI_leI (by omega) (by omega)).mp c_501
            refine lv_iconst (v := 0) hx hb dL_isLaid_175 (by decide) ?_
            refine lv_istore (lv' := [(11, .int 0), (10, .int (nI v9)), (9, .int (nI y9)), (8, .int (nI x9)), (0, .ref (gad G 0)), (1, .ref (gad G 31)), (2, .ref (gad G 32)), (3, .ref (gad G 33)), (4, .int 1), (5, .int (nI o)), (6, .int (nI u)), (7, .int (nI v))]) hx hb dL_isLaid_176 hl (by decide) rfl (fun ls hl => ?_)
            refine lv_iload hx hb dL_isLaid_178 (lv_at hl 2 rfl) ?_
            refine lv_iload hx hb dL_isLaid_180 (lv_at hl 3 rfl) ?_
            refine lv_icmp_gt (tgt := 195) hx hb dL_isLaid_182 (by decide) (fun c_502 => ?_) (fun c_502 => ?_)
            · skip
              have c_502 : x9 < y9 := (nI_ltI (by omega) (by omega)).mp c_502
              refine lv_iload hx hb dL_isLaid_195 (lv_at hl 1 rfl) ?_
              refine lv_if_le (tgt := 211) hx hb dL_isLaid_197 (by decide) (fun c_503 => ?_) (fun c_503 => ?_)
              · skip
                have c_503 : v9 = 0 := n0_let (by omega) c_503
                refine lv_iconst (v := 0) hx hb dL_isLaid_211 (by decide) ?_
                refine lv_istore (lv' := [(12, .int 0), (11, .int 0), (10, .int (nI v9)), (9, .int (nI y9)), (8, .int (nI x9)), (0, .ref (gad G 0)), (1, .ref (gad G 31)), (2, .ref (gad G 32)), (3, .ref (gad G 33)), (4, .int 1), (5, .int (nI o)), (6, .int (nI u)), (7, .int (nI v))]) hx hb dL_isLaid_212 hl (by decide) rfl (fun ls hl => ?_)
                refine lv_iload hx hb dL_isLaid_214 (lv_at hl 1 rfl) ?_
                refine lv_if_ne (tgt := 224) hx hb dL_isLaid_216 (by decide) (fun c_504 => ?_) (fun c_504 => ?_)
                · skip
                  exact absurd c_504 (by decide)
                · skip
                  refine lv_bipush (v := (-30)) hx hb dL_isLaid_219 (by decide) ?_
                  refine lv_goto (tgt := 268) hx hb dL_isLaid_221 (by decide) ?_
                  refine lv_istore (lv' := [(13, .int (-30)), (12, .int 0), (11, .int 0), (10, .int (nI v9)), (9, .int (nI y9)), (8, .int (nI x9)), (0, .ref (gad G 0)), (1, .ref (gad G 31)), (2, .ref (gad G 32)), (3, .ref (gad G 33)), (4, .int 1), (5, .int (nI o)), (6, .int (nI u)), (7, .int (nI v))]) hx hb dL_isLaid_268 hl (by decide) rfl (fun ls hl => ?_)
                  refine lv_iload hx hb dL_isLaid_270 (lv_at hl 2 rfl) ?_
                  refine lv_if_eq (tgt := 298) hx hb dL_isLaid_272 (by decide) (fun c_505 => ?_) (fun c_505 => ?_)
                  · skip
                    refine lv_aload_n hx hb dL_isLaid_298 rfl (lv_at hl 6 rfl) ?_
                    refine lv_iconst (v := 1) hx hb dL_isLaid_299 (by decide) ?_
                    refine lv_iload hx hb dL_isLaid_300 (lv_at hl 5 rfl) ?_
                    refine lv_iload hx hb dL_isLaid_302 (lv_at hl 4 rfl) ?_
                    refine lv_iload hx hb dL_isLaid_304 (lv_at hl 3 rfl) ?_
                    refine rCallLS (As := [.ref (gad G 0), .int 1, .int (nI x9), .int (nI y9), .int (nI v9)]) (rest := []) ⟨hx, hb, hml, hown, hts⟩ fx hw (d1_t1 l hlt G hG hF σ (pcv hA) ((nI x9)) ((nI y9)) ((nI v9)) (by first | (rw [inB_no (a := x9) (n := g) (by omega) (by omega)]; rfl) | (rw [inB_no (a := y9) (n := g) (by omega) (by omega), Bool.and_false]))) (vx_cwSW 5 hts gL_isLaid_L_does rfl rfl rfl (by decide +kernel) ⟨Nat.le_of_ble_eq_true rfl, Nat.le_of_ble_eq_true rfl⟩) rfl hl.1 rfl (Nat.le_of_ble_eq_true rfl) dL_isLaid_306 ⟨Nat.le_trans (show _ ≤ 3 by omega) (Nat.le_of_ble_eq_true rfl), Nat.le_trans (show _ ≤ 20 by omega) (Nat.le_of_ble_eq_true rfl)⟩ (fun r_506 σ_507 H locs p_508 hw => ?_)
                    obtain ⟨er_506, eσ_507⟩ := p_508
                    have er_506 := er_506.symm; subst er_506
                    have eσ_507 := eσ_507.symm; subst eσ_507
                    refine lv_iload hx hb dL_isLaid_309 (lv_at hl 0 rfl) ?_
                    refine lv_icmp_ne (tgt := 318) hx hb dL_isLaid_311 (by decide) (fun c_509 => ?_) (fun c_509 => ?_)
                    · skip
                      exact absurd c_509 (by decide)
                    · skip
                      refine lv_iconst (v := 1) hx hb dL_isLaid_314 (by decide) ?_
                      refine lv_goto (tgt := 319) hx hb dL_isLaid_315 (by decide) ?_
                      exact rRetZw hx hb hr hw (by decide) (by exact ⟨rfl, po_same hA hGa⟩) hlocks dL_isLaid_319 (by omega) (by omega)
                  · skip
                    exact absurd c_505 (by decide)
              · skip
                have c_503 : 0 < v9 := n0_lef (by omega) c_503
                refine lv_iload hx hb dL_isLaid_200 (lv_at hl 1 rfl) ?_
                refine lv_bipush (v := 101) hx hb dL_isLaid_202 (by decide) ?_
                refine lv_rep0 (x := 101) (y := nI 101) rfl ?_
                refine lv_icmp_ge (tgt := 211) hx hb dL_isLaid_204 (by decide) (fun c_510 => ?_) (fun c_510 => ?_)
                · skip
                  have c_510 : 101 ≤ v9 := (nI_leI (by omega) (by omega)).mp c_510
                  refine lv_iconst (v := 0) hx hb dL_isLaid_211 (by decide) ?_
                  refine lv_istore (lv' := [(12, .int 0), (11, .int 0), (10, .int (nI v9)), (9, .int (nI y9)), (8, .int (nI x9)), (0, .ref (gad G 0)), (1, .ref (gad G 31)), (2, .ref (gad G 32)), (3, .ref (gad G 33)), (4, .int 1), (5, .int (nI o)), (6, .int (nI u)), (7, .int (nI v))]) hx hb dL_isLaid_212 hl (by decide) rfl (fun ls hl => ?_)
                  refine lv_iload hx hb dL_isLaid_214 (lv_at hl 1 rfl) ?_
                  refine lv_if_ne (tgt := 224) hx hb dL_isLaid_216 (by decide) (fun c_511 => ?_) (fun c_511 => ?_)
                  · skip
                    exact absurd c_511 (by decide)
                  · skip
                    refine lv_bipush (v := (-30)) hx hb dL_isLaid_219 (by decide) ?_
                    refine lv_goto (tgt := 268) hx hb dL_isLaid_221 (by decide) ?_
                    refine lv_istore (lv' := [(13, .int (-30)), (12, .int 0), (11, .int 0), (10, .int (nI v9)), (9, .int (nI y9)), (8, .int (nI x9)), (0, .ref (gad G 0)), (1, .ref (gad G 31)), (2, .ref (gad G 32)), (3, .ref (gad G 33)), (4, .int 1), (5, .int (nI o)), (6, .int (nI u)), (7, .int (nI v))]) hx hb dL_isLaid_268 hl (by decide) rfl (fun ls hl => ?_)
                    refine lv_iload hx hb dL_isLaid_270 (lv_at hl 2 rfl) ?_
                    refine lv_if_eq (tgt := 298) hx hb dL_isLaid_272 (by decide) (fun c_512 => ?_) (fun c_512 => ?_)
                    · skip
                      refine lv_aload_n hx hb dL_isLaid_298 rfl (lv_at hl 6 rfl) ?_
                      refine lv_iconst (v := 1) hx hb dL_isLaid_299 (by decide) ?_
                      refine lv_iload hx hb dL_isLaid_300 (lv_at hl 5 rfl) ?_
                      refine lv_iload hx hb dL_isLaid_302 (lv_at hl 4 rfl) ?_
                      refine lv_iload hx hb dL_isLaid_304 (lv_at hl 3 rfl) ?_
                      refine rCallLS (As := [.ref (gad G 0), .int 1, .int (nI x9), .int (nI y9), .int (nI v9)]) (rest := []) ⟨hx, hb, hml, hown, hts⟩ fx hw (d1_t1 l hlt G hG hF σ (pcv hA) ((nI x9)) ((nI y9)) ((nI v9)) (by first | (rw [inB_no (a := x9) (n := g) (by omega) (by omega)]; rfl) | (rw [inB_no (a := y9) (n := g) (by omega) (by omega), Bool.and_false]))) (vx_cwSW 5 hts gL_isLaid_L_does rfl rfl rfl (by decide +kernel) ⟨Nat.le_of_ble_eq_true rfl, Nat.le_of_ble_eq_true rfl⟩) rfl hl.1 rfl (Nat.le_of_ble_eq_true rfl) dL_isLaid_306 ⟨Nat.le_trans (show _ ≤ 3 by omega) (Nat.le_of_ble_eq_true rfl), Nat.le_trans (show _ ≤ 20 by omega) (Nat.le_of_ble_eq_true rfl)⟩ (fun r_513 σ_514 H locs p_515 hw => ?_)
                      obtain ⟨er_513, eσ_514⟩ := p_515
                      have er_513 := er_513.symm; subst er_513
                      have eσ_514 := eσ_514.symm; subst eσ_514
                      refine lv_iload hx hb dL_isLaid_309 (lv_at hl 0 rfl) ?_
                      refine lv_icmp_ne (tgt := 318) hx hb dL_isLaid_311 (by decide) (fun c_516 => ?_) (fun c_516 => ?_)
                      · skip
                        exact absurd c_516 (by decide)
                      · skip
                        refine lv_iconst (v := 1) hx hb dL_isLaid_314 (by decide) ?_
                        refine lv_goto (tgt := 319) hx hb dL_isLaid_315 (by decide) ?_
                        exact rRetZw hx hb hr hw (by decide) (by exact ⟨rfl, po_same hA hGa⟩) hlocks dL_isLaid_319 (by omega) (by omega)
                    · skip
                      exact absurd c_512 (by decide)
                · skip
                  have c_510 : ¬ 101 ≤ v9 := fun h9 => c_510 ((nI_leI (by omega) (by omega)).mpr h9)
                  refine lv_iconst (v := 1) hx hb dL_isLaid_207 (by decide) ?_
                  refine lv_goto (tgt := 212) hx hb dL_isLaid_208 (by decide) ?_
                  refine lv_istore (lv' := [(12, .int 1), (11, .int 0), (10, .int (nI v9)), (9, .int (nI y9)), (8, .int (nI x9)), (0, .ref (gad G 0)), (1, .ref (gad G 31)), (2, .ref (gad G 32)), (3, .ref (gad G 33)), (4, .int 1), (5, .int (nI o)), (6, .int (nI u)), (7, .int (nI v))]) hx hb dL_isLaid_212 hl (by decide) rfl (fun ls hl => ?_)
                  refine lv_iload hx hb dL_isLaid_214 (lv_at hl 1 rfl) ?_
                  refine lv_if_ne (tgt := 224) hx hb dL_isLaid_216 (by decide) (fun c_517 => ?_) (fun c_517 => ?_)
                  · skip
                    exact absurd c_517 (by decide)
                  · skip
                    refine lv_bipush (v := (-30)) hx hb dL_isLaid_219 (by decide) ?_
                    refine lv_goto (tgt := 268) hx hb dL_isLaid_221 (by decide) ?_
                    refine lv_istore (lv' := [(13, .int (-30)), (12, .int 1), (11, .int 0), (10, .int (nI v9)), (9, .int (nI y9)), (8, .int (nI x9)), (0, .ref (gad G 0)), (1, .ref (gad G 31)), (2, .ref (gad G 32)), (3, .ref (gad G 33)), (4, .int 1), (5, .int (nI o)), (6, .int (nI u)), (7, .int (nI v))]) hx hb dL_isLaid_268 hl (by decide) rfl (fun ls hl => ?_)
                    refine lv_iload hx hb dL_isLaid_270 (lv_at hl 2 rfl) ?_
                    refine lv_if_eq (tgt := 298) hx hb dL_isLaid_272 (by decide) (fun c_518 => ?_) (fun c_518 => ?_)
                    · skip
                      refine lv_aload_n hx hb dL_isLaid_298 rfl (lv_at hl 6 rfl) ?_
                      refine lv_iconst (v := 1) hx hb dL_isLaid_299 (by decide) ?_
                      refine lv_iload hx hb dL_isLaid_300 (lv_at hl 5 rfl) ?_
                      refine lv_iload hx hb dL_isLaid_302 (lv_at hl 4 rfl) ?_
                      refine lv_iload hx hb dL_isLaid_304 (lv_at hl 3 rfl) ?_
                      refine rCallLS (As := [.ref (gad G 0), .int 1, .int (nI x9), .int (nI y9), .int (nI v9)]) (rest := []) ⟨hx, hb, hml, hown, hts⟩ fx hw (d1_t1 l hlt G hG hF σ (pcv hA) ((nI x9)) ((nI y9)) ((nI v9)) (by first | (rw [inB_no (a := x9) (n := g) (by omega) (by omega)]; rfl) | (rw [inB_no (a := y9) (n := g) (by omega) (by omega), Bool.and_false]))) (vx_cwSW 5 hts gL_isLaid_L_does rfl rfl rfl (by decide +kernel) ⟨Nat.le_of_ble_eq_true rfl, Nat.le_of_ble_eq_true rfl⟩) rfl hl.1 rfl (Nat.le_of_ble_eq_true rfl) dL_isLaid_306 ⟨Nat.le_trans (show _ ≤ 3 by omega) (Nat.le_of_ble_eq_true rfl), Nat.le_trans (show _ ≤ 20 by omega) (Nat.le_of_ble_eq_true rfl)⟩ (fun r_519 σ_520 H locs p_521 hw => ?_)
                      obtain ⟨er_519, eσ_520⟩ := p_521
                      have er_519 := er_519.symm; subst er_519
                      have eσ_520 := eσ_520.symm; subst eσ_520
                      refine lv_iload hx hb dL_isLaid_309 (lv_at hl 0 rfl) ?_
                      refine lv_icmp_ne (tgt := 318) hx hb dL_isLaid_311 (by decide) (fun c_522 => ?_) (fun c_522 => ?_)
                      · skip
                        exact absurd c_522 (by decide)
                      · skip
                        refine lv_iconst (v := 1) hx hb dL_isLaid_314 (by decide) ?_
                        refine lv_goto (tgt := 319) hx hb dL_isLaid_315 (by decide) ?_
                        exact rRetZw hx hb hr hw (by decide) (by exact ⟨rfl, po_same hA hGa⟩) hlocks dL_isLaid_319 (by omega) (by omega)
                    · skip
                      exact absurd c_518 (by decide)
            · skip
              have c_502 : ¬ x9 < y9 := fun h9 => c_502 ((nI_ltI (by omega) (by omega)).mpr h9)
              refine lv_iload hx hb dL_isLaid_185 (lv_at hl 2 rfl) ?_
              refine lv_if_ne (tgt := 211) hx hb dL_isLaid_187 (by decide) (fun c_523 => ?_) (fun c_523 => ?_)
              · skip
                have c_523 : ¬ y9 = 0 := n0_net (by omega) c_523
                refine lv_iconst (v := 0) hx hb dL_isLaid_211 (by decide) ?_
                refine lv_istore (lv' := [(12, .int 0), (11, .int 0), (10, .int (nI v9)), (9, .int (nI y9)), (8, .int (nI x9)), (0, .ref (gad G 0)), (1, .ref (gad G 31)), (2, .ref (gad G 32)), (3, .ref (gad G 33)), (4, .int 1), (5, .int (nI o)), (6, .int (nI u)), (7, .int (nI v))]) hx hb dL_isLaid_212 hl (by decide) rfl (fun ls hl => ?_)
                refine lv_iload hx hb dL_isLaid_214 (lv_at hl 1 rfl) ?_
                refine lv_if_ne (tgt := 224) hx hb dL_isLaid_216 (by decide) (fun c_524 => ?_) (fun c_524 => ?_)
                · skip
                  exact absurd c_524 (by decide)
                · skip
                  refine lv_bipush (v := (-30)) hx hb dL_isLaid_219 (by decide) ?_
                  refine lv_goto (tgt := 268) hx hb dL_isLaid_221 (by decide) ?_
                  refine lv_istore (lv' := [(13, .int (-30)), (12, .int 0), (11, .int 0), (10, .int (nI v9)), (9, .int (nI y9)), (8, .int (nI x9)), (0, .ref (gad G 0)), (1, .ref (gad G 31)), (2, .ref (gad G 32)), (3, .ref (gad G 33)), (4, .int 1), (5, .int (nI o)), (6, .int (nI u)), (7, .int (nI v))]) hx hb dL_isLaid_268 hl (by decide) rfl (fun ls hl => ?_)
                  refine lv_iload hx hb dL_isLaid_270 (lv_at hl 2 rfl) ?_
                  refine lv_if_eq (tgt := 298) hx hb dL_isLaid_272 (by decide) (fun c_525 => ?_) (fun c_525 => ?_)
                  · skip
                    refine lv_aload_n hx hb dL_isLaid_298 rfl (lv_at hl 6 rfl) ?_
                    refine lv_iconst (v := 1) hx hb dL_isLaid_299 (by decide) ?_
                    refine lv_iload hx hb dL_isLaid_300 (lv_at hl 5 rfl) ?_
                    refine lv_iload hx hb dL_isLaid_302 (lv_at hl 4 rfl) ?_
                    refine lv_iload hx hb dL_isLaid_304 (lv_at hl 3 rfl) ?_
                    refine rCallLS (As := [.ref (gad G 0), .int 1, .int (nI x9), .int (nI y9), .int (nI v9)]) (rest := []) ⟨hx, hb, hml, hown, hts⟩ fx hw (d1_t1 l hlt G hG hF σ (pcv hA) ((nI x9)) ((nI y9)) ((nI v9)) (by first | (rw [inB_no (a := x9) (n := g) (by omega) (by omega)]; rfl) | (rw [inB_no (a := y9) (n := g) (by omega) (by omega), Bool.and_false]))) (vx_cwSW 5 hts gL_isLaid_L_does rfl rfl rfl (by decide +kernel) ⟨Nat.le_of_ble_eq_true rfl, Nat.le_of_ble_eq_true rfl⟩) rfl hl.1 rfl (Nat.le_of_ble_eq_true rfl) dL_isLaid_306 ⟨Nat.le_trans (show _ ≤ 3 by omega) (Nat.le_of_ble_eq_true rfl), Nat.le_trans (show _ ≤ 20 by omega) (Nat.le_of_ble_eq_true rfl)⟩ (fun r_526 σ_527 H locs p_528 hw => ?_)
                    obtain ⟨er_526, eσ_527⟩ := p_528
                    have er_526 := er_526.symm; subst er_526
                    have eσ_527 := eσ_527.symm; subst eσ_527
                    refine lv_iload hx hb dL_isLaid_309 (lv_at hl 0 rfl) ?_
                    refine lv_icmp_ne (tgt := 318) hx hb dL_isLaid_311 (by decide) (fun c_529 => ?_) (fun c_529 => ?_)
                    · skip
                      exact absurd c_529 (by decide)
                    · skip
                      refine lv_iconst (v := 1) hx hb dL_isLaid_314 (by decide) ?_
                      refine lv_goto (tgt := 319) hx hb dL_isLaid_315 (by decide) ?_
                      exact rRetZw hx hb hr hw (by decide) (by exact ⟨rfl, po_same hA hGa⟩) hlocks dL_isLaid_319 (by omega) (by omega)
                  · skip
                    exact absurd c_525 (by decide)
              · skip
                have c_523 : y9 = 0 := n0_nef (by omega) c_523
                refine lv_iload hx hb dL_isLaid_190 (lv_at hl 3 rfl) ?_
                refine lv_if_le (tgt := 211) hx hb dL_isLaid_192 (by decide) (fun c_530 => ?_) (fun c_530 => ?_)
                · skip
                  have c_530 : x9 = 0 := n0_let (by omega) c_530
                  refine lv_iconst (v := 0) hx hb dL_isLaid_211 (by decide) ?_
                  refine lv_istore (lv' := [(12, .int 0), (11, .int 0), (10, .int (nI v9)), (9, .int (nI y9)), (8, .int (nI x9)), (0, .ref (gad G 0)), (1, .ref (gad G 31)), (2, .ref (gad G 32)), (3, .ref (gad G 33)), (4, .int 1), (5, .int (nI o)), (6, .int (nI u)), (7, .int (nI v))]) hx hb dL_isLaid_212 hl (by decide) rfl (fun ls hl => ?_)
                  refine lv_iload hx hb dL_isLaid_214 (lv_at hl 1 rfl) ?_
                  refine lv_if_ne (tgt := 224) hx hb dL_isLaid_216 (by decide) (fun c_531 => ?_) (fun c_531 => ?_)
                  · skip
                    exact absurd c_531 (by decide)
                  · skip
                    refine lv_bipush (v := (-30)) hx hb dL_isLaid_219 (by decide) ?_
                    refine lv_goto (tgt := 268) hx hb dL_isLaid_221 (by decide) ?_
                    refine lv_istore (lv' := [(13, .int (-30)), (12, .int 0), (11, .int 0), (10, .int (nI v9)), (9, .int (nI y9)), (8, .int (nI x9)), (0, .ref (gad G 0)), (1, .ref (gad G 31)), (2, .ref (gad G 32)), (3, .ref (gad G 33)), (4, .int 1), (5, .int (nI o)), (6, .int (nI u)), (7, .int (nI v))]) hx hb dL_isLaid_268 hl (by decide) rfl (fun ls hl => ?_)
                    refine lv_iload hx hb dL_isLaid_270 (lv_at hl 2 rfl) ?_
                    refine lv_if_eq (tgt := 298) hx hb dL_isLaid_272 (by decide) (fun c_532 => ?_) (fun c_532 => ?_)
                    · skip
                      refine lv_aload_n hx hb dL_isLaid_298 rfl (lv_at hl 6 rfl) ?_
                      refine lv_iconst (v := 1) hx hb dL_isLaid_299 (by decide) ?_
                      refine lv_iload hx hb dL_isLaid_300 (lv_at hl 5 rfl) ?_
                      refine lv_iload hx hb dL_isLaid_302 (lv_at hl 4 rfl) ?_
                      refine lv_iload hx hb dL_isLaid_304 (lv_at hl 3 rfl) ?_
                      refine rCallLS (As := [.ref (gad G 0), .int 1, .int (nI x9), .int (nI y9), .int (nI v9)]) (rest := []) ⟨hx, hb, hml, hown, hts⟩ fx hw (d1_t1 l hlt G hG hF σ (pcv hA) ((nI x9)) ((nI y9)) ((nI v9)) (by first | (rw [inB_no (a := x9) (n := g) (by omega) (by omega)]; rfl) | (rw [inB_no (a := y9) (n := g) (by omega) (by omega), Bool.and_false]))) (vx_cwSW 5 hts gL_isLaid_L_does rfl rfl rfl (by decide +kernel) ⟨Nat.le_of_ble_eq_true rfl, Nat.le_of_ble_eq_true rfl⟩) rfl hl.1 rfl (Nat.le_of_ble_eq_true rfl) dL_isLaid_306 ⟨Nat.le_trans (show _ ≤ 3 by omega) (Nat.le_of_ble_eq_true rfl), Nat.le_trans (show _ ≤ 20 by omega) (Nat.le_of_ble_eq_true rfl)⟩ (fun r_533 σ_534 H locs p_535 hw => ?_)
                      obtain ⟨er_533, eσ_534⟩ := p_535
                      have er_533 := er_533.symm; subst er_533
                      have eσ_534 := eσ_534.symm; subst eσ_534
                      refine lv_iload hx hb dL_isLaid_309 (lv_at hl 0 rfl) ?_
                      refine lv_icmp_ne (tgt := 318) hx hb dL_isLaid_311 (by decide) (fun c_536 => ?_) (fun c_536 => ?_)
                      · skip
                        exact absurd c_536 (by decide)
                      · skip
                        refine lv_iconst (v := 1) hx hb dL_isLaid_314 (by decide) ?_
                        refine lv_goto (tgt := 319) hx hb dL_isLaid_315 (by decide) ?_
                        exact rRetZw hx hb hr hw (by decide) (by exact ⟨rfl, po_same hA hGa⟩) hlocks dL_isLaid_319 (by omega) (by omega)
                    · skip
                      exact absurd c_532 (by decide)
                · skip
                  have c_530 : 0 < x9 := n0_lef (by omega) c_530
                  refine lv_iload hx hb dL_isLaid_195 (lv_at hl 1 rfl) ?_
                  refine lv_if_le (tgt := 211) hx hb dL_isLaid_197 (by decide) (fun c_537 => ?_) (fun c_537 => ?_)
                  · skip
                    have c_537 : v9 = 0 := n0_let (by omega) c_537
                    refine lv_iconst (v := 0) hx hb dL_isLaid_211 (by decide) ?_
                    refine lv_istore (lv' := [(12, .int 0), (11, .int 0), (10, .int (nI v9)), (9, .int (nI y9)), (8, .int (nI x9)), (0, .ref (gad G 0)), (1, .ref (gad G 31)), (2, .ref (gad G 32)), (3, .ref (gad G 33)), (4, .int 1), (5, .int (nI o)), (6, .int (nI u)), (7, .int (nI v))]) hx hb dL_isLaid_212 hl (by decide) rfl (fun ls hl => ?_)
                    refine lv_iload hx hb dL_isLaid_214 (lv_at hl 1 rfl) ?_
                    refine lv_if_ne (tgt := 224) hx hb dL_isLaid_216 (by decide) (fun c_538 => ?_) (fun c_538 => ?_)
                    · skip
                      exact absurd c_538 (by decide)
                    · skip
                      refine lv_bipush (v := (-30)) hx hb dL_isLaid_219 (by decide) ?_
                      refine lv_goto (tgt := 268) hx hb dL_isLaid_221 (by decide) ?_
                      refine lv_istore (lv' := [(13, .int (-30)), (12, .int 0), (11, .int 0), (10, .int (nI v9)), (9, .int (nI y9)), (8, .int (nI x9)), (0, .ref (gad G 0)), (1, .ref (gad G 31)), (2, .ref (gad G 32)), (3, .ref (gad G 33)), (4, .int 1), (5, .int (nI o)), (6, .int (nI u)), (7, .int (nI v))]) hx hb dL_isLaid_268 hl (by decide) rfl (fun ls hl => ?_)
                      refine lv_iload hx hb dL_isLaid_270 (lv_at hl 2 rfl) ?_
                      refine lv_if_eq (tgt := 298) hx hb dL_isLaid_272 (by decide) (fun c_539 => ?_) (fun c_539 => ?_)
                      · skip
                        refine lv_aload_n hx hb dL_isLaid_298 rfl (lv_at hl 6 rfl) ?_
                        refine lv_iconst (v := 1) hx hb dL_isLaid_299 (by decide) ?_
                        refine lv_iload hx hb dL_isLaid_300 (lv_at hl 5 rfl) ?_
                        refine lv_iload hx hb dL_isLaid_302 (lv_at hl 4 rfl) ?_
                        refine lv_iload hx hb dL_isLaid_304 (lv_at hl 3 rfl) ?_
                        refine rCallLS (As := [.ref (gad G 0), .int 1, .int (nI x9), .int (nI y9), .int (nI v9)]) (rest := []) ⟨hx, hb, hml, hown, hts⟩ fx hw (d1_t1 l hlt G hG hF σ (pcv hA) ((nI x9)) ((nI y9)) ((nI v9)) (by first | (rw [inB_no (a := x9) (n := g) (by omega) (by omega)]; rfl) | (rw [inB_no (a := y9) (n := g) (by omega) (by omega), Bool.and_false]))) (vx_cwSW 5 hts gL_isLaid_L_does rfl rfl rfl (by decide +kernel) ⟨Nat.le_of_ble_eq_true rfl, Nat.le_of_ble_eq_true rfl⟩) rfl hl.1 rfl (Nat.le_of_ble_eq_true rfl) dL_isLaid_306 ⟨Nat.le_trans (show _ ≤ 3 by omega) (Nat.le_of_ble_eq_true rfl), Nat.le_trans (show _ ≤ 20 by omega) (Nat.le_of_ble_eq_true rfl)⟩ (fun r_540 σ_541 H locs p_542 hw => ?_)
                        obtain ⟨er_540, eσ_541⟩ := p_542
                        have er_540 := er_540.symm; subst er_540
                        have eσ_541 := eσ_541.symm; subst eσ_541
                        refine lv_iload hx hb dL_isLaid_309 (lv_at hl 0 rfl) ?_
                        refine lv_icmp_ne (tgt := 318) hx hb dL_isLaid_311 (by decide) (fun c_543 => ?_) (fun c_543 => ?_)
                        · skip
                          exact absurd c_543 (by decide)
                        · skip
                          refine lv_iconst (v := 1) hx hb dL_isLaid_314 (by decide) ?_
                          refine lv_goto (tgt := 319) hx hb dL_isLaid_315 (by decide) ?_
                          exact rRetZw hx hb hr hw (by decide) (by exact ⟨rfl, po_same hA hGa⟩) hlocks dL_isLaid_319 (by omega) (by omega)
                      · skip
                        exact absurd c_539 (by decide)
                  · skip
                    have c_537 : 0 < v9 := n0_lef (by omega) c_537
                    refine lv_iload hx hb dL_isLaid_200 (lv_at hl 1 rfl) ?_
                    refine lv_bipush (v := 101) hx hb dL_isLaid_202 (by decide) ?_
                    refine lv_rep0 (x := 101) (y := nI 101) rfl ?_
                    refine lv_icmp_ge (tgt := 211) hx hb dL_isLaid_204 (by decide) (fun c_544 => ?_) (fun c_544 => ?_)
                    · skip
                      have c_544 : 101 ≤ v9 := (nI_leI (by omega) (by omega)).mp c_544
                      refine lv_iconst (v := 0) hx hb dL_isLaid_211 (by decide) ?_
                      refine lv_istore (lv' := [(12, .int 0), (11, .int 0), (10, .int (nI v9)), (9, .int (nI y9)), (8, .int (nI x9)), (0, .ref (gad G 0)), (1, .ref (gad G 31)), (2, .ref (gad G 32)), (3, .ref (gad G 33)), (4, .int 1), (5, .int (nI o)), (6, .int (nI u)), (7, .int (nI v))]) hx hb dL_isLaid_212 hl (by decide) rfl (fun ls hl => ?_)
                      refine lv_iload hx hb dL_isLaid_214 (lv_at hl 1 rfl) ?_
                      refine lv_if_ne (tgt := 224) hx hb dL_isLaid_216 (by decide) (fun c_545 => ?_) (fun c_545 => ?_)
                      · skip
                        exact absurd c_545 (by decide)
                      · skip
                        refine lv_bipush (v := (-30)) hx hb dL_isLaid_219 (by decide) ?_
                        refine lv_goto (tgt := 268) hx hb dL_isLaid_221 (by decide) ?_
                        refine lv_istore (lv' := [(13, .int (-30)), (12, .int 0), (11, .int 0), (10, .int (nI v9)), (9, .int (nI y9)), (8, .int (nI x9)), (0, .ref (gad G 0)), (1, .ref (gad G 31)), (2, .ref (gad G 32)), (3, .ref (gad G 33)), (4, .int 1), (5, .int (nI o)), (6, .int (nI u)), (7, .int (nI v))]) hx hb dL_isLaid_268 hl (by decide) rfl (fun ls hl => ?_)
                        refine lv_iload hx hb dL_isLaid_270 (lv_at hl 2 rfl) ?_
                        refine lv_if_eq (tgt := 298) hx hb dL_isLaid_272 (by decide) (fun c_546 => ?_) (fun c_546 => ?_)
                        · skip
                          refine lv_aload_n hx hb dL_isLaid_298 rfl (lv_at hl 6 rfl) ?_
                          refine lv_iconst (v := 1) hx hb dL_isLaid_299 (by decide) ?_
                          refine lv_iload hx hb dL_isLaid_300 (lv_at hl 5 rfl) ?_
                          refine lv_iload hx hb dL_isLaid_302 (lv_at hl 4 rfl) ?_
                          refine lv_iload hx hb dL_isLaid_304 (lv_at hl 3 rfl) ?_
                          refine rCallLS (As := [.ref (gad G 0), .int 1, .int (nI x9), .int (nI y9), .int (nI v9)]) (rest := []) ⟨hx, hb, hml, hown, hts⟩ fx hw (d1_t1 l hlt G hG hF σ (pcv hA) ((nI x9)) ((nI y9)) ((nI v9)) (by first | (rw [inB_no (a := x9) (n := g) (by omega) (by omega)]; rfl) | (rw [inB_no (a := y9) (n := g) (by omega) (by omega), Bool.and_false]))) (vx_cwSW 5 hts gL_isLaid_L_does rfl rfl rfl (by decide +kernel) ⟨Nat.le_of_ble_eq_true rfl, Nat.le_of_ble_eq_true rfl⟩) rfl hl.1 rfl (Nat.le_of_ble_eq_true rfl) dL_isLaid_306 ⟨Nat.le_trans (show _ ≤ 3 by omega) (Nat.le_of_ble_eq_true rfl), Nat.le_trans (show _ ≤ 20 by omega) (Nat.le_of_ble_eq_true rfl)⟩ (fun r_547 σ_548 H locs p_549 hw => ?_)
                          obtain ⟨er_547, eσ_548⟩ := p_549
                          have er_547 := er_547.symm; subst er_547
                          have eσ_548 := eσ_548.symm; subst eσ_548
                          refine lv_iload hx hb dL_isLaid_309 (lv_at hl 0 rfl) ?_
                          refine lv_icmp_ne (tgt := 318) hx hb dL_isLaid_311 (by decide) (fun c_550 => ?_) (fun c_550 => ?_)
                          · skip
                            exact absurd c_550 (by decide)
                          · skip
                            refine lv_iconst (v := 1) hx hb dL_isLaid_314 (by decide) ?_
                            refine lv_goto (tgt := 319) hx hb dL_isLaid_315 (by decide) ?_
                            exact rRetZw hx hb hr hw (by decide) (by exact ⟨rfl, po_same hA hGa⟩) hlocks dL_isLaid_319 (by omega) (by omega)
                        · skip
                          exact absurd c_546 (by decide)
                    · skip
                      have c_544 : ¬ 101 ≤ v9 := fun h9 => c_544 ((nI_leI (by omega) (by omega)).mpr h9)
                      refine lv_iconst (v := 1) hx hb dL_isLaid_207 (by decide) ?_
                      refine lv_goto (tgt := 212) hx hb dL_isLaid_208 (by decide) ?_
                      refine lv_istore (lv' := [(12, .int 1), (11, .int 0), (10, .int (nI v9)), (9, .int (nI y9)), (8, .int (nI x9)), (0, .ref (gad G 0)), (1, .ref (gad G 31)), (2, .ref (gad G 32)), (3, .ref (gad G 33)), (4, .int 1), (5, .int (nI o)), (6, .int (nI u)), (7, .int (nI v))]) hx hb dL_isLaid_212 hl (by decide) rfl (fun ls hl => ?_)
                      refine lv_iload hx hb dL_isLaid_214 (lv_at hl 1 rfl) ?_
                      refine lv_if_ne (tgt := 224) hx hb dL_isLaid_216 (by decide) (fun c_551 => ?_) (fun c_551 => ?_)
                      · skip
                        exact absurd c_551 (by decide)
                      · skip
                        refine lv_bipush (v := (-30)) hx hb dL_isLaid_219 (by decide) ?_
                        refine lv_goto (tgt := 268) hx hb dL_isLaid_221 (by decide) ?_
                        refine lv_istore (lv' := [(13, .int (-30)), (12, .int 1), (11, .int 0), (10, .int (nI v9)), (9, .int (nI y9)), (8, .int (nI x9)), (0, .ref (gad G 0)), (1, .ref (gad G 31)), (2, .ref (gad G 32)), (3, .ref (gad G 33)), (4, .int 1), (5, .int (nI o)), (6, .int (nI u)), (7, .int (nI v))]) hx hb dL_isLaid_268 hl (by decide) rfl (fun ls hl => ?_)
                        refine lv_iload hx hb dL_isLaid_270 (lv_at hl 2 rfl) ?_
                        refine lv_if_eq (tgt := 298) hx hb dL_isLaid_272 (by decide) (fun c_552 => ?_) (fun c_552 => ?_)
                        · skip
                          refine lv_aload_n hx hb dL_isLaid_298 rfl (lv_at hl 6 rfl) ?_
                          refine lv_iconst (v := 1) hx hb dL_isLaid_299 (by decide) ?_
                          refine lv_iload hx hb dL_isLaid_300 (lv_at hl 5 rfl) ?_
                          refine lv_iload hx hb dL_isLaid_302 (lv_at hl 4 rfl) ?_
                          refine lv_iload hx hb dL_isLaid_304 (lv_at hl 3 rfl) ?_
                          refine rCallLS (As := [.ref (gad G 0), .int 1, .int (nI x9), .int (nI y9), .int (nI v9)]) (rest := []) ⟨hx, hb, hml, hown, hts⟩ fx hw (d1_t1 l hlt G hG hF σ (pcv hA) ((nI x9)) ((nI y9)) ((nI v9)) (by first | (rw [inB_no (a := x9) (n := g) (by omega) (by omega)]; rfl) | (rw [inB_no (a := y9) (n := g) (by omega) (by omega), Bool.and_false]))) (vx_cwSW 5 hts gL_isLaid_L_does rfl rfl rfl (by decide +kernel) ⟨Nat.le_of_ble_eq_true rfl, Nat.le_of_ble_eq_true rfl⟩) rfl hl.1 rfl (Nat.le_of_ble_eq_true rfl) dL_isLaid_306 ⟨Nat.le_trans (show _ ≤ 3 by omega) (Nat.le_of_ble_eq_true rfl), Nat.le_trans (show _ ≤ 20 by omega) (Nat.le_of_ble_eq_true rfl)⟩ (fun r_553 σ_554 H locs p_555 hw => ?_)
                          obtain ⟨er_553, eσ_554⟩ := p_555
                          have er_553 := er_553.symm; subst er_553
                          have eσ_554 := eσ_554.symm; subst eσ_554
                          refine lv_iload hx hb dL_isLaid_309 (lv_at hl 0 rfl) ?_
                          refine lv_icmp_ne (tgt := 318) hx hb dL_isLaid_311 (by decide) (fun c_556 => ?_) (fun c_556 => ?_)
                          · skip
                            exact absurd c_556 (by decide)
                          · skip
                            refine lv_iconst (v := 1) hx hb dL_isLaid_314 (by decide) ?_
                            refine lv_goto (tgt := 319) hx hb dL_isLaid_315 (by decide) ?_
                            exact rRetZw hx hb hr hw (by decide) (by exact ⟨rfl, po_same hA hGa⟩) hlocks dL_isLaid_319 (by omega) (by omega)
                        · skip
                          exact absurd c_552 (by decide)
          · skip
            have c_501 : ¬ g ≤ x9 := fun h9 => c_501 ((nI_leI (by omega) (by omega)).mpr h9)
            omega
        · skip
          have c_498 : (v % 3) = 0 := n0_nef (by omega) c_498
          refine lv_iconst (v := 0) hx hb dL_isLaid_134 (by decide) ?_
          refine lv_goto (tgt := 146) hx hb dL_isLaid_135 (by decide) ?_
          refine lv_istore (lv' := [(9, .int 0), (8, .int (nI x9)), (0, .ref (gad G 0)), (1, .ref (gad G 31)), (2, .ref (gad G 32)), (3, .ref (gad G 33)), (4, .int 1), (5, .int (nI o)), (6, .int (nI u)), (7, .int (nI v))]) hx hb dL_isLaid_146 hl (by decide) rfl (fun ls hl => ?_)
          have q_557 : 0 = (nI y9) := by first | (rw [hy9, if_pos (by omega)]; rfl) | rw [hy9, if_neg (by omega)]
          have hl : lv_has ls 14 [(9, .int (nI y9)), (8, .int (nI x9)), (0, .ref (gad G 0)), (1, .ref (gad G 31)), (2, .ref (gad G 32)), (3, .ref (gad G 33)), (4, .int 1), (5, .int (nI o)), (6, .int (nI u)), (7, .int (nI v))] := (lv_c (lv_atq hl 0 rfl q_557) (lv_c (lv_at hl 1 rfl) (lv_c (lv_at hl 2 rfl) (lv_c (lv_at hl 3 rfl) (lv_c (lv_at hl 4 rfl) (lv_c (lv_at hl 5 rfl) (lv_c (lv_at hl 6 rfl) (lv_c (lv_at hl 7 rfl) (lv_c (lv_at hl 8 rfl) (lv_c (lv_at hl 9 rfl) (lv_c0 hl)))))))))))
          refine lv_iload hx hb dL_isLaid_148 (lv_at hl 9 rfl) ?_
          refine lv_bipush (v := 103) hx hb dL_isLaid_150 (by decide) ?_
          refine lv_rep0 (x := 103) (y := nI 103) rfl ?_
          refine lv_irem hx hb dL_isLaid_152 (nI_ne0 (by omega) (by omega)) ?_
          refine lv_rep0 (y := nI (v % 103)) (pk_rem (by omega) (by omega) (by omega)) ?_
          refine lv_istore (lv' := [(10, .int (nI (v % 103))), (9, .int (nI y9)), (8, .int (nI x9)), (0, .ref (gad G 0)), (1, .ref (gad G 31)), (2, .ref (gad G 32)), (3, .ref (gad G 33)), (4, .int 1), (5, .int (nI o)), (6, .int (nI u)), (7, .int (nI v))]) hx hb dL_isLaid_153 hl (by decide) rfl (fun ls hl => ?_)
          have q_558 : (nI (v % 103)) = (nI v9) := by rw [hv9]
          have hl : lv_has ls 14 [(10, .int (nI v9)), (9, .int (nI y9)), (8, .int (nI x9)), (0, .ref (gad G 0)), (1, .ref (gad G 31)), (2, .ref (gad G 32)), (3, .ref (gad G 33)), (4, .int 1), (5, .int (nI o)), (6, .int (nI u)), (7, .int (nI v))] := (lv_c (lv_atq hl 0 rfl q_558) (lv_c (lv_at hl 1 rfl) (lv_c (lv_at hl 2 rfl) (lv_c (lv_at hl 3 rfl) (lv_c (lv_at hl 4 rfl) (lv_c (lv_at hl 5 rfl) (lv_c (lv_at hl 6 rfl) (lv_c (lv_at hl 7 rfl) (lv_c (lv_at hl 8 rfl) (lv_c (lv_at hl 9 rfl) (lv_c (lv_at hl 10 rfl) (lv_c0 hl))))))))))))
          refine lv_iload hx hb dL_isLaid_155 (lv_at hl 2 rfl) ?_
          refine lv_aload_n hx hb dL_isLaid_157 rfl (lv_at hl 6 rfl) ?_
          refine lv_iconst (v := 0) hx hb dL_isLaid_158 (by decide) ?_
          refine lv_rep0 (x := 0) (y := nI 0) rfl ?_
          refine rAld hx hb fx hw 33 (hF.1 33 (by decide)) hF.2.1 (fun _ => rfl) 0 rfl (by omega) (by decide) dL_isLaid_159 ?_
          refine lv_rep0 (x := (σ 33 0)) (y := (nI g)) (pg hA).1 ?_
          refine lv_icmp_ge (tgt := 175) hx hb dL_isLaid_160 (by decide) (fun c_559 => ?_) (fun c_559 => ?_)
          · skip
            have c_559 : g ≤ x9 := (nI_leI (by omega) (by omega)).mp c_559
            refine lv_iconst (v := 0) hx hb dL_isLaid_175 (by decide) ?_
            refine lv_istore (lv' := [(11, .int 0), (10, .int (nI v9)), (9, .int (nI y9)), (8, .int (nI x9)), (0, .ref (gad G 0)), (1, .ref (gad G 31)), (2, .ref (gad G 32)), (3, .ref (gad G 33)), (4, .int 1), (5, .int (nI o)), (6, .int (nI u)), (7, .int (nI v))]) hx hb dL_isLaid_176 hl (by decide) rfl (fun ls hl => ?_)
            refine lv_iload hx hb dL_isLaid_178 (lv_at hl 2 rfl) ?_
            refine lv_iload hx hb dL_isLaid_180 (lv_at hl 3 rfl) ?_
            refine lv_icmp_gt (tgt := 195) hx hb dL_isLaid_182 (by decide) (fun c_560 => ?_) (fun c_560 => ?_)
            · skip
              have c_560 : x9 < y9 := (nI_ltI (by omega) (by omega)).mp c_560
              refine lv_iload hx hb dL_isLaid_195 (lv_at hl 1 rfl) ?_
              refine lv_if_le (tgt := 211) hx hb dL_isLaid_197 (by decide) (fun c_561 => ?_) (fun c_561 => ?_)
              · skip
                have c_561 : v9 = 0 := n0_let (by omega) c_561
                refine lv_iconst (v := 0) hx hb dL_isLaid_211 (by decide) ?_
                refine lv_istore (lv' := [(12, .int 0), (11, .int 0), (10, .int (nI v9)), (9, .int (nI y9)), (8, .int (nI x9)), (0, .ref (gad G 0)), (1, .ref (gad G 31)), (2, .ref (gad G 32)), (3, .ref (gad G 33)), (4, .int 1), (5, .int (nI o)), (6, .int (nI u)), (7, .int (nI v))]) hx hb dL_isLaid_212 hl (by decide) rfl (fun ls hl => ?_)
                refine lv_iload hx hb dL_isLaid_214 (lv_at hl 1 rfl) ?_
                refine lv_if_ne (tgt := 224) hx hb dL_isLaid_216 (by decide) (fun c_562 => ?_) (fun c_562 => ?_)
                · skip
                  exact absurd c_562 (by decide)
                · skip
                  refine lv_bipush (v := (-30)) hx hb dL_isLaid_219 (by decide) ?_
                  refine lv_goto (tgt := 268) hx hb dL_isLaid_221 (by decide) ?_
                  refine lv_istore (lv' := [(13, .int (-30)), (12, .int 0), (11, .int 0), (10, .int (nI v9)), (9, .int (nI y9)), (8, .int (nI x9)), (0, .ref (gad G 0)), (1, .ref (gad G 31)), (2, .ref (gad G 32)), (3, .ref (gad G 33)), (4, .int 1), (5, .int (nI o)), (6, .int (nI u)), (7, .int (nI v))]) hx hb dL_isLaid_268 hl (by decide) rfl (fun ls hl => ?_)
                  refine lv_iload hx hb dL_isLaid_270 (lv_at hl 2 rfl) ?_
                  refine lv_if_eq (tgt := 298) hx hb dL_isLaid_272 (by decide) (fun c_563 => ?_) (fun c_563 => ?_)
                  · skip
                    refine lv_aload_n hx hb dL_isLaid_298 rfl (lv_at hl 6 rfl) ?_
                    refine lv_iconst (v := 1) hx hb dL_isLaid_299 (by decide) ?_
                    refine lv_iload hx hb dL_isLaid_300 (lv_at hl 5 rfl) ?_
                    refine lv_iload hx hb dL_isLaid_302 (lv_at hl 4 rfl) ?_
                    refine lv_iload hx hb dL_isLaid_304 (lv_at hl 3 rfl) ?_
                    refine rCallLS (As := [.ref (gad G 0), .int 1, .int (nI x9), .int (nI y9), .int (nI v9)]) (rest := []) ⟨hx, hb, hml, hown, hts⟩ fx hw (d1_t1 l hlt G hG hF σ (pcv hA) ((nI x9)) ((nI y9)) ((nI v9)) (by first | (rw [inB_no (a := x9) (n := g) (by omega) (by omega)]; rfl) | (rw [inB_no (a := y9) (n := g) (by omega) (by omega), Bool.and_false]))) (vx_cwSW 5 hts gL_isLaid_L_does rfl rfl rfl (by decide +kernel) ⟨Nat.le_of_ble_eq_true rfl, Nat.le_of_ble_eq_true rfl⟩) rfl hl.1 rfl (Nat.le_of_ble_eq_true rfl) dL_isLaid_306 ⟨Nat.le_trans (show _ ≤ 3 by omega) (Nat.le_of_ble_eq_true rfl), Nat.le_trans (show _ ≤ 20 by omega) (Nat.le_of_ble_eq_true rfl)⟩ (fun r_564 σ_565 H locs p_566 hw => ?_)
                    obtain ⟨er_564, eσ_565⟩ := p_566
                    have er_564 := er_564.symm; subst er_564
                    have eσ_565 := eσ_565.symm; subst eσ_565
                    refine lv_iload hx hb dL_isLaid_309 (lv_at hl 0 rfl) ?_
                    refine lv_icmp_ne (tgt := 318) hx hb dL_isLaid_311 (by decide) (fun c_567 => ?_) (fun c_567 => ?_)
                    · skip
                      exact absurd c_567 (by decide)
                    · skip
                      refine lv_iconst (v := 1) hx hb dL_isLaid_314 (by decide) ?_
                      refine lv_goto (tgt := 319) hx hb dL_isLaid_315 (by decide) ?_
                      exact rRetZw hx hb hr hw (by decide) (by exact ⟨rfl, po_same hA hGa⟩) hlocks dL_isLaid_319 (by omega) (by omega)
                  · skip
                    exact absurd c_563 (by decide)
              · skip
                have c_561 : 0 < v9 := n0_lef (by omega) c_561
                refine lv_iload hx hb dL_isLaid_200 (lv_at hl 1 rfl) ?_
                refine lv_bipush (v := 101) hx hb dL_isLaid_202 (by decide) ?_
                refine lv_rep0 (x := 101) (y := nI 101) rfl ?_
                refine lv_icmp_ge (tgt := 211) hx hb dL_isLaid_204 (by decide) (fun c_568 => ?_) (fun c_568 => ?_)
                · skip
                  have c_568 : 101 ≤ v9 := (nI_leI (by omega) (by omega)).mp c_568
                  refine lv_iconst (v := 0) hx hb dL_isLaid_211 (by decide) ?_
                  refine lv_istore (lv' := [(12, .int 0), (11, .int 0), (10, .int (nI v9)), (9, .int (nI y9)), (8, .int (nI x9)), (0, .ref (gad G 0)), (1, .ref (gad G 31)), (2, .ref (gad G 32)), (3, .ref (gad G 33)), (4, .int 1), (5, .int (nI o)), (6, .int (nI u)), (7, .int (nI v))]) hx hb dL_isLaid_212 hl (by decide) rfl (fun ls hl => ?_)
                  refine lv_iload hx hb dL_isLaid_214 (lv_at hl 1 rfl) ?_
                  refine lv_if_ne (tgt := 224) hx hb dL_isLaid_216 (by decide) (fun c_569 => ?_) (fun c_569 => ?_)
                  · skip
                    exact absurd c_569 (by decide)
                  · skip
                    refine lv_bipush (v := (-30)) hx hb dL_isLaid_219 (by decide) ?_
                    refine lv_goto (tgt := 268) hx hb dL_isLaid_221 (by decide) ?_
                    refine lv_istore (lv' := [(13, .int (-30)), (12, .int 0), (11, .int 0), (10, .int (nI v9)), (9, .int (nI y9)), (8, .int (nI x9)), (0, .ref (gad G 0)), (1, .ref (gad G 31)), (2, .ref (gad G 32)), (3, .ref (gad G 33)), (4, .int 1), (5, .int (nI o)), (6, .int (nI u)), (7, .int (nI v))]) hx hb dL_isLaid_268 hl (by decide) rfl (fun ls hl => ?_)
                    refine lv_iload hx hb dL_isLaid_270 (lv_at hl 2 rfl) ?_
                    refine lv_if_eq (tgt := 298) hx hb dL_isLaid_272 (by decide) (fun c_570 => ?_) (fun c_570 => ?_)
                    · skip
                      refine lv_aload_n hx hb dL_isLaid_298 rfl (lv_at hl 6 rfl) ?_
                      refine lv_iconst (v := 1) hx hb dL_isLaid_299 (by decide) ?_
                      refine lv_iload hx hb dL_isLaid_300 (lv_at hl 5 rfl) ?_
                      refine lv_iload hx hb dL_isLaid_302 (lv_at hl 4 rfl) ?_
                      refine lv_iload hx hb dL_isLaid_304 (lv_at hl 3 rfl) ?_
                      refine rCallLS (As := [.ref (gad G 0), .int 1, .int (nI x9), .int (nI y9), .int (nI v9)]) (rest := []) ⟨hx, hb, hml, hown, hts⟩ fx hw (d1_t1 l hlt G hG hF σ (pcv hA) ((nI x9)) ((nI y9)) ((nI v9)) (by first | (rw [inB_no (a := x9) (n := g) (by omega) (by omega)]; rfl) | (rw [inB_no (a := y9) (n := g) (by omega) (by omega), Bool.and_false]))) (vx_cwSW 5 hts gL_isLaid_L_does rfl rfl rfl (by decide +kernel) ⟨Nat.le_of_ble_eq_true rfl, Nat.le_of_ble_eq_true rfl⟩) rfl hl.1 rfl (Nat.le_of_ble_eq_true rfl) dL_isLaid_306 ⟨Nat.le_trans (show _ ≤ 3 by omega) (Nat.le_of_ble_eq_true rfl), Nat.le_trans (show _ ≤ 20 by omega) (Nat.le_of_ble_eq_true rfl)⟩ (fun r_571 σ_572 H locs p_573 hw => ?_)
                      obtain ⟨er_571, eσ_572⟩ := p_573
                      have er_571 := er_571.symm; subst er_571
                      have eσ_572 := eσ_572.symm; subst eσ_572
                      refine lv_iload hx hb dL_isLaid_309 (lv_at hl 0 rfl) ?_
                      refine lv_icmp_ne (tgt := 318) hx hb dL_isLaid_311 (by decide) (fun c_574 => ?_) (fun c_574 => ?_)
                      · skip
                        exact absurd c_574 (by decide)
                      · skip
                        refine lv_iconst (v := 1) hx hb dL_isLaid_314 (by decide) ?_
                        refine lv_goto (tgt := 319) hx hb dL_isLaid_315 (by decide) ?_
                        exact rRetZw hx hb hr hw (by decide) (by exact ⟨rfl, po_same hA hGa⟩) hlocks dL_isLaid_319 (by omega) (by omega)
                    · skip
                      exact absurd c_570 (by decide)
                · skip
                  have c_568 : ¬ 101 ≤ v9 := fun h9 => c_568 ((nI_leI (by omega) (by omega)).mpr h9)
                  refine lv_iconst (v := 1) hx hb dL_isLaid_207 (by decide) ?_
                  refine lv_goto (tgt := 212) hx hb dL_isLaid_208 (by decide) ?_
                  refine lv_istore (lv' := [(12, .int 1), (11, .int 0), (10, .int (nI v9)), (9, .int (nI y9)), (8, .int (nI x9)), (0, .ref (gad G 0)), (1, .ref (gad G 31)), (2, .ref (gad G 32)), (3, .ref (gad G 33)), (4, .int 1), (5, .int (nI o)), (6, .int (nI u)), (7, .int (nI v))]) hx hb dL_isLaid_212 hl (by decide) rfl (fun ls hl => ?_)
                  refine lv_iload hx hb dL_isLaid_214 (lv_at hl 1 rfl) ?_
                  refine lv_if_ne (tgt := 224) hx hb dL_isLaid_216 (by decide) (fun c_575 => ?_) (fun c_575 => ?_)
                  · skip
                    exact absurd c_575 (by decide)
                  · skip
                    refine lv_bipush (v := (-30)) hx hb dL_isLaid_219 (by decide) ?_
                    refine lv_goto (tgt := 268) hx hb dL_isLaid_221 (by decide) ?_
                    refine lv_istore (lv' := [(13, .int (-30)), (12, .int 1), (11, .int 0), (10, .int (nI v9)), (9, .int (nI y9)), (8, .int (nI x9)), (0, .ref (gad G 0)), (1, .ref (gad G 31)), (2, .ref (gad G 32)), (3, .ref (gad G 33)), (4, .int 1), (5, .int (nI o)), (6, .int (nI u)), (7, .int (nI v))]) hx hb dL_isLaid_268 hl (by decide) rfl (fun ls hl => ?_)
                    refine lv_iload hx hb dL_isLaid_270 (lv_at hl 2 rfl) ?_
                    refine lv_if_eq (tgt := 298) hx hb dL_isLaid_272 (by decide) (fun c_576 => ?_) (fun c_576 => ?_)
                    · skip
                      refine lv_aload_n hx hb dL_isLaid_298 rfl (lv_at hl 6 rfl) ?_
                      refine lv_iconst (v := 1) hx hb dL_isLaid_299 (by decide) ?_
                      refine lv_iload hx hb dL_isLaid_300 (lv_at hl 5 rfl) ?_
                      refine lv_iload hx hb dL_isLaid_302 (lv_at hl 4 rfl) ?_
                      refine lv_iload hx hb dL_isLaid_304 (lv_at hl 3 rfl) ?_
                      refine rCallLS (As := [.ref (gad G 0), .int 1, .int (nI x9), .int (nI y9), .int (nI v9)]) (rest := []) ⟨hx, hb, hml, hown, hts⟩ fx hw (d1_t1 l hlt G hG hF σ (pcv hA) ((nI x9)) ((nI y9)) ((nI v9)) (by first | (rw [inB_no (a := x9) (n := g) (by omega) (by omega)]; rfl) | (rw [inB_no (a := y9) (n := g) (by omega) (by omega), Bool.and_false]))) (vx_cwSW 5 hts gL_isLaid_L_does rfl rfl rfl (by decide +kernel) ⟨Nat.le_of_ble_eq_true rfl, Nat.le_of_ble_eq_true rfl⟩) rfl hl.1 rfl (Nat.le_of_ble_eq_true rfl) dL_isLaid_306 ⟨Nat.le_trans (show _ ≤ 3 by omega) (Nat.le_of_ble_eq_true rfl), Nat.le_trans (show _ ≤ 20 by omega) (Nat.le_of_ble_eq_true rfl)⟩ (fun r_577 σ_578 H locs p_579 hw => ?_)
                      obtain ⟨er_577, eσ_578⟩ := p_579
                      have er_577 := er_577.symm; subst er_577
                      have eσ_578 := eσ_578.symm; subst eσ_578
                      refine lv_iload hx hb dL_isLaid_309 (lv_at hl 0 rfl) ?_
                      refine lv_icmp_ne (tgt := 318) hx hb dL_isLaid_311 (by decide) (fun c_580 => ?_) (fun c_580 => ?_)
                      · skip
                        exact absurd c_580 (by decide)
                      · skip
                        refine lv_iconst (v := 1) hx hb dL_isLaid_314 (by decide) ?_
                        refine lv_goto (tgt := 319) hx hb dL_isLaid_315 (by decide) ?_
                        exact rRetZw hx hb hr hw (by decide) (by exact ⟨rfl, po_same hA hGa⟩) hlocks dL_isLaid_319 (by omega) (by omega)
                    · skip
                      exact absurd c_576 (by decide)
            · skip
              have c_560 : ¬ x9 < y9 := fun h9 => c_560 ((nI_ltI (by omega) (by omega)).mpr h9)
              refine lv_iload hx hb dL_isLaid_185 (lv_at hl 2 rfl) ?_
              refine lv_if_ne (tgt := 211) hx hb dL_isLaid_187 (by decide) (fun c_581 => ?_) (fun c_581 => ?_)
              · skip
                have c_581 : ¬ y9 = 0 := n0_net (by omega) c_581
                refine lv_iconst (v := 0) hx hb dL_isLaid_211 (by decide) ?_
                refine lv_istore (lv' := [(12, .int 0), (11, .int 0), (10, .int (nI v9)), (9, .int (nI y9)), (8, .int (nI x9)), (0, .ref (gad G 0)), (1, .ref (gad G 31)), (2, .ref (gad G 32)), (3, .ref (gad G 33)), (4, .int 1), (5, .int (nI o)), (6, .int (nI u)), (7, .int (nI v))]) hx hb dL_isLaid_212 hl (by decide) rfl (fun ls hl => ?_)
                refine lv_iload hx hb dL_isLaid_214 (lv_at hl 1 rfl) ?_
                refine lv_if_ne (tgt := 224) hx hb dL_isLaid_216 (by decide) (fun c_582 => ?_) (fun c_582 => ?_)
                · skip
                  exact absurd c_582 (by decide)
                · skip
                  refine lv_bipush (v := (-30)) hx hb dL_isLaid_219 (by decide) ?_
                  refine lv_goto (tgt := 268) hx hb dL_isLaid_221 (by decide) ?_
                  refine lv_istore (lv' := [(13, .int (-30)), (12, .int 0), (11, .int 0), (10, .int (nI v9)), (9, .int (nI y9)), (8, .int (nI x9)), (0, .ref (gad G 0)), (1, .ref (gad G 31)), (2, .ref (gad G 32)), (3, .ref (gad G 33)), (4, .int 1), (5, .int (nI o)), (6, .int (nI u)), (7, .int (nI v))]) hx hb dL_isLaid_268 hl (by decide) rfl (fun ls hl => ?_)
                  refine lv_iload hx hb dL_isLaid_270 (lv_at hl 2 rfl) ?_
                  refine lv_if_eq (tgt := 298) hx hb dL_isLaid_272 (by decide) (fun c_583 => ?_) (fun c_583 => ?_)
                  · skip
                    refine lv_aload_n hx hb dL_isLaid_298 rfl (lv_at hl 6 rfl) ?_
                    refine lv_iconst (v := 1) hx hb dL_isLaid_299 (by decide) ?_
                    refine lv_iload hx hb dL_isLaid_300 (lv_at hl 5 rfl) ?_
                    refine lv_iload hx hb dL_isLaid_302 (lv_at hl 4 rfl) ?_
                    refine lv_iload hx hb dL_isLaid_304 (lv_at hl 3 rfl) ?_
                    refine rCallLS (As := [.ref (gad G 0), .int 1, .int (nI x9), .int (nI y9), .int (nI v9)]) (rest := []) ⟨hx, hb, hml, hown, hts⟩ fx hw (d1_t1 l hlt G hG hF σ (pcv hA) ((nI x9)) ((nI y9)) ((nI v9)) (by first | (rw [inB_no (a := x9) (n := g) (by omega) (by omega)]; rfl) | (rw [inB_no (a := y9) (n := g) (by omega) (by omega), Bool.and_false]))) (vx_cwSW 5 hts gL_isLaid_L_does rfl rfl rfl (by decide +kernel) ⟨Nat.le_of_ble_eq_true rfl, Nat.le_of_ble_eq_true rfl⟩) rfl hl.1 rfl (Nat.le_of_ble_eq_true rfl) dL_isLaid_306 ⟨Nat.le_trans (show _ ≤ 3 by omega) (Nat.le_of_ble_eq_true rfl), Nat.le_trans (show _ ≤ 20 by omega) (Nat.le_of_ble_eq_true rfl)⟩ (fun r_584 σ_585 H locs p_586 hw => ?_)
                    obtain ⟨er_584, eσ_585⟩ := p_586
                    have er_584 := er_584.symm; subst er_584
                    have eσ_585 := eσ_585.symm; subst eσ_585
                    refine lv_iload hx hb dL_isLaid_309 (lv_at hl 0 rfl) ?_
                    refine lv_icmp_ne (tgt := 318) hx hb dL_isLaid_311 (by decide) (fun c_587 => ?_) (fun c_587 => ?_)
                    · skip
                      exact absurd c_587 (by decide)
                    · skip
                      refine lv_iconst (v := 1) hx hb dL_isLaid_314 (by decide) ?_
                      refine lv_goto (tgt := 319) hx hb dL_isLaid_315 (by decide) ?_
                      exact rRetZw hx hb hr hw (by decide) (by exact ⟨rfl, po_same hA hGa⟩) hlocks dL_isLaid_319 (by omega) (by omega)
                  · skip
                    exact absurd c_583 (by decide)
              · skip
                have c_581 : y9 = 0 := n0_nef (by omega) c_581
                refine lv_iload hx hb dL_isLaid_190 (lv_at hl 3 rfl) ?_
                refine lv_if_le (tgt := 211) hx hb dL_isLaid_192 (by decide) (fun c_588 => ?_) (fun c_588 => ?_)
                · skip
                  have c_588 : x9 = 0 := n0_let (by omega) c_588
                  refine lv_iconst (v := 0) hx hb dL_isLaid_211 (by decide) ?_
                  refine lv_istore (lv' := [(12, .int 0), (11, .int 0), (10, .int (nI v9)), (9, .int (nI y9)), (8, .int (nI x9)), (0, .ref (gad G 0)), (1, .ref (gad G 31)), (2, .ref (gad G 32)), (3, .ref (gad G 33)), (4, .int 1), (5, .int (nI o)), (6, .int (nI u)), (7, .int (nI v))]) hx hb dL_isLaid_212 hl (by decide) rfl (fun ls hl => ?_)
                  refine lv_iload hx hb dL_isLaid_214 (lv_at hl 1 rfl) ?_
                  refine lv_if_ne (tgt := 224) hx hb dL_isLaid_216 (by decide) (fun c_589 => ?_) (fun c_589 => ?_)
                  · skip
                    exact absurd c_589 (by decide)
                  · skip
                    refine lv_bipush (v := (-30)) hx hb dL_isLaid_219 (by decide) ?_
                    refine lv_goto (tgt := 268) hx hb dL_isLaid_221 (by decide) ?_
                    refine lv_istore (lv' := [(13, .int (-30)), (12, .int 0), (11, .int 0), (10, .int (nI v9)), (9, .int (nI y9)), (8, .int (nI x9)), (0, .ref (gad G 0)), (1, .ref (gad G 31)), (2, .ref (gad G 32)), (3, .ref (gad G 33)), (4, .int 1), (5, .int (nI o)), (6, .int (nI u)), (7, .int (nI v))]) hx hb dL_isLaid_268 hl (by decide) rfl (fun ls hl => ?_)
                    refine lv_iload hx hb dL_isLaid_270 (lv_at hl 2 rfl) ?_
                    refine lv_if_eq (tgt := 298) hx hb dL_isLaid_272 (by decide) (fun c_590 => ?_) (fun c_590 => ?_)
                    · skip
                      refine lv_aload_n hx hb dL_isLaid_298 rfl (lv_at hl 6 rfl) ?_
                      refine lv_iconst (v := 1) hx hb dL_isLaid_299 (by decide) ?_
                      refine lv_iload hx hb dL_isLaid_300 (lv_at hl 5 rfl) ?_
                      refine lv_iload hx hb dL_isLaid_302 (lv_at hl 4 rfl) ?_
                      refine lv_iload hx hb dL_isLaid_304 (lv_at hl 3 rfl) ?_
                      refine rCallLS (As := [.ref (gad G 0), .int 1, .int (nI x9), .int (nI y9), .int (nI v9)]) (rest := []) ⟨hx, hb, hml, hown, hts⟩ fx hw (d1_t1 l hlt G hG hF σ (pcv hA) ((nI x9)) ((nI y9)) ((nI v9)) (by first | (rw [inB_no (a := x9) (n := g) (by omega) (by omega)]; rfl) | (rw [inB_no (a := y9) (n := g) (by omega) (by omega), Bool.and_false]))) (vx_cwSW 5 hts gL_isLaid_L_does rfl rfl rfl (by decide +kernel) ⟨Nat.le_of_ble_eq_true rfl, Nat.le_of_ble_eq_true rfl⟩) rfl hl.1 rfl (Nat.le_of_ble_eq_true rfl) dL_isLaid_306 ⟨Nat.le_trans (show _ ≤ 3 by omega) (Nat.le_of_ble_eq_true rfl), Nat.le_trans (show _ ≤ 20 by omega) (Nat.le_of_ble_eq_true rfl)⟩ (fun r_591 σ_592 H locs p_593 hw => ?_)
                      obtain ⟨er_591, eσ_592⟩ := p_593
                      have er_591 := er_591.symm; subst er_591
                      have eσ_592 := eσ_592.symm; subst eσ_592
                      refine lv_iload hx hb dL_isLaid_309 (lv_at hl 0 rfl) ?_
                      refine lv_icmp_ne (tgt := 318) hx hb dL_isLaid_311 (by decide) (fun c_594 => ?_) (fun c_594 => ?_)
                      · skip
                        exact absurd c_594 (by decide)
                      · skip
                        refine lv_iconst (v := 1) hx hb dL_isLaid_314 (by decide) ?_
                        refine lv_goto (tgt := 319) hx hb dL_isLaid_315 (by decide) ?_
                        exact rRetZw hx hb hr hw (by decide) (by exact ⟨rfl, po_same hA hGa⟩) hlocks dL_isLaid_319 (by omega) (by omega)
                    · skip
                      exact absurd c_590 (by decide)
                · skip
                  have c_588 : 0 < x9 := n0_lef (by omega) c_588
                  refine lv_iload hx hb dL_isLaid_195 (lv_at hl 1 rfl) ?_
                  refine lv_if_le (tgt := 211) hx hb dL_isLaid_197 (by decide) (fun c_595 => ?_) (fun c_595 => ?_)
                  · skip
                    have c_595 : v9 = 0 := n0_let (by omega) c_595
                    refine lv_iconst (v := 0) hx hb dL_isLaid_211 (by decide) ?_
                    refine lv_istore (lv' := [(12, .int 0), (11, .int 0), (10, .int (nI v9)), (9, .int (nI y9)), (8, .int (nI x9)), (0, .ref (gad G 0)), (1, .ref (gad G 31)), (2, .ref (gad G 32)), (3, .ref (gad G 33)), (4, .int 1), (5, .int (nI o)), (6, .int (nI u)), (7, .int (nI v))]) hx hb dL_isLaid_212 hl (by decide) rfl (fun ls hl => ?_)
                    refine lv_iload hx hb dL_isLaid_214 (lv_at hl 1 rfl) ?_
                    refine lv_if_ne (tgt := 224) hx hb dL_isLaid_216 (by decide) (fun c_596 => ?_) (fun c_596 => ?_)
                    · skip
                      exact absurd c_596 (by decide)
                    · skip
                      refine lv_bipush (v := (-30)) hx hb dL_isLaid_219 (by decide) ?_
                      refine lv_goto (tgt := 268) hx hb dL_isLaid_221 (by decide) ?_
                      refine lv_istore (lv' := [(13, .int (-30)), (12, .int 0), (11, .int 0), (10, .int (nI v9)), (9, .int (nI y9)), (8, .int (nI x9)), (0, .ref (gad G 0)), (1, .ref (gad G 31)), (2, .ref (gad G 32)), (3, .ref (gad G 33)), (4, .int 1), (5, .int (nI o)), (6, .int (nI u)), (7, .int (nI v))]) hx hb dL_isLaid_268 hl (by decide) rfl (fun ls hl => ?_)
                      refine lv_iload hx hb dL_isLaid_270 (lv_at hl 2 rfl) ?_
                      refine lv_if_eq (tgt := 298) hx hb dL_isLaid_272 (by decide) (fun c_597 => ?_) (fun c_597 => ?_)
                      · skip
                        refine lv_aload_n hx hb dL_isLaid_298 rfl (lv_at hl 6 rfl) ?_
                        refine lv_iconst (v := 1) hx hb dL_isLaid_299 (by decide) ?_
                        refine lv_iload hx hb dL_isLaid_300 (lv_at hl 5 rfl) ?_
                        refine lv_iload hx hb dL_isLaid_302 (lv_at hl 4 rfl) ?_
                        refine lv_iload hx hb dL_isLaid_304 (lv_at hl 3 rfl) ?_
                        refine rCallLS (As := [.ref (gad G 0), .int 1, .int (nI x9), .int (nI y9), .int (nI v9)]) (rest := []) ⟨hx, hb, hml, hown, hts⟩ fx hw (d1_t1 l hlt G hG hF σ (pcv hA) ((nI x9)) ((nI y9)) ((nI v9)) (by first | (rw [inB_no (a := x9) (n := g) (by omega) (by omega)]; rfl) | (rw [inB_no (a := y9) (n := g) (by omega) (by omega), Bool.and_false]))) (vx_cwSW 5 hts gL_isLaid_L_does rfl rfl rfl (by decide +kernel) ⟨Nat.le_of_ble_eq_true rfl, Nat.le_of_ble_eq_true rfl⟩) rfl hl.1 rfl (Nat.le_of_ble_eq_true rfl) dL_isLaid_306 ⟨Nat.le_trans (show _ ≤ 3 by omega) (Nat.le_of_ble_eq_true rfl), Nat.le_trans (show _ ≤ 20 by omega) (Nat.le_of_ble_eq_true rfl)⟩ (fun r_598 σ_599 H locs p_600 hw => ?_)
                        obtain ⟨er_598, eσ_599⟩ := p_600
                        have er_598 := er_598.symm; subst er_598
                        have eσ_599 := eσ_599.symm; subst eσ_599
                        refine lv_iload hx hb dL_isLaid_309 (lv_at hl 0 rfl) ?_
                        refine lv_icmp_ne (tgt := 318) hx hb dL_isLaid_311 (by decide) (fun c_601 => ?_) (fun c_601 => ?_)
                        · skip
                          exact absurd c_601 (by decide)
                        · skip
                          refine lv_iconst (v := 1) hx hb dL_isLaid_314 (by decide) ?_
                          refine lv_goto (tgt := 319) hx hb dL_isLaid_315 (by decide) ?_
                          exact rRetZw hx hb hr hw (by decide) (by exact ⟨rfl, po_same hA hGa⟩) hlocks dL_isLaid_319 (by omega) (by omega)
                      · skip
                        exact absurd c_597 (by decide)
                  · skip
                    have c_595 : 0 < v9 := n0_lef (by omega) c_595
                    refine lv_iload hx hb dL_isLaid_200 (lv_at hl 1 rfl) ?_
                    refine lv_bipush (v := 101) hx hb dL_isLaid_202 (by decide) ?_
                    refine lv_rep0 (x := 101) (y := nI 101) rfl ?_
                    refine lv_icmp_ge (tgt := 211) hx hb dL_isLaid_204 (by decide) (fun c_602 => ?_) (fun c_602 => ?_)
                    · skip
                      have c_602 : 101 ≤ v9 := (nI_leI (by omega) (by omega)).mp c_602
                      refine lv_iconst (v := 0) hx hb dL_isLaid_211 (by decide) ?_
                      refine lv_istore (lv' := [(12, .int 0), (11, .int 0), (10, .int (nI v9)), (9, .int (nI y9)), (8, .int (nI x9)), (0, .ref (gad G 0)), (1, .ref (gad G 31)), (2, .ref (gad G 32)), (3, .ref (gad G 33)), (4, .int 1), (5, .int (nI o)), (6, .int (nI u)), (7, .int (nI v))]) hx hb dL_isLaid_212 hl (by decide) rfl (fun ls hl => ?_)
                      refine lv_iload hx hb dL_isLaid_214 (lv_at hl 1 rfl) ?_
                      refine lv_if_ne (tgt := 224) hx hb dL_isLaid_216 (by decide) (fun c_603 => ?_) (fun c_603 => ?_)
                      · skip
                        exact absurd c_603 (by decide)
                      · skip
                        refine lv_bipush (v := (-30)) hx hb dL_isLaid_219 (by decide) ?_
                        refine lv_goto (tgt := 268) hx hb dL_isLaid_221 (by decide) ?_
                        refine lv_istore (lv' := [(13, .int (-30)), (12, .int 0), (11, .int 0), (10, .int (nI v9)), (9, .int (nI y9)), (8, .int (nI x9)), (0, .ref (gad G 0)), (1, .ref (gad G 31)), (2, .ref (gad G 32)), (3, .ref (gad G 33)), (4, .int 1), (5, .int (nI o)), (6, .int (nI u)), (7, .int (nI v))]) hx hb dL_isLaid_268 hl (by decide) rfl (fun ls hl => ?_)
                        refine lv_iload hx hb dL_isLaid_270 (lv_at hl 2 rfl) ?_
                        refine lv_if_eq (tgt := 298) hx hb dL_isLaid_272 (by decide) (fun c_604 => ?_) (fun c_604 => ?_)
                        · skip
                          refine lv_aload_n hx hb dL_isLaid_298 rfl (lv_at hl 6 rfl) ?_
                          refine lv_iconst (v := 1) hx hb dL_isLaid_299 (by decide) ?_
                          refine lv_iload hx hb dL_isLaid_300 (lv_at hl 5 rfl) ?_
                          refine lv_iload hx hb dL_isLaid_302 (lv_at hl 4 rfl) ?_
                          refine lv_iload hx hb dL_isLaid_304 (lv_at hl 3 rfl) ?_
                          refine rCallLS (As := [.ref (gad G 0), .int 1, .int (nI x9), .int (nI y9), .int (nI v9)]) (rest := []) ⟨hx, hb, hml, hown, hts⟩ fx hw (d1_t1 l hlt G hG hF σ (pcv hA) ((nI x9)) ((nI y9)) ((nI v9)) (by first | (rw [inB_no (a := x9) (n := g) (by omega) (by omega)]; rfl) | (rw [inB_no (a := y9) (n := g) (by omega) (by omega), Bool.and_false]))) (vx_cwSW 5 hts gL_isLaid_L_does rfl rfl rfl (by decide +kernel) ⟨Nat.le_of_ble_eq_true rfl, Nat.le_of_ble_eq_true rfl⟩) rfl hl.1 rfl (Nat.le_of_ble_eq_true rfl) dL_isLaid_306 ⟨Nat.le_trans (show _ ≤ 3 by omega) (Nat.le_of_ble_eq_true rfl), Nat.le_trans (show _ ≤ 20 by omega) (Nat.le_of_ble_eq_true rfl)⟩ (fun r_605 σ_606 H locs p_607 hw => ?_)
                          obtain ⟨er_605, eσ_606⟩ := p_607
                          have er_605 := er_605.symm; subst er_605
                          have eσ_606 := eσ_606.symm; subst eσ_606
                          refine lv_iload hx hb dL_isLaid_309 (lv_at hl 0 rfl) ?_
                          refine lv_icmp_ne (tgt := 318) hx hb dL_isLaid_311 (by decide) (fun c_608 => ?_) (fun c_608 => ?_)
                          · skip
                            exact absurd c_608 (by decide)
                          · skip
                            refine lv_iconst (v := 1) hx hb dL_isLaid_314 (by decide) ?_
                            refine lv_goto (tgt := 319) hx hb dL_isLaid_315 (by decide) ?_
                            exact rRetZw hx hb hr hw (by decide) (by exact ⟨rfl, po_same hA hGa⟩) hlocks dL_isLaid_319 (by omega) (by omega)
                        · skip
                          exact absurd c_604 (by decide)
                    · skip
                      have c_602 : ¬ 101 ≤ v9 := fun h9 => c_602 ((nI_leI (by omega) (by omega)).mpr h9)
                      refine lv_iconst (v := 1) hx hb dL_isLaid_207 (by decide) ?_
                      refine lv_goto (tgt := 212) hx hb dL_isLaid_208 (by decide) ?_
                      refine lv_istore (lv' := [(12, .int 1), (11, .int 0), (10, .int (nI v9)), (9, .int (nI y9)), (8, .int (nI x9)), (0, .ref (gad G 0)), (1, .ref (gad G 31)), (2, .ref (gad G 32)), (3, .ref (gad G 33)), (4, .int 1), (5, .int (nI o)), (6, .int (nI u)), (7, .int (nI v))]) hx hb dL_isLaid_212 hl (by decide) rfl (fun ls hl => ?_)
                      refine lv_iload hx hb dL_isLaid_214 (lv_at hl 1 rfl) ?_
                      refine lv_if_ne (tgt := 224) hx hb dL_isLaid_216 (by decide) (fun c_609 => ?_) (fun c_609 => ?_)
                      · skip
                        exact absurd c_609 (by decide)
                      · skip
                        refine lv_bipush (v := (-30)) hx hb dL_isLaid_219 (by decide) ?_
                        refine lv_goto (tgt := 268) hx hb dL_isLaid_221 (by decide) ?_
                        refine lv_istore (lv' := [(13, .int (-30)), (12, .int 1), (11, .int 0), (10, .int (nI v9)), (9, .int (nI y9)), (8, .int (nI x9)), (0, .ref (gad G 0)), (1, .ref (gad G 31)), (2, .ref (gad G 32)), (3, .ref (gad G 33)), (4, .int 1), (5, .int (nI o)), (6, .int (nI u)), (7, .int (nI v))]) hx hb dL_isLaid_268 hl (by decide) rfl (fun ls hl => ?_)
                        refine lv_iload hx hb dL_isLaid_270 (lv_at hl 2 rfl) ?_
                        refine lv_if_eq (tgt := 298) hx hb dL_isLaid_272 (by decide) (fun c_610 => ?_) (fun c_610 => ?_)
                        · skip
                          refine lv_aload_n hx hb dL_isLaid_298 rfl (lv_at hl 6 rfl) ?_
                          refine lv_iconst (v := 1) hx hb dL_isLaid_299 (by decide) ?_
                          refine lv_iload hx hb dL_isLaid_300 (lv_at hl 5 rfl) ?_
                          refine lv_iload hx hb dL_isLaid_302 (lv_at hl 4 rfl) ?_
                          refine lv_iload hx hb dL_isLaid_304 (lv_at hl 3 rfl) ?_
                          refine rCallLS (As := [.ref (gad G 0), .int 1, .int (nI x9), .int (nI y9), .int (nI v9)]) (rest := []) ⟨hx, hb, hml, hown, hts⟩ fx hw (d1_t1 l hlt G hG hF σ (pcv hA) ((nI x9)) ((nI y9)) ((nI v9)) (by first | (rw [inB_no (a := x9) (n := g) (by omega) (by omega)]; rfl) | (rw [inB_no (a := y9) (n := g) (by omega) (by omega), Bool.and_false]))) (vx_cwSW 5 hts gL_isLaid_L_does rfl rfl rfl (by decide +kernel) ⟨Nat.le_of_ble_eq_true rfl, Nat.le_of_ble_eq_true rfl⟩) rfl hl.1 rfl (Nat.le_of_ble_eq_true rfl) dL_isLaid_306 ⟨Nat.le_trans (show _ ≤ 3 by omega) (Nat.le_of_ble_eq_true rfl), Nat.le_trans (show _ ≤ 20 by omega) (Nat.le_of_ble_eq_true rfl)⟩ (fun r_611 σ_612 H locs p_613 hw => ?_)
                          obtain ⟨er_611, eσ_612⟩ := p_613
                          have er_611 := er_611.symm; subst er_611
                          have eσ_612 := eσ_612.symm; subst eσ_612
                          refine lv_iload hx hb dL_isLaid_309 (lv_at hl 0 rfl) ?_
                          refine lv_icmp_ne (tgt := 318) hx hb dL_isLaid_311 (by decide) (fun c_614 => ?_) (fun c_614 => ?_)
                          · skip
                            exact absurd c_614 (by decide)
                          · skip
                            refine lv_iconst (v := 1) hx hb dL_isLaid_314 (by decide) ?_
                            refine lv_goto (tgt := 319) hx hb dL_isLaid_315 (by decide) ?_
                            exact rRetZw hx hb hr hw (by decide) (by exact ⟨rfl, po_same hA hGa⟩) hlocks dL_isLaid_319 (by omega) (by omega)
                        · skip
                          exact absurd c_610 (by decide)
          · skip
            have c_559 : ¬ g ≤ x9 := fun h9 => c_559 ((nI_leI (by omega) (by omega)).mpr h9)
            omega
    · skip
      exact absurd c_495 (by decide)
  · skip
    obtain ⟨s9, hs5, hs1, hs2, hnev⟩ := hst
    refine lv_iload hx hb dL_isLaid_0 (lv_at hl 4 rfl) ?_
    refine lv_if_ne (tgt := 111) hx hb dL_isLaid_2 (by decide) (fun c_615 => ?_) (fun c_615 => ?_)
    · skip
      refine lv_iload hx hb dL_isLaid_111 (lv_at hl 4 rfl) ?_
      refine lv_iconst (v := 1) hx hb dL_isLaid_113 (by decide) ?_
      refine lv_icmp_ne (tgt := 320) hx hb dL_isLaid_114 (by decide) (fun c_616 => ?_) (fun c_616 => ?_)
      · skip
        exact absurd c_616 (by decide)
      · skip
        refine lv_iload hx hb dL_isLaid_117 (lv_at hl 5 rfl) ?_
        refine lv_aload_n hx hb dL_isLaid_119 rfl (lv_at hl 3 rfl) ?_
        refine lv_iconst (v := 0) hx hb dL_isLaid_120 (by decide) ?_
        refine lv_rep0 (x := 0) (y := nI 0) rfl ?_
        refine rAld hx hb fx hw 33 (hF.1 33 (by decide)) hF.2.1 (fun _ => rfl) 0 rfl (by omega) (by decide) dL_isLaid_121 ?_
        refine lv_rep0 (x := (σ 33 0)) (y := (nI g)) (pg hA).1 ?_
        refine lv_iconst (v := 1) hx hb dL_isLaid_122 (by decide) ?_
        refine lv_rep0 (x := 1) (y := nI 1) rfl ?_
        refine lv_iadd hx hb dL_isLaid_123 ?_
        refine lv_rep0 (x := ((nI g) + (nI 1))) (y := nI (g + 1)) (nI_add _ _) ?_
        refine lv_irem hx hb dL_isLaid_124 (nI_ne0 (by omega) (by omega)) ?_
        refine lv_rep0 (y := nI (o % (g + 1))) (pk_rem (by omega) (by omega) (by omega)) ?_
        have hrm9 := Nat.mod_lt o (show 0 < (g + 1) by omega)
        refine lv_istore (lv' := [(8, .int (nI (o % (g + 1)))), (0, .ref (gad G 0)), (1, .ref (gad G 31)), (2, .ref (gad G 32)), (3, .ref (gad G 33)), (4, .int 1), (5, .int (nI o)), (6, .int (nI u)), (7, .int (nI v))]) hx hb dL_isLaid_125 hl (by decide) rfl (fun ls hl => ?_)
        have q_617 : (nI (o % (g + 1))) = (nI x9) := by rw [hx9]
        have hl : lv_has ls 14 [(8, .int (nI x9)), (0, .ref (gad G 0)), (1, .ref (gad G 31)), (2, .ref (gad G 32)), (3, .ref (gad G 33)), (4, .int 1), (5, .int (nI o)), (6, .int (nI u)), (7, .int (nI v))] := (lv_c (lv_atq hl 0 rfl q_617) (lv_c (lv_at hl 1 rfl) (lv_c (lv_at hl 2 rfl) (lv_c (lv_at hl 3 rfl) (lv_c (lv_at hl 4 rfl) (lv_c (lv_at hl 5 rfl) (lv_c (lv_at hl 6 rfl) (lv_c (lv_at hl 7 rfl) (lv_c (lv_at hl 8 rfl) (lv_c0 hl))))))))))
        refine lv_iload hx hb dL_isLaid_127 (lv_at hl 8 rfl) ?_
        refine lv_iconst (v := 3) hx hb dL_isLaid_129 (by decide) ?_
        refine lv_rep0 (x := 3) (y := nI 3) rfl ?_
        refine lv_irem hx hb dL_isLaid_130 (nI_ne0 (by omega) (by omega)) ?_
        refine lv_rep0 (y := nI (v % 3)) (pk_rem (by omega) (by omega) (by omega)) ?_
        refine lv_if_ne (tgt := 138) hx hb dL_isLaid_131 (by decide) (fun c_618 => ?_) (fun c_618 => ?_)
        · skip
          have c_618 : ¬ (v % 3) = 0 := n0_net (by omega) c_618
          refine lv_iload hx hb dL_isLaid_138 (lv_at hl 7 rfl) ?_
          refine lv_aload_n hx hb dL_isLaid_140 rfl (lv_at hl 4 rfl) ?_
          refine lv_iconst (v := 0) hx hb dL_isLaid_141 (by decide) ?_
          refine lv_rep0 (x := 0) (y := nI 0) rfl ?_
          refine rAld hx hb fx hw 33 (hF.1 33 (by decide)) hF.2.1 (fun _ => rfl) 0 rfl (by omega) (by decide) dL_isLaid_142 ?_
          refine lv_rep0 (x := (σ 33 0)) (y := (nI g)) (pg hA).1 ?_
          refine lv_iconst (v := 1) hx hb dL_isLaid_143 (by decide) ?_
          refine lv_rep0 (x := 1) (y := nI 1) rfl ?_
          refine lv_iadd hx hb dL_isLaid_144 ?_
          refine lv_rep0 (x := ((nI g) + (nI 1))) (y := nI (g + 1)) (nI_add _ _) ?_
          refine lv_irem hx hb dL_isLaid_145 (nI_ne0 (by omega) (by omega)) ?_
          refine lv_rep0 (y := nI (u % (g + 1))) (pk_rem (by omega) (by omega) (by omega)) ?_
          have hrm9 := Nat.mod_lt u (show 0 < (g + 1) by omega)
          refine lv_istore (lv' := [(9, .int (nI (u % (g + 1)))), (8, .int (nI x9)), (0, .ref (gad G 0)), (1, .ref (gad G 31)), (2, .ref (gad G 32)), (3, .ref (gad G 33)), (4, .int 1), (5, .int (nI o)), (6, .int (nI u)), (7, .int (nI v))]) hx hb dL_isLaid_146 hl (by decide) rfl (fun ls hl => ?_)
          have q_619 : (nI (u % (g + 1))) = (nI y9) := by first | (rw [hy9, if_pos (by omega)]; rfl) | rw [hy9, if_neg (by omega)]
          have hl : lv_has ls 14 [(9, .int (nI y9)), (8, .int (nI x9)), (0, .ref (gad G 0)), (1, .ref (gad G 31)), (2, .ref (gad G 32)), (3, .ref (gad G 33)), (4, .int 1), (5, .int (nI o)), (6, .int (nI u)), (7, .int (nI v))] := (lv_c (lv_atq hl 0 rfl q_619) (lv_c (lv_at hl 1 rfl) (lv_c (lv_at hl 2 rfl) (lv_c (lv_at hl 3 rfl) (lv_c (lv_at hl 4 rfl) (lv_c (lv_at hl 5 rfl) (lv_c (lv_at hl 6 rfl) (lv_c (lv_at hl 7 rfl) (lv_c (lv_at hl 8 rfl) (lv_c (lv_at hl 9 rfl) (lv_c0 hl)))))))))))
          refine lv_iload hx hb dL_isLaid_148 (lv_at hl 9 rfl) ?_
          refine lv_bipush (v := 103) hx hb dL_isLaid_150 (by decide) ?_
          refine lv_rep0 (x := 103) (y := nI 103) rfl ?_
          refine lv_irem hx hb dL_isLaid_152 (nI_ne0 (by omega) (by omega)) ?_
          refine lv_rep0 (y := nI (v % 103)) (pk_rem (by omega) (by omega) (by omega)) ?_
          refine lv_istore (lv' := [(10, .int (nI (v % 103))), (9, .int (nI y9)), (8, .int (nI x9)), (0, .ref (gad G 0)), (1, .ref (gad G 31)), (2, .ref (gad G 32)), (3, .ref (gad G 33)), (4, .int 1), (5, .int (nI o)), (6, .int (nI u)), (7, .int (nI v))]) hx hb dL_isLaid_153 hl (by decide) rfl (fun ls hl => ?_)
          have q_620 : (nI (v % 103)) = (nI v9) := by rw [hv9]
          have hl : lv_has ls 14 [(10, .int (nI v9)), (9, .int (nI y9)), (8, .int (nI x9)), (0, .ref (gad G 0)), (1, .ref (gad G 31)), (2, .ref (gad G 32)), (3, .ref (gad G 33)), (4, .int 1), (5, .int (nI o)), (6, .int (nI u)), (7, .int (nI v))] := (lv_c (lv_atq hl 0 rfl q_620) (lv_c (lv_at hl 1 rfl) (lv_c (lv_at hl 2 rfl) (lv_c (lv_at hl 3 rfl) (lv_c (lv_at hl 4 rfl) (lv_c (lv_at hl 5 rfl) (lv_c (lv_at hl 6 rfl) (lv_c (lv_at hl 7 rfl) (lv_c (lv_at hl 8 rfl) (lv_c (lv_at hl 9 rfl) (lv_c (lv_at hl 10 rfl) (lv_c0 hl))))))))))))
          refine lv_iload hx hb dL_isLaid_155 (lv_at hl 2 rfl) ?_
          refine lv_aload_n hx hb dL_isLaid_157 rfl (lv_at hl 6 rfl) ?_
          refine lv_iconst (v := 0) hx hb dL_isLaid_158 (by decide) ?_
          refine lv_rep0 (x := 0) (y := nI 0) rfl ?_
          refine rAld hx hb fx hw 33 (hF.1 33 (by decide)) hF.2.1 (fun _ => rfl) 0 rfl (by omega) (by decide) dL_isLaid_159 ?_
          refine lv_rep0 (x := (σ 33 0)) (y := (nI g)) (pg hA).1 ?_
          refine lv_icmp_ge (tgt := 175) hx hb dL_isLaid_160 (by decide) (fun c_621 => ?_) (fun c_621 => ?_)
          · skip
            have c_621 : g ≤ x9 := (nI_leI (by omega) (by omega)).mp c_621
            omega
          · skip
            have c_621 : ¬ g ≤ x9 := fun h9 => c_621 ((nI_leI (by omega) (by omega)).mpr h9)
            refine lv_iload hx hb dL_isLaid_163 (lv_at hl 1 rfl) ?_
            refine lv_aload_n hx hb dL_isLaid_165 rfl (lv_at hl 6 rfl) ?_
            refine lv_iconst (v := 0) hx hb dL_isLaid_166 (by decide) ?_
            refine lv_rep0 (x := 0) (y := nI 0) rfl ?_
            refine rAld hx hb fx hw 33 (hF.1 33 (by decide)) hF.2.1 (fun _ => rfl) 0 rfl (by omega) (by decide) dL_isLaid_167 ?_
            refine lv_rep0 (x := (σ 33 0)) (y := (nI g)) (pg hA).1 ?_
            refine lv_icmp_ge (tgt := 175) hx hb dL_isLaid_168 (by decide) (fun c_622 => ?_) (fun c_622 => ?_)
            · skip
              have c_622 : g ≤ y9 := (nI_leI (by omega) (by omega)).mp c_622
              refine lv_iconst (v := 0) hx hb dL_isLaid_175 (by decide) ?_
              refine lv_istore (lv' := [(11, .int 0), (10, .int (nI v9)), (9, .int (nI y9)), (8, .int (nI x9)), (0, .ref (gad G 0)), (1, .ref (gad G 31)), (2, .ref (gad G 32)), (3, .ref (gad G 33)), (4, .int 1), (5, .int (nI o)), (6, .int (nI u)), (7, .int (nI v))]) hx hb dL_isLaid_176 hl (by decide) rfl (fun ls hl => ?_)
              refine lv_iload hx hb dL_isLaid_178 (lv_at hl 2 rfl) ?_
              refine lv_iload hx hb dL_isLaid_180 (lv_at hl 3 rfl) ?_
              refine lv_icmp_gt (tgt := 195) hx hb dL_isLaid_182 (by decide) (fun c_623 => ?_) (fun c_623 => ?_)
              · skip
                have c_623 : x9 < y9 := (nI_ltI (by omega) (by omega)).mp c_623
                refine lv_iload hx hb dL_isLaid_195 (lv_at hl 1 rfl) ?_
                refine lv_if_le (tgt := 211) hx hb dL_isLaid_197 (by decide) (fun c_624 => ?_) (fun c_624 => ?_)
                · skip
                  have c_624 : v9 = 0 := n0_let (by omega) c_624
                  refine lv_iconst (v := 0) hx hb dL_isLaid_211 (by decide) ?_
                  refine lv_istore (lv' := [(12, .int 0), (11, .int 0), (10, .int (nI v9)), (9, .int (nI y9)), (8, .int (nI x9)), (0, .ref (gad G 0)), (1, .ref (gad G 31)), (2, .ref (gad G 32)), (3, .ref (gad G 33)), (4, .int 1), (5, .int (nI o)), (6, .int (nI u)), (7, .int (nI v))]) hx hb dL_isLaid_212 hl (by decide) rfl (fun ls hl => ?_)
                  refine lv_iload hx hb dL_isLaid_214 (lv_at hl 1 rfl) ?_
                  refine lv_if_ne (tgt := 224) hx hb dL_isLaid_216 (by decide) (fun c_625 => ?_) (fun c_625 => ?_)
                  · skip
                    exact absurd c_625 (by decide)
                  · skip
                    refine lv_bipush (v := (-30)) hx hb dL_isLaid_219 (by decide) ?_
                    refine lv_goto (tgt := 268) hx hb dL_isLaid_221 (by decide) ?_
                    refine lv_istore (lv' := [(13, .int (-30)), (12, .int 0), (11, .int 0), (10, .int (nI v9)), (9, .int (nI y9)), (8, .int (nI x9)), (0, .ref (gad G 0)), (1, .ref (gad G 31)), (2, .ref (gad G 32)), (3, .ref (gad G 33)), (4, .int 1), (5, .int (nI o)), (6, .int (nI u)), (7, .int (nI v))]) hx hb dL_isLaid_268 hl (by decide) rfl (fun ls hl => ?_)
                    refine lv_iload hx hb dL_isLaid_270 (lv_at hl 2 rfl) ?_
                    refine lv_if_eq (tgt := 298) hx hb dL_isLaid_272 (by decide) (fun c_626 => ?_) (fun c_626 => ?_)
                    · skip
                      refine lv_aload_n hx hb dL_isLaid_298 rfl (lv_at hl 6 rfl) ?_
                      refine lv_iconst (v := 1) hx hb dL_isLaid_299 (by decide) ?_
                      refine lv_iload hx hb dL_isLaid_300 (lv_at hl 5 rfl) ?_
                      refine lv_iload hx hb dL_isLaid_302 (lv_at hl 4 rfl) ?_
                      refine lv_iload hx hb dL_isLaid_304 (lv_at hl 3 rfl) ?_
                      refine rCallLS (As := [.ref (gad G 0), .int 1, .int (nI x9), .int (nI y9), .int (nI v9)]) (rest := []) ⟨hx, hb, hml, hown, hts⟩ fx hw (d1_t1 l hlt G hG hF σ (pcv hA) ((nI x9)) ((nI y9)) ((nI v9)) (by first | (rw [inB_no (a := x9) (n := g) (by omega) (by omega)]; rfl) | (rw [inB_no (a := y9) (n := g) (by omega) (by omega), Bool.and_false]))) (vx_cwSW 5 hts gL_isLaid_L_does rfl rfl rfl (by decide +kernel) ⟨Nat.le_of_ble_eq_true rfl, Nat.le_of_ble_eq_true rfl⟩) rfl hl.1 rfl (Nat.le_of_ble_eq_true rfl) dL_isLaid_306 ⟨Nat.le_trans (show _ ≤ 3 by omega) (Nat.le_of_ble_eq_true rfl), Nat.le_trans (show _ ≤ 20 by omega) (Nat.le_of_ble_eq_true rfl)⟩ (fun r_627 σ_628 H locs p_629 hw => ?_)
                      obtain ⟨er_627, eσ_628⟩ := p_629
                      have er_627 := er_627.symm; subst er_627
                      have eσ_628 := eσ_628.symm; subst eσ_628
                      refine lv_iload hx hb dL_isLaid_309 (lv_at hl 0 rfl) ?_
                      refine lv_icmp_ne (tgt := 318) hx hb dL_isLaid_311 (by decide) (fun c_630 => ?_) (fun c_630 => ?_)
                      · skip
                        exact absurd c_630 (by decide)
                      · skip
                        refine lv_iconst (v := 1) hx hb dL_isLaid_314 (by decide) ?_
                        refine lv_goto (tgt := 319) hx hb dL_isLaid_315 (by decide) ?_
                        exact rRetZw hx hb hr hw (by decide) (by exact ⟨rfl, po_same hA hGa⟩) hlocks dL_isLaid_319 (by omega) (by omega)
                    · skip
                      exact absurd c_626 (by decide)
                · skip
                  have c_624 : 0 < v9 := n0_lef (by omega) c_624
                  refine lv_iload hx hb dL_isLaid_200 (lv_at hl 1 rfl) ?_
                  refine lv_bipush (v := 101) hx hb dL_isLaid_202 (by decide) ?_
                  refine lv_rep0 (x := 101) (y := nI 101) rfl ?_
                  refine lv_icmp_ge (tgt := 211) hx hb dL_isLaid_204 (by decide) (fun c_631 => ?_) (fun c_631 => ?_)
                  · skip
                    have c_631 : 101 ≤ v9 := (nI_leI (by omega) (by omega)).mp c_631
                    refine lv_iconst (v := 0) hx hb dL_isLaid_211 (by decide) ?_
                    refine lv_istore (lv' := [(12, .int 0), (11, .int 0), (10, .int (nI v9)), (9, .int (nI y9)), (8, .int (nI x9)), (0, .ref (gad G 0)), (1, .ref (gad G 31)), (2, .ref (gad G 32)), (3, .ref (gad G 33)), (4, .int 1), (5, .int (nI o)), (6, .int (nI u)), (7, .int (nI v))]) hx hb dL_isLaid_212 hl (by decide) rfl (fun ls hl => ?_)
                    refine lv_iload hx hb dL_isLaid_214 (lv_at hl 1 rfl) ?_
                    refine lv_if_ne (tgt := 224) hx hb dL_isLaid_216 (by decide) (fun c_632 => ?_) (fun c_632 => ?_)
                    · skip
                      exact absurd c_632 (by decide)
                    · skip
                      refine lv_bipush (v := (-30)) hx hb dL_isLaid_219 (by decide) ?_
                      refine lv_goto (tgt := 268) hx hb dL_isLaid_221 (by decide) ?_
                      refine lv_istore (lv' := [(13, .int (-30)), (12, .int 0), (11, .int 0), (10, .int (nI v9)), (9, .int (nI y9)), (8, .int (nI x9)), (0, .ref (gad G 0)), (1, .ref (gad G 31)), (2, .ref (gad G 32)), (3, .ref (gad G 33)), (4, .int 1), (5, .int (nI o)), (6, .int (nI u)), (7, .int (nI v))]) hx hb dL_isLaid_268 hl (by decide) rfl (fun ls hl => ?_)
                      refine lv_iload hx hb dL_isLaid_270 (lv_at hl 2 rfl) ?_
                      refine lv_if_eq (tgt := 298) hx hb dL_isLaid_272 (by decide) (fun c_633 => ?_) (fun c_633 => ?_)
                      · skip
                        refine lv_aload_n hx hb dL_isLaid_298 rfl (lv_at hl 6 rfl) ?_
                        refine lv_iconst (v := 1) hx hb dL_isLaid_299 (by decide) ?_
                        refine lv_iload hx hb dL_isLaid_300 (lv_at hl 5 rfl) ?_
                        refine lv_iload hx hb dL_isLaid_302 (lv_at hl 4 rfl) ?_
                        refine lv_iload hx hb dL_isLaid_304 (lv_at hl 3 rfl) ?_
                        refine rCallLS (As := [.ref (gad G 0), .int 1, .int (nI x9), .int (nI y9), .int (nI v9)]) (rest := []) ⟨hx, hb, hml, hown, hts⟩ fx hw (d1_t1 l hlt G hG hF σ (pcv hA) ((nI x9)) ((nI y9)) ((nI v9)) (by first | (rw [inB_no (a := x9) (n := g) (by omega) (by omega)]; rfl) | (rw [inB_no (a := y9) (n := g) (by omega) (by omega), Bool.and_false]))) (vx_cwSW 5 hts gL_isLaid_L_does rfl rfl rfl (by decide +kernel) ⟨Nat.le_of_ble_eq_true rfl, Nat.le_of_ble_eq_true rfl⟩) rfl hl.1 rfl (Nat.le_of_ble_eq_true rfl) dL_isLaid_306 ⟨Nat.le_trans (show _ ≤ 3 by omega) (Nat.le_of_ble_eq_true rfl), Nat.le_trans (show _ ≤ 20 by omega) (Nat.le_of_ble_eq_true rfl)⟩ (fun r_634 σ_635 H locs p_636 hw => ?_)
                        obtain ⟨er_634, eσ_635⟩ := p_636
                        have er_634 := er_634.symm; subst er_634
                        have eσ_635 := eσ_635.symm; subst eσ_635
                        refine lv_iload hx hb dL_isLaid_309 (lv_at hl 0 rfl) ?_
                        refine lv_icmp_ne (tgt := 318) hx hb dL_isLaid_311 (by decide) (fun c_637 => ?_) (fun c_637 => ?_)
                        · skip
                          exact absurd c_637 (by decide)
                        · skip
                          refine lv_iconst (v := 1) hx hb dL_isLaid_314 (by decide) ?_
                          refine lv_goto (tgt := 319) hx hb dL_isLaid_315 (by decide) ?_
                          exact rRetZw hx hb hr hw (by decide) (by exact ⟨rfl, po_same hA hGa⟩) hlocks dL_isLaid_319 (by omega) (by omega)
                      · skip
                        exact absurd c_633 (by decide)
                  · skip
                    have c_631 : ¬ 101 ≤ v9 := fun h9 => c_631 ((nI_leI (by omega) (by omega)).mpr h9)
                    refine lv_iconst (v := 1) hx hb dL_isLaid_207 (by decide) ?_
                    refine lv_goto (tgt := 212) hx hb dL_isLaid_208 (by decide) ?_
                    refine lv_istore (lv' := [(12, .int 1), (11, .int 0), (10, .int (nI v9)), (9, .int (nI y9)), (8, .int (nI x9)), (0, .ref (gad G 0)), (1, .ref (gad G 31)), (2, .ref (gad G 32)), (3, .ref (gad G 33)), (4, .int 1), (5, .int (nI o)), (6, .int (nI u)), (7, .int (nI v))]) hx hb dL_isLaid_212 hl (by decide) rfl (fun ls hl => ?_)
                    refine lv_iload hx hb dL_isLaid_214 (lv_at hl 1 rfl) ?_
                    refine lv_if_ne (tgt := 224) hx hb dL_isLaid_216 (by decide) (fun c_638 => ?_) (fun c_638 => ?_)
                    · skip
                      exact absurd c_638 (by decide)
                    · skip
                      refine lv_bipush (v := (-30)) hx hb dL_isLaid_219 (by decide) ?_
                      refine lv_goto (tgt := 268) hx hb dL_isLaid_221 (by decide) ?_
                      refine lv_istore (lv' := [(13, .int (-30)), (12, .int 1), (11, .int 0), (10, .int (nI v9)), (9, .int (nI y9)), (8, .int (nI x9)), (0, .ref (gad G 0)), (1, .ref (gad G 31)), (2, .ref (gad G 32)), (3, .ref (gad G 33)), (4, .int 1), (5, .int (nI o)), (6, .int (nI u)), (7, .int (nI v))]) hx hb dL_isLaid_268 hl (by decide) rfl (fun ls hl => ?_)
                      refine lv_iload hx hb dL_isLaid_270 (lv_at hl 2 rfl) ?_
                      refine lv_if_eq (tgt := 298) hx hb dL_isLaid_272 (by decide) (fun c_639 => ?_) (fun c_639 => ?_)
                      · skip
                        refine lv_aload_n hx hb dL_isLaid_298 rfl (lv_at hl 6 rfl) ?_
                        refine lv_iconst (v := 1) hx hb dL_isLaid_299 (by decide) ?_
                        refine lv_iload hx hb dL_isLaid_300 (lv_at hl 5 rfl) ?_
                        refine lv_iload hx hb dL_isLaid_302 (lv_at hl 4 rfl) ?_
                        refine lv_iload hx hb dL_isLaid_304 (lv_at hl 3 rfl) ?_
                        refine rCallLS (As := [.ref (gad G 0), .int 1, .int (nI x9), .int (nI y9), .int (nI v9)]) (rest := []) ⟨hx, hb, hml, hown, hts⟩ fx hw (d1_t1 l hlt G hG hF σ (pcv hA) ((nI x9)) ((nI y9)) ((nI v9)) (by first | (rw [inB_no (a := x9) (n := g) (by omega) (by omega)]; rfl) | (rw [inB_no (a := y9) (n := g) (by omega) (by omega), Bool.and_false]))) (vx_cwSW 5 hts gL_isLaid_L_does rfl rfl rfl (by decide +kernel) ⟨Nat.le_of_ble_eq_true rfl, Nat.le_of_ble_eq_true rfl⟩) rfl hl.1 rfl (Nat.le_of_ble_eq_true rfl) dL_isLaid_306 ⟨Nat.le_trans (show _ ≤ 3 by omega) (Nat.le_of_ble_eq_true rfl), Nat.le_trans (show _ ≤ 20 by omega) (Nat.le_of_ble_eq_true rfl)⟩ (fun r_640 σ_641 H locs p_642 hw => ?_)
                        obtain ⟨er_640, eσ_641⟩ := p_642
                        have er_640 := er_640.symm; subst er_640
                        have eσ_641 := eσ_641.symm; subst eσ_641
                        refine lv_iload hx hb dL_isLaid_309 (lv_at hl 0 rfl) ?_
                        refine lv_icmp_ne (tgt := 318) hx hb dL_isLaid_311 (by decide) (fun c_643 => ?_) (fun c_643 => ?_)
                        · skip
                          exact absurd c_643 (by decide)
                        · skip
                          refine lv_iconst (v := 1) hx hb dL_isLaid_314 (by decide) ?_
                          refine lv_goto (tgt := 319) hx hb dL_isLaid_315 (by decide) ?_
                          exact rRetZw hx hb hr hw (by decide) (by exact ⟨rfl, po_same hA hGa⟩) hlocks dL_isLaid_319 (by omega) (by omega)
                      · skip
                        exact absurd c_639 (by decide)
              · skip
                have c_623 : ¬ x9 < y9 := fun h9 => c_623 ((nI_ltI (by omega) (by omega)).mpr h9)
                refine lv_iload hx hb dL_isLaid_185 (lv_at hl 2 rfl) ?_
                refine lv_if_ne (tgt := 211) hx hb dL_isLaid_187 (by decide) (fun c_644 => ?_) (fun c_644 => ?_)
                · skip
                  have c_644 : ¬ y9 = 0 := n0_net (by omega) c_644
                  refine lv_iconst (v := 0) hx hb dL_isLaid_211 (by decide) ?_
                  refine lv_istore (lv' := [(12, .int 0), (11, .int 0), (10, .int (nI v9)), (9, .int (nI y9)), (8, .int (nI x9)), (0, .ref (gad G 0)), (1, .ref (gad G 31)), (2, .ref (gad G 32)), (3, .ref (gad G 33)), (4, .int 1), (5, .int (nI o)), (6, .int (nI u)), (7, .int (nI v))]) hx hb dL_isLaid_212 hl (by decide) rfl (fun ls hl => ?_)
                  refine lv_iload hx hb dL_isLaid_214 (lv_at hl 1 rfl) ?_
                  refine lv_if_ne (tgt := 224) hx hb dL_isLaid_216 (by decide) (fun c_645 => ?_) (fun c_645 => ?_)
                  · skip
                    exact absurd c_645 (by decide)
                  · skip
                    refine lv_bipush (v := (-30)) hx hb dL_isLaid_219 (by decide) ?_
                    refine lv_goto (tgt := 268) hx hb dL_isLaid_221 (by decide) ?_
                    refine lv_istore (lv' := [(13, .int (-30)), (12, .int 0), (11, .int 0), (10, .int (nI v9)), (9, .int (nI y9)), (8, .int (nI x9)), (0, .ref (gad G 0)), (1, .ref (gad G 31)), (2, .ref (gad G 32)), (3, .ref (gad G 33)), (4, .int 1), (5, .int (nI o)), (6, .int (nI u)), (7, .int (nI v))]) hx hb dL_isLaid_268 hl (by decide) rfl (fun ls hl => ?_)
                    refine lv_iload hx hb dL_isLaid_270 (lv_at hl 2 rfl) ?_
                    refine lv_if_eq (tgt := 298) hx hb dL_isLaid_272 (by decide) (fun c_646 => ?_) (fun c_646 => ?_)
                    · skip
                      refine lv_aload_n hx hb dL_isLaid_298 rfl (lv_at hl 6 rfl) ?_
                      refine lv_iconst (v := 1) hx hb dL_isLaid_299 (by decide) ?_
                      refine lv_iload hx hb dL_isLaid_300 (lv_at hl 5 rfl) ?_
                      refine lv_iload hx hb dL_isLaid_302 (lv_at hl 4 rfl) ?_
                      refine lv_iload hx hb dL_isLaid_304 (lv_at hl 3 rfl) ?_
                      refine rCallLS (As := [.ref (gad G 0), .int 1, .int (nI x9), .int (nI y9), .int (nI v9)]) (rest := []) ⟨hx, hb, hml, hown, hts⟩ fx hw (d1_t1 l hlt G hG hF σ (pcv hA) ((nI x9)) ((nI y9)) ((nI v9)) (by first | (rw [inB_no (a := x9) (n := g) (by omega) (by omega)]; rfl) | (rw [inB_no (a := y9) (n := g) (by omega) (by omega), Bool.and_false]))) (vx_cwSW 5 hts gL_isLaid_L_does rfl rfl rfl (by decide +kernel) ⟨Nat.le_of_ble_eq_true rfl, Nat.le_of_ble_eq_true rfl⟩) rfl hl.1 rfl (Nat.le_of_ble_eq_true rfl) dL_isLaid_306 ⟨Nat.le_trans (show _ ≤ 3 by omega) (Nat.le_of_ble_eq_true rfl), Nat.le_trans (show _ ≤ 20 by omega) (Nat.le_of_ble_eq_true rfl)⟩ (fun r_647 σ_648 H locs p_649 hw => ?_)
                      obtain ⟨er_647, eσ_648⟩ := p_649
                      have er_647 := er_647.symm; subst er_647
                      have eσ_648 := eσ_648.symm; subst eσ_648
                      refine lv_iload hx hb dL_isLaid_309 (lv_at hl 0 rfl) ?_
                      refine lv_icmp_ne (tgt := 318) hx hb dL_isLaid_311 (by decide) (fun c_650 => ?_) (fun c_650 => ?_)
                      · skip
                        exact absurd c_650 (by decide)
                      · skip
                        refine lv_iconst (v := 1) hx hb dL_isLaid_314 (by decide) ?_
                        refine lv_goto (tgt := 319) hx hb dL_isLaid_315 (by decide) ?_
                        exact rRetZw hx hb hr hw (by decide) (by exact ⟨rfl, po_same hA hGa⟩) hlocks dL_isLaid_319 (by omega) (by omega)
                    · skip
                      exact absurd c_646 (by decide)
                · skip
                  have c_644 : y9 = 0 := n0_nef (by omega) c_644
                  refine lv_iload hx hb dL_isLaid_190 (lv_at hl 3 rfl) ?_
                  refine lv_if_le (tgt := 211) hx hb dL_isLaid_192 (by decide) (fun c_651 => ?_) (fun c_651 => ?_)
                  · skip
                    have c_651 : x9 = 0 := n0_let (by omega) c_651
                    refine lv_iconst (v := 0) hx hb dL_isLaid_211 (by decide) ?_
                    refine lv_istore (lv' := [(12, .int 0), (11, .int 0), (10, .int (nI v9)), (9, .int (nI y9)), (8, .int (nI x9)), (0, .ref (gad G 0)), (1, .ref (gad G 31)), (2, .ref (gad G 32)), (3, .ref (gad G 33)), (4, .int 1), (5, .int (nI o)), (6, .int (nI u)), (7, .int (nI v))]) hx hb dL_isLaid_212 hl (by decide) rfl (fun ls hl => ?_)
                    refine lv_iload hx hb dL_isLaid_214 (lv_at hl 1 rfl) ?_
                    refine lv_if_ne (tgt := 224) hx hb dL_isLaid_216 (by decide) (fun c_652 => ?_) (fun c_652 => ?_)
                    · skip
                      exact absurd c_652 (by decide)
                    · skip
                      refine lv_bipush (v := (-30)) hx hb dL_isLaid_219 (by decide) ?_
                      refine lv_goto (tgt := 268) hx hb dL_isLaid_221 (by decide) ?_
                      refine lv_istore (lv' := [(13, .int (-30)), (12, .int 0), (11, .int 0), (10, .int (nI v9)), (9, .int (nI y9)), (8, .int (nI x9)), (0, .ref (gad G 0)), (1, .ref (gad G 31)), (2, .ref (gad G 32)), (3, .ref (gad G 33)), (4, .int 1), (5, .int (nI o)), (6, .int (nI u)), (7, .int (nI v))]) hx hb dL_isLaid_268 hl (by decide) rfl (fun ls hl => ?_)
                      refine lv_iload hx hb dL_isLaid_270 (lv_at hl 2 rfl) ?_
                      refine lv_if_eq (tgt := 298) hx hb dL_isLaid_272 (by decide) (fun c_653 => ?_) (fun c_653 => ?_)
                      · skip
                        refine lv_aload_n hx hb dL_isLaid_298 rfl (lv_at hl 6 rfl) ?_
                        refine lv_iconst (v := 1) hx hb dL_isLaid_299 (by decide) ?_
                        refine lv_iload hx hb dL_isLaid_300 (lv_at hl 5 rfl) ?_
                        refine lv_iload hx hb dL_isLaid_302 (lv_at hl 4 rfl) ?_
                        refine lv_iload hx hb dL_isLaid_304 (lv_at hl 3 rfl) ?_
                        refine rCallLS (As := [.ref (gad G 0), .int 1, .int (nI x9), .int (nI y9), .int (nI v9)]) (rest := []) ⟨hx, hb, hml, hown, hts⟩ fx hw (d1_t1 l hlt G hG hF σ (pcv hA) ((nI x9)) ((nI y9)) ((nI v9)) (by first | (rw [inB_no (a := x9) (n := g) (by omega) (by omega)]; rfl) | (rw [inB_no (a := y9) (n := g) (by omega) (by omega), Bool.and_false]))) (vx_cwSW 5 hts gL_isLaid_L_does rfl rfl rfl (by decide +kernel) ⟨Nat.le_of_ble_eq_true rfl, Nat.le_of_ble_eq_true rfl⟩) rfl hl.1 rfl (Nat.le_of_ble_eq_true rfl) dL_isLaid_306 ⟨Nat.le_trans (show _ ≤ 3 by omega) (Nat.le_of_ble_eq_true rfl), Nat.le_trans (show _ ≤ 20 by omega) (Nat.le_of_ble_eq_true rfl)⟩ (fun r_654 σ_655 H locs p_656 hw => ?_)
                        obtain ⟨er_654, eσ_655⟩ := p_656
                        have er_654 := er_654.symm; subst er_654
                        have eσ_655 := eσ_655.symm; subst eσ_655
                        refine lv_iload hx hb dL_isLaid_309 (lv_at hl 0 rfl) ?_
                        refine lv_icmp_ne (tgt := 318) hx hb dL_isLaid_311 (by decide) (fun c_657 => ?_) (fun c_657 => ?_)
                        · skip
                          exact absurd c_657 (by decide)
                        · skip
                          refine lv_iconst (v := 1) hx hb dL_isLaid_314 (by decide) ?_
                          refine lv_goto (tgt := 319) hx hb dL_isLaid_315 (by decide) ?_
                          exact rRetZw hx hb hr hw (by decide) (by exact ⟨rfl, po_same hA hGa⟩) hlocks dL_isLaid_319 (by omega) (by omega)
                      · skip
                        exact absurd c_653 (by decide)
                  · skip
                    have c_651 : 0 < x9 := n0_lef (by omega) c_651
                    refine lv_iload hx hb dL_isLaid_195 (lv_at hl 1 rfl) ?_
                    refine lv_if_le (tgt := 211) hx hb dL_isLaid_197 (by decide) (fun c_658 => ?_) (fun c_658 => ?_)
                    · skip
                      have c_658 : v9 = 0 := n0_let (by omega) c_658
                      refine lv_iconst (v := 0) hx hb dL_isLaid_211 (by decide) ?_
                      refine lv_istore (lv' := [(12, .int 0), (11, .int 0), (10, .int (nI v9)), (9, .int (nI y9)), (8, .int (nI x9)), (0, .ref (gad G 0)), (1, .ref (gad G 31)), (2, .ref (gad G 32)), (3, .ref (gad G 33)), (4, .int 1), (5, .int (nI o)), (6, .int (nI u)), (7, .int (nI v))]) hx hb dL_isLaid_212 hl (by decide) rfl (fun ls hl => ?_)
                      refine lv_iload hx hb dL_isLaid_214 (lv_at hl 1 rfl) ?_
                      refine lv_if_ne (tgt := 224) hx hb dL_isLaid_216 (by decide) (fun c_659 => ?_) (fun c_659 => ?_)
                      · skip
                        exact absurd c_659 (by decide)
                      · skip
                        refine lv_bipush (v := (-30)) hx hb dL_isLaid_219 (by decide) ?_
                        refine lv_goto (tgt := 268) hx hb dL_isLaid_221 (by decide) ?_
                        refine lv_istore (lv' := [(13, .int (-30)), (12, .int 0), (11, .int 0), (10, .int (nI v9)), (9, .int (nI y9)), (8, .int (nI x9)), (0, .ref (gad G 0)), (1, .ref (gad G 31)), (2, .ref (gad G 32)), (3, .ref (gad G 33)), (4, .int 1), (5, .int (nI o)), (6, .int (nI u)), (7, .int (nI v))]) hx hb dL_isLaid_268 hl (by decide) rfl (fun ls hl => ?_)
                        refine lv_iload hx hb dL_isLaid_270 (lv_at hl 2 rfl) ?_
                        refine lv_if_eq (tgt := 298) hx hb dL_isLaid_272 (by decide) (fun c_660 => ?_) (fun c_660 => ?_)
                        · skip
                          refine lv_aload_n hx hb dL_isLaid_298 rfl (lv_at hl 6 rfl) ?_
                          refine lv_iconst (v := 1) hx hb dL_isLaid_299 (by decide) ?_
                          refine lv_iload hx hb dL_isLaid_300 (lv_at hl 5 rfl) ?_
                          refine lv_iload hx hb dL_isLaid_302 (lv_at hl 4 rfl) ?_
                          refine lv_iload hx hb dL_isLaid_304 (lv_at hl 3 rfl) ?_
                          refine rCallLS (As := [.ref (gad G 0), .int 1, .int (nI x9), .int (nI y9), .int (nI v9)]) (rest := []) ⟨hx, hb, hml, hown, hts⟩ fx hw (d1_t1 l hlt G hG hF σ (pcv hA) ((nI x9)) ((nI y9)) ((nI v9)) (by first | (rw [inB_no (a := x9) (n := g) (by omega) (by omega)]; rfl) | (rw [inB_no (a := y9) (n := g) (by omega) (by omega), Bool.and_false]))) (vx_cwSW 5 hts gL_isLaid_L_does rfl rfl rfl (by decide +kernel) ⟨Nat.le_of_ble_eq_true rfl, Nat.le_of_ble_eq_true rfl⟩) rfl hl.1 rfl (Nat.le_of_ble_eq_true rfl) dL_isLaid_306 ⟨Nat.le_trans (show _ ≤ 3 by omega) (Nat.le_of_ble_eq_true rfl), Nat.le_trans (show _ ≤ 20 by omega) (Nat.le_of_ble_eq_true rfl)⟩ (fun r_661 σ_662 H locs p_663 hw => ?_)
                          obtain ⟨er_661, eσ_662⟩ := p_663
                          have er_661 := er_661.symm; subst er_661
                          have eσ_662 := eσ_662.symm; subst eσ_662
                          refine lv_iload hx hb dL_isLaid_309 (lv_at hl 0 rfl) ?_
                          refine lv_icmp_ne (tgt := 318) hx hb dL_isLaid_311 (by decide) (fun c_664 => ?_) (fun c_664 => ?_)
                          · skip
                            exact absurd c_664 (by decide)
                          · skip
                            refine lv_iconst (v := 1) hx hb dL_isLaid_314 (by decide) ?_
                            refine lv_goto (tgt := 319) hx hb dL_isLaid_315 (by decide) ?_
                            exact rRetZw hx hb hr hw (by decide) (by exact ⟨rfl, po_same hA hGa⟩) hlocks dL_isLaid_319 (by omega) (by omega)
                        · skip
                          exact absurd c_660 (by decide)
                    · skip
                      have c_658 : 0 < v9 := n0_lef (by omega) c_658
                      refine lv_iload hx hb dL_isLaid_200 (lv_at hl 1 rfl) ?_
                      refine lv_bipush (v := 101) hx hb dL_isLaid_202 (by decide) ?_
                      refine lv_rep0 (x := 101) (y := nI 101) rfl ?_
                      refine lv_icmp_ge (tgt := 211) hx hb dL_isLaid_204 (by decide) (fun c_665 => ?_) (fun c_665 => ?_)
                      · skip
                        have c_665 : 101 ≤ v9 := (nI_leI (by omega) (by omega)).mp c_665
                        refine lv_iconst (v := 0) hx hb dL_isLaid_211 (by decide) ?_
                        refine lv_istore (lv' := [(12, .int 0), (11, .int 0), (10, .int (nI v9)), (9, .int (nI y9)), (8, .int (nI x9)), (0, .ref (gad G 0)), (1, .ref (gad G 31)), (2, .ref (gad G 32)), (3, .ref (gad G 33)), (4, .int 1), (5, .int (nI o)), (6, .int (nI u)), (7, .int (nI v))]) hx hb dL_isLaid_212 hl (by decide) rfl (fun ls hl => ?_)
                        refine lv_iload hx hb dL_isLaid_214 (lv_at hl 1 rfl) ?_
                        refine lv_if_ne (tgt := 224) hx hb dL_isLaid_216 (by decide) (fun c_666 => ?_) (fun c_666 => ?_)
                        · skip
                          exact absurd c_666 (by decide)
                        · skip
                          refine lv_bipush (v := (-30)) hx hb dL_isLaid_219 (by decide) ?_
                          refine lv_goto (tgt := 268) hx hb dL_isLaid_221 (by decide) ?_
                          refine lv_istore (lv' := [(13, .int (-30)), (12, .int 0), (11, .int 0), (10, .int (nI v9)), (9, .int (nI y9)), (8, .int (nI x9)), (0, .ref (gad G 0)), (1, .ref (gad G 31)), (2, .ref (gad G 32)), (3, .ref (gad G 33)), (4, .int 1), (5, .int (nI o)), (6, .int (nI u)), (7, .int (nI v))]) hx hb dL_isLaid_268 hl (by decide) rfl (fun ls hl => ?_)
                          refine lv_iload hx hb dL_isLaid_270 (lv_at hl 2 rfl) ?_
                          refine lv_if_eq (tgt := 298) hx hb dL_isLaid_272 (by decide) (fun c_667 => ?_) (fun c_667 => ?_)
                          · skip
                            refine lv_aload_n hx hb dL_isLaid_298 rfl (lv_at hl 6 rfl) ?_
                            refine lv_iconst (v := 1) hx hb dL_isLaid_299 (by decide) ?_
                            refine lv_iload hx hb dL_isLaid_300 (lv_at hl 5 rfl) ?_
                            refine lv_iload hx hb dL_isLaid_302 (lv_at hl 4 rfl) ?_
                            refine lv_iload hx hb dL_isLaid_304 (lv_at hl 3 rfl) ?_
                            refine rCallLS (As := [.ref (gad G 0), .int 1, .int (nI x9), .int (nI y9), .int (nI v9)]) (rest := []) ⟨hx, hb, hml, hown, hts⟩ fx hw (d1_t1 l hlt G hG hF σ (pcv hA) ((nI x9)) ((nI y9)) ((nI v9)) (by first | (rw [inB_no (a := x9) (n := g) (by omega) (by omega)]; rfl) | (rw [inB_no (a := y9) (n := g) (by omega) (by omega), Bool.and_false]))) (vx_cwSW 5 hts gL_isLaid_L_does rfl rfl rfl (by decide +kernel) ⟨Nat.le_of_ble_eq_true rfl, Nat.le_of_ble_eq_true rfl⟩) rfl hl.1 rfl (Nat.le_of_ble_eq_true rfl) dL_isLaid_306 ⟨Nat.le_trans (show _ ≤ 3 by omega) (Nat.le_of_ble_eq_true rfl), Nat.le_trans (show _ ≤ 20 by omega) (Nat.le_of_ble_eq_true rfl)⟩ (fun r_668 σ_669 H locs p_670 hw => ?_)
                            obtain ⟨er_668, eσ_669⟩ := p_670
                            have er_668 := er_668.symm; subst er_668
                            have eσ_669 := eσ_669.symm; subst eσ_669
                            refine lv_iload hx hb dL_isLaid_309 (lv_at hl 0 rfl) ?_
                            refine lv_icmp_ne (tgt := 318) hx hb dL_isLaid_311 (by decide) (fun c_671 => ?_) (fun c_671 => ?_)
                            · skip
                              exact absurd c_671 (by decide)
                            · skip
                              refine lv_iconst (v := 1) hx hb dL_isLaid_314 (by decide) ?_
                              refine lv_goto (tgt := 319) hx hb dL_isLaid_315 (by decide) ?_
                              exact rRetZw hx hb hr hw (by decide) (by exact ⟨rfl, po_same hA hGa⟩) hlocks dL_isLaid_319 (by omega) (by omega)
                          · skip
                            exact absurd c_667 (by decide)
                      · skip
                        have c_665 : ¬ 101 ≤ v9 := fun h9 => c_665 ((nI_leI (by omega) (by omega)).mpr h9)
                        refine lv_iconst (v := 1) hx hb dL_isLaid_207 (by decide) ?_
                        refine lv_goto (tgt := 212) hx hb dL_isLaid_208 (by decide) ?_
                        refine lv_istore (lv' := [(12, .int 1), (11, .int 0), (10, .int (nI v9)), (9, .int (nI y9)), (8, .int (nI x9)), (0, .ref (gad G 0)), (1, .ref (gad G 31)), (2, .ref (gad G 32)), (3, .ref (gad G 33)), (4, .int 1), (5, .int (nI o)), (6, .int (nI u)), (7, .int (nI v))]) hx hb dL_isLaid_212 hl (by decide) rfl (fun ls hl => ?_)
                        refine lv_iload hx hb dL_isLaid_214 (lv_at hl 1 rfl) ?_
                        refine lv_if_ne (tgt := 224) hx hb dL_isLaid_216 (by decide) (fun c_672 => ?_) (fun c_672 => ?_)
                        · skip
                          exact absurd c_672 (by decide)
                        · skip
                          refine lv_bipush (v := (-30)) hx hb dL_isLaid_219 (by decide) ?_
                          refine lv_goto (tgt := 268) hx hb dL_isLaid_221 (by decide) ?_
                          refine lv_istore (lv' := [(13, .int (-30)), (12, .int 1), (11, .int 0), (10, .int (nI v9)), (9, .int (nI y9)), (8, .int (nI x9)), (0, .ref (gad G 0)), (1, .ref (gad G 31)), (2, .ref (gad G 32)), (3, .ref (gad G 33)), (4, .int 1), (5, .int (nI o)), (6, .int (nI u)), (7, .int (nI v))]) hx hb dL_isLaid_268 hl (by decide) rfl (fun ls hl => ?_)
                          refine lv_iload hx hb dL_isLaid_270 (lv_at hl 2 rfl) ?_
                          refine lv_if_eq (tgt := 298) hx hb dL_isLaid_272 (by decide) (fun c_673 => ?_) (fun c_673 => ?_)
                          · skip
                            refine lv_aload_n hx hb dL_isLaid_298 rfl (lv_at hl 6 rfl) ?_
                            refine lv_iconst (v := 1) hx hb dL_isLaid_299 (by decide) ?_
                            refine lv_iload hx hb dL_isLaid_300 (lv_at hl 5 rfl) ?_
                            refine lv_iload hx hb dL_isLaid_302 (lv_at hl 4 rfl) ?_
                            refine lv_iload hx hb dL_isLaid_304 (lv_at hl 3 rfl) ?_
                            refine rCallLS (As := [.ref (gad G 0), .int 1, .int (nI x9), .int (nI y9), .int (nI v9)]) (rest := []) ⟨hx, hb, hml, hown, hts⟩ fx hw (d1_t1 l hlt G hG hF σ (pcv hA) ((nI x9)) ((nI y9)) ((nI v9)) (by first | (rw [inB_no (a := x9) (n := g) (by omega) (by omega)]; rfl) | (rw [inB_no (a := y9) (n := g) (by omega) (by omega), Bool.and_false]))) (vx_cwSW 5 hts gL_isLaid_L_does rfl rfl rfl (by decide +kernel) ⟨Nat.le_of_ble_eq_true rfl, Nat.le_of_ble_eq_true rfl⟩) rfl hl.1 rfl (Nat.le_of_ble_eq_true rfl) dL_isLaid_306 ⟨Nat.le_trans (show _ ≤ 3 by omega) (Nat.le_of_ble_eq_true rfl), Nat.le_trans (show _ ≤ 20 by omega) (Nat.le_of_ble_eq_true rfl)⟩ (fun r_674 σ_675 H locs p_676 hw => ?_)
                            obtain ⟨er_674, eσ_675⟩ := p_676
                            have er_674 := er_674.symm; subst er_674
                            have eσ_675 := eσ_675.symm; subst eσ_675
                            refine lv_iload hx hb dL_isLaid_309 (lv_at hl 0 rfl) ?_
                            refine lv_icmp_ne (tgt := 318) hx hb dL_isLaid_311 (by decide) (fun c_677 => ?_) (fun c_677 => ?_)
                            · skip
                              exact absurd c_677 (by decide)
                            · skip
                              refine lv_iconst (v := 1) hx hb dL_isLaid_314 (by decide) ?_
                              refine lv_goto (tgt := 319) hx hb dL_isLaid_315 (by decide) ?_
                              exact rRetZw hx hb hr hw (by decide) (by exact ⟨rfl, po_same hA hGa⟩) hlocks dL_isLaid_319 (by omega) (by omega)
                          · skip
                            exact absurd c_673 (by decide)
            · skip
              have c_622 : ¬ g ≤ y9 := fun h9 => c_622 ((nI_leI (by omega) (by omega)).mpr h9)
              omega
        · skip
          have c_618 : (v % 3) = 0 := n0_nef (by omega) c_618
          refine lv_iconst (v := 0) hx hb dL_isLaid_134 (by decide) ?_
          refine lv_goto (tgt := 146) hx hb dL_isLaid_135 (by decide) ?_
          refine lv_istore (lv' := [(9, .int 0), (8, .int (nI x9)), (0, .ref (gad G 0)), (1, .ref (gad G 31)), (2, .ref (gad G 32)), (3, .ref (gad G 33)), (4, .int 1), (5, .int (nI o)), (6, .int (nI u)), (7, .int (nI v))]) hx hb dL_isLaid_146 hl (by decide) rfl (fun ls hl => ?_)
          have q_678 : 0 = (nI y9) := by first | (rw [hy9, if_pos (by omega)]; rfl) | rw [hy9, if_neg (by omega)]
          have hl : lv_has ls 14 [(9, .int (nI y9)), (8, .int (nI x9)), (0, .ref (gad G 0)), (1, .ref (gad G 31)), (2, .ref (gad G 32)), (3, .ref (gad G 33)), (4, .int 1), (5, .int (nI o)), (6, .int (nI u)), (7, .int (nI v))] := (lv_c (lv_atq hl 0 rfl q_678) (lv_c (lv_at hl 1 rfl) (lv_c (lv_at hl 2 rfl) (lv_c (lv_at hl 3 rfl) (lv_c (lv_at hl 4 rfl) (lv_c (lv_at hl 5 rfl) (lv_c (lv_at hl 6 rfl) (lv_c (lv_at hl 7 rfl) (lv_c (lv_at hl 8 rfl) (lv_c (lv_at hl 9 rfl) (lv_c0 hl)))))))))))
          refine lv_iload hx hb dL_isLaid_148 (lv_at hl 9 rfl) ?_
          refine lv_bipush (v := 103) hx hb dL_isLaid_150 (by decide) ?_
          refine lv_rep0 (x := 103) (y := nI 103) rfl ?_
          refine lv_irem hx hb dL_isLaid_152 (nI_ne0 (by omega) (by omega)) ?_
          refine lv_rep0 (y := nI (v % 103)) (pk_rem (by omega) (by omega) (by omega)) ?_
          refine lv_istore (lv' := [(10, .int (nI (v % 103))), (9, .int (nI y9)), (8, .int (nI x9)), (0, .ref (gad G 0)), (1, .ref (gad G 31)), (2, .ref (gad G 32)), (3, .ref (gad G 33)), (4, .int 1), (5, .int (nI o)), (6, .int (nI u)), (7, .int (nI v))]) hx hb dL_isLaid_153 hl (by decide) rfl (fun ls hl => ?_)
          have q_679 : (nI (v % 103)) = (nI v9) := by rw [hv9]
          have hl : lv_has ls 14 [(10, .int (nI v9)), (9, .int (nI y9)), (8, .int (nI x9)), (0, .ref (gad G 0)), (1, .ref (gad G 31)), (2, .ref (gad G 32)), (3, .ref (gad G 33)), (4, .int 1), (5, .int (nI o)), (6, .int (nI u)), (7, .int (nI v))] := (lv_c (lv_atq hl 0 rfl q_679) (lv_c (lv_at hl 1 rfl) (lv_c (lv_at hl 2 rfl) (lv_c (lv_at hl 3 rfl) (lv_c (lv_at hl 4 rfl) (lv_c (lv_at hl 5 rfl) (lv_c (lv_at hl 6 rfl) (lv_c (lv_at hl 7 rfl) (lv_c (lv_at hl 8 rfl) (lv_c (lv_at hl 9 rfl) (lv_c (lv_at hl 10 rfl) (lv_c0 hl))))))))))))
          refine lv_iload hx hb dL_isLaid_155 (lv_at hl 2 rfl) ?_
          refine lv_aload_n hx hb dL_isLaid_157 rfl (lv_at hl 6 rfl) ?_
          refine lv_iconst (v := 0) hx hb dL_isLaid_158 (by decide) ?_
          refine lv_rep0 (x := 0) (y := nI 0) rfl ?_
          refine rAld hx hb fx hw 33 (hF.1 33 (by decide)) hF.2.1 (fun _ => rfl) 0 rfl (by omega) (by decide) dL_isLaid_159 ?_
          refine lv_rep0 (x := (σ 33 0)) (y := (nI g)) (pg hA).1 ?_
          refine lv_icmp_ge (tgt := 175) hx hb dL_isLaid_160 (by decide) (fun c_680 => ?_) (fun c_680 => ?_)
          · skip
            have c_680 : g ≤ x9 := (nI_leI (by omega) (by omega)).mp c_680
            omega
          · skip
            have c_680 : ¬ g ≤ x9 := fun h9 => c_680 ((nI_leI (by omega) (by omega)).mpr h9)
            refine lv_iload hx hb dL_isLaid_163 (lv_at hl 1 rfl) ?_
            refine lv_aload_n hx hb dL_isLaid_165 rfl (lv_at hl 6 rfl) ?_
            refine lv_iconst (v := 0) hx hb dL_isLaid_166 (by decide) ?_
            refine lv_rep0 (x := 0) (y := nI 0) rfl ?_
            refine rAld hx hb fx hw 33 (hF.1 33 (by decide)) hF.2.1 (fun _ => rfl) 0 rfl (by omega) (by decide) dL_isLaid_167 ?_
            refine lv_rep0 (x := (σ 33 0)) (y := (nI g)) (pg hA).1 ?_
            refine lv_icmp_ge (tgt := 175) hx hb dL_isLaid_168 (by decide) (fun c_681 => ?_) (fun c_681 => ?_)
            · skip
              have c_681 : g ≤ y9 := (nI_leI (by omega) (by omega)).mp c_681
              refine lv_iconst (v := 0) hx hb dL_isLaid_175 (by decide) ?_
              refine lv_istore (lv' := [(11, .int 0), (10, .int (nI v9)), (9, .int (nI y9)), (8, .int (nI x9)), (0, .ref (gad G 0)), (1, .ref (gad G 31)), (2, .ref (gad G 32)), (3, .ref (gad G 33)), (4, .int 1), (5, .int (nI o)), (6, .int (nI u)), (7, .int (nI v))]) hx hb dL_isLaid_176 hl (by decide) rfl (fun ls hl => ?_)
              refine lv_iload hx hb dL_isLaid_178 (lv_at hl 2 rfl) ?_
              refine lv_iload hx hb dL_isLaid_180 (lv_at hl 3 rfl) ?_
              refine lv_icmp_gt (tgt := 195) hx hb dL_isLaid_182 (by decide) (fun c_682 => ?_) (fun c_682 => ?_)
              · skip
                have c_682 : x9 < y9 := (nI_ltI (by omega) (by omega)).mp c_682
                refine lv_iload hx hb dL_isLaid_195 (lv_at hl 1 rfl) ?_
                refine lv_if_le (tgt := 211) hx hb dL_isLaid_197 (by decide) (fun c_683 => ?_) (fun c_683 => ?_)
                · skip
                  have c_683 : v9 = 0 := n0_let (by omega) c_683
                  refine lv_iconst (v := 0) hx hb dL_isLaid_211 (by decide) ?_
                  refine lv_istore (lv' := [(12, .int 0), (11, .int 0), (10, .int (nI v9)), (9, .int (nI y9)), (8, .int (nI x9)), (0, .ref (gad G 0)), (1, .ref (gad G 31)), (2, .ref (gad G 32)), (3, .ref (gad G 33)), (4, .int 1), (5, .int (nI o)), (6, .int (nI u)), (7, .int (nI v))]) hx hb dL_isLaid_212 hl (by decide) rfl (fun ls hl => ?_)
                  refine lv_iload hx hb dL_isLaid_214 (lv_at hl 1 rfl) ?_
                  refine lv_if_ne (tgt := 224) hx hb dL_isLaid_216 (by decide) (fun c_684 => ?_) (fun c_684 => ?_)
                  · skip
                    exact absurd c_684 (by decide)
                  · skip
                    refine lv_bipush (v := (-30)) hx hb dL_isLaid_219 (by decide) ?_
                    refine lv_goto (tgt := 268) hx hb dL_isLaid_221 (by decide) ?_
                    refine lv_istore (lv' := [(13, .int (-30)), (12, .int 0), (11, .int 0), (10, .int (nI v9)), (9, .int (nI y9)), (8, .int (nI x9)), (0, .ref (gad G 0)), (1, .ref (gad G 31)), (2, .ref (gad G 32)), (3, .ref (gad G 33)), (4, .int 1), (5, .int (nI o)), (6, .int (nI u)), (7, .int (nI v))]) hx hb dL_isLaid_268 hl (by decide) rfl (fun ls hl => ?_)
                    refine lv_iload hx hb dL_isLaid_270 (lv_at hl 2 rfl) ?_
                    refine lv_if_eq (tgt := 298) hx hb dL_isLaid_272 (by decide) (fun c_685 => ?_) (fun c_685 => ?_)
                    · skip
                      refine lv_aload_n hx hb dL_isLaid_298 rfl (lv_at hl 6 rfl) ?_
                      refine lv_iconst (v := 1) hx hb dL_isLaid_299 (by decide) ?_
                      refine lv_iload hx hb dL_isLaid_300 (lv_at hl 5 rfl) ?_
                      refine lv_iload hx hb dL_isLaid_302 (lv_at hl 4 rfl) ?_
                      refine lv_iload hx hb dL_isLaid_304 (lv_at hl 3 rfl) ?_
                      refine rCallLS (As := [.ref (gad G 0), .int 1, .int (nI x9), .int (nI y9), .int (nI v9)]) (rest := []) ⟨hx, hb, hml, hown, hts⟩ fx hw (d1_t1 l hlt G hG hF σ (pcv hA) ((nI x9)) ((nI y9)) ((nI v9)) (by first | (rw [inB_no (a := x9) (n := g) (by omega) (by omega)]; rfl) | (rw [inB_no (a := y9) (n := g) (by omega) (by omega), Bool.and_false]))) (vx_cwSW 5 hts gL_isLaid_L_does rfl rfl rfl (by decide +kernel) ⟨Nat.le_of_ble_eq_true rfl, Nat.le_of_ble_eq_true rfl⟩) rfl hl.1 rfl (Nat.le_of_ble_eq_true rfl) dL_isLaid_306 ⟨Nat.le_trans (show _ ≤ 3 by omega) (Nat.le_of_ble_eq_true rfl), Nat.le_trans (show _ ≤ 20 by omega) (Nat.le_of_ble_eq_true rfl)⟩ (fun r_686 σ_687 H locs p_688 hw => ?_)
                      obtain ⟨er_686, eσ_687⟩ := p_688
                      have er_686 := er_686.symm; subst er_686
                      have eσ_687 := eσ_687.symm; subst eσ_687
                      refine lv_iload hx hb dL_isLaid_309 (lv_at hl 0 rfl) ?_
                      refine lv_icmp_ne (tgt := 318) hx hb dL_isLaid_311 (by decide) (fun c_689 => ?_) (fun c_689 => ?_)
                      · skip
                        exact absurd c_689 (by decide)
                      · skip
                        refine lv_iconst (v := 1) hx hb dL_isLaid_314 (by decide) ?_
                        refine lv_goto (tgt := 319) hx hb dL_isLaid_315 (by decide) ?_
                        exact rRetZw hx hb hr hw (by decide) (by exact ⟨rfl, po_same hA hGa⟩) hlocks dL_isLaid_319 (by omega) (by omega)
                    · skip
                      exact absurd c_685 (by decide)
                · skip
                  have c_683 : 0 < v9 := n0_lef (by omega) c_683
                  refine lv_iload hx hb dL_isLaid_200 (lv_at hl 1 rfl) ?_
                  refine lv_bipush (v := 101) hx hb dL_isLaid_202 (by decide) ?_
                  refine lv_rep0 (x := 101) (y := nI 101) rfl ?_
                  refine lv_icmp_ge (tgt := 211) hx hb dL_isLaid_204 (by decide) (fun c_690 => ?_) (fun c_690 => ?_)
                  · skip
                    have c_690 : 101 ≤ v9 := (nI_leI (by omega) (by omega)).mp c_690
                    refine lv_iconst (v := 0) hx hb dL_isLaid_211 (by decide) ?_
                    refine lv_istore (lv' := [(12, .int 0), (11, .int 0), (10, .int (nI v9)), (9, .int (nI y9)), (8, .int (nI x9)), (0, .ref (gad G 0)), (1, .ref (gad G 31)), (2, .ref (gad G 32)), (3, .ref (gad G 33)), (4, .int 1), (5, .int (nI o)), (6, .int (nI u)), (7, .int (nI v))]) hx hb dL_isLaid_212 hl (by decide) rfl (fun ls hl => ?_)
                    refine lv_iload hx hb dL_isLaid_214 (lv_at hl 1 rfl) ?_
                    refine lv_if_ne (tgt := 224) hx hb dL_isLaid_216 (by decide) (fun c_691 => ?_) (fun c_691 => ?_)
                    · skip
                      exact absurd c_691 (by decide)
                    · skip
                      refine lv_bipush (v := (-30)) hx hb dL_isLaid_219 (by decide) ?_
                      refine lv_goto (tgt := 268) hx hb dL_isLaid_221 (by decide) ?_
                      refine lv_istore (lv' := [(13, .int (-30)), (12, .int 0), (11, .int 0), (10, .int (nI v9)), (9, .int (nI y9)), (8, .int (nI x9)), (0, .ref (gad G 0)), (1, .ref (gad G 31)), (2, .ref (gad G 32)), (3, .ref (gad G 33)), (4, .int 1), (5, .int (nI o)), (6, .int (nI u)), (7, .int (nI v))]) hx hb dL_isLaid_268 hl (by decide) rfl (fun ls hl => ?_)
                      refine lv_iload hx hb dL_isLaid_270 (lv_at hl 2 rfl) ?_
                      refine lv_if_eq (tgt := 298) hx hb dL_isLaid_272 (by decide) (fun c_692 => ?_) (fun c_692 => ?_)
                      · skip
                        refine lv_aload_n hx hb dL_isLaid_298 rfl (lv_at hl 6 rfl) ?_
                        refine lv_iconst (v := 1) hx hb dL_isLaid_299 (by decide) ?_
                        refine lv_iload hx hb dL_isLaid_300 (lv_at hl 5 rfl) ?_
                        refine lv_iload hx hb dL_isLaid_302 (lv_at hl 4 rfl) ?_
                        refine lv_iload hx hb dL_isLaid_304 (lv_at hl 3 rfl) ?_
                        refine rCallLS (As := [.ref (gad G 0), .int 1, .int (nI x9), .int (nI y9), .int (nI v9)]) (rest := []) ⟨hx, hb, hml, hown, hts⟩ fx hw (d1_t1 l hlt G hG hF σ (pcv hA) ((nI x9)) ((nI y9)) ((nI v9)) (by first | (rw [inB_no (a := x9) (n := g) (by omega) (by omega)]; rfl) | (rw [inB_no (a := y9) (n := g) (by omega) (by omega), Bool.and_false]))) (vx_cwSW 5 hts gL_isLaid_L_does rfl rfl rfl (by decide +kernel) ⟨Nat.le_of_ble_eq_true rfl, Nat.le_of_ble_eq_true rfl⟩) rfl hl.1 rfl (Nat.le_of_ble_eq_true rfl) dL_isLaid_306 ⟨Nat.le_trans (show _ ≤ 3 by omega) (Nat.le_of_ble_eq_true rfl), Nat.le_trans (show _ ≤ 20 by omega) (Nat.le_of_ble_eq_true rfl)⟩ (fun r_693 σ_694 H locs p_695 hw => ?_)
                        obtain ⟨er_693, eσ_694⟩ := p_695
                        have er_693 := er_693.symm; subst er_693
                        have eσ_694 := eσ_694.symm; subst eσ_694
                        refine lv_iload hx hb dL_isLaid_309 (lv_at hl 0 rfl) ?_
                        refine lv_icmp_ne (tgt := 318) hx hb dL_isLaid_311 (by decide) (fun c_696 => ?_) (fun c_696 => ?_)
                        · skip
                          exact absurd c_696 (by decide)
                        · skip
                          refine lv_iconst (v := 1) hx hb dL_isLaid_314 (by decide) ?_
                          refine lv_goto (tgt := 319) hx hb dL_isLaid_315 (by decide) ?_
                          exact rRetZw hx hb hr hw (by decide) (by exact ⟨rfl, po_same hA hGa⟩) hlocks dL_isLaid_319 (by omega) (by omega)
                      · skip
                        exact absurd c_692 (by decide)
                  · skip
                    have c_690 : ¬ 101 ≤ v9 := fun h9 => c_690 ((nI_leI (by omega) (by omega)).mpr h9)
                    refine lv_iconst (v := 1) hx hb dL_isLaid_207 (by decide) ?_
                    refine lv_goto (tgt := 212) hx hb dL_isLaid_208 (by decide) ?_
                    refine lv_istore (lv' := [(12, .int 1), (11, .int 0), (10, .int (nI v9)), (9, .int (nI y9)), (8, .int (nI x9)), (0, .ref (gad G 0)), (1, .ref (gad G 31)), (2, .ref (gad G 32)), (3, .ref (gad G 33)), (4, .int 1), (5, .int (nI o)), (6, .int (nI u)), (7, .int (nI v))]) hx hb dL_isLaid_212 hl (by decide) rfl (fun ls hl => ?_)
                    refine lv_iload hx hb dL_isLaid_214 (lv_at hl 1 rfl) ?_
                    refine lv_if_ne (tgt := 224) hx hb dL_isLaid_216 (by decide) (fun c_697 => ?_) (fun c_697 => ?_)
                    · skip
                      exact absurd c_697 (by decide)
                    · skip
                      refine lv_bipush (v := (-30)) hx hb dL_isLaid_219 (by decide) ?_
                      refine lv_goto (tgt := 268) hx hb dL_isLaid_221 (by decide) ?_
                      refine lv_istore (lv' := [(13, .int (-30)), (12, .int 1), (11, .int 0), (10, .int (nI v9)), (9, .int (nI y9)), (8, .int (nI x9)), (0, .ref (gad G 0)), (1, .ref (gad G 31)), (2, .ref (gad G 32)), (3, .ref (gad G 33)), (4, .int 1), (5, .int (nI o)), (6, .int (nI u)), (7, .int (nI v))]) hx hb dL_isLaid_268 hl (by decide) rfl (fun ls hl => ?_)
                      refine lv_iload hx hb dL_isLaid_270 (lv_at hl 2 rfl) ?_
                      refine lv_if_eq (tgt := 298) hx hb dL_isLaid_272 (by decide) (fun c_698 => ?_) (fun c_698 => ?_)
                      · skip
                        refine lv_aload_n hx hb dL_isLaid_298 rfl (lv_at hl 6 rfl) ?_
                        refine lv_iconst (v := 1) hx hb dL_isLaid_299 (by decide) ?_
                        refine lv_iload hx hb dL_isLaid_300 (lv_at hl 5 rfl) ?_
                        refine lv_iload hx hb dL_isLaid_302 (lv_at hl 4 rfl) ?_
                        refine lv_iload hx hb dL_isLaid_304 (lv_at hl 3 rfl) ?_
                        refine rCallLS (As := [.ref (gad G 0), .int 1, .int (nI x9), .int (nI y9), .int (nI v9)]) (rest := []) ⟨hx, hb, hml, hown, hts⟩ fx hw (d1_t1 l hlt G hG hF σ (pcv hA) ((nI x9)) ((nI y9)) ((nI v9)) (by first | (rw [inB_no (a := x9) (n := g) (by omega) (by omega)]; rfl) | (rw [inB_no (a := y9) (n := g) (by omega) (by omega), Bool.and_false]))) (vx_cwSW 5 hts gL_isLaid_L_does rfl rfl rfl (by decide +kernel) ⟨Nat.le_of_ble_eq_true rfl, Nat.le_of_ble_eq_true rfl⟩) rfl hl.1 rfl (Nat.le_of_ble_eq_true rfl) dL_isLaid_306 ⟨Nat.le_trans (show _ ≤ 3 by omega) (Nat.le_of_ble_eq_true rfl), Nat.le_trans (show _ ≤ 20 by omega) (Nat.le_of_ble_eq_true rfl)⟩ (fun r_699 σ_700 H locs p_701 hw => ?_)
                        obtain ⟨er_699, eσ_700⟩ := p_701
                        have er_699 := er_699.symm; subst er_699
                        have eσ_700 := eσ_700.symm; subst eσ_700
                        refine lv_iload hx hb dL_isLaid_309 (lv_at hl 0 rfl) ?_
                        refine lv_icmp_ne (tgt := 318) hx hb dL_isLaid_311 (by decide) (fun c_702 => ?_) (fun c_702 => ?_)
                        · skip
                          exact absurd c_702 (by decide)
                        · skip
                          refine lv_iconst (v := 1) hx hb dL_isLaid_314 (by decide) ?_
                          refine lv_goto (tgt := 319) hx hb dL_isLaid_315 (by decide) ?_
                          exact rRetZw hx hb hr hw (by decide) (by exact ⟨rfl, po_same hA hGa⟩) hlocks dL_isLaid_319 (by omega) (by omega)
                      · skip
                        exact absurd c_698 (by decide)
              · skip
                have c_682 : ¬ x9 < y9 := fun h9 => c_682 ((nI_ltI (by omega) (by omega)).mpr h9)
                refine lv_iload hx hb dL_isLaid_185 (lv_at hl 2 rfl) ?_
                refine lv_if_ne (tgt := 211) hx hb dL_isLaid_187 (by decide) (fun c_703 => ?_) (fun c_703 => ?_)
                · skip
                  have c_703 : ¬ y9 = 0 := n0_net (by omega) c_703
                  refine lv_iconst (v := 0) hx hb dL_isLaid_211 (by decide) ?_
                  refine lv_istore (lv' := [(12, .int 0), (11, .int 0), (10, .int (nI v9)), (9, .int (nI y9)), (8, .int (nI x9)), (0, .ref (gad G 0)), (1, .ref (gad G 31)), (2, .ref (gad G 32)), (3, .ref (gad G 33)), (4, .int 1), (5, .int (nI o)), (6, .int (nI u)), (7, .int (nI v))]) hx hb dL_isLaid_212 hl (by decide) rfl (fun ls hl => ?_)
                  refine lv_iload hx hb dL_isLaid_214 (lv_at hl 1 rfl) ?_
                  refine lv_if_ne (tgt := 224) hx hb dL_isLaid_216 (by decide) (fun c_704 => ?_) (fun c_704 => ?_)
                  · skip
                    exact absurd c_704 (by decide)
                  · skip
                    refine lv_bipush (v := (-30)) hx hb dL_isLaid_219 (by decide) ?_
                    refine lv_goto (tgt := 268) hx hb dL_isLaid_221 (by decide) ?_
                    refine lv_istore (lv' := [(13, .int (-30)), (12, .int 0), (11, .int 0), (10, .int (nI v9)), (9, .int (nI y9)), (8, .int (nI x9)), (0, .ref (gad G 0)), (1, .ref (gad G 31)), (2, .ref (gad G 32)), (3, .ref (gad G 33)), (4, .int 1), (5, .int (nI o)), (6, .int (nI u)), (7, .int (nI v))]) hx hb dL_isLaid_268 hl (by decide) rfl (fun ls hl => ?_)
                    refine lv_iload hx hb dL_isLaid_270 (lv_at hl 2 rfl) ?_
                    refine lv_if_eq (tgt := 298) hx hb dL_isLaid_272 (by decide) (fun c_705 => ?_) (fun c_705 => ?_)
                    · skip
                      refine lv_aload_n hx hb dL_isLaid_298 rfl (lv_at hl 6 rfl) ?_
                      refine lv_iconst (v := 1) hx hb dL_isLaid_299 (by decide) ?_
                      refine lv_iload hx hb dL_isLaid_300 (lv_at hl 5 rfl) ?_
                      refine lv_iload hx hb dL_isLaid_302 (lv_at hl 4 rfl) ?_
                      refine lv_iload hx hb dL_isLaid_304 (lv_at hl 3 rfl) ?_
                      refine rCallLS (As := [.ref (gad G 0), .int 1, .int (nI x9), .int (nI y9), .int (nI v9)]) (rest := []) ⟨hx, hb, hml, hown, hts⟩ fx hw (d1_t1 l hlt G hG hF σ (pcv hA) ((nI x9)) ((nI y9)) ((nI v9)) (by first | (rw [inB_no (a := x9) (n := g) (by omega) (by omega)]; rfl) | (rw [inB_no (a := y9) (n := g) (by omega) (by omega), Bool.and_false]))) (vx_cwSW 5 hts gL_isLaid_L_does rfl rfl rfl (by decide +kernel) ⟨Nat.le_of_ble_eq_true rfl, Nat.le_of_ble_eq_true rfl⟩) rfl hl.1 rfl (Nat.le_of_ble_eq_true rfl) dL_isLaid_306 ⟨Nat.le_trans (show _ ≤ 3 by omega) (Nat.le_of_ble_eq_true rfl), Nat.le_trans (show _ ≤ 20 by omega) (Nat.le_of_ble_eq_true rfl)⟩ (fun r_706 σ_707 H locs p_708 hw => ?_)
                      obtain ⟨er_706, eσ_707⟩ := p_708
                      have er_706 := er_706.symm; subst er_706
                      have eσ_707 := eσ_707.symm; subst eσ_707
                      refine lv_iload hx hb dL_isLaid_309 (lv_at hl 0 rfl) ?_
                      refine lv_icmp_ne (tgt := 318) hx hb dL_isLaid_311 (by decide) (fun c_709 => ?_) (fun c_709 => ?_)
                      · skip
                        exact absurd c_709 (by decide)
                      · skip
                        refine lv_iconst (v := 1) hx hb dL_isLaid_314 (by decide) ?_
                        refine lv_goto (tgt := 319) hx hb dL_isLaid_315 (by decide) ?_
                        exact rRetZw hx hb hr hw (by decide) (by exact ⟨rfl, po_same hA hGa⟩) hlocks dL_isLaid_319 (by omega) (by omega)
                    · skip
                      exact absurd c_705 (by decide)
                · skip
                  have c_703 : y9 = 0 := n0_nef (by omega) c_703
                  refine lv_iload hx hb dL_isLaid_190 (lv_at hl 3 rfl) ?_
                  refine lv_if_le (tgt := 211) hx hb dL_isLaid_192 (by decide) (fun c_710 => ?_) (fun c_710 => ?_)
                  · skip
                    have c_710 : x9 = 0 := n0_let (by omega) c_710
                    refine lv_iconst (v := 0) hx hb dL_isLaid_211 (by decide) ?_
                    refine lv_istore (lv' := [(12, .int 0), (11, .int 0), (10, .int (nI v9)), (9, .int (nI y9)), (8, .int (nI x9)), (0, .ref (gad G 0)), (1, .ref (gad G 31)), (2, .ref (gad G 32)), (3, .ref (gad G 33)), (4, .int 1), (5, .int (nI o)), (6, .int (nI u)), (7, .int (nI v))]) hx hb dL_isLaid_212 hl (by decide) rfl (fun ls hl => ?_)
                    refine lv_iload hx hb dL_isLaid_214 (lv_at hl 1 rfl) ?_
                    refine lv_if_ne (tgt := 224) hx hb dL_isLaid_216 (by decide) (fun c_711 => ?_) (fun c_711 => ?_)
                    · skip
                      exact absurd c_711 (by decide)
                    · skip
                      refine lv_bipush (v := (-30)) hx hb dL_isLaid_219 (by decide) ?_
                      refine lv_goto (tgt := 268) hx hb dL_isLaid_221 (by decide) ?_
                      refine lv_istore (lv' := [(13, .int (-30)), (12, .int 0), (11, .int 0), (10, .int (nI v9)), (9, .int (nI y9)), (8, .int (nI x9)), (0, .ref (gad G 0)), (1, .ref (gad G 31)), (2, .ref (gad G 32)), (3, .ref (gad G 33)), (4, .int 1), (5, .int (nI o)), (6, .int (nI u)), (7, .int (nI v))]) hx hb dL_isLaid_268 hl (by decide) rfl (fun ls hl => ?_)
                      refine lv_iload hx hb dL_isLaid_270 (lv_at hl 2 rfl) ?_
                      refine lv_if_eq (tgt := 298) hx hb dL_isLaid_272 (by decide) (fun c_712 => ?_) (fun c_712 => ?_)
                      · skip
                        refine lv_aload_n hx hb dL_isLaid_298 rfl (lv_at hl 6 rfl) ?_
                        refine lv_iconst (v := 1) hx hb dL_isLaid_299 (by decide) ?_
                        refine lv_iload hx hb dL_isLaid_300 (lv_at hl 5 rfl) ?_
                        refine lv_iload hx hb dL_isLaid_302 (lv_at hl 4 rfl) ?_
                        refine lv_iload hx hb dL_isLaid_304 (lv_at hl 3 rfl) ?_
                        refine rCallLS (As := [.ref (gad G 0), .int 1, .int (nI x9), .int (nI y9), .int (nI v9)]) (rest := []) ⟨hx, hb, hml, hown, hts⟩ fx hw (d1_t1 l hlt G hG hF σ (pcv hA) ((nI x9)) ((nI y9)) ((nI v9)) (by first | (rw [inB_no (a := x9) (n := g) (by omega) (by omega)]; rfl) | (rw [inB_no (a := y9) (n := g) (by omega) (by omega), Bool.and_false]))) (vx_cwSW 5 hts gL_isLaid_L_does rfl rfl rfl (by decide +kernel) ⟨Nat.le_of_ble_eq_true rfl, Nat.le_of_ble_eq_true rfl⟩) rfl hl.1 rfl (Nat.le_of_ble_eq_true rfl) dL_isLaid_306 ⟨Nat.le_trans (show _ ≤ 3 by omega) (Nat.le_of_ble_eq_true rfl), Nat.le_trans (show _ ≤ 20 by omega) (Nat.le_of_ble_eq_true rfl)⟩ (fun r_713 σ_714 H locs p_715 hw => ?_)
                        obtain ⟨er_713, eσ_714⟩ := p_715
                        have er_713 := er_713.symm; subst er_713
                        have eσ_714 := eσ_714.symm; subst eσ_714
                        refine lv_iload hx hb dL_isLaid_309 (lv_at hl 0 rfl) ?_
                        refine lv_icmp_ne (tgt := 318) hx hb dL_isLaid_311 (by decide) (fun c_716 => ?_) (fun c_716 => ?_)
                        · skip
                          exact absurd c_716 (by decide)
                        · skip
                          refine lv_iconst (v := 1) hx hb dL_isLaid_314 (by decide) ?_
                          refine lv_goto (tgt := 319) hx hb dL_isLaid_315 (by decide) ?_
                          exact rRetZw hx hb hr hw (by decide) (by exact ⟨rfl, po_same hA hGa⟩) hlocks dL_isLaid_319 (by omega) (by omega)
                      · skip
                        exact absurd c_712 (by decide)
                  · skip
                    have c_710 : 0 < x9 := n0_lef (by omega) c_710
                    refine lv_iload hx hb dL_isLaid_195 (lv_at hl 1 rfl) ?_
                    refine lv_if_le (tgt := 211) hx hb dL_isLaid_197 (by decide) (fun c_717 => ?_) (fun c_717 => ?_)
                    · skip
                      have c_717 : v9 = 0 := n0_let (by omega) c_717
                      refine lv_iconst (v := 0) hx hb dL_isLaid_211 (by decide) ?_
                      refine lv_istore (lv' := [(12, .int 0), (11, .int 0), (10, .int (nI v9)), (9, .int (nI y9)), (8, .int (nI x9)), (0, .ref (gad G 0)), (1, .ref (gad G 31)), (2, .ref (gad G 32)), (3, .ref (gad G 33)), (4, .int 1), (5, .int (nI o)), (6, .int (nI u)), (7, .int (nI v))]) hx hb dL_isLaid_212 hl (by decide) rfl (fun ls hl => ?_)
                      refine lv_iload hx hb dL_isLaid_214 (lv_at hl 1 rfl) ?_
                      refine lv_if_ne (tgt := 224) hx hb dL_isLaid_216 (by decide) (fun c_718 => ?_) (fun c_718 => ?_)
                      · skip
                        exact absurd c_718 (by decide)
                      · skip
                        refine lv_bipush (v := (-30)) hx hb dL_isLaid_219 (by decide) ?_
                        refine lv_goto (tgt := 268) hx hb dL_isLaid_221 (by decide) ?_
                        refine lv_istore (lv' := [(13, .int (-30)), (12, .int 0), (11, .int 0), (10, .int (nI v9)), (9, .int (nI y9)), (8, .int (nI x9)), (0, .ref (gad G 0)), (1, .ref (gad G 31)), (2, .ref (gad G 32)), (3, .ref (gad G 33)), (4, .int 1), (5, .int (nI o)), (6, .int (nI u)), (7, .int (nI v))]) hx hb dL_isLaid_268 hl (by decide) rfl (fun ls hl => ?_)
                        refine lv_iload hx hb dL_isLaid_270 (lv_at hl 2 rfl) ?_
                        refine lv_if_eq (tgt := 298) hx hb dL_isLaid_272 (by decide) (fun c_719 => ?_) (fun c_719 => ?_)
                        · skip
                          refine lv_aload_n hx hb dL_isLaid_298 rfl (lv_at hl 6 rfl) ?_
                          refine lv_iconst (v := 1) hx hb dL_isLaid_299 (by decide) ?_
                          refine lv_iload hx hb dL_isLaid_300 (lv_at hl 5 rfl) ?_
                          refine lv_iload hx hb dL_isLaid_302 (lv_at hl 4 rfl) ?_
                          refine lv_iload hx hb dL_isLaid_304 (lv_at hl 3 rfl) ?_
                          refine rCallLS (As := [.ref (gad G 0), .int 1, .int (nI x9), .int (nI y9), .int (nI v9)]) (rest := []) ⟨hx, hb, hml, hown, hts⟩ fx hw (d1_t1 l hlt G hG hF σ (pcv hA) ((nI x9)) ((nI y9)) ((nI v9)) (by first | (rw [inB_no (a := x9) (n := g) (by omega) (by omega)]; rfl) | (rw [inB_no (a := y9) (n := g) (by omega) (by omega), Bool.and_false]))) (vx_cwSW 5 hts gL_isLaid_L_does rfl rfl rfl (by decide +kernel) ⟨Nat.le_of_ble_eq_true rfl, Nat.le_of_ble_eq_true rfl⟩) rfl hl.1 rfl (Nat.le_of_ble_eq_true rfl) dL_isLaid_306 ⟨Nat.le_trans (show _ ≤ 3 by omega) (Nat.le_of_ble_eq_true rfl), Nat.le_trans (show _ ≤ 20 by omega) (Nat.le_of_ble_eq_true rfl)⟩ (fun r_720 σ_721 H locs p_722 hw => ?_)
                          obtain ⟨er_720, eσ_721⟩ := p_722
                          have er_720 := er_720.symm; subst er_720
                          have eσ_721 := eσ_721.symm; subst eσ_721
                          refine lv_iload hx hb dL_isLaid_309 (lv_at hl 0 rfl) ?_
                          refine lv_icmp_ne (tgt := 318) hx hb dL_isLaid_311 (by decide) (fun c_723 => ?_) (fun c_723 => ?_)
                          · skip
                            exact absurd c_723 (by decide)
                          · skip
                            refine lv_iconst (v := 1) hx hb dL_isLaid_314 (by decide) ?_
                            refine lv_goto (tgt := 319) hx hb dL_isLaid_315 (by decide) ?_
                            exact rRetZw hx hb hr hw (by decide) (by exact ⟨rfl, po_same hA hGa⟩) hlocks dL_isLaid_319 (by omega) (by omega)
                        · skip
                          exact absurd c_719 (by decide)
                    · skip
                      have c_717 : 0 < v9 := n0_lef (by omega) c_717
                      refine lv_iload hx hb dL_isLaid_200 (lv_at hl 1 rfl) ?_
                      refine lv_bipush (v := 101) hx hb dL_isLaid_202 (by decide) ?_
                      refine lv_rep0 (x := 101) (y := nI 101) rfl ?_
                      refine lv_icmp_ge (tgt := 211) hx hb dL_isLaid_204 (by decide) (fun c_724 => ?_) (fun c_724 => ?_)
                      · skip
                        have c_724 : 101 ≤ v9 := (nI_leI (by omega) (by omega)).mp c_724
                        refine lv_iconst (v := 0) hx hb dL_isLaid_211 (by decide) ?_
                        refine lv_istore (lv' := [(12, .int 0), (11, .int 0), (10, .int (nI v9)), (9, .int (nI y9)), (8, .int (nI x9)), (0, .ref (gad G 0)), (1, .ref (gad G 31)), (2, .ref (gad G 32)), (3, .ref (gad G 33)), (4, .int 1), (5, .int (nI o)), (6, .int (nI u)), (7, .int (nI v))]) hx hb dL_isLaid_212 hl (by decide) rfl (fun ls hl => ?_)
                        refine lv_iload hx hb dL_isLaid_214 (lv_at hl 1 rfl) ?_
                        refine lv_if_ne (tgt := 224) hx hb dL_isLaid_216 (by decide) (fun c_725 => ?_) (fun c_725 => ?_)
                        · skip
                          exact absurd c_725 (by decide)
                        · skip
                          refine lv_bipush (v := (-30)) hx hb dL_isLaid_219 (by decide) ?_
                          refine lv_goto (tgt := 268) hx hb dL_isLaid_221 (by decide) ?_
                          refine lv_istore (lv' := [(13, .int (-30)), (12, .int 0), (11, .int 0), (10, .int (nI v9)), (9, .int (nI y9)), (8, .int (nI x9)), (0, .ref (gad G 0)), (1, .ref (gad G 31)), (2, .ref (gad G 32)), (3, .ref (gad G 33)), (4, .int 1), (5, .int (nI o)), (6, .int (nI u)), (7, .int (nI v))]) hx hb dL_isLaid_268 hl (by decide) rfl (fun ls hl => ?_)
                          refine lv_iload hx hb dL_isLaid_270 (lv_at hl 2 rfl) ?_
                          refine lv_if_eq (tgt := 298) hx hb dL_isLaid_272 (by decide) (fun c_726 => ?_) (fun c_726 => ?_)
                          · skip
                            refine lv_aload_n hx hb dL_isLaid_298 rfl (lv_at hl 6 rfl) ?_
                            refine lv_iconst (v := 1) hx hb dL_isLaid_299 (by decide) ?_
                            refine lv_iload hx hb dL_isLaid_300 (lv_at hl 5 rfl) ?_
                            refine lv_iload hx hb dL_isLaid_302 (lv_at hl 4 rfl) ?_
                            refine lv_iload hx hb dL_isLaid_304 (lv_at hl 3 rfl) ?_
                            refine rCallLS (As := [.ref (gad G 0), .int 1, .int (nI x9), .int (nI y9), .int (nI v9)]) (rest := []) ⟨hx, hb, hml, hown, hts⟩ fx hw (d1_t1 l hlt G hG hF σ (pcv hA) ((nI x9)) ((nI y9)) ((nI v9)) (by first | (rw [inB_no (a := x9) (n := g) (by omega) (by omega)]; rfl) | (rw [inB_no (a := y9) (n := g) (by omega) (by omega), Bool.and_false]))) (vx_cwSW 5 hts gL_isLaid_L_does rfl rfl rfl (by decide +kernel) ⟨Nat.le_of_ble_eq_true rfl, Nat.le_of_ble_eq_true rfl⟩) rfl hl.1 rfl (Nat.le_of_ble_eq_true rfl) dL_isLaid_306 ⟨Nat.le_trans (show _ ≤ 3 by omega) (Nat.le_of_ble_eq_true rfl), Nat.le_trans (show _ ≤ 20 by omega) (Nat.le_of_ble_eq_true rfl)⟩ (fun r_727 σ_728 H locs p_729 hw => ?_)
                            obtain ⟨er_727, eσ_728⟩ := p_729
                            have er_727 := er_727.symm; subst er_727
                            have eσ_728 := eσ_728.symm; subst eσ_728
                            refine lv_iload hx hb dL_isLaid_309 (lv_at hl 0 rfl) ?_
                            refine lv_icmp_ne (tgt := 318) hx hb dL_isLaid_311 (by decide) (fun c_730 => ?_) (fun c_730 => ?_)
                            · skip
                              exact absurd c_730 (by decide)
                            · skip
                              refine lv_iconst (v := 1) hx hb dL_isLaid_314 (by decide) ?_
                              refine lv_goto (tgt := 319) hx hb dL_isLaid_315 (by decide) ?_
                              exact rRetZw hx hb hr hw (by decide) (by exact ⟨rfl, po_same hA hGa⟩) hlocks dL_isLaid_319 (by omega) (by omega)
                          · skip
                            exact absurd c_726 (by decide)
                      · skip
                        have c_724 : ¬ 101 ≤ v9 := fun h9 => c_724 ((nI_leI (by omega) (by omega)).mpr h9)
                        refine lv_iconst (v := 1) hx hb dL_isLaid_207 (by decide) ?_
                        refine lv_goto (tgt := 212) hx hb dL_isLaid_208 (by decide) ?_
                        refine lv_istore (lv' := [(12, .int 1), (11, .int 0), (10, .int (nI v9)), (9, .int (nI y9)), (8, .int (nI x9)), (0, .ref (gad G 0)), (1, .ref (gad G 31)), (2, .ref (gad G 32)), (3, .ref (gad G 33)), (4, .int 1), (5, .int (nI o)), (6, .int (nI u)), (7, .int (nI v))]) hx hb dL_isLaid_212 hl (by decide) rfl (fun ls hl => ?_)
                        refine lv_iload hx hb dL_isLaid_214 (lv_at hl 1 rfl) ?_
                        refine lv_if_ne (tgt := 224) hx hb dL_isLaid_216 (by decide) (fun c_731 => ?_) (fun c_731 => ?_)
                        · skip
                          exact absurd c_731 (by decide)
                        · skip
                          refine lv_bipush (v := (-30)) hx hb dL_isLaid_219 (by decide) ?_
                          refine lv_goto (tgt := 268) hx hb dL_isLaid_221 (by decide) ?_
                          refine lv_istore (lv' := [(13, .int (-30)), (12, .int 1), (11, .int 0), (10, .int (nI v9)), (9, .int (nI y9)), (8, .int (nI x9)), (0, .ref (gad G 0)), (1, .ref (gad G 31)), (2, .ref (gad G 32)), (3, .ref (gad G 33)), (4, .int 1), (5, .int (nI o)), (6, .int (nI u)), (7, .int (nI v))]) hx hb dL_isLaid_268 hl (by decide) rfl (fun ls hl => ?_)
                          refine lv_iload hx hb dL_isLaid_270 (lv_at hl 2 rfl) ?_
                          refine lv_if_eq (tgt := 298) hx hb dL_isLaid_272 (by decide) (fun c_732 => ?_) (fun c_732 => ?_)
                          · skip
                            refine lv_aload_n hx hb dL_isLaid_298 rfl (lv_at hl 6 rfl) ?_
                            refine lv_iconst (v := 1) hx hb dL_isLaid_299 (by decide) ?_
                            refine lv_iload hx hb dL_isLaid_300 (lv_at hl 5 rfl) ?_
                            refine lv_iload hx hb dL_isLaid_302 (lv_at hl 4 rfl) ?_
                            refine lv_iload hx hb dL_isLaid_304 (lv_at hl 3 rfl) ?_
                            refine rCallLS (As := [.ref (gad G 0), .int 1, .int (nI x9), .int (nI y9), .int (nI v9)]) (rest := []) ⟨hx, hb, hml, hown, hts⟩ fx hw (d1_t1 l hlt G hG hF σ (pcv hA) ((nI x9)) ((nI y9)) ((nI v9)) (by first | (rw [inB_no (a := x9) (n := g) (by omega) (by omega)]; rfl) | (rw [inB_no (a := y9) (n := g) (by omega) (by omega), Bool.and_false]))) (vx_cwSW 5 hts gL_isLaid_L_does rfl rfl rfl (by decide +kernel) ⟨Nat.le_of_ble_eq_true rfl, Nat.le_of_ble_eq_true rfl⟩) rfl hl.1 rfl (Nat.le_of_ble_eq_true rfl) dL_isLaid_306 ⟨Nat.le_trans (show _ ≤ 3 by omega) (Nat.le_of_ble_eq_true rfl), Nat.le_trans (show _ ≤ 20 by omega) (Nat.le_of_ble_eq_true rfl)⟩ (fun r_733 σ_734 H locs p_735 hw => ?_)
                            obtain ⟨er_733, eσ_734⟩ := p_735
                            have er_733 := er_733.symm; subst er_733
                            have eσ_734 := eσ_734.symm; subst eσ_734
                            refine lv_iload hx hb dL_isLaid_309 (lv_at hl 0 rfl) ?_
                            refine lv_icmp_ne (tgt := 318) hx hb dL_isLaid_311 (by decide) (fun c_736 => ?_) (fun c_736 => ?_)
                            · skip
                              exact absurd c_736 (by decide)
                            · skip
                              refine lv_iconst (v := 1) hx hb dL_isLaid_314 (by decide) ?_
                              refine lv_goto (tgt := 319) hx hb dL_isLaid_315 (by decide) ?_
                              exact rRetZw hx hb hr hw (by decide) (by exact ⟨rfl, po_same hA hGa⟩) hlocks dL_isLaid_319 (by omega) (by omega)
                          · skip
                            exact absurd c_732 (by decide)
            · skip
              have c_681 : ¬ g ≤ y9 := fun h9 => c_681 ((nI_leI (by omega) (by omega)).mpr h9)
              omega
    · skip
      exact absurd c_615 (by decide)
  · skip
    obtain ⟨s9, hs5, hs1, hs2, hnev⟩ := hst
    refine lv_iload hx hb dL_isLaid_0 (lv_at hl 4 rfl) ?_
    refine lv_if_ne (tgt := 111) hx hb dL_isLaid_2 (by decide) (fun c_737 => ?_) (fun c_737 => ?_)
    · skip
      refine lv_iload hx hb dL_isLaid_111 (lv_at hl 4 rfl) ?_
      refine lv_iconst (v := 1) hx hb dL_isLaid_113 (by decide) ?_
      refine lv_icmp_ne (tgt := 320) hx hb dL_isLaid_114 (by decide) (fun c_738 => ?_) (fun c_738 => ?_)
      · skip
        exact absurd c_738 (by decide)
      · skip
        refine lv_iload hx hb dL_isLaid_117 (lv_at hl 5 rfl) ?_
        refine lv_aload_n hx hb dL_isLaid_119 rfl (lv_at hl 3 rfl) ?_
        refine lv_iconst (v := 0) hx hb dL_isLaid_120 (by decide) ?_
        refine lv_rep0 (x := 0) (y := nI 0) rfl ?_
        refine rAld hx hb fx hw 33 (hF.1 33 (by decide)) hF.2.1 (fun _ => rfl) 0 rfl (by omega) (by decide) dL_isLaid_121 ?_
        refine lv_rep0 (x := (σ 33 0)) (y := (nI g)) (pg hA).1 ?_
        refine lv_iconst (v := 1) hx hb dL_isLaid_122 (by decide) ?_
        refine lv_rep0 (x := 1) (y := nI 1) rfl ?_
        refine lv_iadd hx hb dL_isLaid_123 ?_
        refine lv_rep0 (x := ((nI g) + (nI 1))) (y := nI (g + 1)) (nI_add _ _) ?_
        refine lv_irem hx hb dL_isLaid_124 (nI_ne0 (by omega) (by omega)) ?_
        refine lv_rep0 (y := nI (o % (g + 1))) (pk_rem (by omega) (by omega) (by omega)) ?_
        have hrm9 := Nat.mod_lt o (show 0 < (g + 1) by omega)
        refine lv_istore (lv' := [(8, .int (nI (o % (g + 1)))), (0, .ref (gad G 0)), (1, .ref (gad G 31)), (2, .ref (gad G 32)), (3, .ref (gad G 33)), (4, .int 1), (5, .int (nI o)), (6, .int (nI u)), (7, .int (nI v))]) hx hb dL_isLaid_125 hl (by decide) rfl (fun ls hl => ?_)
        have q_739 : (nI (o % (g + 1))) = (nI x9) := by rw [hx9]
        have hl : lv_has ls 14 [(8, .int (nI x9)), (0, .ref (gad G 0)), (1, .ref (gad G 31)), (2, .ref (gad G 32)), (3, .ref (gad G 33)), (4, .int 1), (5, .int (nI o)), (6, .int (nI u)), (7, .int (nI v))] := (lv_c (lv_atq hl 0 rfl q_739) (lv_c (lv_at hl 1 rfl) (lv_c (lv_at hl 2 rfl) (lv_c (lv_at hl 3 rfl) (lv_c (lv_at hl 4 rfl) (lv_c (lv_at hl 5 rfl) (lv_c (lv_at hl 6 rfl) (lv_c (lv_at hl 7 rfl) (lv_c (lv_at hl 8 rfl) (lv_c0 hl))))))))))
        refine lv_iload hx hb dL_isLaid_127 (lv_at hl 8 rfl) ?_
        refine lv_iconst (v := 3) hx hb dL_isLaid_129 (by decide) ?_
        refine lv_rep0 (x := 3) (y := nI 3) rfl ?_
        refine lv_irem hx hb dL_isLaid_130 (nI_ne0 (by omega) (by omega)) ?_
        refine lv_rep0 (y := nI (v % 3)) (pk_rem (by omega) (by omega) (by omega)) ?_
        refine lv_if_ne (tgt := 138) hx hb dL_isLaid_131 (by decide) (fun c_740 => ?_) (fun c_740 => ?_)
        · skip
          have c_740 : ¬ (v % 3) = 0 := n0_net (by omega) c_740
          refine lv_iload hx hb dL_isLaid_138 (lv_at hl 7 rfl) ?_
          refine lv_aload_n hx hb dL_isLaid_140 rfl (lv_at hl 4 rfl) ?_
          refine lv_iconst (v := 0) hx hb dL_isLaid_141 (by decide) ?_
          refine lv_rep0 (x := 0) (y := nI 0) rfl ?_
          refine rAld hx hb fx hw 33 (hF.1 33 (by decide)) hF.2.1 (fun _ => rfl) 0 rfl (by omega) (by decide) dL_isLaid_142 ?_
          refine lv_rep0 (x := (σ 33 0)) (y := (nI g)) (pg hA).1 ?_
          refine lv_iconst (v := 1) hx hb dL_isLaid_143 (by decide) ?_
          refine lv_rep0 (x := 1) (y := nI 1) rfl ?_
          refine lv_iadd hx hb dL_isLaid_144 ?_
          refine lv_rep0 (x := ((nI g) + (nI 1))) (y := nI (g + 1)) (nI_add _ _) ?_
          refine lv_irem hx hb dL_isLaid_145 (nI_ne0 (by omega) (by omega)) ?_
          refine lv_rep0 (y := nI (u % (g + 1))) (pk_rem (by omega) (by omega) (by omega)) ?_
          have hrm9 := Nat.mod_lt u (show 0 < (g + 1) by omega)
          refine lv_istore (lv' := [(9, .int (nI (u % (g + 1)))), (8, .int (nI x9)), (0, .ref (gad G 0)), (1, .ref (gad G 31)), (2, .ref (gad G 32)), (3, .ref (gad G 33)), (4, .int 1), (5, .int (nI o)), (6, .int (nI u)), (7, .int (nI v))]) hx hb dL_isLaid_146 hl (by decide) rfl (fun ls hl => ?_)
          have q_741 : (nI (u % (g + 1))) = (nI y9) := by first | (rw [hy9, if_pos (by omega)]; rfl) | rw [hy9, if_neg (by omega)]
          have hl : lv_has ls 14 [(9, .int (nI y9)), (8, .int (nI x9)), (0, .ref (gad G 0)), (1, .ref (gad G 31)), (2, .ref (gad G 32)), (3, .ref (gad G 33)), (4, .int 1), (5, .int (nI o)), (6, .int (nI u)), (7, .int (nI v))] := (lv_c (lv_atq hl 0 rfl q_741) (lv_c (lv_at hl 1 rfl) (lv_c (lv_at hl 2 rfl) (lv_c (lv_at hl 3 rfl) (lv_c (lv_at hl 4 rfl) (lv_c (lv_at hl 5 rfl) (lv_c (lv_at hl 6 rfl) (lv_c (lv_at hl 7 rfl) (lv_c (lv_at hl 8 rfl) (lv_c (lv_at hl 9 rfl) (lv_c0 hl)))))))))))
          refine lv_iload hx hb dL_isLaid_148 (lv_at hl 9 rfl) ?_
          refine lv_bipush (v := 103) hx hb dL_isLaid_150 (by decide) ?_
          refine lv_rep0 (x := 103) (y := nI 103) rfl ?_
          refine lv_irem hx hb dL_isLaid_152 (nI_ne0 (by omega) (by omega)) ?_
          refine lv_rep0 (y := nI (v % 103)) (pk_rem (by omega) (by omega) (by omega)) ?_
          refine lv_istore (lv' := [(10, .int (nI (v % 103))), (9, .int (nI y9)), (8, .int (nI x9)), (0, .ref (gad G 0)), (1, .ref (gad G 31)), (2, .ref (gad G 32)), (3, .ref (gad G 33)), (4, .int 1), (5, .int (nI o)), (6, .int (nI u)), (7, .int (nI v))]) hx hb dL_isLaid_153 hl (by decide) rfl (fun ls hl => ?_)
          have q_742 : (nI (v % 103)) = (nI v9) := by rw [hv9]
          have hl : lv_has ls 14 [(10, .int (nI v9)), (9, .int (nI y9)), (8, .int (nI x9)), (0, .ref (gad G 0)), (1, .ref (gad G 31)), (2, .ref (gad G 32)), (3, .ref (gad G 33)), (4, .int 1), (5, .int (nI o)), (6, .int (nI u)), (7, .int (nI v))] := (lv_c (lv_atq hl 0 rfl q_742) (lv_c (lv_at hl 1 rfl) (lv_c (lv_at hl 2 rfl) (lv_c (lv_at hl 3 rfl) (lv_c (lv_at hl 4 rfl) (lv_c (lv_at hl 5 rfl) (lv_c (lv_at hl 6 rfl) (lv_c (lv_at hl 7 rfl) (lv_c (lv_at hl 8 rfl) (lv_c (lv_at hl 9 rfl) (lv_c (lv_at hl 10 rfl) (lv_c0 hl))))))))))))
          refine lv_iload hx hb dL_isLaid_155 (lv_at hl 2 rfl) ?_
          refine lv_aload_n hx hb dL_isLaid_157 rfl (lv_at hl 6 rfl) ?_
          refine lv_iconst (v := 0) hx hb dL_isLaid_158 (by decide) ?_
          refine lv_rep0 (x := 0) (y := nI 0) rfl ?_
          refine rAld hx hb fx hw 33 (hF.1 33 (by decide)) hF.2.1 (fun _ => rfl) 0 rfl (by omega) (by decide) dL_isLaid_159 ?_
          refine lv_rep0 (x := (σ 33 0)) (y := (nI g)) (pg hA).1 ?_
          refine lv_icmp_ge (tgt := 175) hx hb dL_isLaid_160 (by decide) (fun c_743 => ?_) (fun c_743 => ?_)
          · skip
            have c_743 : g ≤ x9 := (nI_leI (by omega) (by omega)).mp c_743
            omega
          · skip
            have c_743 : ¬ g ≤ x9 := fun h9 => c_743 ((nI_leI (by omega) (by omega)).mpr h9)
            refine lv_iload hx hb dL_isLaid_163 (lv_at hl 1 rfl) ?_
            refine lv_aload_n hx hb dL_isLaid_165 rfl (lv_at hl 6 rfl) ?_
            refine lv_iconst (v := 0) hx hb dL_isLaid_166 (by decide) ?_
            refine lv_rep0 (x := 0) (y := nI 0) rfl ?_
            refine rAld hx hb fx hw 33 (hF.1 33 (by decide)) hF.2.1 (fun _ => rfl) 0 rfl (by omega) (by decide) dL_isLaid_167 ?_
            refine lv_rep0 (x := (σ 33 0)) (y := (nI g)) (pg hA).1 ?_
            refine lv_icmp_ge (tgt := 175) hx hb dL_isLaid_168 (by decide) (fun c_744 => ?_) (fun c_744 => ?_)
            · skip
              have c_744 : g ≤ y9 := (nI_leI (by omega) (by omega)).mp c_744
              omega
            · skip
              have c_744 : ¬ g ≤ y9 := fun h9 => c_744 ((nI_leI (by omega) (by omega)).mpr h9)
              refine lv_iconst (v := 1) hx hb dL_isLaid_171 (by decide) ?_
              refine lv_goto (tgt := 176) hx hb dL_isLaid_172 (by decide) ?_
              refine lv_istore (lv' := [(11, .int 1), (10, .int (nI v9)), (9, .int (nI y9)), (8, .int (nI x9)), (0, .ref (gad G 0)), (1, .ref (gad G 31)), (2, .ref (gad G 32)), (3, .ref (gad G 33)), (4, .int 1), (5, .int (nI o)), (6, .int (nI u)), (7, .int (nI v))]) hx hb dL_isLaid_176 hl (by decide) rfl (fun ls hl => ?_)
              refine lv_iload hx hb dL_isLaid_178 (lv_at hl 2 rfl) ?_
              refine lv_iload hx hb dL_isLaid_180 (lv_at hl 3 rfl) ?_
              refine lv_icmp_gt (tgt := 195) hx hb dL_isLaid_182 (by decide) (fun c_745 => ?_) (fun c_745 => ?_)
              · skip
                have c_745 : x9 < y9 := (nI_ltI (by omega) (by omega)).mp c_745
                refine lv_iload hx hb dL_isLaid_195 (lv_at hl 1 rfl) ?_
                refine lv_if_le (tgt := 211) hx hb dL_isLaid_197 (by decide) (fun c_746 => ?_) (fun c_746 => ?_)
                · skip
                  have c_746 : v9 = 0 := n0_let (by omega) c_746
                  refine lv_iconst (v := 0) hx hb dL_isLaid_211 (by decide) ?_
                  refine lv_istore (lv' := [(12, .int 0), (11, .int 1), (10, .int (nI v9)), (9, .int (nI y9)), (8, .int (nI x9)), (0, .ref (gad G 0)), (1, .ref (gad G 31)), (2, .ref (gad G 32)), (3, .ref (gad G 33)), (4, .int 1), (5, .int (nI o)), (6, .int (nI u)), (7, .int (nI v))]) hx hb dL_isLaid_212 hl (by decide) rfl (fun ls hl => ?_)
                  refine lv_iload hx hb dL_isLaid_214 (lv_at hl 1 rfl) ?_
                  refine lv_if_ne (tgt := 224) hx hb dL_isLaid_216 (by decide) (fun c_747 => ?_) (fun c_747 => ?_)
                  · skip
                    refine lv_iload hx hb dL_isLaid_224 (lv_at hl 0 rfl) ?_
                    refine lv_if_ne (tgt := 234) hx hb dL_isLaid_226 (by decide) (fun c_748 => ?_) (fun c_748 => ?_)
                    · skip
                      exact absurd c_748 (by decide)
                    · skip
                      refine lv_bipush (v := (-20)) hx hb dL_isLaid_229 (by decide) ?_
                      refine lv_goto (tgt := 268) hx hb dL_isLaid_231 (by decide) ?_
                      refine lv_istore (lv' := [(13, .int (-20)), (12, .int 0), (11, .int 1), (10, .int (nI v9)), (9, .int (nI y9)), (8, .int (nI x9)), (0, .ref (gad G 0)), (1, .ref (gad G 31)), (2, .ref (gad G 32)), (3, .ref (gad G 33)), (4, .int 1), (5, .int (nI o)), (6, .int (nI u)), (7, .int (nI v))]) hx hb dL_isLaid_268 hl (by decide) rfl (fun ls hl => ?_)
                      refine lv_iload hx hb dL_isLaid_270 (lv_at hl 2 rfl) ?_
                      refine lv_if_eq (tgt := 298) hx hb dL_isLaid_272 (by decide) (fun c_749 => ?_) (fun c_749 => ?_)
                      · skip
                        exact absurd c_749 (by decide)
                      · skip
                        refine lv_iload hx hb dL_isLaid_275 (lv_at hl 1 rfl) ?_
                        refine lv_if_eq (tgt := 298) hx hb dL_isLaid_277 (by decide) (fun c_750 => ?_) (fun c_750 => ?_)
                        · skip
                          refine lv_aload_n hx hb dL_isLaid_298 rfl (lv_at hl 6 rfl) ?_
                          refine lv_iconst (v := 1) hx hb dL_isLaid_299 (by decide) ?_
                          refine lv_iload hx hb dL_isLaid_300 (lv_at hl 5 rfl) ?_
                          refine lv_iload hx hb dL_isLaid_302 (lv_at hl 4 rfl) ?_
                          refine lv_iload hx hb dL_isLaid_304 (lv_at hl 3 rfl) ?_
                          refine rCallLS (As := [.ref (gad G 0), .int 1, .int (nI x9), .int (nI y9), .int (nI v9)]) (rest := []) ⟨hx, hb, hml, hown, hts⟩ fx hw (d1_t2 l hlt G hG hF σ (pcv hA) ((nI x9)) ((nI y9)) ((nI v9)) (by rw [inB_y (show x9 < g by omega) (by omega), inB_y (show y9 < g by omega) (by omega)]; rfl) (rgt_n (by omega) (by omega) (by omega) (by omega))) (vx_cwSW 5 hts gL_isLaid_L_does rfl rfl rfl (by decide +kernel) ⟨Nat.le_of_ble_eq_true rfl, Nat.le_of_ble_eq_true rfl⟩) rfl hl.1 rfl (Nat.le_of_ble_eq_true rfl) dL_isLaid_306 ⟨Nat.le_trans (show _ ≤ 3 by omega) (Nat.le_of_ble_eq_true rfl), Nat.le_trans (show _ ≤ 20 by omega) (Nat.le_of_ble_eq_true rfl)⟩ (fun r_751 σ_752 H locs p_753 hw => ?_)
                          obtain ⟨er_751, eσ_752⟩ := p_753
                          have er_751 := er_751.symm; subst er_751
                          have eσ_752 := eσ_752.symm; subst eσ_752
                          refine lv_iload hx hb dL_isLaid_309 (lv_at hl 0 rfl) ?_
                          refine lv_icmp_ne (tgt := 318) hx hb dL_isLaid_311 (by decide) (fun c_754 => ?_) (fun c_754 => ?_)
                          · skip
                            exact absurd c_754 (by decide)
                          · skip
                            refine lv_iconst (v := 1) hx hb dL_isLaid_314 (by decide) ?_
                            refine lv_goto (tgt := 319) hx hb dL_isLaid_315 (by decide) ?_
                            exact rRetZw hx hb hr hw (by decide) (by exact ⟨rfl, po_same hA hGa⟩) hlocks dL_isLaid_319 (by omega) (by omega)
                        · skip
                          exact absurd c_750 (by decide)
                  · skip
                    exact absurd c_747 (by decide)
                · skip
                  have c_746 : 0 < v9 := n0_lef (by omega) c_746
                  refine lv_iload hx hb dL_isLaid_200 (lv_at hl 1 rfl) ?_
                  refine lv_bipush (v := 101) hx hb dL_isLaid_202 (by decide) ?_
                  refine lv_rep0 (x := 101) (y := nI 101) rfl ?_
                  refine lv_icmp_ge (tgt := 211) hx hb dL_isLaid_204 (by decide) (fun c_755 => ?_) (fun c_755 => ?_)
                  · skip
                    have c_755 : 101 ≤ v9 := (nI_leI (by omega) (by omega)).mp c_755
                    refine lv_iconst (v := 0) hx hb dL_isLaid_211 (by decide) ?_
                    refine lv_istore (lv' := [(12, .int 0), (11, .int 1), (10, .int (nI v9)), (9, .int (nI y9)), (8, .int (nI x9)), (0, .ref (gad G 0)), (1, .ref (gad G 31)), (2, .ref (gad G 32)), (3, .ref (gad G 33)), (4, .int 1), (5, .int (nI o)), (6, .int (nI u)), (7, .int (nI v))]) hx hb dL_isLaid_212 hl (by decide) rfl (fun ls hl => ?_)
                    refine lv_iload hx hb dL_isLaid_214 (lv_at hl 1 rfl) ?_
                    refine lv_if_ne (tgt := 224) hx hb dL_isLaid_216 (by decide) (fun c_756 => ?_) (fun c_756 => ?_)
                    · skip
                      refine lv_iload hx hb dL_isLaid_224 (lv_at hl 0 rfl) ?_
                      refine lv_if_ne (tgt := 234) hx hb dL_isLaid_226 (by decide) (fun c_757 => ?_) (fun c_757 => ?_)
                      · skip
                        exact absurd c_757 (by decide)
                      · skip
                        refine lv_bipush (v := (-20)) hx hb dL_isLaid_229 (by decide) ?_
                        refine lv_goto (tgt := 268) hx hb dL_isLaid_231 (by decide) ?_
                        refine lv_istore (lv' := [(13, .int (-20)), (12, .int 0), (11, .int 1), (10, .int (nI v9)), (9, .int (nI y9)), (8, .int (nI x9)), (0, .ref (gad G 0)), (1, .ref (gad G 31)), (2, .ref (gad G 32)), (3, .ref (gad G 33)), (4, .int 1), (5, .int (nI o)), (6, .int (nI u)), (7, .int (nI v))]) hx hb dL_isLaid_268 hl (by decide) rfl (fun ls hl => ?_)
                        refine lv_iload hx hb dL_isLaid_270 (lv_at hl 2 rfl) ?_
                        refine lv_if_eq (tgt := 298) hx hb dL_isLaid_272 (by decide) (fun c_758 => ?_) (fun c_758 => ?_)
                        · skip
                          exact absurd c_758 (by decide)
                        · skip
                          refine lv_iload hx hb dL_isLaid_275 (lv_at hl 1 rfl) ?_
                          refine lv_if_eq (tgt := 298) hx hb dL_isLaid_277 (by decide) (fun c_759 => ?_) (fun c_759 => ?_)
                          · skip
                            refine lv_aload_n hx hb dL_isLaid_298 rfl (lv_at hl 6 rfl) ?_
                            refine lv_iconst (v := 1) hx hb dL_isLaid_299 (by decide) ?_
                            refine lv_iload hx hb dL_isLaid_300 (lv_at hl 5 rfl) ?_
                            refine lv_iload hx hb dL_isLaid_302 (lv_at hl 4 rfl) ?_
                            refine lv_iload hx hb dL_isLaid_304 (lv_at hl 3 rfl) ?_
                            refine rCallLS (As := [.ref (gad G 0), .int 1, .int (nI x9), .int (nI y9), .int (nI v9)]) (rest := []) ⟨hx, hb, hml, hown, hts⟩ fx hw (d1_t2 l hlt G hG hF σ (pcv hA) ((nI x9)) ((nI y9)) ((nI v9)) (by rw [inB_y (show x9 < g by omega) (by omega), inB_y (show y9 < g by omega) (by omega)]; rfl) (rgt_n (by omega) (by omega) (by omega) (by omega))) (vx_cwSW 5 hts gL_isLaid_L_does rfl rfl rfl (by decide +kernel) ⟨Nat.le_of_ble_eq_true rfl, Nat.le_of_ble_eq_true rfl⟩) rfl hl.1 rfl (Nat.le_of_ble_eq_true rfl) dL_isLaid_306 ⟨Nat.le_trans (show _ ≤ 3 by omega) (Nat.le_of_ble_eq_true rfl), Nat.le_trans (show _ ≤ 20 by omega) (Nat.le_of_ble_eq_true rfl)⟩ (fun r_760 σ_761 H locs p_762 hw => ?_)
                            obtain ⟨er_760, eσ_761⟩ := p_762
                            have er_760 := er_760.symm; subst er_760
                            have eσ_761 := eσ_761.symm; subst eσ_761
                            refine lv_iload hx hb dL_isLaid_309 (lv_at hl 0 rfl) ?_
                            refine lv_icmp_ne (tgt := 318) hx hb dL_isLaid_311 (by decide) (fun c_763 => ?_) (fun c_763 => ?_)
                            · skip
                              exact absurd c_763 (by decide)
                            · skip
                              refine lv_iconst (v := 1) hx hb dL_isLaid_314 (by decide) ?_
                              refine lv_goto (tgt := 319) hx hb dL_isLaid_315 (by decide) ?_
                              exact rRetZw hx hb hr hw (by decide) (by exact ⟨rfl, po_same hA hGa⟩) hlocks dL_isLaid_319 (by omega) (by omega)
                          · skip
                            exact absurd c_759 (by decide)
                    · skip
                      exact absurd c_756 (by decide)
                  · skip
                    have c_755 : ¬ 101 ≤ v9 := fun h9 => c_755 ((nI_leI (by omega) (by omega)).mpr h9)
                    omega
              · skip
                have c_745 : ¬ x9 < y9 := fun h9 => c_745 ((nI_ltI (by omega) (by omega)).mpr h9)
                refine lv_iload hx hb dL_isLaid_185 (lv_at hl 2 rfl) ?_
                refine lv_if_ne (tgt := 211) hx hb dL_isLaid_187 (by decide) (fun c_764 => ?_) (fun c_764 => ?_)
                · skip
                  have c_764 : ¬ y9 = 0 := n0_net (by omega) c_764
                  refine lv_iconst (v := 0) hx hb dL_isLaid_211 (by decide) ?_
                  refine lv_istore (lv' := [(12, .int 0), (11, .int 1), (10, .int (nI v9)), (9, .int (nI y9)), (8, .int (nI x9)), (0, .ref (gad G 0)), (1, .ref (gad G 31)), (2, .ref (gad G 32)), (3, .ref (gad G 33)), (4, .int 1), (5, .int (nI o)), (6, .int (nI u)), (7, .int (nI v))]) hx hb dL_isLaid_212 hl (by decide) rfl (fun ls hl => ?_)
                  refine lv_iload hx hb dL_isLaid_214 (lv_at hl 1 rfl) ?_
                  refine lv_if_ne (tgt := 224) hx hb dL_isLaid_216 (by decide) (fun c_765 => ?_) (fun c_765 => ?_)
                  · skip
                    refine lv_iload hx hb dL_isLaid_224 (lv_at hl 0 rfl) ?_
                    refine lv_if_ne (tgt := 234) hx hb dL_isLaid_226 (by decide) (fun c_766 => ?_) (fun c_766 => ?_)
                    · skip
                      exact absurd c_766 (by decide)
                    · skip
                      refine lv_bipush (v := (-20)) hx hb dL_isLaid_229 (by decide) ?_
                      refine lv_goto (tgt := 268) hx hb dL_isLaid_231 (by decide) ?_
                      refine lv_istore (lv' := [(13, .int (-20)), (12, .int 0), (11, .int 1), (10, .int (nI v9)), (9, .int (nI y9)), (8, .int (nI x9)), (0, .ref (gad G 0)), (1, .ref (gad G 31)), (2, .ref (gad G 32)), (3, .ref (gad G 33)), (4, .int 1), (5, .int (nI o)), (6, .int (nI u)), (7, .int (nI v))]) hx hb dL_isLaid_268 hl (by decide) rfl (fun ls hl => ?_)
                      refine lv_iload hx hb dL_isLaid_270 (lv_at hl 2 rfl) ?_
                      refine lv_if_eq (tgt := 298) hx hb dL_isLaid_272 (by decide) (fun c_767 => ?_) (fun c_767 => ?_)
                      · skip
                        exact absurd c_767 (by decide)
                      · skip
                        refine lv_iload hx hb dL_isLaid_275 (lv_at hl 1 rfl) ?_
                        refine lv_if_eq (tgt := 298) hx hb dL_isLaid_277 (by decide) (fun c_768 => ?_) (fun c_768 => ?_)
                        · skip
                          refine lv_aload_n hx hb dL_isLaid_298 rfl (lv_at hl 6 rfl) ?_
                          refine lv_iconst (v := 1) hx hb dL_isLaid_299 (by decide) ?_
                          refine lv_iload hx hb dL_isLaid_300 (lv_at hl 5 rfl) ?_
                          refine lv_iload hx hb dL_isLaid_302 (lv_at hl 4 rfl) ?_
                          refine lv_iload hx hb dL_isLaid_304 (lv_at hl 3 rfl) ?_
                          refine rCallLS (As := [.ref (gad G 0), .int 1, .int (nI x9), .int (nI y9), .int (nI v9)]) (rest := []) ⟨hx, hb, hml, hown, hts⟩ fx hw (d1_t2 l hlt G hG hF σ (pcv hA) ((nI x9)) ((nI y9)) ((nI v9)) (by rw [inB_y (show x9 < g by omega) (by omega), inB_y (show y9 < g by omega) (by omega)]; rfl) (rgt_n (by omega) (by omega) (by omega) (by omega))) (vx_cwSW 5 hts gL_isLaid_L_does rfl rfl rfl (by decide +kernel) ⟨Nat.le_of_ble_eq_true rfl, Nat.le_of_ble_eq_true rfl⟩) rfl hl.1 rfl (Nat.le_of_ble_eq_true rfl) dL_isLaid_306 ⟨Nat.le_trans (show _ ≤ 3 by omega) (Nat.le_of_ble_eq_true rfl), Nat.le_trans (show _ ≤ 20 by omega) (Nat.le_of_ble_eq_true rfl)⟩ (fun r_769 σ_770 H locs p_771 hw => ?_)
                          obtain ⟨er_769, eσ_770⟩ := p_771
                          have er_769 := er_769.symm; subst er_769
                          have eσ_770 := eσ_770.symm; subst eσ_770
                          refine lv_iload hx hb dL_isLaid_309 (lv_at hl 0 rfl) ?_
                          refine lv_icmp_ne (tgt := 318) hx hb dL_isLaid_311 (by decide) (fun c_772 => ?_) (fun c_772 => ?_)
                          · skip
                            exact absurd c_772 (by decide)
                          · skip
                            refine lv_iconst (v := 1) hx hb dL_isLaid_314 (by decide) ?_
                            refine lv_goto (tgt := 319) hx hb dL_isLaid_315 (by decide) ?_
                            exact rRetZw hx hb hr hw (by decide) (by exact ⟨rfl, po_same hA hGa⟩) hlocks dL_isLaid_319 (by omega) (by omega)
                        · skip
                          exact absurd c_768 (by decide)
                  · skip
                    exact absurd c_765 (by decide)
                · skip
                  have c_764 : y9 = 0 := n0_nef (by omega) c_764
                  refine lv_iload hx hb dL_isLaid_190 (lv_at hl 3 rfl) ?_
                  refine lv_if_le (tgt := 211) hx hb dL_isLaid_192 (by decide) (fun c_773 => ?_) (fun c_773 => ?_)
                  · skip
                    have c_773 : x9 = 0 := n0_let (by omega) c_773
                    refine lv_iconst (v := 0) hx hb dL_isLaid_211 (by decide) ?_
                    refine lv_istore (lv' := [(12, .int 0), (11, .int 1), (10, .int (nI v9)), (9, .int (nI y9)), (8, .int (nI x9)), (0, .ref (gad G 0)), (1, .ref (gad G 31)), (2, .ref (gad G 32)), (3, .ref (gad G 33)), (4, .int 1), (5, .int (nI o)), (6, .int (nI u)), (7, .int (nI v))]) hx hb dL_isLaid_212 hl (by decide) rfl (fun ls hl => ?_)
                    refine lv_iload hx hb dL_isLaid_214 (lv_at hl 1 rfl) ?_
                    refine lv_if_ne (tgt := 224) hx hb dL_isLaid_216 (by decide) (fun c_774 => ?_) (fun c_774 => ?_)
                    · skip
                      refine lv_iload hx hb dL_isLaid_224 (lv_at hl 0 rfl) ?_
                      refine lv_if_ne (tgt := 234) hx hb dL_isLaid_226 (by decide) (fun c_775 => ?_) (fun c_775 => ?_)
                      · skip
                        exact absurd c_775 (by decide)
                      · skip
                        refine lv_bipush (v := (-20)) hx hb dL_isLaid_229 (by decide) ?_
                        refine lv_goto (tgt := 268) hx hb dL_isLaid_231 (by decide) ?_
                        refine lv_istore (lv' := [(13, .int (-20)), (12, .int 0), (11, .int 1), (10, .int (nI v9)), (9, .int (nI y9)), (8, .int (nI x9)), (0, .ref (gad G 0)), (1, .ref (gad G 31)), (2, .ref (gad G 32)), (3, .ref (gad G 33)), (4, .int 1), (5, .int (nI o)), (6, .int (nI u)), (7, .int (nI v))]) hx hb dL_isLaid_268 hl (by decide) rfl (fun ls hl => ?_)
                        refine lv_iload hx hb dL_isLaid_270 (lv_at hl 2 rfl) ?_
                        refine lv_if_eq (tgt := 298) hx hb dL_isLaid_272 (by decide) (fun c_776 => ?_) (fun c_776 => ?_)
                        · skip
                          exact absurd c_776 (by decide)
                        · skip
                          refine lv_iload hx hb dL_isLaid_275 (lv_at hl 1 rfl) ?_
                          refine lv_if_eq (tgt := 298) hx hb dL_isLaid_277 (by decide) (fun c_777 => ?_) (fun c_777 => ?_)
                          · skip
                            refine lv_aload_n hx hb dL_isLaid_298 rfl (lv_at hl 6 rfl) ?_
                            refine lv_iconst (v := 1) hx hb dL_isLaid_299 (by decide) ?_
                            refine lv_iload hx hb dL_isLaid_300 (lv_at hl 5 rfl) ?_
                            refine lv_iload hx hb dL_isLaid_302 (lv_at hl 4 rfl) ?_
                            refine lv_iload hx hb dL_isLaid_304 (lv_at hl 3 rfl) ?_
                            refine rCallLS (As := [.ref (gad G 0), .int 1, .int (nI x9), .int (nI y9), .int (nI v9)]) (rest := []) ⟨hx, hb, hml, hown, hts⟩ fx hw (d1_t2 l hlt G hG hF σ (pcv hA) ((nI x9)) ((nI y9)) ((nI v9)) (by rw [inB_y (show x9 < g by omega) (by omega), inB_y (show y9 < g by omega) (by omega)]; rfl) (rgt_n (by omega) (by omega) (by omega) (by omega))) (vx_cwSW 5 hts gL_isLaid_L_does rfl rfl rfl (by decide +kernel) ⟨Nat.le_of_ble_eq_true rfl, Nat.le_of_ble_eq_true rfl⟩) rfl hl.1 rfl (Nat.le_of_ble_eq_true rfl) dL_isLaid_306 ⟨Nat.le_trans (show _ ≤ 3 by omega) (Nat.le_of_ble_eq_true rfl), Nat.le_trans (show _ ≤ 20 by omega) (Nat.le_of_ble_eq_true rfl)⟩ (fun r_778 σ_779 H locs p_780 hw => ?_)
                            obtain ⟨er_778, eσ_779⟩ := p_780
                            have er_778 := er_778.symm; subst er_778
                            have eσ_779 := eσ_779.symm; subst eσ_779
                            refine lv_iload hx hb dL_isLaid_309 (lv_at hl 0 rfl) ?_
                            refine lv_icmp_ne (tgt := 318) hx hb dL_isLaid_311 (by decide) (fun c_781 => ?_) (fun c_781 => ?_)
                            · skip
                              exact absurd c_781 (by decide)
                            · skip
                              refine lv_iconst (v := 1) hx hb dL_isLaid_314 (by decide) ?_
                              refine lv_goto (tgt := 319) hx hb dL_isLaid_315 (by decide) ?_
                              exact rRetZw hx hb hr hw (by decide) (by exact ⟨rfl, po_same hA hGa⟩) hlocks dL_isLaid_319 (by omega) (by omega)
                          · skip
                            exact absurd c_777 (by decide)
                    · skip
                      exact absurd c_774 (by decide)
                  · skip
                    have c_773 : 0 < x9 := n0_lef (by omega) c_773
                    refine lv_iload hx hb dL_isLaid_195 (lv_at hl 1 rfl) ?_
                    refine lv_if_le (tgt := 211) hx hb dL_isLaid_197 (by decide) (fun c_782 => ?_) (fun c_782 => ?_)
                    · skip
                      have c_782 : v9 = 0 := n0_let (by omega) c_782
                      refine lv_iconst (v := 0) hx hb dL_isLaid_211 (by decide) ?_
                      refine lv_istore (lv' := [(12, .int 0), (11, .int 1), (10, .int (nI v9)), (9, .int (nI y9)), (8, .int (nI x9)), (0, .ref (gad G 0)), (1, .ref (gad G 31)), (2, .ref (gad G 32)), (3, .ref (gad G 33)), (4, .int 1), (5, .int (nI o)), (6, .int (nI u)), (7, .int (nI v))]) hx hb dL_isLaid_212 hl (by decide) rfl (fun ls hl => ?_)
                      refine lv_iload hx hb dL_isLaid_214 (lv_at hl 1 rfl) ?_
                      refine lv_if_ne (tgt := 224) hx hb dL_isLaid_216 (by decide) (fun c_783 => ?_) (fun c_783 => ?_)
                      · skip
                        refine lv_iload hx hb dL_isLaid_224 (lv_at hl 0 rfl) ?_
                        refine lv_if_ne (tgt := 234) hx hb dL_isLaid_226 (by decide) (fun c_784 => ?_) (fun c_784 => ?_)
                        · skip
                          exact absurd c_784 (by decide)
                        · skip
                          refine lv_bipush (v := (-20)) hx hb dL_isLaid_229 (by decide) ?_
                          refine lv_goto (tgt := 268) hx hb dL_isLaid_231 (by decide) ?_
                          refine lv_istore (lv' := [(13, .int (-20)), (12, .int 0), (11, .int 1), (10, .int (nI v9)), (9, .int (nI y9)), (8, .int (nI x9)), (0, .ref (gad G 0)), (1, .ref (gad G 31)), (2, .ref (gad G 32)), (3, .ref (gad G 33)), (4, .int 1), (5, .int (nI o)), (6, .int (nI u)), (7, .int (nI v))]) hx hb dL_isLaid_268 hl (by decide) rfl (fun ls hl => ?_)
                          refine lv_iload hx hb dL_isLaid_270 (lv_at hl 2 rfl) ?_
                          refine lv_if_eq (tgt := 298) hx hb dL_isLaid_272 (by decide) (fun c_785 => ?_) (fun c_785 => ?_)
                          · skip
                            exact absurd c_785 (by decide)
                          · skip
                            refine lv_iload hx hb dL_isLaid_275 (lv_at hl 1 rfl) ?_
                            refine lv_if_eq (tgt := 298) hx hb dL_isLaid_277 (by decide) (fun c_786 => ?_) (fun c_786 => ?_)
                            · skip
                              refine lv_aload_n hx hb dL_isLaid_298 rfl (lv_at hl 6 rfl) ?_
                              refine lv_iconst (v := 1) hx hb dL_isLaid_299 (by decide) ?_
                              refine lv_iload hx hb dL_isLaid_300 (lv_at hl 5 rfl) ?_
                              refine lv_iload hx hb dL_isLaid_302 (lv_at hl 4 rfl) ?_
                              refine lv_iload hx hb dL_isLaid_304 (lv_at hl 3 rfl) ?_
                              refine rCallLS (As := [.ref (gad G 0), .int 1, .int (nI x9), .int (nI y9), .int (nI v9)]) (rest := []) ⟨hx, hb, hml, hown, hts⟩ fx hw (d1_t2 l hlt G hG hF σ (pcv hA) ((nI x9)) ((nI y9)) ((nI v9)) (by rw [inB_y (show x9 < g by omega) (by omega), inB_y (show y9 < g by omega) (by omega)]; rfl) (rgt_n (by omega) (by omega) (by omega) (by omega))) (vx_cwSW 5 hts gL_isLaid_L_does rfl rfl rfl (by decide +kernel) ⟨Nat.le_of_ble_eq_true rfl, Nat.le_of_ble_eq_true rfl⟩) rfl hl.1 rfl (Nat.le_of_ble_eq_true rfl) dL_isLaid_306 ⟨Nat.le_trans (show _ ≤ 3 by omega) (Nat.le_of_ble_eq_true rfl), Nat.le_trans (show _ ≤ 20 by omega) (Nat.le_of_ble_eq_true rfl)⟩ (fun r_787 σ_788 H locs p_789 hw => ?_)
                              obtain ⟨er_787, eσ_788⟩ := p_789
                              have er_787 := er_787.symm; subst er_787
                              have eσ_788 := eσ_788.symm; subst eσ_788
                              refine lv_iload hx hb dL_isLaid_309 (lv_at hl 0 rfl) ?_
                              refine lv_icmp_ne (tgt := 318) hx hb dL_isLaid_311 (by decide) (fun c_790 => ?_) (fun c_790 => ?_)
                              · skip
                                exact absurd c_790 (by decide)
                              · skip
                                refine lv_iconst (v := 1) hx hb dL_isLaid_314 (by decide) ?_
                                refine lv_goto (tgt := 319) hx hb dL_isLaid_315 (by decide) ?_
                                exact rRetZw hx hb hr hw (by decide) (by exact ⟨rfl, po_same hA hGa⟩) hlocks dL_isLaid_319 (by omega) (by omega)
                            · skip
                              exact absurd c_786 (by decide)
                      · skip
                        exact absurd c_783 (by decide)
                    · skip
                      have c_782 : 0 < v9 := n0_lef (by omega) c_782
                      refine lv_iload hx hb dL_isLaid_200 (lv_at hl 1 rfl) ?_
                      refine lv_bipush (v := 101) hx hb dL_isLaid_202 (by decide) ?_
                      refine lv_rep0 (x := 101) (y := nI 101) rfl ?_
                      refine lv_icmp_ge (tgt := 211) hx hb dL_isLaid_204 (by decide) (fun c_791 => ?_) (fun c_791 => ?_)
                      · skip
                        have c_791 : 101 ≤ v9 := (nI_leI (by omega) (by omega)).mp c_791
                        refine lv_iconst (v := 0) hx hb dL_isLaid_211 (by decide) ?_
                        refine lv_istore (lv' := [(12, .int 0), (11, .int 1), (10, .int (nI v9)), (9, .int (nI y9)), (8, .int (nI x9)), (0, .ref (gad G 0)), (1, .ref (gad G 31)), (2, .ref (gad G 32)), (3, .ref (gad G 33)), (4, .int 1), (5, .int (nI o)), (6, .int (nI u)), (7, .int (nI v))]) hx hb dL_isLaid_212 hl (by decide) rfl (fun ls hl => ?_)
                        refine lv_iload hx hb dL_isLaid_214 (lv_at hl 1 rfl) ?_
                        refine lv_if_ne (tgt := 224) hx hb dL_isLaid_216 (by decide) (fun c_792 => ?_) (fun c_792 => ?_)
                        · skip
                          refine lv_iload hx hb dL_isLaid_224 (lv_at hl 0 rfl) ?_
                          refine lv_if_ne (tgt := 234) hx hb dL_isLaid_226 (by decide) (fun c_793 => ?_) (fun c_793 => ?_)
                          · skip
                            exact absurd c_793 (by decide)
                          · skip
                            refine lv_bipush (v := (-20)) hx hb dL_isLaid_229 (by decide) ?_
                            refine lv_goto (tgt := 268) hx hb dL_isLaid_231 (by decide) ?_
                            refine lv_istore (lv' := [(13, .int (-20)), (12, .int 0), (11, .int 1), (10, .int (nI v9)), (9, .int (nI y9)), (8, .int (nI x9)), (0, .ref (gad G 0)), (1, .ref (gad G 31)), (2, .ref (gad G 32)), (3, .ref (gad G 33)), (4, .int 1), (5, .int (nI o)), (6, .int (nI u)), (7, .int (nI v))]) hx hb dL_isLaid_268 hl (by decide) rfl (fun ls hl => ?_)
                            refine lv_iload hx hb dL_isLaid_270 (lv_at hl 2 rfl) ?_
                            refine lv_if_eq (tgt := 298) hx hb dL_isLaid_272 (by decide) (fun c_794 => ?_) (fun c_794 => ?_)
                            · skip
                              exact absurd c_794 (by decide)
                            · skip
                              refine lv_iload hx hb dL_isLaid_275 (lv_at hl 1 rfl) ?_
                              refine lv_if_eq (tgt := 298) hx hb dL_isLaid_277 (by decide) (fun c_795 => ?_) (fun c_795 => ?_)
                              · skip
                                refine lv_aload_n hx hb dL_isLaid_298 rfl (lv_at hl 6 rfl) ?_
                                refine lv_iconst (v := 1) hx hb dL_isLaid_299 (by decide) ?_
                                refine lv_iload hx hb dL_isLaid_300 (lv_at hl 5 rfl) ?_
                                refine lv_iload hx hb dL_isLaid_302 (lv_at hl 4 rfl) ?_
                                refine lv_iload hx hb dL_isLaid_304 (lv_at hl 3 rfl) ?_
                                refine rCallLS (As := [.ref (gad G 0), .int 1, .int (nI x9), .int (nI y9), .int (nI v9)]) (rest := []) ⟨hx, hb, hml, hown, hts⟩ fx hw (d1_t2 l hlt G hG hF σ (pcv hA) ((nI x9)) ((nI y9)) ((nI v9)) (by rw [inB_y (show x9 < g by omega) (by omega), inB_y (show y9 < g by omega) (by omega)]; rfl) (rgt_n (by omega) (by omega) (by omega) (by omega))) (vx_cwSW 5 hts gL_isLaid_L_does rfl rfl rfl (by decide +kernel) ⟨Nat.le_of_ble_eq_true rfl, Nat.le_of_ble_eq_true rfl⟩) rfl hl.1 rfl (Nat.le_of_ble_eq_true rfl) dL_isLaid_306 ⟨Nat.le_trans (show _ ≤ 3 by omega) (Nat.le_of_ble_eq_true rfl), Nat.le_trans (show _ ≤ 20 by omega) (Nat.le_of_ble_eq_true rfl)⟩ (fun r_796 σ_797 H locs p_798 hw => ?_)
                                obtain ⟨er_796, eσ_797⟩ := p_798
                                have er_796 := er_796.symm; subst er_796
                                have eσ_797 := eσ_797.symm; subst eσ_797
                                refine lv_iload hx hb dL_isLaid_309 (lv_at hl 0 rfl) ?_
                                refine lv_icmp_ne (tgt := 318) hx hb dL_isLaid_311 (by decide) (fun c_799 => ?_) (fun c_799 => ?_)
                                · skip
                                  exact absurd c_799 (by decide)
                                · skip
                                  refine lv_iconst (v := 1) hx hb dL_isLaid_314 (by decide) ?_
                                  refine lv_goto (tgt := 319) hx hb dL_isLaid_315 (by decide) ?_
                                  exact rRetZw hx hb hr hw (by decide) (by exact ⟨rfl, po_same hA hGa⟩) hlocks dL_isLaid_319 (by omega) (by omega)
                              · skip
                                exact absurd c_795 (by decide)
                        · skip
                          exact absurd c_792 (by decide)
                      · skip
                        have c_791 : ¬ 101 ≤ v9 := fun h9 => c_791 ((nI_leI (by omega) (by omega)).mpr h9)
                        omega
        · skip
          have c_740 : (v % 3) = 0 := n0_nef (by omega) c_740
          refine lv_iconst (v := 0) hx hb dL_isLaid_134 (by decide) ?_
          refine lv_goto (tgt := 146) hx hb dL_isLaid_135 (by decide) ?_
          refine lv_istore (lv' := [(9, .int 0), (8, .int (nI x9)), (0, .ref (gad G 0)), (1, .ref (gad G 31)), (2, .ref (gad G 32)), (3, .ref (gad G 33)), (4, .int 1), (5, .int (nI o)), (6, .int (nI u)), (7, .int (nI v))]) hx hb dL_isLaid_146 hl (by decide) rfl (fun ls hl => ?_)
          have q_800 : 0 = (nI y9) := by first | (rw [hy9, if_pos (by omega)]; rfl) | rw [hy9, if_neg (by omega)]
          have hl : lv_has ls 14 [(9, .int (nI y9)), (8, .int (nI x9)), (0, .ref (gad G 0)), (1, .ref (gad G 31)), (2, .ref (gad G 32)), (3, .ref (gad G 33)), (4, .int 1), (5, .int (nI o)), (6, .int (nI u)), (7, .int (nI v))] := (lv_c (lv_atq hl 0 rfl q_800) (lv_c (lv_at hl 1 rfl) (lv_c (lv_at hl 2 rfl) (lv_c (lv_at hl 3 rfl) (lv_c (lv_at hl 4 rfl) (lv_c (lv_at hl 5 rfl) (lv_c (lv_at hl 6 rfl) (lv_c (lv_at hl 7 rfl) (lv_c (lv_at hl 8 rfl) (lv_c (lv_at hl 9 rfl) (lv_c0 hl)))))))))))
          refine lv_iload hx hb dL_isLaid_148 (lv_at hl 9 rfl) ?_
          refine lv_bipush (v := 103) hx hb dL_isLaid_150 (by decide) ?_
          refine lv_rep0 (x := 103) (y := nI 103) rfl ?_
          refine lv_irem hx hb dL_isLaid_152 (nI_ne0 (by omega) (by omega)) ?_
          refine lv_rep0 (y := nI (v % 103)) (pk_rem (by omega) (by omega) (by omega)) ?_
          refine lv_istore (lv' := [(10, .int (nI (v % 103))), (9, .int (nI y9)), (8, .int (nI x9)), (0, .ref (gad G 0)), (1, .ref (gad G 31)), (2, .ref (gad G 32)), (3, .ref (gad G 33)), (4, .int 1), (5, .int (nI o)), (6, .int (nI u)), (7, .int (nI v))]) hx hb dL_isLaid_153 hl (by decide) rfl (fun ls hl => ?_)
          have q_801 : (nI (v % 103)) = (nI v9) := by rw [hv9]
          have hl : lv_has ls 14 [(10, .int (nI v9)), (9, .int (nI y9)), (8, .int (nI x9)), (0, .ref (gad G 0)), (1, .ref (gad G 31)), (2, .ref (gad G 32)), (3, .ref (gad G 33)), (4, .int 1), (5, .int (nI o)), (6, .int (nI u)), (7, .int (nI v))] := (lv_c (lv_atq hl 0 rfl q_801) (lv_c (lv_at hl 1 rfl) (lv_c (lv_at hl 2 rfl) (lv_c (lv_at hl 3 rfl) (lv_c (lv_at hl 4 rfl) (lv_c (lv_at hl 5 rfl) (lv_c (lv_at hl 6 rfl) (lv_c (lv_at hl 7 rfl) (lv_c (lv_at hl 8 rfl) (lv_c (lv_at hl 9 rfl) (lv_c (lv_at hl 10 rfl) (lv_c0 hl))))))))))))
          refine lv_iload hx hb dL_isLaid_155 (lv_at hl 2 rfl) ?_
          refine lv_aload_n hx hb dL_isLaid_157 rfl (lv_at hl 6 rfl) ?_
          refine lv_iconst (v := 0) hx hb dL_isLaid_158 (by decide) ?_
          refine lv_rep0 (x := 0) (y := nI 0) rfl ?_
          refine rAld hx hb fx hw 33 (hF.1 33 (by decide)) hF.2.1 (fun _ => rfl) 0 rfl (by omega) (by decide) dL_isLaid_159 ?_
          refine lv_rep0 (x := (σ 33 0)) (y := (nI g)) (pg hA).1 ?_
          refine lv_icmp_ge (tgt := 175) hx hb dL_isLaid_160 (by decide) (fun c_802 => ?_) (fun c_802 => ?_)
          · skip
            have c_802 : g ≤ x9 := (nI_leI (by omega) (by omega)).mp c_802
            omega
          · skip
            have c_802 : ¬ g ≤ x9 := fun h9 => c_802 ((nI_leI (by omega) (by omega)).mpr h9)
            refine lv_iload hx hb dL_isLaid_163 (lv_at hl 1 rfl) ?_
            refine lv_aload_n hx hb dL_isLaid_165 rfl (lv_at hl 6 rfl) ?_
            refine lv_iconst (v := 0) hx hb dL_isLaid_166 (by decide) ?_
            refine lv_rep0 (x := 0) (y := nI 0) rfl ?_
            refine rAld hx hb fx hw 33 (hF.1 33 (by decide)) hF.2.1 (fun _ => rfl) 0 rfl (by omega) (by decide) dL_isLaid_167 ?_
            refine lv_rep0 (x := (σ 33 0)) (y := (nI g)) (pg hA).1 ?_
            refine lv_icmp_ge (tgt := 175) hx hb dL_isLaid_168 (by decide) (fun c_803 => ?_) (fun c_803 => ?_)
            · skip
              have c_803 : g ≤ y9 := (nI_leI (by omega) (by omega)).mp c_803
              omega
            · skip
              have c_803 : ¬ g ≤ y9 := fun h9 => c_803 ((nI_leI (by omega) (by omega)).mpr h9)
              refine lv_iconst (v := 1) hx hb dL_isLaid_171 (by decide) ?_
              refine lv_goto (tgt := 176) hx hb dL_isLaid_172 (by decide) ?_
              refine lv_istore (lv' := [(11, .int 1), (10, .int (nI v9)), (9, .int (nI y9)), (8, .int (nI x9)), (0, .ref (gad G 0)), (1, .ref (gad G 31)), (2, .ref (gad G 32)), (3, .ref (gad G 33)), (4, .int 1), (5, .int (nI o)), (6, .int (nI u)), (7, .int (nI v))]) hx hb dL_isLaid_176 hl (by decide) rfl (fun ls hl => ?_)
              refine lv_iload hx hb dL_isLaid_178 (lv_at hl 2 rfl) ?_
              refine lv_iload hx hb dL_isLaid_180 (lv_at hl 3 rfl) ?_
              refine lv_icmp_gt (tgt := 195) hx hb dL_isLaid_182 (by decide) (fun c_804 => ?_) (fun c_804 => ?_)
              · skip
                have c_804 : x9 < y9 := (nI_ltI (by omega) (by omega)).mp c_804
                refine lv_iload hx hb dL_isLaid_195 (lv_at hl 1 rfl) ?_
                refine lv_if_le (tgt := 211) hx hb dL_isLaid_197 (by decide) (fun c_805 => ?_) (fun c_805 => ?_)
                · skip
                  have c_805 : v9 = 0 := n0_let (by omega) c_805
                  refine lv_iconst (v := 0) hx hb dL_isLaid_211 (by decide) ?_
                  refine lv_istore (lv' := [(12, .int 0), (11, .int 1), (10, .int (nI v9)), (9, .int (nI y9)), (8, .int (nI x9)), (0, .ref (gad G 0)), (1, .ref (gad G 31)), (2, .ref (gad G 32)), (3, .ref (gad G 33)), (4, .int 1), (5, .int (nI o)), (6, .int (nI u)), (7, .int (nI v))]) hx hb dL_isLaid_212 hl (by decide) rfl (fun ls hl => ?_)
                  refine lv_iload hx hb dL_isLaid_214 (lv_at hl 1 rfl) ?_
                  refine lv_if_ne (tgt := 224) hx hb dL_isLaid_216 (by decide) (fun c_806 => ?_) (fun c_806 => ?_)
                  · skip
                    refine lv_iload hx hb dL_isLaid_224 (lv_at hl 0 rfl) ?_
                    refine lv_if_ne (tgt := 234) hx hb dL_isLaid_226 (by decide) (fun c_807 => ?_) (fun c_807 => ?_)
                    · skip
                      exact absurd c_807 (by decide)
                    · skip
                      refine lv_bipush (v := (-20)) hx hb dL_isLaid_229 (by decide) ?_
                      refine lv_goto (tgt := 268) hx hb dL_isLaid_231 (by decide) ?_
                      refine lv_istore (lv' := [(13, .int (-20)), (12, .int 0), (11, .int 1), (10, .int (nI v9)), (9, .int (nI y9)), (8, .int (nI x9)), (0, .ref (gad G 0)), (1, .ref (gad G 31)), (2, .ref (gad G 32)), (3, .ref (gad G 33)), (4, .int 1), (5, .int (nI o)), (6, .int (nI u)), (7, .int (nI v))]) hx hb dL_isLaid_268 hl (by decide) rfl (fun ls hl => ?_)
                      refine lv_iload hx hb dL_isLaid_270 (lv_at hl 2 rfl) ?_
                      refine lv_if_eq (tgt := 298) hx hb dL_isLaid_272 (by decide) (fun c_808 => ?_) (fun c_808 => ?_)
                      · skip
                        exact absurd c_808 (by decide)
                      · skip
                        refine lv_iload hx hb dL_isLaid_275 (lv_at hl 1 rfl) ?_
                        refine lv_if_eq (tgt := 298) hx hb dL_isLaid_277 (by decide) (fun c_809 => ?_) (fun c_809 => ?_)
                        · skip
                          refine lv_aload_n hx hb dL_isLaid_298 rfl (lv_at hl 6 rfl) ?_
                          refine lv_iconst (v := 1) hx hb dL_isLaid_299 (by decide) ?_
                          refine lv_iload hx hb dL_isLaid_300 (lv_at hl 5 rfl) ?_
                          refine lv_iload hx hb dL_isLaid_302 (lv_at hl 4 rfl) ?_
                          refine lv_iload hx hb dL_isLaid_304 (lv_at hl 3 rfl) ?_
                          refine rCallLS (As := [.ref (gad G 0), .int 1, .int (nI x9), .int (nI y9), .int (nI v9)]) (rest := []) ⟨hx, hb, hml, hown, hts⟩ fx hw (d1_t2 l hlt G hG hF σ (pcv hA) ((nI x9)) ((nI y9)) ((nI v9)) (by rw [inB_y (show x9 < g by omega) (by omega), inB_y (show y9 < g by omega) (by omega)]; rfl) (rgt_n (by omega) (by omega) (by omega) (by omega))) (vx_cwSW 5 hts gL_isLaid_L_does rfl rfl rfl (by decide +kernel) ⟨Nat.le_of_ble_eq_true rfl, Nat.le_of_ble_eq_true rfl⟩) rfl hl.1 rfl (Nat.le_of_ble_eq_true rfl) dL_isLaid_306 ⟨Nat.le_trans (show _ ≤ 3 by omega) (Nat.le_of_ble_eq_true rfl), Nat.le_trans (show _ ≤ 20 by omega) (Nat.le_of_ble_eq_true rfl)⟩ (fun r_810 σ_811 H locs p_812 hw => ?_)
                          obtain ⟨er_810, eσ_811⟩ := p_812
                          have er_810 := er_810.symm; subst er_810
                          have eσ_811 := eσ_811.symm; subst eσ_811
                          refine lv_iload hx hb dL_isLaid_309 (lv_at hl 0 rfl) ?_
                          refine lv_icmp_ne (tgt := 318) hx hb dL_isLaid_311 (by decide) (fun c_813 => ?_) (fun c_813 => ?_)
                          · skip
                            exact absurd c_813 (by decide)
                          · skip
                            refine lv_iconst (v := 1) hx hb dL_isLaid_314 (by decide) ?_
                            refine lv_goto (tgt := 319) hx hb dL_isLaid_315 (by decide) ?_
                            exact rRetZw hx hb hr hw (by decide) (by exact ⟨rfl, po_same hA hGa⟩) hlocks dL_isLaid_319 (by omega) (by omega)
                        · skip
                          exact absurd c_809 (by decide)
                  · skip
                    exact absurd c_806 (by decide)
                · skip
                  have c_805 : 0 < v9 := n0_lef (by omega) c_805
                  refine lv_iload hx hb dL_isLaid_200 (lv_at hl 1 rfl) ?_
                  refine lv_bipush (v := 101) hx hb dL_isLaid_202 (by decide) ?_
                  refine lv_rep0 (x := 101) (y := nI 101) rfl ?_
                  refine lv_icmp_ge (tgt := 211) hx hb dL_isLaid_204 (by decide) (fun c_814 => ?_) (fun c_814 => ?_)
                  · skip
                    have c_814 : 101 ≤ v9 := (nI_leI (by omega) (by omega)).mp c_814
                    refine lv_iconst (v := 0) hx hb dL_isLaid_211 (by decide) ?_
                    refine lv_istore (lv' := [(12, .int 0), (11, .int 1), (10, .int (nI v9)), (9, .int (nI y9)), (8, .int (nI x9)), (0, .ref (gad G 0)), (1, .ref (gad G 31)), (2, .ref (gad G 32)), (3, .ref (gad G 33)), (4, .int 1), (5, .int (nI o)), (6, .int (nI u)), (7, .int (nI v))]) hx hb dL_isLaid_212 hl (by decide) rfl (fun ls hl => ?_)
                    refine lv_iload hx hb dL_isLaid_214 (lv_at hl 1 rfl) ?_
                    refine lv_if_ne (tgt := 224) hx hb dL_isLaid_216 (by decide) (fun c_815 => ?_) (fun c_815 => ?_)
                    · skip
                      refine lv_iload hx hb dL_isLaid_224 (lv_at hl 0 rfl) ?_
                      refine lv_if_ne (tgt := 234) hx hb dL_isLaid_226 (by decide) (fun c_816 => ?_) (fun c_816 => ?_)
                      · skip
                        exact absurd c_816 (by decide)
                      · skip
                        refine lv_bipush (v := (-20)) hx hb dL_isLaid_229 (by decide) ?_
                        refine lv_goto (tgt := 268) hx hb dL_isLaid_231 (by decide) ?_
                        refine lv_istore (lv' := [(13, .int (-20)), (12, .int 0), (11, .int 1), (10, .int (nI v9)), (9, .int (nI y9)), (8, .int (nI x9)), (0, .ref (gad G 0)), (1, .ref (gad G 31)), (2, .ref (gad G 32)), (3, .ref (gad G 33)), (4, .int 1), (5, .int (nI o)), (6, .int (nI u)), (7, .int (nI v))]) hx hb dL_isLaid_268 hl (by decide) rfl (fun ls hl => ?_)
                        refine lv_iload hx hb dL_isLaid_270 (lv_at hl 2 rfl) ?_
                        refine lv_if_eq (tgt := 298) hx hb dL_isLaid_272 (by decide) (fun c_817 => ?_) (fun c_817 => ?_)
                        · skip
                          exact absurd c_817 (by decide)
                        · skip
                          refine lv_iload hx hb dL_isLaid_275 (lv_at hl 1 rfl) ?_
                          refine lv_if_eq (tgt := 298) hx hb dL_isLaid_277 (by decide) (fun c_818 => ?_) (fun c_818 => ?_)
                          · skip
                            refine lv_aload_n hx hb dL_isLaid_298 rfl (lv_at hl 6 rfl) ?_
                            refine lv_iconst (v := 1) hx hb dL_isLaid_299 (by decide) ?_
                            refine lv_iload hx hb dL_isLaid_300 (lv_at hl 5 rfl) ?_
                            refine lv_iload hx hb dL_isLaid_302 (lv_at hl 4 rfl) ?_
                            refine lv_iload hx hb dL_isLaid_304 (lv_at hl 3 rfl) ?_
                            refine rCallLS (As := [.ref (gad G 0), .int 1, .int (nI x9), .int (nI y9), .int (nI v9)]) (rest := []) ⟨hx, hb, hml, hown, hts⟩ fx hw (d1_t2 l hlt G hG hF σ (pcv hA) ((nI x9)) ((nI y9)) ((nI v9)) (by rw [inB_y (show x9 < g by omega) (by omega), inB_y (show y9 < g by omega) (by omega)]; rfl) (rgt_n (by omega) (by omega) (by omega) (by omega))) (vx_cwSW 5 hts gL_isLaid_L_does rfl rfl rfl (by decide +kernel) ⟨Nat.le_of_ble_eq_true rfl, Nat.le_of_ble_eq_true rfl⟩) rfl hl.1 rfl (Nat.le_of_ble_eq_true rfl) dL_isLaid_306 ⟨Nat.le_trans (show _ ≤ 3 by omega) (Nat.le_of_ble_eq_true rfl), Nat.le_trans (show _ ≤ 20 by omega) (Nat.le_of_ble_eq_true rfl)⟩ (fun r_819 σ_820 H locs p_821 hw => ?_)
                            obtain ⟨er_819, eσ_820⟩ := p_821
                            have er_819 := er_819.symm; subst er_819
                            have eσ_820 := eσ_820.symm; subst eσ_820
                            refine lv_iload hx hb dL_isLaid_309 (lv_at hl 0 rfl) ?_
                            refine lv_icmp_ne (tgt := 318) hx hb dL_isLaid_311 (by decide) (fun c_822 => ?_) (fun c_822 => ?_)
                            · skip
                              exact absurd c_822 (by decide)
                            · skip
                              refine lv_iconst (v := 1) hx hb dL_isLaid_314 (by decide) ?_
                              refine lv_goto (tgt := 319) hx hb dL_isLaid_315 (by decide) ?_
                              exact rRetZw hx hb hr hw (by decide) (by exact ⟨rfl, po_same hA hGa⟩) hlocks dL_isLaid_319 (by omega) (by omega)
                          · skip
                            exact absurd c_818 (by decide)
                    · skip
                      exact absurd c_815 (by decide)
                  · skip
                    have c_814 : ¬ 101 ≤ v9 := fun h9 => c_814 ((nI_leI (by omega) (by omega)).mpr h9)
                    omega
              · skip
                have c_804 : ¬ x9 < y9 := fun h9 => c_804 ((nI_ltI (by omega) (by omega)).mpr h9)
                refine lv_iload hx hb dL_isLaid_185 (lv_at hl 2 rfl) ?_
                refine lv_if_ne (tgt := 211) hx hb dL_isLaid_187 (by decide) (fun c_823 => ?_) (fun c_823 => ?_)
                · skip
                  have c_823 : ¬ y9 = 0 := n0_net (by omega) c_823
                  refine lv_iconst (v := 0) hx hb dL_isLaid_211 (by decide) ?_
                  refine lv_istore (lv' := [(12, .int 0), (11, .int 1), (10, .int (nI v9)), (9, .int (nI y9)), (8, .int (nI x9)), (0, .ref (gad G 0)), (1, .ref (gad G 31)), (2, .ref (gad G 32)), (3, .ref (gad G 33)), (4, .int 1), (5, .int (nI o)), (6, .int (nI u)), (7, .int (nI v))]) hx hb dL_isLaid_212 hl (by decide) rfl (fun ls hl => ?_)
                  refine lv_iload hx hb dL_isLaid_214 (lv_at hl 1 rfl) ?_
                  refine lv_if_ne (tgt := 224) hx hb dL_isLaid_216 (by decide) (fun c_824 => ?_) (fun c_824 => ?_)
                  · skip
                    refine lv_iload hx hb dL_isLaid_224 (lv_at hl 0 rfl) ?_
                    refine lv_if_ne (tgt := 234) hx hb dL_isLaid_226 (by decide) (fun c_825 => ?_) (fun c_825 => ?_)
                    · skip
                      exact absurd c_825 (by decide)
                    · skip
                      refine lv_bipush (v := (-20)) hx hb dL_isLaid_229 (by decide) ?_
                      refine lv_goto (tgt := 268) hx hb dL_isLaid_231 (by decide) ?_
                      refine lv_istore (lv' := [(13, .int (-20)), (12, .int 0), (11, .int 1), (10, .int (nI v9)), (9, .int (nI y9)), (8, .int (nI x9)), (0, .ref (gad G 0)), (1, .ref (gad G 31)), (2, .ref (gad G 32)), (3, .ref (gad G 33)), (4, .int 1), (5, .int (nI o)), (6, .int (nI u)), (7, .int (nI v))]) hx hb dL_isLaid_268 hl (by decide) rfl (fun ls hl => ?_)
                      refine lv_iload hx hb dL_isLaid_270 (lv_at hl 2 rfl) ?_
                      refine lv_if_eq (tgt := 298) hx hb dL_isLaid_272 (by decide) (fun c_826 => ?_) (fun c_826 => ?_)
                      · skip
                        exact absurd c_826 (by decide)
                      · skip
                        refine lv_iload hx hb dL_isLaid_275 (lv_at hl 1 rfl) ?_
                        refine lv_if_eq (tgt := 298) hx hb dL_isLaid_277 (by decide) (fun c_827 => ?_) (fun c_827 => ?_)
                        · skip
                          refine lv_aload_n hx hb dL_isLaid_298 rfl (lv_at hl 6 rfl) ?_
                          refine lv_iconst (v := 1) hx hb dL_isLaid_299 (by decide) ?_
                          refine lv_iload hx hb dL_isLaid_300 (lv_at hl 5 rfl) ?_
                          refine lv_iload hx hb dL_isLaid_302 (lv_at hl 4 rfl) ?_
                          refine lv_iload hx hb dL_isLaid_304 (lv_at hl 3 rfl) ?_
                          refine rCallLS (As := [.ref (gad G 0), .int 1, .int (nI x9), .int (nI y9), .int (nI v9)]) (rest := []) ⟨hx, hb, hml, hown, hts⟩ fx hw (d1_t2 l hlt G hG hF σ (pcv hA) ((nI x9)) ((nI y9)) ((nI v9)) (by rw [inB_y (show x9 < g by omega) (by omega), inB_y (show y9 < g by omega) (by omega)]; rfl) (rgt_n (by omega) (by omega) (by omega) (by omega))) (vx_cwSW 5 hts gL_isLaid_L_does rfl rfl rfl (by decide +kernel) ⟨Nat.le_of_ble_eq_true rfl, Nat.le_of_ble_eq_true rfl⟩) rfl hl.1 rfl (Nat.le_of_ble_eq_true rfl) dL_isLaid_306 ⟨Nat.le_trans (show _ ≤ 3 by omega) (Nat.le_of_ble_eq_true rfl), Nat.le_trans (show _ ≤ 20 by omega) (Nat.le_of_ble_eq_true rfl)⟩ (fun r_828 σ_829 H locs p_830 hw => ?_)
                          obtain ⟨er_828, eσ_829⟩ := p_830
                          have er_828 := er_828.symm; subst er_828
                          have eσ_829 := eσ_829.symm; subst eσ_829
                          refine lv_iload hx hb dL_isLaid_309 (lv_at hl 0 rfl) ?_
                          refine lv_icmp_ne (tgt := 318) hx hb dL_isLaid_311 (by decide) (fun c_831 => ?_) (fun c_831 => ?_)
                          · skip
                            exact absurd c_831 (by decide)
                          · skip
                            refine lv_iconst (v := 1) hx hb dL_isLaid_314 (by decide) ?_
                            refine lv_goto (tgt := 319) hx hb dL_isLaid_315 (by decide) ?_
                            exact rRetZw hx hb hr hw (by decide) (by exact ⟨rfl, po_same hA hGa⟩) hlocks dL_isLaid_319 (by omega) (by omega)
                        · skip
                          exact absurd c_827 (by decide)
                  · skip
                    exact absurd c_824 (by decide)
                · skip
                  have c_823 : y9 = 0 := n0_nef (by omega) c_823
                  refine lv_iload hx hb dL_isLaid_190 (lv_at hl 3 rfl) ?_
                  refine lv_if_le (tgt := 211) hx hb dL_isLaid_192 (by decide) (fun c_832 => ?_) (fun c_832 => ?_)
                  · skip
                    have c_832 : x9 = 0 := n0_let (by omega) c_832
                    refine lv_iconst (v := 0) hx hb dL_isLaid_211 (by decide) ?_
                    refine lv_istore (lv' := [(12, .int 0), (11, .int 1), (10, .int (nI v9)), (9, .int (nI y9)), (8, .int (nI x9)), (0, .ref (gad G 0)), (1, .ref (gad G 31)), (2, .ref (gad G 32)), (3, .ref (gad G 33)), (4, .int 1), (5, .int (nI o)), (6, .int (nI u)), (7, .int (nI v))]) hx hb dL_isLaid_212 hl (by decide) rfl (fun ls hl => ?_)
                    refine lv_iload hx hb dL_isLaid_214 (lv_at hl 1 rfl) ?_
                    refine lv_if_ne (tgt := 224) hx hb dL_isLaid_216 (by decide) (fun c_833 => ?_) (fun c_833 => ?_)
                    · skip
                      refine lv_iload hx hb dL_isLaid_224 (lv_at hl 0 rfl) ?_
                      refine lv_if_ne (tgt := 234) hx hb dL_isLaid_226 (by decide) (fun c_834 => ?_) (fun c_834 => ?_)
                      · skip
                        exact absurd c_834 (by decide)
                      · skip
                        refine lv_bipush (v := (-20)) hx hb dL_isLaid_229 (by decide) ?_
                        refine lv_goto (tgt := 268) hx hb dL_isLaid_231 (by decide) ?_
                        refine lv_istore (lv' := [(13, .int (-20)), (12, .int 0), (11, .int 1), (10, .int (nI v9)), (9, .int (nI y9)), (8, .int (nI x9)), (0, .ref (gad G 0)), (1, .ref (gad G 31)), (2, .ref (gad G 32)), (3, .ref (gad G 33)), (4, .int 1), (5, .int (nI o)), (6, .int (nI u)), (7, .int (nI v))]) hx hb dL_isLaid_268 hl (by decide) rfl (fun ls hl => ?_)
                        refine lv_iload hx hb dL_isLaid_270 (lv_at hl 2 rfl) ?_
                        refine lv_if_eq (tgt := 298) hx hb dL_isLaid_272 (by decide) (fun c_835 => ?_) (fun c_835 => ?_)
                        · skip
                          exact absurd c_835 (by decide)
                        · skip
                          refine lv_iload hx hb dL_isLaid_275 (lv_at hl 1 rfl) ?_
                          refine lv_if_eq (tgt := 298) hx hb dL_isLaid_277 (by decide) (fun c_836 => ?_) (fun c_836 => ?_)
                          · skip
                            refine lv_aload_n hx hb dL_isLaid_298 rfl (lv_at hl 6 rfl) ?_
                            refine lv_iconst (v := 1) hx hb dL_isLaid_299 (by decide) ?_
                            refine lv_iload hx hb dL_isLaid_300 (lv_at hl 5 rfl) ?_
                            refine lv_iload hx hb dL_isLaid_302 (lv_at hl 4 rfl) ?_
                            refine lv_iload hx hb dL_isLaid_304 (lv_at hl 3 rfl) ?_
                            refine rCallLS (As := [.ref (gad G 0), .int 1, .int (nI x9), .int (nI y9), .int (nI v9)]) (rest := []) ⟨hx, hb, hml, hown, hts⟩ fx hw (d1_t2 l hlt G hG hF σ (pcv hA) ((nI x9)) ((nI y9)) ((nI v9)) (by rw [inB_y (show x9 < g by omega) (by omega), inB_y (show y9 < g by omega) (by omega)]; rfl) (rgt_n (by omega) (by omega) (by omega) (by omega))) (vx_cwSW 5 hts gL_isLaid_L_does rfl rfl rfl (by decide +kernel) ⟨Nat.le_of_ble_eq_true rfl, Nat.le_of_ble_eq_true rfl⟩) rfl hl.1 rfl (Nat.le_of_ble_eq_true rfl) dL_isLaid_306 ⟨Nat.le_trans (show _ ≤ 3 by omega) (Nat.le_of_ble_eq_true rfl), Nat.le_trans (show _ ≤ 20 by omega) (Nat.le_of_ble_eq_true rfl)⟩ (fun r_837 σ_838 H locs p_839 hw => ?_)
                            obtain ⟨er_837, eσ_838⟩ := p_839
                            have er_837 := er_837.symm; subst er_837
                            have eσ_838 := eσ_838.symm; subst eσ_838
                            refine lv_iload hx hb dL_isLaid_309 (lv_at hl 0 rfl) ?_
                            refine lv_icmp_ne (tgt := 318) hx hb dL_isLaid_311 (by decide) (fun c_840 => ?_) (fun c_840 => ?_)
                            · skip
                              exact absurd c_840 (by decide)
                            · skip
                              refine lv_iconst (v := 1) hx hb dL_isLaid_314 (by decide) ?_
                              refine lv_goto (tgt := 319) hx hb dL_isLaid_315 (by decide) ?_
                              exact rRetZw hx hb hr hw (by decide) (by exact ⟨rfl, po_same hA hGa⟩) hlocks dL_isLaid_319 (by omega) (by omega)
                          · skip
                            exact absurd c_836 (by decide)
                    · skip
                      exact absurd c_833 (by decide)
                  · skip
                    have c_832 : 0 < x9 := n0_lef (by omega) c_832
                    refine lv_iload hx hb dL_isLaid_195 (lv_at hl 1 rfl) ?_
                    refine lv_if_le (tgt := 211) hx hb dL_isLaid_197 (by decide) (fun c_841 => ?_) (fun c_841 => ?_)
                    · skip
                      have c_841 : v9 = 0 := n0_let (by omega) c_841
                      refine lv_iconst (v := 0) hx hb dL_isLaid_211 (by decide) ?_
                      refine lv_istore (lv' := [(12, .int 0), (11, .int 1), (10, .int (nI v9)), (9, .int (nI y9)), (8, .int (nI x9)), (0, .ref (gad G 0)), (1, .ref (gad G 31)), (2, .ref (gad G 32)), (3, .ref (gad G 33)), (4, .int 1), (5, .int (nI o)), (6, .int (nI u)), (7, .int (nI v))]) hx hb dL_isLaid_212 hl (by decide) rfl (fun ls hl => ?_)
                      refine lv_iload hx hb dL_isLaid_214 (lv_at hl 1 rfl) ?_
                      refine lv_if_ne (tgt := 224) hx hb dL_isLaid_216 (by decide) (fun c_842 => ?_) (fun c_842 => ?_)
                      · skip
                        refine lv_iload hx hb dL_isLaid_224 (lv_at hl 0 rfl) ?_
                        refine lv_if_ne (tgt := 234) hx hb dL_isLaid_226 (by decide) (fun c_843 => ?_) (fun c_843 => ?_)
                        · skip
                          exact absurd c_843 (by decide)
                        · skip
                          refine lv_bipush (v := (-20)) hx hb dL_isLaid_229 (by decide) ?_
                          refine lv_goto (tgt := 268) hx hb dL_isLaid_231 (by decide) ?_
                          refine lv_istore (lv' := [(13, .int (-20)), (12, .int 0), (11, .int 1), (10, .int (nI v9)), (9, .int (nI y9)), (8, .int (nI x9)), (0, .ref (gad G 0)), (1, .ref (gad G 31)), (2, .ref (gad G 32)), (3, .ref (gad G 33)), (4, .int 1), (5, .int (nI o)), (6, .int (nI u)), (7, .int (nI v))]) hx hb dL_isLaid_268 hl (by decide) rfl (fun ls hl => ?_)
                          refine lv_iload hx hb dL_isLaid_270 (lv_at hl 2 rfl) ?_
                          refine lv_if_eq (tgt := 298) hx hb dL_isLaid_272 (by decide) (fun c_844 => ?_) (fun c_844 => ?_)
                          · skip
                            exact absurd c_844 (by decide)
                          · skip
                            refine lv_iload hx hb dL_isLaid_275 (lv_at hl 1 rfl) ?_
                            refine lv_if_eq (tgt := 298) hx hb dL_isLaid_277 (by decide) (fun c_845 => ?_) (fun c_845 => ?_)
                            · skip
                              refine lv_aload_n hx hb dL_isLaid_298 rfl (lv_at hl 6 rfl) ?_
                              refine lv_iconst (v := 1) hx hb dL_isLaid_299 (by decide) ?_
                              refine lv_iload hx hb dL_isLaid_300 (lv_at hl 5 rfl) ?_
                              refine lv_iload hx hb dL_isLaid_302 (lv_at hl 4 rfl) ?_
                              refine lv_iload hx hb dL_isLaid_304 (lv_at hl 3 rfl) ?_
                              refine rCallLS (As := [.ref (gad G 0), .int 1, .int (nI x9), .int (nI y9), .int (nI v9)]) (rest := []) ⟨hx, hb, hml, hown, hts⟩ fx hw (d1_t2 l hlt G hG hF σ (pcv hA) ((nI x9)) ((nI y9)) ((nI v9)) (by rw [inB_y (show x9 < g by omega) (by omega), inB_y (show y9 < g by omega) (by omega)]; rfl) (rgt_n (by omega) (by omega) (by omega) (by omega))) (vx_cwSW 5 hts gL_isLaid_L_does rfl rfl rfl (by decide +kernel) ⟨Nat.le_of_ble_eq_true rfl, Nat.le_of_ble_eq_true rfl⟩) rfl hl.1 rfl (Nat.le_of_ble_eq_true rfl) dL_isLaid_306 ⟨Nat.le_trans (show _ ≤ 3 by omega) (Nat.le_of_ble_eq_true rfl), Nat.le_trans (show _ ≤ 20 by omega) (Nat.le_of_ble_eq_true rfl)⟩ (fun r_846 σ_847 H locs p_848 hw => ?_)
                              obtain ⟨er_846, eσ_847⟩ := p_848
                              have er_846 := er_846.symm; subst er_846
                              have eσ_847 := eσ_847.symm; subst eσ_847
                              refine lv_iload hx hb dL_isLaid_309 (lv_at hl 0 rfl) ?_
                              refine lv_icmp_ne (tgt := 318) hx hb dL_isLaid_311 (by decide) (fun c_849 => ?_) (fun c_849 => ?_)
                              · skip
                                exact absurd c_849 (by decide)
                              · skip
                                refine lv_iconst (v := 1) hx hb dL_isLaid_314 (by decide) ?_
                                refine lv_goto (tgt := 319) hx hb dL_isLaid_315 (by decide) ?_
                                exact rRetZw hx hb hr hw (by decide) (by exact ⟨rfl, po_same hA hGa⟩) hlocks dL_isLaid_319 (by omega) (by omega)
                            · skip
                              exact absurd c_845 (by decide)
                      · skip
                        exact absurd c_842 (by decide)
                    · skip
                      have c_841 : 0 < v9 := n0_lef (by omega) c_841
                      refine lv_iload hx hb dL_isLaid_200 (lv_at hl 1 rfl) ?_
                      refine lv_bipush (v := 101) hx hb dL_isLaid_202 (by decide) ?_
                      refine lv_rep0 (x := 101) (y := nI 101) rfl ?_
                      refine lv_icmp_ge (tgt := 211) hx hb dL_isLaid_204 (by decide) (fun c_850 => ?_) (fun c_850 => ?_)
                      · skip
                        have c_850 : 101 ≤ v9 := (nI_leI (by omega) (by omega)).mp c_850
                        refine lv_iconst (v := 0) hx hb dL_isLaid_211 (by decide) ?_
                        refine lv_istore (lv' := [(12, .int 0), (11, .int 1), (10, .int (nI v9)), (9, .int (nI y9)), (8, .int (nI x9)), (0, .ref (gad G 0)), (1, .ref (gad G 31)), (2, .ref (gad G 32)), (3, .ref (gad G 33)), (4, .int 1), (5, .int (nI o)), (6, .int (nI u)), (7, .int (nI v))]) hx hb dL_isLaid_212 hl (by decide) rfl (fun ls hl => ?_)
                        refine lv_iload hx hb dL_isLaid_214 (lv_at hl 1 rfl) ?_
                        refine lv_if_ne (tgt := 224) hx hb dL_isLaid_216 (by decide) (fun c_851 => ?_) (fun c_851 => ?_)
                        · skip
                          refine lv_iload hx hb dL_isLaid_224 (lv_at hl 0 rfl) ?_
                          refine lv_if_ne (tgt := 234) hx hb dL_isLaid_226 (by decide) (fun c_852 => ?_) (fun c_852 => ?_)
                          · skip
                            exact absurd c_852 (by decide)
                          · skip
                            refine lv_bipush (v := (-20)) hx hb dL_isLaid_229 (by decide) ?_
                            refine lv_goto (tgt := 268) hx hb dL_isLaid_231 (by decide) ?_
                            refine lv_istore (lv' := [(13, .int (-20)), (12, .int 0), (11, .int 1), (10, .int (nI v9)), (9, .int (nI y9)), (8, .int (nI x9)), (0, .ref (gad G 0)), (1, .ref (gad G 31)), (2, .ref (gad G 32)), (3, .ref (gad G 33)), (4, .int 1), (5, .int (nI o)), (6, .int (nI u)), (7, .int (nI v))]) hx hb dL_isLaid_268 hl (by decide) rfl (fun ls hl => ?_)
                            refine lv_iload hx hb dL_isLaid_270 (lv_at hl 2 rfl) ?_
                            refine lv_if_eq (tgt := 298) hx hb dL_isLaid_272 (by decide) (fun c_853 => ?_) (fun c_853 => ?_)
                            · skip
                              exact absurd c_853 (by decide)
                            · skip
                              refine lv_iload hx hb dL_isLaid_275 (lv_at hl 1 rfl) ?_
                              refine lv_if_eq (tgt := 298) hx hb dL_isLaid_277 (by decide) (fun c_854 => ?_) (fun c_854 => ?_)
                              · skip
                                refine lv_aload_n hx hb dL_isLaid_298 rfl (lv_at hl 6 rfl) ?_
                                refine lv_iconst (v := 1) hx hb dL_isLaid_299 (by decide) ?_
                                refine lv_iload hx hb dL_isLaid_300 (lv_at hl 5 rfl) ?_
                                refine lv_iload hx hb dL_isLaid_302 (lv_at hl 4 rfl) ?_
                                refine lv_iload hx hb dL_isLaid_304 (lv_at hl 3 rfl) ?_
                                refine rCallLS (As := [.ref (gad G 0), .int 1, .int (nI x9), .int (nI y9), .int (nI v9)]) (rest := []) ⟨hx, hb, hml, hown, hts⟩ fx hw (d1_t2 l hlt G hG hF σ (pcv hA) ((nI x9)) ((nI y9)) ((nI v9)) (by rw [inB_y (show x9 < g by omega) (by omega), inB_y (show y9 < g by omega) (by omega)]; rfl) (rgt_n (by omega) (by omega) (by omega) (by omega))) (vx_cwSW 5 hts gL_isLaid_L_does rfl rfl rfl (by decide +kernel) ⟨Nat.le_of_ble_eq_true rfl, Nat.le_of_ble_eq_true rfl⟩) rfl hl.1 rfl (Nat.le_of_ble_eq_true rfl) dL_isLaid_306 ⟨Nat.le_trans (show _ ≤ 3 by omega) (Nat.le_of_ble_eq_true rfl), Nat.le_trans (show _ ≤ 20 by omega) (Nat.le_of_ble_eq_true rfl)⟩ (fun r_855 σ_856 H locs p_857 hw => ?_)
                                obtain ⟨er_855, eσ_856⟩ := p_857
                                have er_855 := er_855.symm; subst er_855
                                have eσ_856 := eσ_856.symm; subst eσ_856
                                refine lv_iload hx hb dL_isLaid_309 (lv_at hl 0 rfl) ?_
                                refine lv_icmp_ne (tgt := 318) hx hb dL_isLaid_311 (by decide) (fun c_858 => ?_) (fun c_858 => ?_)
                                · skip
                                  exact absurd c_858 (by decide)
                                · skip
                                  refine lv_iconst (v := 1) hx hb dL_isLaid_314 (by decide) ?_
                                  refine lv_goto (tgt := 319) hx hb dL_isLaid_315 (by decide) ?_
                                  exact rRetZw hx hb hr hw (by decide) (by exact ⟨rfl, po_same hA hGa⟩) hlocks dL_isLaid_319 (by omega) (by omega)
                              · skip
                                exact absurd c_854 (by decide)
                        · skip
                          exact absurd c_851 (by decide)
                      · skip
                        have c_850 : ¬ 101 ≤ v9 := fun h9 => c_850 ((nI_leI (by omega) (by omega)).mpr h9)
                        omega
    · skip
      exact absurd c_737 (by decide)
  · skip
    obtain ⟨s9, hs5, hs1, hs2, hnev⟩ := hst
    refine lv_iload hx hb dL_isLaid_0 (lv_at hl 4 rfl) ?_
    refine lv_if_ne (tgt := 111) hx hb dL_isLaid_2 (by decide) (fun c_859 => ?_) (fun c_859 => ?_)
    · skip
      refine lv_iload hx hb dL_isLaid_111 (lv_at hl 4 rfl) ?_
      refine lv_iconst (v := 1) hx hb dL_isLaid_113 (by decide) ?_
      refine lv_icmp_ne (tgt := 320) hx hb dL_isLaid_114 (by decide) (fun c_860 => ?_) (fun c_860 => ?_)
      · skip
        exact absurd c_860 (by decide)
      · skip
        refine lv_iload hx hb dL_isLaid_117 (lv_at hl 5 rfl) ?_
        refine lv_aload_n hx hb dL_isLaid_119 rfl (lv_at hl 3 rfl) ?_
        refine lv_iconst (v := 0) hx hb dL_isLaid_120 (by decide) ?_
        refine lv_rep0 (x := 0) (y := nI 0) rfl ?_
        refine rAld hx hb fx hw 33 (hF.1 33 (by decide)) hF.2.1 (fun _ => rfl) 0 rfl (by omega) (by decide) dL_isLaid_121 ?_
        refine lv_rep0 (x := (σ 33 0)) (y := (nI g)) (pg hA).1 ?_
        refine lv_iconst (v := 1) hx hb dL_isLaid_122 (by decide) ?_
        refine lv_rep0 (x := 1) (y := nI 1) rfl ?_
        refine lv_iadd hx hb dL_isLaid_123 ?_
        refine lv_rep0 (x := ((nI g) + (nI 1))) (y := nI (g + 1)) (nI_add _ _) ?_
        refine lv_irem hx hb dL_isLaid_124 (nI_ne0 (by omega) (by omega)) ?_
        refine lv_rep0 (y := nI (o % (g + 1))) (pk_rem (by omega) (by omega) (by omega)) ?_
        have hrm9 := Nat.mod_lt o (show 0 < (g + 1) by omega)
        refine lv_istore (lv' := [(8, .int (nI (o % (g + 1)))), (0, .ref (gad G 0)), (1, .ref (gad G 31)), (2, .ref (gad G 32)), (3, .ref (gad G 33)), (4, .int 1), (5, .int (nI o)), (6, .int (nI u)), (7, .int (nI v))]) hx hb dL_isLaid_125 hl (by decide) rfl (fun ls hl => ?_)
        have q_861 : (nI (o % (g + 1))) = (nI x9) := by rw [hx9]
        have hl : lv_has ls 14 [(8, .int (nI x9)), (0, .ref (gad G 0)), (1, .ref (gad G 31)), (2, .ref (gad G 32)), (3, .ref (gad G 33)), (4, .int 1), (5, .int (nI o)), (6, .int (nI u)), (7, .int (nI v))] := (lv_c (lv_atq hl 0 rfl q_861) (lv_c (lv_at hl 1 rfl) (lv_c (lv_at hl 2 rfl) (lv_c (lv_at hl 3 rfl) (lv_c (lv_at hl 4 rfl) (lv_c (lv_at hl 5 rfl) (lv_c (lv_at hl 6 rfl) (lv_c (lv_at hl 7 rfl) (lv_c (lv_at hl 8 rfl) (lv_c0 hl))))))))))
        refine lv_iload hx hb dL_isLaid_127 (lv_at hl 8 rfl) ?_
        refine lv_iconst (v := 3) hx hb dL_isLaid_129 (by decide) ?_
        refine lv_rep0 (x := 3) (y := nI 3) rfl ?_
        refine lv_irem hx hb dL_isLaid_130 (nI_ne0 (by omega) (by omega)) ?_
        refine lv_rep0 (y := nI (v % 3)) (pk_rem (by omega) (by omega) (by omega)) ?_
        refine lv_if_ne (tgt := 138) hx hb dL_isLaid_131 (by decide) (fun c_862 => ?_) (fun c_862 => ?_)
        · skip
          have c_862 : ¬ (v % 3) = 0 := n0_net (by omega) c_862
          refine lv_iload hx hb dL_isLaid_138 (lv_at hl 7 rfl) ?_
          refine lv_aload_n hx hb dL_isLaid_140 rfl (lv_at hl 4 rfl) ?_
          refine lv_iconst (v := 0) hx hb dL_isLaid_141 (by decide) ?_
          refine lv_rep0 (x := 0) (y := nI 0) rfl ?_
          refine rAld hx hb fx hw 33 (hF.1 33 (by decide)) hF.2.1 (fun _ => rfl) 0 rfl (by omega) (by decide) dL_isLaid_142 ?_
          refine lv_rep0 (x := (σ 33 0)) (y := (nI g)) (pg hA).1 ?_
          refine lv_iconst (v := 1) hx hb dL_isLaid_143 (by decide) ?_
          refine lv_rep0 (x := 1) (y := nI 1) rfl ?_
          refine lv_iadd hx hb dL_isLaid_144 ?_
          refine lv_rep0 (x := ((nI g) + (nI 1))) (y := nI (g + 1)) (nI_add _ _) ?_
          refine lv_irem hx hb dL_isLaid_145 (nI_ne0 (by omega) (by omega)) ?_
          refine lv_rep0 (y := nI (u % (g + 1))) (pk_rem (by omega) (by omega) (by omega)) ?_
          have hrm9 := Nat.mod_lt u (show 0 < (g + 1) by omega)
          refine lv_istore (lv' := [(9, .int (nI (u % (g + 1)))), (8, .int (nI x9)), (0, .ref (gad G 0)), (1, .ref (gad G 31)), (2, .ref (gad G 32)), (3, .ref (gad G 33)), (4, .int 1), (5, .int (nI o)), (6, .int (nI u)), (7, .int (nI v))]) hx hb dL_isLaid_146 hl (by decide) rfl (fun ls hl => ?_)
          have q_863 : (nI (u % (g + 1))) = (nI y9) := by first | (rw [hy9, if_pos (by omega)]; rfl) | rw [hy9, if_neg (by omega)]
          have hl : lv_has ls 14 [(9, .int (nI y9)), (8, .int (nI x9)), (0, .ref (gad G 0)), (1, .ref (gad G 31)), (2, .ref (gad G 32)), (3, .ref (gad G 33)), (4, .int 1), (5, .int (nI o)), (6, .int (nI u)), (7, .int (nI v))] := (lv_c (lv_atq hl 0 rfl q_863) (lv_c (lv_at hl 1 rfl) (lv_c (lv_at hl 2 rfl) (lv_c (lv_at hl 3 rfl) (lv_c (lv_at hl 4 rfl) (lv_c (lv_at hl 5 rfl) (lv_c (lv_at hl 6 rfl) (lv_c (lv_at hl 7 rfl) (lv_c (lv_at hl 8 rfl) (lv_c (lv_at hl 9 rfl) (lv_c0 hl)))))))))))
          refine lv_iload hx hb dL_isLaid_148 (lv_at hl 9 rfl) ?_
          refine lv_bipush (v := 103) hx hb dL_isLaid_150 (by decide) ?_
          refine lv_rep0 (x := 103) (y := nI 103) rfl ?_
          refine lv_irem hx hb dL_isLaid_152 (nI_ne0 (by omega) (by omega)) ?_
          refine lv_rep0 (y := nI (v % 103)) (pk_rem (by omega) (by omega) (by omega)) ?_
          refine lv_istore (lv' := [(10, .int (nI (v % 103))), (9, .int (nI y9)), (8, .int (nI x9)), (0, .ref (gad G 0)), (1, .ref (gad G 31)), (2, .ref (gad G 32)), (3, .ref (gad G 33)), (4, .int 1), (5, .int (nI o)), (6, .int (nI u)), (7, .int (nI v))]) hx hb dL_isLaid_153 hl (by decide) rfl (fun ls hl => ?_)
          have q_864 : (nI (v % 103)) = (nI v9) := by rw [hv9]
          have hl : lv_has ls 14 [(10, .int (nI v9)), (9, .int (nI y9)), (8, .int (nI x9)), (0, .ref (gad G 0)), (1, .ref (gad G 31)), (2, .ref (gad G 32)), (3, .ref (gad G 33)), (4, .int 1), (5, .int (nI o)), (6, .int (nI u)), (7, .int (nI v))] := (lv_c (lv_atq hl 0 rfl q_864) (lv_c (lv_at hl 1 rfl) (lv_c (lv_at hl 2 rfl) (lv_c (lv_at hl 3 rfl) (lv_c (lv_at hl 4 rfl) (lv_c (lv_at hl 5 rfl) (lv_c (lv_at hl 6 rfl) (lv_c (lv_at hl 7 rfl) (lv_c (lv_at hl 8 rfl) (lv_c (lv_at hl 9 rfl) (lv_c (lv_at hl 10 rfl) (lv_c0 hl))))))))))))
          refine lv_iload hx hb dL_isLaid_155 (lv_at hl 2 rfl) ?_
          refine lv_aload_n hx hb dL_isLaid_157 rfl (lv_at hl 6 rfl) ?_
          refine lv_iconst (v := 0) hx hb dL_isLaid_158 (by decide) ?_
          refine lv_rep0 (x := 0) (y := nI 0) rfl ?_
          refine rAld hx hb fx hw 33 (hF.1 33 (by decide)) hF.2.1 (fun _ => rfl) 0 rfl (by omega) (by decide) dL_isLaid_159 ?_
          refine lv_rep0 (x := (σ 33 0)) (y := (nI g)) (pg hA).1 ?_
          refine lv_icmp_ge (tgt := 175) hx hb dL_isLaid_160 (by decide) (fun c_865 => ?_) (fun c_865 => ?_)
          · skip
            have c_865 : g ≤ x9 := (nI_leI (by omega) (by omega)).mp c_865
            omega
          · skip
            have c_865 : ¬ g ≤ x9 := fun h9 => c_865 ((nI_leI (by omega) (by omega)).mpr h9)
            refine lv_iload hx hb dL_isLaid_163 (lv_at hl 1 rfl) ?_
            refine lv_aload_n hx hb dL_isLaid_165 rfl (lv_at hl 6 rfl) ?_
            refine lv_iconst (v := 0) hx hb dL_isLaid_166 (by decide) ?_
            refine lv_rep0 (x := 0) (y := nI 0) rfl ?_
            refine rAld hx hb fx hw 33 (hF.1 33 (by decide)) hF.2.1 (fun _ => rfl) 0 rfl (by omega) (by decide) dL_isLaid_167 ?_
            refine lv_rep0 (x := (σ 33 0)) (y := (nI g)) (pg hA).1 ?_
            refine lv_icmp_ge (tgt := 175) hx hb dL_isLaid_168 (by decide) (fun c_866 => ?_) (fun c_866 => ?_)
            · skip
              have c_866 : g ≤ y9 := (nI_leI (by omega) (by omega)).mp c_866
              omega
            · skip
              have c_866 : ¬ g ≤ y9 := fun h9 => c_866 ((nI_leI (by omega) (by omega)).mpr h9)
              refine lv_iconst (v := 1) hx hb dL_isLaid_171 (by decide) ?_
              refine lv_goto (tgt := 176) hx hb dL_isLaid_172 (by decide) ?_
              refine lv_istore (lv' := [(11, .int 1), (10, .int (nI v9)), (9, .int (nI y9)), (8, .int (nI x9)), (0, .ref (gad G 0)), (1, .ref (gad G 31)), (2, .ref (gad G 32)), (3, .ref (gad G 33)), (4, .int 1), (5, .int (nI o)), (6, .int (nI u)), (7, .int (nI v))]) hx hb dL_isLaid_176 hl (by decide) rfl (fun ls hl => ?_)
              refine lv_iload hx hb dL_isLaid_178 (lv_at hl 2 rfl) ?_
              refine lv_iload hx hb dL_isLaid_180 (lv_at hl 3 rfl) ?_
              refine lv_icmp_gt (tgt := 195) hx hb dL_isLaid_182 (by decide) (fun c_867 => ?_) (fun c_867 => ?_)
              · skip
                have c_867 : x9 < y9 := (nI_ltI (by omega) (by omega)).mp c_867
                refine lv_iload hx hb dL_isLaid_195 (lv_at hl 1 rfl) ?_
                refine lv_if_le (tgt := 211) hx hb dL_isLaid_197 (by decide) (fun c_868 => ?_) (fun c_868 => ?_)
                · skip
                  have c_868 : v9 = 0 := n0_let (by omega) c_868
                  omega
                · skip
                  have c_868 : 0 < v9 := n0_lef (by omega) c_868
                  refine lv_iload hx hb dL_isLaid_200 (lv_at hl 1 rfl) ?_
                  refine lv_bipush (v := 101) hx hb dL_isLaid_202 (by decide) ?_
                  refine lv_rep0 (x := 101) (y := nI 101) rfl ?_
                  refine lv_icmp_ge (tgt := 211) hx hb dL_isLaid_204 (by decide) (fun c_869 => ?_) (fun c_869 => ?_)
                  · skip
                    have c_869 : 101 ≤ v9 := (nI_leI (by omega) (by omega)).mp c_869
                    omega
                  · skip
                    have c_869 : ¬ 101 ≤ v9 := fun h9 => c_869 ((nI_leI (by omega) (by omega)).mpr h9)
                    refine lv_iconst (v := 1) hx hb dL_isLaid_207 (by decide) ?_
                    refine lv_goto (tgt := 212) hx hb dL_isLaid_208 (by decide) ?_
                    refine lv_istore (lv' := [(12, .int 1), (11, .int 1), (10, .int (nI v9)), (9, .int (nI y9)), (8, .int (nI x9)), (0, .ref (gad G 0)), (1, .ref (gad G 31)), (2, .ref (gad G 32)), (3, .ref (gad G 33)), (4, .int 1), (5, .int (nI o)), (6, .int (nI u)), (7, .int (nI v))]) hx hb dL_isLaid_212 hl (by decide) rfl (fun ls hl => ?_)
                    refine lv_iload hx hb dL_isLaid_214 (lv_at hl 1 rfl) ?_
                    refine lv_if_ne (tgt := 224) hx hb dL_isLaid_216 (by decide) (fun c_870 => ?_) (fun c_870 => ?_)
                    · skip
                      refine lv_iload hx hb dL_isLaid_224 (lv_at hl 0 rfl) ?_
                      refine lv_if_ne (tgt := 234) hx hb dL_isLaid_226 (by decide) (fun c_871 => ?_) (fun c_871 => ?_)
                      · skip
                        refine lv_aload_n hx hb dL_isLaid_234 rfl (lv_at hl 8 rfl) ?_
                        refine lv_iconst (v := 5) hx hb dL_isLaid_235 (by decide) ?_
                        refine lv_rep0 (x := 5) (y := nI 5) rfl ?_
                        refine rAld hx hb fx hw 33 (hF.1 33 (by decide)) hF.2.1 (fun _ => rfl) 5 rfl (by omega) (by decide) dL_isLaid_236 ?_
                        refine lv_rep0 (x := (σ 33 5)) (y := (nI s9)) hs5 ?_
                        refine lv_if_le (tgt := 245) hx hb dL_isLaid_237 (by decide) (fun c_872 => ?_) (fun c_872 => ?_)
                        · skip
                          have c_872 : s9 = 0 := n0_let (by omega) c_872
                          omega
                        · skip
                          have c_872 : 0 < s9 := n0_lef (by omega) c_872
                          refine lv_bipush (v := (-10)) hx hb dL_isLaid_240 (by decide) ?_
                          refine lv_goto (tgt := 268) hx hb dL_isLaid_242 (by decide) ?_
                          refine lv_istore (lv' := [(13, .int (-10)), (12, .int 1), (11, .int 1), (10, .int (nI v9)), (9, .int (nI y9)), (8, .int (nI x9)), (0, .ref (gad G 0)), (1, .ref (gad G 31)), (2, .ref (gad G 32)), (3, .ref (gad G 33)), (4, .int 1), (5, .int (nI o)), (6, .int (nI u)), (7, .int (nI v))]) hx hb dL_isLaid_268 hl (by decide) rfl (fun ls hl => ?_)
                          refine lv_iload hx hb dL_isLaid_270 (lv_at hl 2 rfl) ?_
                          refine lv_if_eq (tgt := 298) hx hb dL_isLaid_272 (by decide) (fun c_873 => ?_) (fun c_873 => ?_)
                          · skip
                            exact absurd c_873 (by decide)
                          · skip
                            refine lv_iload hx hb dL_isLaid_275 (lv_at hl 1 rfl) ?_
                            refine lv_if_eq (tgt := 298) hx hb dL_isLaid_277 (by decide) (fun c_874 => ?_) (fun c_874 => ?_)
                            · skip
                              exact absurd c_874 (by decide)
                            · skip
                              refine lv_aload_n hx hb dL_isLaid_280 rfl (lv_at hl 9 rfl) ?_
                              refine lv_iconst (v := 5) hx hb dL_isLaid_281 (by decide) ?_
                              refine lv_rep0 (x := 5) (y := nI 5) rfl ?_
                              refine rAld hx hb fx hw 33 (hF.1 33 (by decide)) hF.2.1 (fun _ => rfl) 5 rfl (by omega) (by decide) dL_isLaid_282 ?_
                              refine lv_rep0 (x := (σ 33 5)) (y := (nI s9)) hs5 ?_
                              refine lv_if_ne (tgt := 298) hx hb dL_isLaid_283 (by decide) (fun c_875 => ?_) (fun c_875 => ?_)
                              · skip
                                have c_875 : ¬ s9 = 0 := n0_net (by omega) c_875
                                refine lv_aload_n hx hb dL_isLaid_298 rfl (lv_at hl 6 rfl) ?_
                                refine lv_iconst (v := 1) hx hb dL_isLaid_299 (by decide) ?_
                                refine lv_iload hx hb dL_isLaid_300 (lv_at hl 5 rfl) ?_
                                refine lv_iload hx hb dL_isLaid_302 (lv_at hl 4 rfl) ?_
                                refine lv_iload hx hb dL_isLaid_304 (lv_at hl 3 rfl) ?_
                                refine rCallLS (As := [.ref (gad G 0), .int 1, .int (nI x9), .int (nI y9), .int (nI v9)]) (rest := []) ⟨hx, hb, hml, hown, hts⟩ fx hw (d1_t3 l hlt G hG hF σ (pcv hA) ((nI x9)) ((nI y9)) ((nI v9)) (by rw [inB_y (show x9 < g by omega) (by omega), inB_y (show y9 < g by omega) (by omega)]; rfl) (rgt_y (by omega) (by omega) (by omega) (by omega) (by omega)) hnev) (vx_cwSW 5 hts gL_isLaid_L_does rfl rfl rfl (by decide +kernel) ⟨Nat.le_of_ble_eq_true rfl, Nat.le_of_ble_eq_true rfl⟩) rfl hl.1 rfl (Nat.le_of_ble_eq_true rfl) dL_isLaid_306 ⟨Nat.le_trans (show _ ≤ 3 by omega) (Nat.le_of_ble_eq_true rfl), Nat.le_trans (show _ ≤ 20 by omega) (Nat.le_of_ble_eq_true rfl)⟩ (fun r_876 σ_877 H locs p_878 hw => ?_)
                                obtain ⟨er_876, eσ_877⟩ := p_878
                                have er_876 := er_876.symm; subst er_876
                                have eσ_877 := eσ_877.symm; subst eσ_877
                                refine lv_iload hx hb dL_isLaid_309 (lv_at hl 0 rfl) ?_
                                refine lv_icmp_ne (tgt := 318) hx hb dL_isLaid_311 (by decide) (fun c_879 => ?_) (fun c_879 => ?_)
                                · skip
                                  exact absurd c_879 (by decide)
                                · skip
                                  refine lv_iconst (v := 1) hx hb dL_isLaid_314 (by decide) ?_
                                  refine lv_goto (tgt := 319) hx hb dL_isLaid_315 (by decide) ?_
                                  exact rRetZw hx hb hr hw (by decide) (by exact ⟨rfl, po_same hA hGa⟩) hlocks dL_isLaid_319 (by omega) (by omega)
                              · skip
                                have c_875 : s9 = 0 := n0_nef (by omega) c_875
                                omega
                      · skip
                        exact absurd c_871 (by decide)
                    · skip
                      exact absurd c_870 (by decide)
              · skip
                have c_867 : ¬ x9 < y9 := fun h9 => c_867 ((nI_ltI (by omega) (by omega)).mpr h9)
                refine lv_iload hx hb dL_isLaid_185 (lv_at hl 2 rfl) ?_
                refine lv_if_ne (tgt := 211) hx hb dL_isLaid_187 (by decide) (fun c_880 => ?_) (fun c_880 => ?_)
                · skip
                  have c_880 : ¬ y9 = 0 := n0_net (by omega) c_880
                  omega
                · skip
                  have c_880 : y9 = 0 := n0_nef (by omega) c_880
                  refine lv_iload hx hb dL_isLaid_190 (lv_at hl 3 rfl) ?_
                  refine lv_if_le (tgt := 211) hx hb dL_isLaid_192 (by decide) (fun c_881 => ?_) (fun c_881 => ?_)
                  · skip
                    have c_881 : x9 = 0 := n0_let (by omega) c_881
                    omega
                  · skip
                    have c_881 : 0 < x9 := n0_lef (by omega) c_881
                    refine lv_iload hx hb dL_isLaid_195 (lv_at hl 1 rfl) ?_
                    refine lv_if_le (tgt := 211) hx hb dL_isLaid_197 (by decide) (fun c_882 => ?_) (fun c_882 => ?_)
                    · skip
                      have c_882 : v9 = 0 := n0_let (by omega) c_882
                      omega
                    · skip
                      have c_882 : 0 < v9 := n0_lef (by omega) c_882
                      refine lv_iload hx hb dL_isLaid_200 (lv_at hl 1 rfl) ?_
                      refine lv_bipush (v := 101) hx hb dL_isLaid_202 (by decide) ?_
                      refine lv_rep0 (x := 101) (y := nI 101) rfl ?_
                      refine lv_icmp_ge (tgt := 211) hx hb dL_isLaid_204 (by decide) (fun c_883 => ?_) (fun c_883 => ?_)
                      · skip
                        have c_883 : 101 ≤ v9 := (nI_leI (by omega) (by omega)).mp c_883
                        omega
                      · skip
                        have c_883 : ¬ 101 ≤ v9 := fun h9 => c_883 ((nI_leI (by omega) (by omega)).mpr h9)
                        refine lv_iconst (v := 1) hx hb dL_isLaid_207 (by decide) ?_
                        refine lv_goto (tgt := 212) hx hb dL_isLaid_208 (by decide) ?_
                        refine lv_istore (lv' := [(12, .int 1), (11, .int 1), (10, .int (nI v9)), (9, .int (nI y9)), (8, .int (nI x9)), (0, .ref (gad G 0)), (1, .ref (gad G 31)), (2, .ref (gad G 32)), (3, .ref (gad G 33)), (4, .int 1), (5, .int (nI o)), (6, .int (nI u)), (7, .int (nI v))]) hx hb dL_isLaid_212 hl (by decide) rfl (fun ls hl => ?_)
                        refine lv_iload hx hb dL_isLaid_214 (lv_at hl 1 rfl) ?_
                        refine lv_if_ne (tgt := 224) hx hb dL_isLaid_216 (by decide) (fun c_884 => ?_) (fun c_884 => ?_)
                        · skip
                          refine lv_iload hx hb dL_isLaid_224 (lv_at hl 0 rfl) ?_
                          refine lv_if_ne (tgt := 234) hx hb dL_isLaid_226 (by decide) (fun c_885 => ?_) (fun c_885 => ?_)
                          · skip
                            refine lv_aload_n hx hb dL_isLaid_234 rfl (lv_at hl 8 rfl) ?_
                            refine lv_iconst (v := 5) hx hb dL_isLaid_235 (by decide) ?_
                            refine lv_rep0 (x := 5) (y := nI 5) rfl ?_
                            refine rAld hx hb fx hw 33 (hF.1 33 (by decide)) hF.2.1 (fun _ => rfl) 5 rfl (by omega) (by decide) dL_isLaid_236 ?_
                            refine lv_rep0 (x := (σ 33 5)) (y := (nI s9)) hs5 ?_
                            refine lv_if_le (tgt := 245) hx hb dL_isLaid_237 (by decide) (fun c_886 => ?_) (fun c_886 => ?_)
                            · skip
                              have c_886 : s9 = 0 := n0_let (by omega) c_886
                              omega
                            · skip
                              have c_886 : 0 < s9 := n0_lef (by omega) c_886
                              refine lv_bipush (v := (-10)) hx hb dL_isLaid_240 (by decide) ?_
                              refine lv_goto (tgt := 268) hx hb dL_isLaid_242 (by decide) ?_
                              refine lv_istore (lv' := [(13, .int (-10)), (12, .int 1), (11, .int 1), (10, .int (nI v9)), (9, .int (nI y9)), (8, .int (nI x9)), (0, .ref (gad G 0)), (1, .ref (gad G 31)), (2, .ref (gad G 32)), (3, .ref (gad G 33)), (4, .int 1), (5, .int (nI o)), (6, .int (nI u)), (7, .int (nI v))]) hx hb dL_isLaid_268 hl (by decide) rfl (fun ls hl => ?_)
                              refine lv_iload hx hb dL_isLaid_270 (lv_at hl 2 rfl) ?_
                              refine lv_if_eq (tgt := 298) hx hb dL_isLaid_272 (by decide) (fun c_887 => ?_) (fun c_887 => ?_)
                              · skip
                                exact absurd c_887 (by decide)
                              · skip
                                refine lv_iload hx hb dL_isLaid_275 (lv_at hl 1 rfl) ?_
                                refine lv_if_eq (tgt := 298) hx hb dL_isLaid_277 (by decide) (fun c_888 => ?_) (fun c_888 => ?_)
                                · skip
                                  exact absurd c_888 (by decide)
                                · skip
                                  refine lv_aload_n hx hb dL_isLaid_280 rfl (lv_at hl 9 rfl) ?_
                                  refine lv_iconst (v := 5) hx hb dL_isLaid_281 (by decide) ?_
                                  refine lv_rep0 (x := 5) (y := nI 5) rfl ?_
                                  refine rAld hx hb fx hw 33 (hF.1 33 (by decide)) hF.2.1 (fun _ => rfl) 5 rfl (by omega) (by decide) dL_isLaid_282 ?_
                                  refine lv_rep0 (x := (σ 33 5)) (y := (nI s9)) hs5 ?_
                                  refine lv_if_ne (tgt := 298) hx hb dL_isLaid_283 (by decide) (fun c_889 => ?_) (fun c_889 => ?_)
                                  · skip
                                    have c_889 : ¬ s9 = 0 := n0_net (by omega) c_889
                                    refine lv_aload_n hx hb dL_isLaid_298 rfl (lv_at hl 6 rfl) ?_
                                    refine lv_iconst (v := 1) hx hb dL_isLaid_299 (by decide) ?_
                                    refine lv_iload hx hb dL_isLaid_300 (lv_at hl 5 rfl) ?_
                                    refine lv_iload hx hb dL_isLaid_302 (lv_at hl 4 rfl) ?_
                                    refine lv_iload hx hb dL_isLaid_304 (lv_at hl 3 rfl) ?_
                                    refine rCallLS (As := [.ref (gad G 0), .int 1, .int (nI x9), .int (nI y9), .int (nI v9)]) (rest := []) ⟨hx, hb, hml, hown, hts⟩ fx hw (d1_t3 l hlt G hG hF σ (pcv hA) ((nI x9)) ((nI y9)) ((nI v9)) (by rw [inB_y (show x9 < g by omega) (by omega), inB_y (show y9 < g by omega) (by omega)]; rfl) (rgt_y (by omega) (by omega) (by omega) (by omega) (by omega)) hnev) (vx_cwSW 5 hts gL_isLaid_L_does rfl rfl rfl (by decide +kernel) ⟨Nat.le_of_ble_eq_true rfl, Nat.le_of_ble_eq_true rfl⟩) rfl hl.1 rfl (Nat.le_of_ble_eq_true rfl) dL_isLaid_306 ⟨Nat.le_trans (show _ ≤ 3 by omega) (Nat.le_of_ble_eq_true rfl), Nat.le_trans (show _ ≤ 20 by omega) (Nat.le_of_ble_eq_true rfl)⟩ (fun r_890 σ_891 H locs p_892 hw => ?_)
                                    obtain ⟨er_890, eσ_891⟩ := p_892
                                    have er_890 := er_890.symm; subst er_890
                                    have eσ_891 := eσ_891.symm; subst eσ_891
                                    refine lv_iload hx hb dL_isLaid_309 (lv_at hl 0 rfl) ?_
                                    refine lv_icmp_ne (tgt := 318) hx hb dL_isLaid_311 (by decide) (fun c_893 => ?_) (fun c_893 => ?_)
                                    · skip
                                      exact absurd c_893 (by decide)
                                    · skip
                                      refine lv_iconst (v := 1) hx hb dL_isLaid_314 (by decide) ?_
                                      refine lv_goto (tgt := 319) hx hb dL_isLaid_315 (by decide) ?_
                                      exact rRetZw hx hb hr hw (by decide) (by exact ⟨rfl, po_same hA hGa⟩) hlocks dL_isLaid_319 (by omega) (by omega)
                                  · skip
                                    have c_889 : s9 = 0 := n0_nef (by omega) c_889
                                    omega
                          · skip
                            exact absurd c_885 (by decide)
                        · skip
                          exact absurd c_884 (by decide)
        · skip
          have c_862 : (v % 3) = 0 := n0_nef (by omega) c_862
          refine lv_iconst (v := 0) hx hb dL_isLaid_134 (by decide) ?_
          refine lv_goto (tgt := 146) hx hb dL_isLaid_135 (by decide) ?_
          refine lv_istore (lv' := [(9, .int 0), (8, .int (nI x9)), (0, .ref (gad G 0)), (1, .ref (gad G 31)), (2, .ref (gad G 32)), (3, .ref (gad G 33)), (4, .int 1), (5, .int (nI o)), (6, .int (nI u)), (7, .int (nI v))]) hx hb dL_isLaid_146 hl (by decide) rfl (fun ls hl => ?_)
          have q_894 : 0 = (nI y9) := by first | (rw [hy9, if_pos (by omega)]; rfl) | rw [hy9, if_neg (by omega)]
          have hl : lv_has ls 14 [(9, .int (nI y9)), (8, .int (nI x9)), (0, .ref (gad G 0)), (1, .ref (gad G 31)), (2, .ref (gad G 32)), (3, .ref (gad G 33)), (4, .int 1), (5, .int (nI o)), (6, .int (nI u)), (7, .int (nI v))] := (lv_c (lv_atq hl 0 rfl q_894) (lv_c (lv_at hl 1 rfl) (lv_c (lv_at hl 2 rfl) (lv_c (lv_at hl 3 rfl) (lv_c (lv_at hl 4 rfl) (lv_c (lv_at hl 5 rfl) (lv_c (lv_at hl 6 rfl) (lv_c (lv_at hl 7 rfl) (lv_c (lv_at hl 8 rfl) (lv_c (lv_at hl 9 rfl) (lv_c0 hl)))))))))))
          refine lv_iload hx hb dL_isLaid_148 (lv_at hl 9 rfl) ?_
          refine lv_bipush (v := 103) hx hb dL_isLaid_150 (by decide) ?_
          refine lv_rep0 (x := 103) (y := nI 103) rfl ?_
          refine lv_irem hx hb dL_isLaid_152 (nI_ne0 (by omega) (by omega)) ?_
          refine lv_rep0 (y := nI (v % 103)) (pk_rem (by omega) (by omega) (by omega)) ?_
          refine lv_istore (lv' := [(10, .int (nI (v % 103))), (9, .int (nI y9)), (8, .int (nI x9)), (0, .ref (gad G 0)), (1, .ref (gad G 31)), (2, .ref (gad G 32)), (3, .ref (gad G 33)), (4, .int 1), (5, .int (nI o)), (6, .int (nI u)), (7, .int (nI v))]) hx hb dL_isLaid_153 hl (by decide) rfl (fun ls hl => ?_)
          have q_895 : (nI (v % 103)) = (nI v9) := by rw [hv9]
          have hl : lv_has ls 14 [(10, .int (nI v9)), (9, .int (nI y9)), (8, .int (nI x9)), (0, .ref (gad G 0)), (1, .ref (gad G 31)), (2, .ref (gad G 32)), (3, .ref (gad G 33)), (4, .int 1), (5, .int (nI o)), (6, .int (nI u)), (7, .int (nI v))] := (lv_c (lv_atq hl 0 rfl q_895) (lv_c (lv_at hl 1 rfl) (lv_c (lv_at hl 2 rfl) (lv_c (lv_at hl 3 rfl) (lv_c (lv_at hl 4 rfl) (lv_c (lv_at hl 5 rfl) (lv_c (lv_at hl 6 rfl) (lv_c (lv_at hl 7 rfl) (lv_c (lv_at hl 8 rfl) (lv_c (lv_at hl 9 rfl) (lv_c (lv_at hl 10 rfl) (lv_c0 hl))))))))))))
          refine lv_iload hx hb dL_isLaid_155 (lv_at hl 2 rfl) ?_
          refine lv_aload_n hx hb dL_isLaid_157 rfl (lv_at hl 6 rfl) ?_
          refine lv_iconst (v := 0) hx hb dL_isLaid_158 (by decide) ?_
          refine lv_rep0 (x := 0) (y := nI 0) rfl ?_
          refine rAld hx hb fx hw 33 (hF.1 33 (by decide)) hF.2.1 (fun _ => rfl) 0 rfl (by omega) (by decide) dL_isLaid_159 ?_
          refine lv_rep0 (x := (σ 33 0)) (y := (nI g)) (pg hA).1 ?_
          refine lv_icmp_ge (tgt := 175) hx hb dL_isLaid_160 (by decide) (fun c_896 => ?_) (fun c_896 => ?_)
          · skip
            have c_896 : g ≤ x9 := (nI_leI (by omega) (by omega)).mp c_896
            omega
          · skip
            have c_896 : ¬ g ≤ x9 := fun h9 => c_896 ((nI_leI (by omega) (by omega)).mpr h9)
            refine lv_iload hx hb dL_isLaid_163 (lv_at hl 1 rfl) ?_
            refine lv_aload_n hx hb dL_isLaid_165 rfl (lv_at hl 6 rfl) ?_
            refine lv_iconst (v := 0) hx hb dL_isLaid_166 (by decide) ?_
            refine lv_rep0 (x := 0) (y := nI 0) rfl ?_
            refine rAld hx hb fx hw 33 (hF.1 33 (by decide)) hF.2.1 (fun _ => rfl) 0 rfl (by omega) (by decide) dL_isLaid_167 ?_
            refine lv_rep0 (x := (σ 33 0)) (y := (nI g)) (pg hA).1 ?_
            refine lv_icmp_ge (tgt := 175) hx hb dL_isLaid_168 (by decide) (fun c_897 => ?_) (fun c_897 => ?_)
            · skip
              have c_897 : g ≤ y9 := (nI_leI (by omega) (by omega)).mp c_897
              omega
            · skip
              have c_897 : ¬ g ≤ y9 := fun h9 => c_897 ((nI_leI (by omega) (by omega)).mpr h9)
              refine lv_iconst (v := 1) hx hb dL_isLaid_171 (by decide) ?_
              refine lv_goto (tgt := 176) hx hb dL_isLaid_172 (by decide) ?_
              refine lv_istore (lv' := [(11, .int 1), (10, .int (nI v9)), (9, .int (nI y9)), (8, .int (nI x9)), (0, .ref (gad G 0)), (1, .ref (gad G 31)), (2, .ref (gad G 32)), (3, .ref (gad G 33)), (4, .int 1), (5, .int (nI o)), (6, .int (nI u)), (7, .int (nI v))]) hx hb dL_isLaid_176 hl (by decide) rfl (fun ls hl => ?_)
              refine lv_iload hx hb dL_isLaid_178 (lv_at hl 2 rfl) ?_
              refine lv_iload hx hb dL_isLaid_180 (lv_at hl 3 rfl) ?_
              refine lv_icmp_gt (tgt := 195) hx hb dL_isLaid_182 (by decide) (fun c_898 => ?_) (fun c_898 => ?_)
              · skip
                have c_898 : x9 < y9 := (nI_ltI (by omega) (by omega)).mp c_898
                refine lv_iload hx hb dL_isLaid_195 (lv_at hl 1 rfl) ?_
                refine lv_if_le (tgt := 211) hx hb dL_isLaid_197 (by decide) (fun c_899 => ?_) (fun c_899 => ?_)
                · skip
                  have c_899 : v9 = 0 := n0_let (by omega) c_899
                  omega
                · skip
                  have c_899 : 0 < v9 := n0_lef (by omega) c_899
                  refine lv_iload hx hb dL_isLaid_200 (lv_at hl 1 rfl) ?_
                  refine lv_bipush (v := 101) hx hb dL_isLaid_202 (by decide) ?_
                  refine lv_rep0 (x := 101) (y := nI 101) rfl ?_
                  refine lv_icmp_ge (tgt := 211) hx hb dL_isLaid_204 (by decide) (fun c_900 => ?_) (fun c_900 => ?_)
                  · skip
                    have c_900 : 101 ≤ v9 := (nI_leI (by omega) (by omega)).mp c_900
                    omega
                  · skip
                    have c_900 : ¬ 101 ≤ v9 := fun h9 => c_900 ((nI_leI (by omega) (by omega)).mpr h9)
                    refine lv_iconst (v := 1) hx hb dL_isLaid_207 (by decide) ?_
                    refine lv_goto (tgt := 212) hx hb dL_isLaid_208 (by decide) ?_
                    refine lv_istore (lv' := [(12, .int 1), (11, .int 1), (10, .int (nI v9)), (9, .int (nI y9)), (8, .int (nI x9)), (0, .ref (gad G 0)), (1, .ref (gad G 31)), (2, .ref (gad G 32)), (3, .ref (gad G 33)), (4, .int 1), (5, .int (nI o)), (6, .int (nI u)), (7, .int (nI v))]) hx hb dL_isLaid_212 hl (by decide) rfl (fun ls hl => ?_)
                    refine lv_iload hx hb dL_isLaid_214 (lv_at hl 1 rfl) ?_
                    refine lv_if_ne (tgt := 224) hx hb dL_isLaid_216 (by decide) (fun c_901 => ?_) (fun c_901 => ?_)
                    · skip
                      refine lv_iload hx hb dL_isLaid_224 (lv_at hl 0 rfl) ?_
                      refine lv_if_ne (tgt := 234) hx hb dL_isLaid_226 (by decide) (fun c_902 => ?_) (fun c_902 => ?_)
                      · skip
                        refine lv_aload_n hx hb dL_isLaid_234 rfl (lv_at hl 8 rfl) ?_
                        refine lv_iconst (v := 5) hx hb dL_isLaid_235 (by decide) ?_
                        refine lv_rep0 (x := 5) (y := nI 5) rfl ?_
                        refine rAld hx hb fx hw 33 (hF.1 33 (by decide)) hF.2.1 (fun _ => rfl) 5 rfl (by omega) (by decide) dL_isLaid_236 ?_
                        refine lv_rep0 (x := (σ 33 5)) (y := (nI s9)) hs5 ?_
                        refine lv_if_le (tgt := 245) hx hb dL_isLaid_237 (by decide) (fun c_903 => ?_) (fun c_903 => ?_)
                        · skip
                          have c_903 : s9 = 0 := n0_let (by omega) c_903
                          omega
                        · skip
                          have c_903 : 0 < s9 := n0_lef (by omega) c_903
                          refine lv_bipush (v := (-10)) hx hb dL_isLaid_240 (by decide) ?_
                          refine lv_goto (tgt := 268) hx hb dL_isLaid_242 (by decide) ?_
                          refine lv_istore (lv' := [(13, .int (-10)), (12, .int 1), (11, .int 1), (10, .int (nI v9)), (9, .int (nI y9)), (8, .int (nI x9)), (0, .ref (gad G 0)), (1, .ref (gad G 31)), (2, .ref (gad G 32)), (3, .ref (gad G 33)), (4, .int 1), (5, .int (nI o)), (6, .int (nI u)), (7, .int (nI v))]) hx hb dL_isLaid_268 hl (by decide) rfl (fun ls hl => ?_)
                          refine lv_iload hx hb dL_isLaid_270 (lv_at hl 2 rfl) ?_
                          refine lv_if_eq (tgt := 298) hx hb dL_isLaid_272 (by decide) (fun c_904 => ?_) (fun c_904 => ?_)
                          · skip
                            exact absurd c_904 (by decide)
                          · skip
                            refine lv_iload hx hb dL_isLaid_275 (lv_at hl 1 rfl) ?_
                            refine lv_if_eq (tgt := 298) hx hb dL_isLaid_277 (by decide) (fun c_905 => ?_) (fun c_905 => ?_)
                            · skip
                              exact absurd c_905 (by decide)
                            · skip
                              refine lv_aload_n hx hb dL_isLaid_280 rfl (lv_at hl 9 rfl) ?_
                              refine lv_iconst (v := 5) hx hb dL_isLaid_281 (by decide) ?_
                              refine lv_rep0 (x := 5) (y := nI 5) rfl ?_
                              refine rAld hx hb fx hw 33 (hF.1 33 (by decide)) hF.2.1 (fun _ => rfl) 5 rfl (by omega) (by decide) dL_isLaid_282 ?_
                              refine lv_rep0 (x := (σ 33 5)) (y := (nI s9)) hs5 ?_
                              refine lv_if_ne (tgt := 298) hx hb dL_isLaid_283 (by decide) (fun c_906 => ?_) (fun c_906 => ?_)
                              · skip
                                have c_906 : ¬ s9 = 0 := n0_net (by omega) c_906
                                refine lv_aload_n hx hb dL_isLaid_298 rfl (lv_at hl 6 rfl) ?_
                                refine lv_iconst (v := 1) hx hb dL_isLaid_299 (by decide) ?_
                                refine lv_iload hx hb dL_isLaid_300 (lv_at hl 5 rfl) ?_
                                refine lv_iload hx hb dL_isLaid_302 (lv_at hl 4 rfl) ?_
                                refine lv_iload hx hb dL_isLaid_304 (lv_at hl 3 rfl) ?_
                                refine rCallLS (As := [.ref (gad G 0), .int 1, .int (nI x9), .int (nI y9), .int (nI v9)]) (rest := []) ⟨hx, hb, hml, hown, hts⟩ fx hw (d1_t3 l hlt G hG hF σ (pcv hA) ((nI x9)) ((nI y9)) ((nI v9)) (by rw [inB_y (show x9 < g by omega) (by omega), inB_y (show y9 < g by omega) (by omega)]; rfl) (rgt_y (by omega) (by omega) (by omega) (by omega) (by omega)) hnev) (vx_cwSW 5 hts gL_isLaid_L_does rfl rfl rfl (by decide +kernel) ⟨Nat.le_of_ble_eq_true rfl, Nat.le_of_ble_eq_true rfl⟩) rfl hl.1 rfl (Nat.le_of_ble_eq_true rfl) dL_isLaid_306 ⟨Nat.le_trans (show _ ≤ 3 by omega) (Nat.le_of_ble_eq_true rfl), Nat.le_trans (show _ ≤ 20 by omega) (Nat.le_of_ble_eq_true rfl)⟩ (fun r_907 σ_908 H locs p_909 hw => ?_)
                                obtain ⟨er_907, eσ_908⟩ := p_909
                                have er_907 := er_907.symm; subst er_907
                                have eσ_908 := eσ_908.symm; subst eσ_908
                                refine lv_iload hx hb dL_isLaid_309 (lv_at hl 0 rfl) ?_
                                refine lv_icmp_ne (tgt := 318) hx hb dL_isLaid_311 (by decide) (fun c_910 => ?_) (fun c_910 => ?_)
                                · skip
                                  exact absurd c_910 (by decide)
                                · skip
                                  refine lv_iconst (v := 1) hx hb dL_isLaid_314 (by decide) ?_
                                  refine lv_goto (tgt := 319) hx hb dL_isLaid_315 (by decide) ?_
                                  exact rRetZw hx hb hr hw (by decide) (by exact ⟨rfl, po_same hA hGa⟩) hlocks dL_isLaid_319 (by omega) (by omega)
                              · skip
                                have c_906 : s9 = 0 := n0_nef (by omega) c_906
                                omega
                      · skip
                        exact absurd c_902 (by decide)
                    · skip
                      exact absurd c_901 (by decide)
              · skip
                have c_898 : ¬ x9 < y9 := fun h9 => c_898 ((nI_ltI (by omega) (by omega)).mpr h9)
                refine lv_iload hx hb dL_isLaid_185 (lv_at hl 2 rfl) ?_
                refine lv_if_ne (tgt := 211) hx hb dL_isLaid_187 (by decide) (fun c_911 => ?_) (fun c_911 => ?_)
                · skip
                  have c_911 : ¬ y9 = 0 := n0_net (by omega) c_911
                  omega
                · skip
                  have c_911 : y9 = 0 := n0_nef (by omega) c_911
                  refine lv_iload hx hb dL_isLaid_190 (lv_at hl 3 rfl) ?_
                  refine lv_if_le (tgt := 211) hx hb dL_isLaid_192 (by decide) (fun c_912 => ?_) (fun c_912 => ?_)
                  · skip
                    have c_912 : x9 = 0 := n0_let (by omega) c_912
                    omega
                  · skip
                    have c_912 : 0 < x9 := n0_lef (by omega) c_912
                    refine lv_iload hx hb dL_isLaid_195 (lv_at hl 1 rfl) ?_
                    refine lv_if_le (tgt := 211) hx hb dL_isLaid_197 (by decide) (fun c_913 => ?_) (fun c_913 => ?_)
                    · skip
                      have c_913 : v9 = 0 := n0_let (by omega) c_913
                      omega
                    · skip
                      have c_913 : 0 < v9 := n0_lef (by omega) c_913
                      refine lv_iload hx hb dL_isLaid_200 (lv_at hl 1 rfl) ?_
                      refine lv_bipush (v := 101) hx hb dL_isLaid_202 (by decide) ?_
                      refine lv_rep0 (x := 101) (y := nI 101) rfl ?_
                      refine lv_icmp_ge (tgt := 211) hx hb dL_isLaid_204 (by decide) (fun c_914 => ?_) (fun c_914 => ?_)
                      · skip
                        have c_914 : 101 ≤ v9 := (nI_leI (by omega) (by omega)).mp c_914
                        omega
                      · skip
                        have c_914 : ¬ 101 ≤ v9 := fun h9 => c_914 ((nI_leI (by omega) (by omega)).mpr h9)
                        refine lv_iconst (v := 1) hx hb dL_isLaid_207 (by decide) ?_
                        refine lv_goto (tgt := 212) hx hb dL_isLaid_208 (by decide) ?_
                        refine lv_istore (lv' := [(12, .int 1), (11, .int 1), (10, .int (nI v9)), (9, .int (nI y9)), (8, .int (nI x9)), (0, .ref (gad G 0)), (1, .ref (gad G 31)), (2, .ref (gad G 32)), (3, .ref (gad G 33)), (4, .int 1), (5, .int (nI o)), (6, .int (nI u)), (7, .int (nI v))]) hx hb dL_isLaid_212 hl (by decide) rfl (fun ls hl => ?_)
                        refine lv_iload hx hb dL_isLaid_214 (lv_at hl 1 rfl) ?_
                        refine lv_if_ne (tgt := 224) hx hb dL_isLaid_216 (by decide) (fun c_915 => ?_) (fun c_915 => ?_)
                        · skip
                          refine lv_iload hx hb dL_isLaid_224 (lv_at hl 0 rfl) ?_
                          refine lv_if_ne (tgt := 234) hx hb dL_isLaid_226 (by decide) (fun c_916 => ?_) (fun c_916 => ?_)
                          · skip
                            refine lv_aload_n hx hb dL_isLaid_234 rfl (lv_at hl 8 rfl) ?_
                            refine lv_iconst (v := 5) hx hb dL_isLaid_235 (by decide) ?_
                            refine lv_rep0 (x := 5) (y := nI 5) rfl ?_
                            refine rAld hx hb fx hw 33 (hF.1 33 (by decide)) hF.2.1 (fun _ => rfl) 5 rfl (by omega) (by decide) dL_isLaid_236 ?_
                            refine lv_rep0 (x := (σ 33 5)) (y := (nI s9)) hs5 ?_
                            refine lv_if_le (tgt := 245) hx hb dL_isLaid_237 (by decide) (fun c_917 => ?_) (fun c_917 => ?_)
                            · skip
                              have c_917 : s9 = 0 := n0_let (by omega) c_917
                              omega
                            · skip
                              have c_917 : 0 < s9 := n0_lef (by omega) c_917
                              refine lv_bipush (v := (-10)) hx hb dL_isLaid_240 (by decide) ?_
                              refine lv_goto (tgt := 268) hx hb dL_isLaid_242 (by decide) ?_
                              refine lv_istore (lv' := [(13, .int (-10)), (12, .int 1), (11, .int 1), (10, .int (nI v9)), (9, .int (nI y9)), (8, .int (nI x9)), (0, .ref (gad G 0)), (1, .ref (gad G 31)), (2, .ref (gad G 32)), (3, .ref (gad G 33)), (4, .int 1), (5, .int (nI o)), (6, .int (nI u)), (7, .int (nI v))]) hx hb dL_isLaid_268 hl (by decide) rfl (fun ls hl => ?_)
                              refine lv_iload hx hb dL_isLaid_270 (lv_at hl 2 rfl) ?_
                              refine lv_if_eq (tgt := 298) hx hb dL_isLaid_272 (by decide) (fun c_918 => ?_) (fun c_918 => ?_)
                              · skip
                                exact absurd c_918 (by decide)
                              · skip
                                refine lv_iload hx hb dL_isLaid_275 (lv_at hl 1 rfl) ?_
                                refine lv_if_eq (tgt := 298) hx hb dL_isLaid_277 (by decide) (fun c_919 => ?_) (fun c_919 => ?_)
                                · skip
                                  exact absurd c_919 (by decide)
                                · skip
                                  refine lv_aload_n hx hb dL_isLaid_280 rfl (lv_at hl 9 rfl) ?_
                                  refine lv_iconst (v := 5) hx hb dL_isLaid_281 (by decide) ?_
                                  refine lv_rep0 (x := 5) (y := nI 5) rfl ?_
                                  refine rAld hx hb fx hw 33 (hF.1 33 (by decide)) hF.2.1 (fun _ => rfl) 5 rfl (by omega) (by decide) dL_isLaid_282 ?_
                                  refine lv_rep0 (x := (σ 33 5)) (y := (nI s9)) hs5 ?_
                                  refine lv_if_ne (tgt := 298) hx hb dL_isLaid_283 (by decide) (fun c_920 => ?_) (fun c_920 => ?_)
                                  · skip
                                    have c_920 : ¬ s9 = 0 := n0_net (by omega) c_920
                                    refine lv_aload_n hx hb dL_isLaid_298 rfl (lv_at hl 6 rfl) ?_
                                    refine lv_iconst (v := 1) hx hb dL_isLaid_299 (by decide) ?_
                                    refine lv_iload hx hb dL_isLaid_300 (lv_at hl 5 rfl) ?_
                                    refine lv_iload hx hb dL_isLaid_302 (lv_at hl 4 rfl) ?_
                                    refine lv_iload hx hb dL_isLaid_304 (lv_at hl 3 rfl) ?_
                                    refine rCallLS (As := [.ref (gad G 0), .int 1, .int (nI x9), .int (nI y9), .int (nI v9)]) (rest := []) ⟨hx, hb, hml, hown, hts⟩ fx hw (d1_t3 l hlt G hG hF σ (pcv hA) ((nI x9)) ((nI y9)) ((nI v9)) (by rw [inB_y (show x9 < g by omega) (by omega), inB_y (show y9 < g by omega) (by omega)]; rfl) (rgt_y (by omega) (by omega) (by omega) (by omega) (by omega)) hnev) (vx_cwSW 5 hts gL_isLaid_L_does rfl rfl rfl (by decide +kernel) ⟨Nat.le_of_ble_eq_true rfl, Nat.le_of_ble_eq_true rfl⟩) rfl hl.1 rfl (Nat.le_of_ble_eq_true rfl) dL_isLaid_306 ⟨Nat.le_trans (show _ ≤ 3 by omega) (Nat.le_of_ble_eq_true rfl), Nat.le_trans (show _ ≤ 20 by omega) (Nat.le_of_ble_eq_true rfl)⟩ (fun r_921 σ_922 H locs p_923 hw => ?_)
                                    obtain ⟨er_921, eσ_922⟩ := p_923
                                    have er_921 := er_921.symm; subst er_921
                                    have eσ_922 := eσ_922.symm; subst eσ_922
                                    refine lv_iload hx hb dL_isLaid_309 (lv_at hl 0 rfl) ?_
                                    refine lv_icmp_ne (tgt := 318) hx hb dL_isLaid_311 (by decide) (fun c_924 => ?_) (fun c_924 => ?_)
                                    · skip
                                      exact absurd c_924 (by decide)
                                    · skip
                                      refine lv_iconst (v := 1) hx hb dL_isLaid_314 (by decide) ?_
                                      refine lv_goto (tgt := 319) hx hb dL_isLaid_315 (by decide) ?_
                                      exact rRetZw hx hb hr hw (by decide) (by exact ⟨rfl, po_same hA hGa⟩) hlocks dL_isLaid_319 (by omega) (by omega)
                                  · skip
                                    have c_920 : s9 = 0 := n0_nef (by omega) c_920
                                    omega
                          · skip
                            exact absurd c_916 (by decide)
                        · skip
                          exact absurd c_915 (by decide)
    · skip
      exact absurd c_859 (by decide)

def rmL_isLaid_2 : Room := ({ frames := 9, cells := 3, slots := 20, locals := 150 } : Room)
set_option maxHeartbeats 4000000 in
set_option maxRecDepth 100000 in
theorem kL_isLaid_2 (l : Launch) (hlt : l.stackTraces = false) (G : Gx) (hG : gOk G) (hF : Full G) (σ : St) {g n e9 z d t j : Nat} {b : Bool} (hA : PAll σ g n e9 z d t b j) (hGa : PGat σ g) (hj : j < 100) (o u v : Nat) (ho : o < 6000) (hu : u < 7000) (hv : v < 8000)  : CmI l yL_isLaid wsL_isLaid rmL_isLaid_2 G σ [.ref (gad G 0), .ref (gad G 31), .ref (gad G 32), .ref (gad G 33), .int 2, .int (nI o), .int (nI u), .int (nI v)] (fun r σ' => r = 1 ∧ PIn σ' (j + 1)) 3 20 := by
  refine bgM (cc := cL_isLaid) (maxL := 14) (ret := (some .boolean)) (own := RL) (by decide) rfl rfl hG (Nat.le_of_ble_eq_true rfl) rfl ?_
  intro p e s m args below meth c ls Bd hl
  obtain ⟨hx, hb, hr, hml, hts, hown, hlocks, fx, hw⟩ := Bd
  have hl : lv_has ls 14 [(0, .ref (gad G 0)), (1, .ref (gad G 31)), (2, .ref (gad G 32)), (3, .ref (gad G 33)), (4, .int 2), (5, .int (nI o)), (6, .int (nI u)), (7, .int (nI v))] := hl
  have hg5 := (pg hA).2
  have hn6 := (pn hA).2
  have he8 := (pe hA).2
  obtain ⟨q9, hq9⟩ : ∃ q9, q9 = o % 5 := ⟨_, rfl⟩
  have hq5 : q9 < 5 := by omega
  rcases pst_cases hA with hst | hst <;> rcases (show q9 = 4 ∨ (q9 < 4 ∧ n = 6) ∨ (q9 < 4 ∧ n < 6) by omega) with hq | hq | hq
  · skip
    obtain ⟨hbo, he0, hs5⟩ := hst
    refine lv_iload hx hb dL_isLaid_0 (lv_at hl 4 rfl) ?_
    refine lv_if_ne (tgt := 111) hx hb dL_isLaid_2 (by decide) (fun c_1 => ?_) (fun c_1 => ?_)
    · skip
      refine lv_iload hx hb dL_isLaid_111 (lv_at hl 4 rfl) ?_
      refine lv_iconst (v := 1) hx hb dL_isLaid_113 (by decide) ?_
      refine lv_icmp_ne (tgt := 320) hx hb dL_isLaid_114 (by decide) (fun c_2 => ?_) (fun c_2 => ?_)
      · skip
        refine lv_iload hx hb dL_isLaid_320 (lv_at hl 5 rfl) ?_
        refine lv_iconst (v := 5) hx hb dL_isLaid_322 (by decide) ?_
        refine lv_rep0 (x := 5) (y := nI 5) rfl ?_
        refine lv_irem hx hb dL_isLaid_323 (nI_ne0 (by omega) (by omega)) ?_
        refine lv_rep0 (y := nI (o % 5)) (pk_rem (by omega) (by omega) (by omega)) ?_
        refine lv_istore (lv' := [(8, .int (nI (o % 5))), (0, .ref (gad G 0)), (1, .ref (gad G 31)), (2, .ref (gad G 32)), (3, .ref (gad G 33)), (4, .int 2), (5, .int (nI o)), (6, .int (nI u)), (7, .int (nI v))]) hx hb dL_isLaid_324 hl (by decide) rfl (fun ls hl => ?_)
        have q_3 : (nI (o % 5)) = (nI q9) := by rw [hq9]
        have hl : lv_has ls 14 [(8, .int (nI q9)), (0, .ref (gad G 0)), (1, .ref (gad G 31)), (2, .ref (gad G 32)), (3, .ref (gad G 33)), (4, .int 2), (5, .int (nI o)), (6, .int (nI u)), (7, .int (nI v))] := (lv_c (lv_atq hl 0 rfl q_3) (lv_c (lv_at hl 1 rfl) (lv_c (lv_at hl 2 rfl) (lv_c (lv_at hl 3 rfl) (lv_c (lv_at hl 4 rfl) (lv_c (lv_at hl 5 rfl) (lv_c (lv_at hl 6 rfl) (lv_c (lv_at hl 7 rfl) (lv_c (lv_at hl 8 rfl) (lv_c0 hl))))))))))
        refine lv_iload hx hb dL_isLaid_326 (lv_at hl 0 rfl) ?_
        refine lv_iconst (v := 4) hx hb dL_isLaid_328 (by decide) ?_
        refine lv_rep0 (x := 4) (y := nI 4) rfl ?_
        refine lv_icmp_ne (tgt := 337) hx hb dL_isLaid_329 (by decide) (fun c_4 => ?_) (fun c_4 => ?_)
        · skip
          have c_4 : ¬ q9 = 4 := fun h9 => c_4 ((nI_eq (by omega) (by omega)).mpr h9)
          omega
        · skip
          have c_4 : q9 = 4 := (nI_eq (by omega) (by omega)).mp c_4
          refine lv_bipush (v := (-30)) hx hb dL_isLaid_332 (by decide) ?_
          refine lv_goto (tgt := 359) hx hb dL_isLaid_334 (by decide) ?_
          refine lv_istore (lv' := [(9, .int (-30)), (8, .int (nI q9)), (0, .ref (gad G 0)), (1, .ref (gad G 31)), (2, .ref (gad G 32)), (3, .ref (gad G 33)), (4, .int 2), (5, .int (nI o)), (6, .int (nI u)), (7, .int (nI v))]) hx hb dL_isLaid_359 hl (by decide) rfl (fun ls hl => ?_)
          refine lv_iload hx hb dL_isLaid_361 (lv_at hl 0 rfl) ?_
          refine lv_if_lt (tgt := 382) hx hb dL_isLaid_363 (by decide) (fun c_5 => ?_) (fun c_5 => ?_)
          · skip
            refine lv_aload_n hx hb dL_isLaid_382 rfl (lv_at hl 2 rfl) ?_
            refine lv_iconst (v := 2) hx hb dL_isLaid_383 (by decide) ?_
            refine lv_iload hx hb dL_isLaid_384 (lv_at hl 1 rfl) ?_
            refine lv_iconst (v := 0) hx hb dL_isLaid_386 (by decide) ?_
            refine lv_iconst (v := 0) hx hb dL_isLaid_387 (by decide) ?_
            refine rCallLS (As := [.ref (gad G 0), .int 2, .int (nI q9), .int 0, .int 0]) (rest := []) ⟨hx, hb, hml, hown, hts⟩ fx hw (d2_t1 l hlt G hG hF σ (pcv hA) ((nI q9)) 0 0 (inB_no (n := 4) (by omega) (by omega))) (vx_cwSW 5 hts gL_isLaid_L_does rfl rfl rfl (by decide +kernel) ⟨Nat.le_of_ble_eq_true rfl, Nat.le_of_ble_eq_true rfl⟩) rfl hl.1 rfl (Nat.le_of_ble_eq_true rfl) dL_isLaid_388 ⟨Nat.le_trans (show _ ≤ 3 by omega) (Nat.le_of_ble_eq_true rfl), Nat.le_trans (show _ ≤ 20 by omega) (Nat.le_of_ble_eq_true rfl)⟩ (fun r_6 σ_7 H locs p_8 hw => ?_)
            obtain ⟨er_6, eσ_7⟩ := p_8
            have er_6 := er_6.symm; subst er_6
            have eσ_7 := eσ_7.symm; subst eσ_7
            refine lv_iload hx hb dL_isLaid_391 (lv_at hl 0 rfl) ?_
            refine lv_icmp_ne (tgt := 400) hx hb dL_isLaid_393 (by decide) (fun c_9 => ?_) (fun c_9 => ?_)
            · skip
              exact absurd c_9 (by decide)
            · skip
              refine lv_iconst (v := 1) hx hb dL_isLaid_396 (by decide) ?_
              refine lv_goto (tgt := 401) hx hb dL_isLaid_397 (by decide) ?_
              exact rRetZw hx hb hr hw (by decide) (by exact ⟨rfl, po_same hA hGa⟩) hlocks dL_isLaid_401 (by omega) (by omega)
          · skip
            exact absurd c_5 (by decide)
      · skip
        exact absurd c_2 (by decide)
    · skip
      exact absurd c_1 (by decide)
  · skip
    obtain ⟨hbo, he0, hs5⟩ := hst
    refine lv_iload hx hb dL_isLaid_0 (lv_at hl 4 rfl) ?_
    refine lv_if_ne (tgt := 111) hx hb dL_isLaid_2 (by decide) (fun c_10 => ?_) (fun c_10 => ?_)
    · skip
      refine lv_iload hx hb dL_isLaid_111 (lv_at hl 4 rfl) ?_
      refine lv_iconst (v := 1) hx hb dL_isLaid_113 (by decide) ?_
      refine lv_icmp_ne (tgt := 320) hx hb dL_isLaid_114 (by decide) (fun c_11 => ?_) (fun c_11 => ?_)
      · skip
        refine lv_iload hx hb dL_isLaid_320 (lv_at hl 5 rfl) ?_
        refine lv_iconst (v := 5) hx hb dL_isLaid_322 (by decide) ?_
        refine lv_rep0 (x := 5) (y := nI 5) rfl ?_
        refine lv_irem hx hb dL_isLaid_323 (nI_ne0 (by omega) (by omega)) ?_
        refine lv_rep0 (y := nI (o % 5)) (pk_rem (by omega) (by omega) (by omega)) ?_
        refine lv_istore (lv' := [(8, .int (nI (o % 5))), (0, .ref (gad G 0)), (1, .ref (gad G 31)), (2, .ref (gad G 32)), (3, .ref (gad G 33)), (4, .int 2), (5, .int (nI o)), (6, .int (nI u)), (7, .int (nI v))]) hx hb dL_isLaid_324 hl (by decide) rfl (fun ls hl => ?_)
        have q_12 : (nI (o % 5)) = (nI q9) := by rw [hq9]
        have hl : lv_has ls 14 [(8, .int (nI q9)), (0, .ref (gad G 0)), (1, .ref (gad G 31)), (2, .ref (gad G 32)), (3, .ref (gad G 33)), (4, .int 2), (5, .int (nI o)), (6, .int (nI u)), (7, .int (nI v))] := (lv_c (lv_atq hl 0 rfl q_12) (lv_c (lv_at hl 1 rfl) (lv_c (lv_at hl 2 rfl) (lv_c (lv_at hl 3 rfl) (lv_c (lv_at hl 4 rfl) (lv_c (lv_at hl 5 rfl) (lv_c (lv_at hl 6 rfl) (lv_c (lv_at hl 7 rfl) (lv_c (lv_at hl 8 rfl) (lv_c0 hl))))))))))
        refine lv_iload hx hb dL_isLaid_326 (lv_at hl 0 rfl) ?_
        refine lv_iconst (v := 4) hx hb dL_isLaid_328 (by decide) ?_
        refine lv_rep0 (x := 4) (y := nI 4) rfl ?_
        refine lv_icmp_ne (tgt := 337) hx hb dL_isLaid_329 (by decide) (fun c_13 => ?_) (fun c_13 => ?_)
        · skip
          have c_13 : ¬ q9 = 4 := fun h9 => c_13 ((nI_eq (by omega) (by omega)).mpr h9)
          refine lv_aload_n hx hb dL_isLaid_337 rfl (lv_at hl 4 rfl) ?_
          refine lv_iconst (v := 5) hx hb dL_isLaid_338 (by decide) ?_
          refine lv_rep0 (x := 5) (y := nI 5) rfl ?_
          refine rAld hx hb fx hw 33 (hF.1 33 (by decide)) hF.2.1 (fun _ => rfl) 5 rfl (by omega) (by decide) dL_isLaid_339 ?_
          refine lv_rep0 (x := (σ 33 5)) (y := 0) hs5 ?_
          refine lv_if_gt (tgt := 351) hx hb dL_isLaid_340 (by decide) (fun c_14 => ?_) (fun c_14 => ?_)
          · skip
            exact absurd c_14 (by decide)
          · skip
            refine lv_aload_n hx hb dL_isLaid_343 rfl (lv_at hl 4 rfl) ?_
            refine lv_iconst (v := 2) hx hb dL_isLaid_344 (by decide) ?_
            refine lv_rep0 (x := 2) (y := nI 2) rfl ?_
            refine rAld hx hb fx hw 33 (hF.1 33 (by decide)) hF.2.1 (fun _ => rfl) 2 rfl (by omega) (by decide) dL_isLaid_345 ?_
            refine lv_rep0 (x := (σ 33 2)) (y := (nI n)) (pn hA).1 ?_
            refine lv_bipush (v := 6) hx hb dL_isLaid_346 (by decide) ?_
            refine lv_rep0 (x := 6) (y := nI 6) rfl ?_
            refine lv_icmp_ne (tgt := 356) hx hb dL_isLaid_348 (by decide) (fun c_15 => ?_) (fun c_15 => ?_)
            · skip
              have c_15 : ¬ n = 6 := fun h9 => c_15 ((nI_eq (by omega) (by omega)).mpr h9)
              omega
            · skip
              have c_15 : n = 6 := (nI_eq (by omega) (by omega)).mp c_15
              refine lv_bipush (v := (-10)) hx hb dL_isLaid_351 (by decide) ?_
              refine lv_goto (tgt := 359) hx hb dL_isLaid_353 (by decide) ?_
              refine lv_istore (lv' := [(9, .int (-10)), (8, .int (nI q9)), (0, .ref (gad G 0)), (1, .ref (gad G 31)), (2, .ref (gad G 32)), (3, .ref (gad G 33)), (4, .int 2), (5, .int (nI o)), (6, .int (nI u)), (7, .int (nI v))]) hx hb dL_isLaid_359 hl (by decide) rfl (fun ls hl => ?_)
              refine lv_iload hx hb dL_isLaid_361 (lv_at hl 0 rfl) ?_
              refine lv_if_lt (tgt := 382) hx hb dL_isLaid_363 (by decide) (fun c_16 => ?_) (fun c_16 => ?_)
              · skip
                refine lv_aload_n hx hb dL_isLaid_382 rfl (lv_at hl 2 rfl) ?_
                refine lv_iconst (v := 2) hx hb dL_isLaid_383 (by decide) ?_
                refine lv_iload hx hb dL_isLaid_384 (lv_at hl 1 rfl) ?_
                refine lv_iconst (v := 0) hx hb dL_isLaid_386 (by decide) ?_
                refine lv_iconst (v := 0) hx hb dL_isLaid_387 (by decide) ?_
                refine rCallLS (As := [.ref (gad G 0), .int 2, .int (nI q9), .int 0, .int 0]) (rest := []) ⟨hx, hb, hml, hown, hts⟩ fx hw (d2_t2 l hlt G hG hF σ (pcv hA) ((nI q9)) 0 0 (inB_y (show q9 < 4 by omega) (by decide)) (by rw [decide_eq_false (show ¬ n < 6 by omega), Bool.and_false])) (vx_cwSW 5 hts gL_isLaid_L_does rfl rfl rfl (by decide +kernel) ⟨Nat.le_of_ble_eq_true rfl, Nat.le_of_ble_eq_true rfl⟩) rfl hl.1 rfl (Nat.le_of_ble_eq_true rfl) dL_isLaid_388 ⟨Nat.le_trans (show _ ≤ 3 by omega) (Nat.le_of_ble_eq_true rfl), Nat.le_trans (show _ ≤ 20 by omega) (Nat.le_of_ble_eq_true rfl)⟩ (fun r_17 σ_18 H locs p_19 hw => ?_)
                obtain ⟨er_17, eσ_18⟩ := p_19
                have er_17 := er_17.symm; subst er_17
                have eσ_18 := eσ_18.symm; subst eσ_18
                refine lv_iload hx hb dL_isLaid_391 (lv_at hl 0 rfl) ?_
                refine lv_icmp_ne (tgt := 400) hx hb dL_isLaid_393 (by decide) (fun c_20 => ?_) (fun c_20 => ?_)
                · skip
                  exact absurd c_20 (by decide)
                · skip
                  refine lv_iconst (v := 1) hx hb dL_isLaid_396 (by decide) ?_
                  refine lv_goto (tgt := 401) hx hb dL_isLaid_397 (by decide) ?_
                  exact rRetZw hx hb hr hw (by decide) (by exact ⟨rfl, po_same hA hGa⟩) hlocks dL_isLaid_401 (by omega) (by omega)
              · skip
                exact absurd c_16 (by decide)
        · skip
          have c_13 : q9 = 4 := (nI_eq (by omega) (by omega)).mp c_13
          omega
      · skip
        exact absurd c_11 (by decide)
    · skip
      exact absurd c_10 (by decide)
  · skip
    obtain ⟨hbo, he0, hs5⟩ := hst
    refine lv_iload hx hb dL_isLaid_0 (lv_at hl 4 rfl) ?_
    refine lv_if_ne (tgt := 111) hx hb dL_isLaid_2 (by decide) (fun c_21 => ?_) (fun c_21 => ?_)
    · skip
      refine lv_iload hx hb dL_isLaid_111 (lv_at hl 4 rfl) ?_
      refine lv_iconst (v := 1) hx hb dL_isLaid_113 (by decide) ?_
      refine lv_icmp_ne (tgt := 320) hx hb dL_isLaid_114 (by decide) (fun c_22 => ?_) (fun c_22 => ?_)
      · skip
        refine lv_iload hx hb dL_isLaid_320 (lv_at hl 5 rfl) ?_
        refine lv_iconst (v := 5) hx hb dL_isLaid_322 (by decide) ?_
        refine lv_rep0 (x := 5) (y := nI 5) rfl ?_
        refine lv_irem hx hb dL_isLaid_323 (nI_ne0 (by omega) (by omega)) ?_
        refine lv_rep0 (y := nI (o % 5)) (pk_rem (by omega) (by omega) (by omega)) ?_
        refine lv_istore (lv' := [(8, .int (nI (o % 5))), (0, .ref (gad G 0)), (1, .ref (gad G 31)), (2, .ref (gad G 32)), (3, .ref (gad G 33)), (4, .int 2), (5, .int (nI o)), (6, .int (nI u)), (7, .int (nI v))]) hx hb dL_isLaid_324 hl (by decide) rfl (fun ls hl => ?_)
        have q_23 : (nI (o % 5)) = (nI q9) := by rw [hq9]
        have hl : lv_has ls 14 [(8, .int (nI q9)), (0, .ref (gad G 0)), (1, .ref (gad G 31)), (2, .ref (gad G 32)), (3, .ref (gad G 33)), (4, .int 2), (5, .int (nI o)), (6, .int (nI u)), (7, .int (nI v))] := (lv_c (lv_atq hl 0 rfl q_23) (lv_c (lv_at hl 1 rfl) (lv_c (lv_at hl 2 rfl) (lv_c (lv_at hl 3 rfl) (lv_c (lv_at hl 4 rfl) (lv_c (lv_at hl 5 rfl) (lv_c (lv_at hl 6 rfl) (lv_c (lv_at hl 7 rfl) (lv_c (lv_at hl 8 rfl) (lv_c0 hl))))))))))
        refine lv_iload hx hb dL_isLaid_326 (lv_at hl 0 rfl) ?_
        refine lv_iconst (v := 4) hx hb dL_isLaid_328 (by decide) ?_
        refine lv_rep0 (x := 4) (y := nI 4) rfl ?_
        refine lv_icmp_ne (tgt := 337) hx hb dL_isLaid_329 (by decide) (fun c_24 => ?_) (fun c_24 => ?_)
        · skip
          have c_24 : ¬ q9 = 4 := fun h9 => c_24 ((nI_eq (by omega) (by omega)).mpr h9)
          refine lv_aload_n hx hb dL_isLaid_337 rfl (lv_at hl 4 rfl) ?_
          refine lv_iconst (v := 5) hx hb dL_isLaid_338 (by decide) ?_
          refine lv_rep0 (x := 5) (y := nI 5) rfl ?_
          refine rAld hx hb fx hw 33 (hF.1 33 (by decide)) hF.2.1 (fun _ => rfl) 5 rfl (by omega) (by decide) dL_isLaid_339 ?_
          refine lv_rep0 (x := (σ 33 5)) (y := 0) hs5 ?_
          refine lv_if_gt (tgt := 351) hx hb dL_isLaid_340 (by decide) (fun c_25 => ?_) (fun c_25 => ?_)
          · skip
            exact absurd c_25 (by decide)
          · skip
            refine lv_aload_n hx hb dL_isLaid_343 rfl (lv_at hl 4 rfl) ?_
            refine lv_iconst (v := 2) hx hb dL_isLaid_344 (by decide) ?_
            refine lv_rep0 (x := 2) (y := nI 2) rfl ?_
            refine rAld hx hb fx hw 33 (hF.1 33 (by decide)) hF.2.1 (fun _ => rfl) 2 rfl (by omega) (by decide) dL_isLaid_345 ?_
            refine lv_rep0 (x := (σ 33 2)) (y := (nI n)) (pn hA).1 ?_
            refine lv_bipush (v := 6) hx hb dL_isLaid_346 (by decide) ?_
            refine lv_rep0 (x := 6) (y := nI 6) rfl ?_
            refine lv_icmp_ne (tgt := 356) hx hb dL_isLaid_348 (by decide) (fun c_26 => ?_) (fun c_26 => ?_)
            · skip
              have c_26 : ¬ n = 6 := fun h9 => c_26 ((nI_eq (by omega) (by omega)).mpr h9)
              refine lv_aload_n hx hb dL_isLaid_356 rfl (lv_at hl 4 rfl) ?_
              refine lv_iconst (v := 2) hx hb dL_isLaid_357 (by decide) ?_
              refine lv_rep0 (x := 2) (y := nI 2) rfl ?_
              refine rAld hx hb fx hw 33 (hF.1 33 (by decide)) hF.2.1 (fun _ => rfl) 2 rfl (by omega) (by decide) dL_isLaid_358 ?_
              refine lv_rep0 (x := (σ 33 2)) (y := (nI n)) (pn hA).1 ?_
              refine lv_istore (lv' := [(9, .int (nI n)), (8, .int (nI q9)), (0, .ref (gad G 0)), (1, .ref (gad G 31)), (2, .ref (gad G 32)), (3, .ref (gad G 33)), (4, .int 2), (5, .int (nI o)), (6, .int (nI u)), (7, .int (nI v))]) hx hb dL_isLaid_359 hl (by decide) rfl (fun ls hl => ?_)
              refine lv_iload hx hb dL_isLaid_361 (lv_at hl 0 rfl) ?_
              refine lv_if_lt (tgt := 382) hx hb dL_isLaid_363 (by decide) (fun c_27 => ?_) (fun c_27 => ?_)
              · skip
                exact (n0_ltt (by omega) c_27).elim
              · skip
                have c_27 : True := n0_ltf (by omega) c_27
                refine lv_aload_n hx hb dL_isLaid_366 rfl (lv_at hl 4 rfl) ?_
                refine lv_bipush (v := 6) hx hb dL_isLaid_367 (by decide) ?_
                refine lv_iload hx hb dL_isLaid_369 (lv_at hl 0 rfl) ?_
                refine lv_rep1 (x := 6) (y := nI 6) rfl ?_
                refine lv_imul hx hb dL_isLaid_371 ?_
                refine lv_rep0 (x := ((nI 6) * (nI n))) (y := nI (6 * n)) (pk_mul _ _) ?_
                refine lv_iload hx hb dL_isLaid_372 (lv_at hl 1 rfl) ?_
                refine rAst (x := (nI q9)) hx hb fx hw 32 (hF.1 32 (by decide)) hF.2.1 (fun _ => rfl) (6 * n) rfl (by omega) (by decide) dL_isLaid_374 (fun H locs hw => ?_)
                obtain ⟨σ_28, eσ_28⟩ : ∃ w9, w9 = upA σ 32 (upd (σ 32) (6 * n) (nI q9)) := ⟨_, rfl⟩
                rw [← eσ_28] at hw
                refine lv_aload_n hx hb dL_isLaid_375 rfl (lv_at hl 5 rfl) ?_
                refine lv_iconst (v := 2) hx hb dL_isLaid_376 (by decide) ?_
                refine lv_rep0 (x := 2) (y := nI 2) rfl ?_
                refine lv_dup2_11 hx hb dL_isLaid_377 rfl rfl ?_
                refine rAld hx hb fx hw 33 (hF.1 33 (by decide)) hF.2.1 (fun _ => rfl) 2 rfl (by omega) (by decide) dL_isLaid_378 ?_
                refine lv_rep0 (x := (σ_28 33 2)) (y := (nI n)) ((ld_n eσ_28 (by decide)).trans (pn hA).1) ?_
                refine lv_iconst (v := 1) hx hb dL_isLaid_379 (by decide) ?_
                refine lv_rep0 (x := 1) (y := nI 1) rfl ?_
                refine lv_iadd hx hb dL_isLaid_380 ?_
                refine lv_rep0 (x := ((nI n) + (nI 1))) (y := nI (n + 1)) (nI_add _ _) ?_
                refine rAst (x := (nI (n + 1))) hx hb fx hw 33 (hF.1 33 (by decide)) hF.2.1 (fun _ => rfl) 2 rfl (by omega) (by decide) dL_isLaid_381 (fun H locs hw => ?_)
                obtain ⟨σ_29, eσ_29⟩ : ∃ w9, w9 = upA σ_28 33 (upd (σ_28 33) 2 (nI (n + 1))) := ⟨_, rfl⟩
                rw [← eσ_29] at hw
                refine lv_aload_n hx hb dL_isLaid_382 rfl (lv_at hl 2 rfl) ?_
                refine lv_iconst (v := 2) hx hb dL_isLaid_383 (by decide) ?_
                refine lv_iload hx hb dL_isLaid_384 (lv_at hl 1 rfl) ?_
                refine lv_iconst (v := 0) hx hb dL_isLaid_386 (by decide) ?_
                refine lv_iconst (v := 0) hx hb dL_isLaid_387 (by decide) ?_
                refine rCallLS (As := [.ref (gad G 0), .int 2, .int (nI q9), .int 0, .int 0]) (rest := []) ⟨hx, hb, hml, hown, hts⟩ fx hw (d2_ok l hlt G hG hF σ_29 (show CIv σ_29 g n b e9 z from by rw [eσ_29, eσ_28]; exact (show CIv σ g n b e9 z from pcv hA)) q9 0 0 (by omega) hbo he0 (by omega)) (vx_cwSW 5 hts gL_isLaid_L_does rfl rfl rfl (by decide +kernel) ⟨Nat.le_of_ble_eq_true rfl, Nat.le_of_ble_eq_true rfl⟩) rfl hl.1 rfl (Nat.le_of_ble_eq_true rfl) dL_isLaid_388 ⟨Nat.le_trans (show _ ≤ 3 by omega) (Nat.le_of_ble_eq_true rfl), Nat.le_trans (show _ ≤ 20 by omega) (Nat.le_of_ble_eq_true rfl)⟩ (fun r_30 σ_31 H locs p_32 hw => ?_)
                obtain ⟨er_30, eσ_31⟩ := p_32
                have er_30 := er_30.symm; subst er_30
                refine lv_iload hx hb dL_isLaid_391 (lv_at hl 0 rfl) ?_
                refine lv_icmp_ne (tgt := 400) hx hb dL_isLaid_393 (by decide) (fun c_33 => ?_) (fun c_33 => ?_)
                · skip
                  exact absurd rfl c_33
                · skip
                  refine lv_iconst (v := 1) hx hb dL_isLaid_396 (by decide) ?_
                  refine lv_goto (tgt := 401) hx hb dL_isLaid_397 (by decide) ?_
                  subst eσ_31
                  subst eσ_29
                  subst eσ_28
                  exact rRetZw hx hb hr hw (by decide) (by exact ⟨rfl, po_kart hA hGa hbo he0 (by omega) (by omega)⟩) hlocks dL_isLaid_401 (by omega) (by omega)
            · skip
              have c_26 : n = 6 := (nI_eq (by omega) (by omega)).mp c_26
              omega
        · skip
          have c_24 : q9 = 4 := (nI_eq (by omega) (by omega)).mp c_24
          omega
      · skip
        exact absurd c_22 (by decide)
    · skip
      exact absurd c_21 (by decide)
  · skip
    obtain ⟨s9, hs5, hs1, hs2, hnev⟩ := hst
    refine lv_iload hx hb dL_isLaid_0 (lv_at hl 4 rfl) ?_
    refine lv_if_ne (tgt := 111) hx hb dL_isLaid_2 (by decide) (fun c_34 => ?_) (fun c_34 => ?_)
    · skip
      refine lv_iload hx hb dL_isLaid_111 (lv_at hl 4 rfl) ?_
      refine lv_iconst (v := 1) hx hb dL_isLaid_113 (by decide) ?_
      refine lv_icmp_ne (tgt := 320) hx hb dL_isLaid_114 (by decide) (fun c_35 => ?_) (fun c_35 => ?_)
      · skip
        refine lv_iload hx hb dL_isLaid_320 (lv_at hl 5 rfl) ?_
        refine lv_iconst (v := 5) hx hb dL_isLaid_322 (by decide) ?_
        refine lv_rep0 (x := 5) (y := nI 5) rfl ?_
        refine lv_irem hx hb dL_isLaid_323 (nI_ne0 (by omega) (by omega)) ?_
        refine lv_rep0 (y := nI (o % 5)) (pk_rem (by omega) (by omega) (by omega)) ?_
        refine lv_istore (lv' := [(8, .int (nI (o % 5))), (0, .ref (gad G 0)), (1, .ref (gad G 31)), (2, .ref (gad G 32)), (3, .ref (gad G 33)), (4, .int 2), (5, .int (nI o)), (6, .int (nI u)), (7, .int (nI v))]) hx hb dL_isLaid_324 hl (by decide) rfl (fun ls hl => ?_)
        have q_36 : (nI (o % 5)) = (nI q9) := by rw [hq9]
        have hl : lv_has ls 14 [(8, .int (nI q9)), (0, .ref (gad G 0)), (1, .ref (gad G 31)), (2, .ref (gad G 32)), (3, .ref (gad G 33)), (4, .int 2), (5, .int (nI o)), (6, .int (nI u)), (7, .int (nI v))] := (lv_c (lv_atq hl 0 rfl q_36) (lv_c (lv_at hl 1 rfl) (lv_c (lv_at hl 2 rfl) (lv_c (lv_at hl 3 rfl) (lv_c (lv_at hl 4 rfl) (lv_c (lv_at hl 5 rfl) (lv_c (lv_at hl 6 rfl) (lv_c (lv_at hl 7 rfl) (lv_c (lv_at hl 8 rfl) (lv_c0 hl))))))))))
        refine lv_iload hx hb dL_isLaid_326 (lv_at hl 0 rfl) ?_
        refine lv_iconst (v := 4) hx hb dL_isLaid_328 (by decide) ?_
        refine lv_rep0 (x := 4) (y := nI 4) rfl ?_
        refine lv_icmp_ne (tgt := 337) hx hb dL_isLaid_329 (by decide) (fun c_37 => ?_) (fun c_37 => ?_)
        · skip
          have c_37 : ¬ q9 = 4 := fun h9 => c_37 ((nI_eq (by omega) (by omega)).mpr h9)
          omega
        · skip
          have c_37 : q9 = 4 := (nI_eq (by omega) (by omega)).mp c_37
          refine lv_bipush (v := (-30)) hx hb dL_isLaid_332 (by decide) ?_
          refine lv_goto (tgt := 359) hx hb dL_isLaid_334 (by decide) ?_
          refine lv_istore (lv' := [(9, .int (-30)), (8, .int (nI q9)), (0, .ref (gad G 0)), (1, .ref (gad G 31)), (2, .ref (gad G 32)), (3, .ref (gad G 33)), (4, .int 2), (5, .int (nI o)), (6, .int (nI u)), (7, .int (nI v))]) hx hb dL_isLaid_359 hl (by decide) rfl (fun ls hl => ?_)
          refine lv_iload hx hb dL_isLaid_361 (lv_at hl 0 rfl) ?_
          refine lv_if_lt (tgt := 382) hx hb dL_isLaid_363 (by decide) (fun c_38 => ?_) (fun c_38 => ?_)
          · skip
            refine lv_aload_n hx hb dL_isLaid_382 rfl (lv_at hl 2 rfl) ?_
            refine lv_iconst (v := 2) hx hb dL_isLaid_383 (by decide) ?_
            refine lv_iload hx hb dL_isLaid_384 (lv_at hl 1 rfl) ?_
            refine lv_iconst (v := 0) hx hb dL_isLaid_386 (by decide) ?_
            refine lv_iconst (v := 0) hx hb dL_isLaid_387 (by decide) ?_
            refine rCallLS (As := [.ref (gad G 0), .int 2, .int (nI q9), .int 0, .int 0]) (rest := []) ⟨hx, hb, hml, hown, hts⟩ fx hw (d2_t1 l hlt G hG hF σ (pcv hA) ((nI q9)) 0 0 (inB_no (n := 4) (by omega) (by omega))) (vx_cwSW 5 hts gL_isLaid_L_does rfl rfl rfl (by decide +kernel) ⟨Nat.le_of_ble_eq_true rfl, Nat.le_of_ble_eq_true rfl⟩) rfl hl.1 rfl (Nat.le_of_ble_eq_true rfl) dL_isLaid_388 ⟨Nat.le_trans (show _ ≤ 3 by omega) (Nat.le_of_ble_eq_true rfl), Nat.le_trans (show _ ≤ 20 by omega) (Nat.le_of_ble_eq_true rfl)⟩ (fun r_39 σ_40 H locs p_41 hw => ?_)
            obtain ⟨er_39, eσ_40⟩ := p_41
            have er_39 := er_39.symm; subst er_39
            have eσ_40 := eσ_40.symm; subst eσ_40
            refine lv_iload hx hb dL_isLaid_391 (lv_at hl 0 rfl) ?_
            refine lv_icmp_ne (tgt := 400) hx hb dL_isLaid_393 (by decide) (fun c_42 => ?_) (fun c_42 => ?_)
            · skip
              exact absurd c_42 (by decide)
            · skip
              refine lv_iconst (v := 1) hx hb dL_isLaid_396 (by decide) ?_
              refine lv_goto (tgt := 401) hx hb dL_isLaid_397 (by decide) ?_
              exact rRetZw hx hb hr hw (by decide) (by exact ⟨rfl, po_same hA hGa⟩) hlocks dL_isLaid_401 (by omega) (by omega)
          · skip
            exact absurd c_38 (by decide)
      · skip
        exact absurd c_35 (by decide)
    · skip
      exact absurd c_34 (by decide)
  · skip
    obtain ⟨s9, hs5, hs1, hs2, hnev⟩ := hst
    refine lv_iload hx hb dL_isLaid_0 (lv_at hl 4 rfl) ?_
    refine lv_if_ne (tgt := 111) hx hb dL_isLaid_2 (by decide) (fun c_43 => ?_) (fun c_43 => ?_)
    · skip
      refine lv_iload hx hb dL_isLaid_111 (lv_at hl 4 rfl) ?_
      refine lv_iconst (v := 1) hx hb dL_isLaid_113 (by decide) ?_
      refine lv_icmp_ne (tgt := 320) hx hb dL_isLaid_114 (by decide) (fun c_44 => ?_) (fun c_44 => ?_)
      · skip
        refine lv_iload hx hb dL_isLaid_320 (lv_at hl 5 rfl) ?_
        refine lv_iconst (v := 5) hx hb dL_isLaid_322 (by decide) ?_
        refine lv_rep0 (x := 5) (y := nI 5) rfl ?_
        refine lv_irem hx hb dL_isLaid_323 (nI_ne0 (by omega) (by omega)) ?_
        refine lv_rep0 (y := nI (o % 5)) (pk_rem (by omega) (by omega) (by omega)) ?_
        refine lv_istore (lv' := [(8, .int (nI (o % 5))), (0, .ref (gad G 0)), (1, .ref (gad G 31)), (2, .ref (gad G 32)), (3, .ref (gad G 33)), (4, .int 2), (5, .int (nI o)), (6, .int (nI u)), (7, .int (nI v))]) hx hb dL_isLaid_324 hl (by decide) rfl (fun ls hl => ?_)
        have q_45 : (nI (o % 5)) = (nI q9) := by rw [hq9]
        have hl : lv_has ls 14 [(8, .int (nI q9)), (0, .ref (gad G 0)), (1, .ref (gad G 31)), (2, .ref (gad G 32)), (3, .ref (gad G 33)), (4, .int 2), (5, .int (nI o)), (6, .int (nI u)), (7, .int (nI v))] := (lv_c (lv_atq hl 0 rfl q_45) (lv_c (lv_at hl 1 rfl) (lv_c (lv_at hl 2 rfl) (lv_c (lv_at hl 3 rfl) (lv_c (lv_at hl 4 rfl) (lv_c (lv_at hl 5 rfl) (lv_c (lv_at hl 6 rfl) (lv_c (lv_at hl 7 rfl) (lv_c (lv_at hl 8 rfl) (lv_c0 hl))))))))))
        refine lv_iload hx hb dL_isLaid_326 (lv_at hl 0 rfl) ?_
        refine lv_iconst (v := 4) hx hb dL_isLaid_328 (by decide) ?_
        refine lv_rep0 (x := 4) (y := nI 4) rfl ?_
        refine lv_icmp_ne (tgt := 337) hx hb dL_isLaid_329 (by decide) (fun c_46 => ?_) (fun c_46 => ?_)
        · skip
          have c_46 : ¬ q9 = 4 := fun h9 => c_46 ((nI_eq (by omega) (by omega)).mpr h9)
          refine lv_aload_n hx hb dL_isLaid_337 rfl (lv_at hl 4 rfl) ?_
          refine lv_iconst (v := 5) hx hb dL_isLaid_338 (by decide) ?_
          refine lv_rep0 (x := 5) (y := nI 5) rfl ?_
          refine rAld hx hb fx hw 33 (hF.1 33 (by decide)) hF.2.1 (fun _ => rfl) 5 rfl (by omega) (by decide) dL_isLaid_339 ?_
          refine lv_rep0 (x := (σ 33 5)) (y := (nI s9)) hs5 ?_
          refine lv_if_gt (tgt := 351) hx hb dL_isLaid_340 (by decide) (fun c_47 => ?_) (fun c_47 => ?_)
          · skip
            have c_47 : 0 < s9 := n0_gtt (by omega) c_47
            refine lv_bipush (v := (-10)) hx hb dL_isLaid_351 (by decide) ?_
            refine lv_goto (tgt := 359) hx hb dL_isLaid_353 (by decide) ?_
            refine lv_istore (lv' := [(9, .int (-10)), (8, .int (nI q9)), (0, .ref (gad G 0)), (1, .ref (gad G 31)), (2, .ref (gad G 32)), (3, .ref (gad G 33)), (4, .int 2), (5, .int (nI o)), (6, .int (nI u)), (7, .int (nI v))]) hx hb dL_isLaid_359 hl (by decide) rfl (fun ls hl => ?_)
            refine lv_iload hx hb dL_isLaid_361 (lv_at hl 0 rfl) ?_
            refine lv_if_lt (tgt := 382) hx hb dL_isLaid_363 (by decide) (fun c_48 => ?_) (fun c_48 => ?_)
            · skip
              refine lv_aload_n hx hb dL_isLaid_382 rfl (lv_at hl 2 rfl) ?_
              refine lv_iconst (v := 2) hx hb dL_isLaid_383 (by decide) ?_
              refine lv_iload hx hb dL_isLaid_384 (lv_at hl 1 rfl) ?_
              refine lv_iconst (v := 0) hx hb dL_isLaid_386 (by decide) ?_
              refine lv_iconst (v := 0) hx hb dL_isLaid_387 (by decide) ?_
              refine rCallLS (As := [.ref (gad G 0), .int 2, .int (nI q9), .int 0, .int 0]) (rest := []) ⟨hx, hb, hml, hown, hts⟩ fx hw (d2_t2 l hlt G hG hF σ (pcv hA) ((nI q9)) 0 0 (inB_y (show q9 < 4 by omega) (by decide)) (by rw [hnev]; rfl)) (vx_cwSW 5 hts gL_isLaid_L_does rfl rfl rfl (by decide +kernel) ⟨Nat.le_of_ble_eq_true rfl, Nat.le_of_ble_eq_true rfl⟩) rfl hl.1 rfl (Nat.le_of_ble_eq_true rfl) dL_isLaid_388 ⟨Nat.le_trans (show _ ≤ 3 by omega) (Nat.le_of_ble_eq_true rfl), Nat.le_trans (show _ ≤ 20 by omega) (Nat.le_of_ble_eq_true rfl)⟩ (fun r_49 σ_50 H locs p_51 hw => ?_)
              obtain ⟨er_49, eσ_50⟩ := p_51
              have er_49 := er_49.symm; subst er_49
              have eσ_50 := eσ_50.symm; subst eσ_50
              refine lv_iload hx hb dL_isLaid_391 (lv_at hl 0 rfl) ?_
              refine lv_icmp_ne (tgt := 400) hx hb dL_isLaid_393 (by decide) (fun c_52 => ?_) (fun c_52 => ?_)
              · skip
                exact absurd c_52 (by decide)
              · skip
                refine lv_iconst (v := 1) hx hb dL_isLaid_396 (by decide) ?_
                refine lv_goto (tgt := 401) hx hb dL_isLaid_397 (by decide) ?_
                exact rRetZw hx hb hr hw (by decide) (by exact ⟨rfl, po_same hA hGa⟩) hlocks dL_isLaid_401 (by omega) (by omega)
            · skip
              exact absurd c_48 (by decide)
          · skip
            have c_47 : s9 = 0 := n0_gtf (by omega) c_47
            omega
        · skip
          have c_46 : q9 = 4 := (nI_eq (by omega) (by omega)).mp c_46
          omega
      · skip
        exact absurd c_44 (by decide)
    · skip
      exact absurd c_43 (by decide)
  · skip
    obtain ⟨s9, hs5, hs1, hs2, hnev⟩ := hst
    refine lv_iload hx hb dL_isLaid_0 (lv_at hl 4 rfl) ?_
    refine lv_if_ne (tgt := 111) hx hb dL_isLaid_2 (by decide) (fun c_53 => ?_) (fun c_53 => ?_)
    · skip
      refine lv_iload hx hb dL_isLaid_111 (lv_at hl 4 rfl) ?_
      refine lv_iconst (v := 1) hx hb dL_isLaid_113 (by decide) ?_
      refine lv_icmp_ne (tgt := 320) hx hb dL_isLaid_114 (by decide) (fun c_54 => ?_) (fun c_54 => ?_)
      · skip
        refine lv_iload hx hb dL_isLaid_320 (lv_at hl 5 rfl) ?_
        refine lv_iconst (v := 5) hx hb dL_isLaid_322 (by decide) ?_
        refine lv_rep0 (x := 5) (y := nI 5) rfl ?_
        refine lv_irem hx hb dL_isLaid_323 (nI_ne0 (by omega) (by omega)) ?_
        refine lv_rep0 (y := nI (o % 5)) (pk_rem (by omega) (by omega) (by omega)) ?_
        refine lv_istore (lv' := [(8, .int (nI (o % 5))), (0, .ref (gad G 0)), (1, .ref (gad G 31)), (2, .ref (gad G 32)), (3, .ref (gad G 33)), (4, .int 2), (5, .int (nI o)), (6, .int (nI u)), (7, .int (nI v))]) hx hb dL_isLaid_324 hl (by decide) rfl (fun ls hl => ?_)
        have q_55 : (nI (o % 5)) = (nI q9) := by rw [hq9]
        have hl : lv_has ls 14 [(8, .int (nI q9)), (0, .ref (gad G 0)), (1, .ref (gad G 31)), (2, .ref (gad G 32)), (3, .ref (gad G 33)), (4, .int 2), (5, .int (nI o)), (6, .int (nI u)), (7, .int (nI v))] := (lv_c (lv_atq hl 0 rfl q_55) (lv_c (lv_at hl 1 rfl) (lv_c (lv_at hl 2 rfl) (lv_c (lv_at hl 3 rfl) (lv_c (lv_at hl 4 rfl) (lv_c (lv_at hl 5 rfl) (lv_c (lv_at hl 6 rfl) (lv_c (lv_at hl 7 rfl) (lv_c (lv_at hl 8 rfl) (lv_c0 hl))))))))))
        refine lv_iload hx hb dL_isLaid_326 (lv_at hl 0 rfl) ?_
        refine lv_iconst (v := 4) hx hb dL_isLaid_328 (by decide) ?_
        refine lv_rep0 (x := 4) (y := nI 4) rfl ?_
        refine lv_icmp_ne (tgt := 337) hx hb dL_isLaid_329 (by decide) (fun c_56 => ?_) (fun c_56 => ?_)
        · skip
          have c_56 : ¬ q9 = 4 := fun h9 => c_56 ((nI_eq (by omega) (by omega)).mpr h9)
          refine lv_aload_n hx hb dL_isLaid_337 rfl (lv_at hl 4 rfl) ?_
          refine lv_iconst (v := 5) hx hb dL_isLaid_338 (by decide) ?_
          refine lv_rep0 (x := 5) (y := nI 5) rfl ?_
          refine rAld hx hb fx hw 33 (hF.1 33 (by decide)) hF.2.1 (fun _ => rfl) 5 rfl (by omega) (by decide) dL_isLaid_339 ?_
          refine lv_rep0 (x := (σ 33 5)) (y := (nI s9)) hs5 ?_
          refine lv_if_gt (tgt := 351) hx hb dL_isLaid_340 (by decide) (fun c_57 => ?_) (fun c_57 => ?_)
          · skip
            have c_57 : 0 < s9 := n0_gtt (by omega) c_57
            refine lv_bipush (v := (-10)) hx hb dL_isLaid_351 (by decide) ?_
            refine lv_goto (tgt := 359) hx hb dL_isLaid_353 (by decide) ?_
            refine lv_istore (lv' := [(9, .int (-10)), (8, .int (nI q9)), (0, .ref (gad G 0)), (1, .ref (gad G 31)), (2, .ref (gad G 32)), (3, .ref (gad G 33)), (4, .int 2), (5, .int (nI o)), (6, .int (nI u)), (7, .int (nI v))]) hx hb dL_isLaid_359 hl (by decide) rfl (fun ls hl => ?_)
            refine lv_iload hx hb dL_isLaid_361 (lv_at hl 0 rfl) ?_
            refine lv_if_lt (tgt := 382) hx hb dL_isLaid_363 (by decide) (fun c_58 => ?_) (fun c_58 => ?_)
            · skip
              refine lv_aload_n hx hb dL_isLaid_382 rfl (lv_at hl 2 rfl) ?_
              refine lv_iconst (v := 2) hx hb dL_isLaid_383 (by decide) ?_
              refine lv_iload hx hb dL_isLaid_384 (lv_at hl 1 rfl) ?_
              refine lv_iconst (v := 0) hx hb dL_isLaid_386 (by decide) ?_
              refine lv_iconst (v := 0) hx hb dL_isLaid_387 (by decide) ?_
              refine rCallLS (As := [.ref (gad G 0), .int 2, .int (nI q9), .int 0, .int 0]) (rest := []) ⟨hx, hb, hml, hown, hts⟩ fx hw (d2_t2 l hlt G hG hF σ (pcv hA) ((nI q9)) 0 0 (inB_y (show q9 < 4 by omega) (by decide)) (by rw [hnev]; rfl)) (vx_cwSW 5 hts gL_isLaid_L_does rfl rfl rfl (by decide +kernel) ⟨Nat.le_of_ble_eq_true rfl, Nat.le_of_ble_eq_true rfl⟩) rfl hl.1 rfl (Nat.le_of_ble_eq_true rfl) dL_isLaid_388 ⟨Nat.le_trans (show _ ≤ 3 by omega) (Nat.le_of_ble_eq_true rfl), Nat.le_trans (show _ ≤ 20 by omega) (Nat.le_of_ble_eq_true rfl)⟩ (fun r_59 σ_60 H locs p_61 hw => ?_)
              obtain ⟨er_59, eσ_60⟩ := p_61
              have er_59 := er_59.symm; subst er_59
              have eσ_60 := eσ_60.symm; subst eσ_60
              refine lv_iload hx hb dL_isLaid_391 (lv_at hl 0 rfl) ?_
              refine lv_icmp_ne (tgt := 400) hx hb dL_isLaid_393 (by decide) (fun c_62 => ?_) (fun c_62 => ?_)
              · skip
                exact absurd c_62 (by decide)
              · skip
                refine lv_iconst (v := 1) hx hb dL_isLaid_396 (by decide) ?_
                refine lv_goto (tgt := 401) hx hb dL_isLaid_397 (by decide) ?_
                exact rRetZw hx hb hr hw (by decide) (by exact ⟨rfl, po_same hA hGa⟩) hlocks dL_isLaid_401 (by omega) (by omega)
            · skip
              exact absurd c_58 (by decide)
          · skip
            have c_57 : s9 = 0 := n0_gtf (by omega) c_57
            omega
        · skip
          have c_56 : q9 = 4 := (nI_eq (by omega) (by omega)).mp c_56
          omega
      · skip
        exact absurd c_54 (by decide)
    · skip
      exact absurd c_53 (by decide)
