/-! isPassed -/
section PASS2
variable {σ τ : St} {g n e z d t j k y lp db ga G9 : Nat} {b : Bool}
theorem mv_l (hA : PAll σ g n e z d t b j) (hj : j < 100) (hy : y = 0) (hX : PKx σ g z G9 k lp db ga) (hf : ¬ σ 31 (12 * ga + y) ≤ 0) : mvR (noSt σ z k y) 4 k y = (if db = 0 then (if σ 33 1 &&& (σ 32 (6 * k + 4) ^^^ (-1)) = 0 then (if lp + 1 < G9 then 1 else 5) else 2) else 4) := by
  subst hy
  have x4 := hX.2.2.2.1
  have hg5 := (pg hA).2
  have hz : z ≤ j := hA.2.2.2.2.2.2.2
  have hld : ldB (σ 2) ga 0 = true := by rw [hs_ld hA x4.2 (by omega), decide_eq_false hf]; rfl
  rw [(w_l (z := z) (by omega) x4.1 hld).2]
  exact cr_v hX (by omega) hA.2.1.2.1
theorem pass_p {db' : Nat} (hA : PAll σ g n e z d t b j) (hG : PGat σ g) (hj : j < 100) (hb : b = true) (hk : k < 6) (hy : y = 0) (hX : PKx σ g z G9 k lp db ga) (hfi : finB σ 4 k = false) (hf : ¬ σ 31 (12 * ga + y) ≤ 0) (hd0 : 0 < db) (hdb : db' = db - 1)
    (hc : ∀ c, c ≠ 32 → τ c = mvS (noSt σ z k y) 4 k y c) (h32 : τ 32 = upd (upd (upd (mvS (noSt σ z k y) 4 k y 32) (6 * k + 1) (nI y)) (6 * k + 4) 0) (6 * k + 3) (nI db')) : PIn τ (j + 1) := by
  subst hy
  have hlt := lp_lt hX hfi
  obtain ⟨x1, x2, x3, x4, x5, x6, x7, x8, x9, x10⟩ := id hX
  have W9 : mvS (noSt σ z k 0) 4 k 0 32 = σ 32 := W32
  refine pass_l (lp' := lp) (db' := db') (fi := 0) hA hG hj hb hk hX hfi hf hdb (by rw [if_neg (fun h => by omega)]) (by rw [if_neg (by omega)]) hc ?_ ?_ ?_ ?_ ?_ ?_
  · rw [h32, pk_un (by omega), pk_un (by omega), pk_us]
  · rw [h32, pk_un (by omega), pk_un (by omega), pk_un (by omega), W9]; exact x6
  · rw [h32, pk_us]
  · rw [h32, pk_un (by omega), pk_us]
  · rw [h32, pk_un (by omega), pk_un (by omega), pk_un (by omega), W9, x9, if_neg (by omega)]
  · intro a c a1 a2 a3 a4
    rw [h32, pk_un (by omega), pk_un (by omega), pk_un (by omega)]
theorem pass_k {lp' : Nat} {v5 : Int32} (hA : PAll σ g n e z d t b j) (hG : PGat σ g) (hj : j < 100) (hb : b = true) (hk : k < 6) (hy : y = 0) (hX : PKx σ g z G9 k lp db ga) (hfi : finB σ 4 k = false) (hf : ¬ σ 31 (12 * ga + y) ≤ 0) (hd0 : db = 0)
    (hlp : (σ 33 1 &&& (σ 32 (6 * k + 4) ^^^ (-1)) = 0 ∧ lp' = lp + 1) ∨ (¬ σ 33 1 &&& (σ 32 (6 * k + 4) ^^^ (-1)) = 0 ∧ lp' = lp)) (hv : (v5 = 0 ∧ lp' ≠ G9) ∨ (v5 = 1 ∧ lp' = G9))
    (hc : ∀ c, c ≠ 32 → τ c = mvS (noSt σ z k y) 4 k y c) (h32 : τ 32 = upd (upd (upd (upd (mvS (noSt σ z k y) 4 k y 32) (6 * k + 1) (nI y)) (6 * k + 4) 0) (6 * k + 2) (nI lp')) (6 * k + 5) v5) : PIn τ (j + 1) := by
  subst hy
  have hlt := lp_lt hX hfi
  obtain ⟨x1, x2, x3, x4, x5, x6, x7, x8, x9, x10⟩ := id hX
  have W9 : mvS (noSt σ z k 0) 4 k 0 32 = σ 32 := W32
  refine pass_l (lp' := lp') (db' := db - 1) (fi := if lp' = G9 then 1 else 0) hA hG hj hb hk hX hfi hf rfl ?_ rfl hc ?_ ?_ ?_ ?_ ?_ ?_
  · rcases hlp with ⟨h, h2⟩ | ⟨h, h2⟩
    · rw [if_pos ⟨hd0, h⟩]; exact h2
    · rw [if_neg (fun q => h q.2)]; exact h2
  · rw [h32, pk_un (by omega), pk_un (by omega), pk_un (by omega), pk_us]
  · rw [h32, pk_un (by omega), pk_us]
  · rw [h32, pk_un (by omega), pk_un (by omega), pk_un (by omega), pk_un (by omega), W9, x7, hd0]
  · rw [h32, pk_un (by omega), pk_un (by omega), pk_us]
  · rw [h32, pk_us]
    rcases hv with ⟨h, h2⟩ | ⟨h, h2⟩
    · rw [h, if_neg h2]; rfl
    · rw [h, if_pos h2]; rfl
  · intro a c a1 a2 a3 a4
    rw [h32, pk_un (by omega), pk_un (by omega), pk_un (by omega), pk_un (by omega)]
end PASS2

def rmL_isPassed : Room := ({ frames := 10, cells := 3, slots := 20, locals := 170 } : Room)
set_option maxHeartbeats 4000000 in
set_option maxRecDepth 100000 in
theorem kL_isPassed (l : Launch) (hlt : l.stackTraces = false) (G : Gx) (hG : gOk G) (hF : Full G) (σ : St) {g n e9 z d t j : Nat} {b : Bool} (hA : PAll σ g n e9 z d t b j) (hGa : PGat σ g) (hj : j < 100) (kk to9 : Nat) (hkk : kk ≤ n) (hto : to9 ≤ g)  : CmI l yL_isPassed wsL_isPassed rmL_isPassed G σ [.ref (gad G 0), .ref (gad G 31), .ref (gad G 32), .ref (gad G 33), .int (nI kk), .int (nI to9)] (fun r σ' => r = 1 ∧ PIn σ' (j + 1)) 3 20 := by
  refine bgM (cc := cL_isPassed) (maxL := 13) (ret := (some .boolean)) (own := RL) (by decide) rfl rfl hG (Nat.le_of_ble_eq_true rfl) rfl ?_
  intro p e s m args below meth c ls Bd hl
  obtain ⟨hx, hb, hr, hml, hts, hown, hlocks, fx, hw⟩ := Bd
  have hl : lv_has ls 13 [(0, .ref (gad G 0)), (1, .ref (gad G 31)), (2, .ref (gad G 32)), (3, .ref (gad G 33)), (4, .int (nI kk)), (5, .int (nI to9))] := hl
  have hg5 := (pg hA).2
  have hn6 := (pn hA).2
  have he8 := (pe hA).2
  rcases (show n ≤ kk ∨ (kk < n ∧ g ≤ to9) ∨ (kk < n ∧ to9 < g) by omega) with hk | hk | hk <;> rcases Bool.eq_false_or_eq_true b with hbo | hbo
  · skip
    refine lv_iload hx hb dL_isPassed_0 (lv_at hl 4 rfl) ?_
    refine lv_aload_n hx hb dL_isPassed_2 rfl (lv_at hl 3 rfl) ?_
    refine lv_iconst (v := 2) hx hb dL_isPassed_3 (by decide) ?_
    refine lv_rep0 (x := 2) (y := nI 2) rfl ?_
    refine rAld hx hb fx hw 33 (hF.1 33 (by decide)) hF.2.1 (fun _ => rfl) 2 rfl (by omega) (by decide) dL_isPassed_4 ?_
    refine lv_rep0 (x := (σ 33 2)) (y := (nI n)) (pn hA).1 ?_
    refine lv_icmp_ge (tgt := 20) hx hb dL_isPassed_5 (by decide) (fun c_1 => ?_) (fun c_1 => ?_)
    · skip
      have c_1 : n ≤ kk := (nI_leI (by omega) (by omega)).mp c_1
      refine lv_iconst (v := 0) hx hb dL_isPassed_20 (by decide) ?_
      refine lv_istore (lv' := [(6, .int 0), (0, .ref (gad G 0)), (1, .ref (gad G 31)), (2, .ref (gad G 32)), (3, .ref (gad G 33)), (4, .int (nI kk)), (5, .int (nI to9))]) hx hb dL_isPassed_21 hl (by decide) rfl (fun ls hl => ?_)
      refine lv_iload hx hb dL_isPassed_23 (lv_at hl 0 rfl) ?_
      refine lv_if_eq (tgt := 36) hx hb dL_isPassed_25 (by decide) (fun c_2 => ?_) (fun c_2 => ?_)
      · skip
        refine lv_iconst (v := 0) hx hb dL_isPassed_36 (by decide) ?_
        refine lv_istore (lv' := [(7, .int 0), (6, .int 0), (0, .ref (gad G 0)), (1, .ref (gad G 31)), (2, .ref (gad G 32)), (3, .ref (gad G 33)), (4, .int (nI kk)), (5, .int (nI to9))]) hx hb dL_isPassed_37 hl (by decide) rfl (fun ls hl => ?_)
        refine lv_iload hx hb dL_isPassed_39 (lv_at hl 1 rfl) ?_
        refine lv_if_eq (tgt := 53) hx hb dL_isPassed_41 (by decide) (fun c_3 => ?_) (fun c_3 => ?_)
        · skip
          refine lv_iconst (v := 0) hx hb dL_isPassed_53 (by decide) ?_
          refine lv_istore (lv' := [(8, .int 0), (7, .int 0), (6, .int 0), (0, .ref (gad G 0)), (1, .ref (gad G 31)), (2, .ref (gad G 32)), (3, .ref (gad G 33)), (4, .int (nI kk)), (5, .int (nI to9))]) hx hb dL_isPassed_54 hl (by decide) rfl (fun ls hl => ?_)
          refine lv_iload hx hb dL_isPassed_56 (lv_at hl 2 rfl) ?_
          refine lv_if_eq (tgt := 76) hx hb dL_isPassed_58 (by decide) (fun c_4 => ?_) (fun c_4 => ?_)
          · skip
            refine lv_iconst (v := 0) hx hb dL_isPassed_76 (by decide) ?_
            refine lv_istore (lv' := [(9, .int 0), (8, .int 0), (7, .int 0), (6, .int 0), (0, .ref (gad G 0)), (1, .ref (gad G 31)), (2, .ref (gad G 32)), (3, .ref (gad G 33)), (4, .int (nI kk)), (5, .int (nI to9))]) hx hb dL_isPassed_77 hl (by decide) rfl (fun ls hl => ?_)
            refine lv_iload hx hb dL_isPassed_79 (lv_at hl 3 rfl) ?_
            refine lv_if_eq (tgt := 129) hx hb dL_isPassed_81 (by decide) (fun c_5 => ?_) (fun c_5 => ?_)
            · skip
              refine lv_iconst (v := 0) hx hb dL_isPassed_129 (by decide) ?_
              refine lv_istore (lv' := [(10, .int 0), (9, .int 0), (8, .int 0), (7, .int 0), (6, .int 0), (0, .ref (gad G 0)), (1, .ref (gad G 31)), (2, .ref (gad G 32)), (3, .ref (gad G 33)), (4, .int (nI kk)), (5, .int (nI to9))]) hx hb dL_isPassed_130 hl (by decide) rfl (fun ls hl => ?_)
              refine lv_aload_n hx hb dL_isPassed_132 rfl (lv_at hl 5 rfl) ?_
              refine lv_iconst (v := 4) hx hb dL_isPassed_133 (by decide) ?_
              refine lv_iload hx hb dL_isPassed_134 (lv_at hl 9 rfl) ?_
              refine lv_iload hx hb dL_isPassed_136 (lv_at hl 10 rfl) ?_
              refine lv_iconst (v := 0) hx hb dL_isPassed_138 (by decide) ?_
              refine rCallLS (As := [.ref (gad G 0), .int 4, .int (nI kk), .int (nI to9), .int 0]) (rest := []) ⟨hx, hb, hml, hown, hts⟩ fx hw (d4_t1 l hlt G hG hF σ (pcv hA) ((nI kk)) ((nI to9)) 0 (by first | (rw [inB_no (a := kk) (n := n) (by omega) (by omega)]; rfl) | (rw [inB_no (a := to9) (n := g) (by omega) (by omega), Bool.and_false]))) (vx_cwSW 5 hts gL_isPassed_L_does rfl rfl rfl (by decide +kernel) ⟨Nat.le_of_ble_eq_true rfl, Nat.le_of_ble_eq_true rfl⟩) rfl hl.1 rfl (Nat.le_of_ble_eq_true rfl) dL_isPassed_139 ⟨Nat.le_trans (show _ ≤ 3 by omega) (Nat.le_of_ble_eq_true rfl), Nat.le_trans (show _ ≤ 20 by omega) (Nat.le_of_ble_eq_true rfl)⟩ (fun r_6 σ_7 H locs p_8 hw => ?_)
              obtain ⟨er_6, eσ_7⟩ := p_8
              have er_6 := er_6.symm; subst er_6
              have eσ_7 := eσ_7.symm; subst eσ_7
              refine lv_istore (lv' := [(11, .int (-30)), (10, .int 0), (9, .int 0), (8, .int 0), (7, .int 0), (6, .int 0), (0, .ref (gad G 0)), (1, .ref (gad G 31)), (2, .ref (gad G 32)), (3, .ref (gad G 33)), (4, .int (nI kk)), (5, .int (nI to9))]) hx hb dL_isPassed_142 hl (by decide) rfl (fun ls hl => ?_)
              refine lv_iload hx hb dL_isPassed_144 (lv_at hl 1 rfl) ?_
              refine lv_if_ne (tgt := 172) hx hb dL_isPassed_146 (by decide) (fun c_9 => ?_) (fun c_9 => ?_)
              · skip
                exact absurd c_9 (by decide)
              · skip
                refine lv_iload hx hb dL_isPassed_149 (lv_at hl 0 rfl) ?_
                refine lv_iload hx hb dL_isPassed_151 (lv_at hl 5 rfl) ?_
                refine lv_if_eq (tgt := 161) hx hb dL_isPassed_153 (by decide) (fun c_10 => ?_) (fun c_10 => ?_)
                · skip
                  refine lv_bipush (v := (-30)) hx hb dL_isPassed_161 (by decide) ?_
                  refine lv_icmp_ne (tgt := 170) hx hb dL_isPassed_163 (by decide) (fun c_11 => ?_) (fun c_11 => ?_)
                  · skip
                    exact absurd c_11 (by decide)
                  · skip
                    refine lv_iconst (v := 1) hx hb dL_isPassed_166 (by decide) ?_
                    refine lv_goto (tgt := 171) hx hb dL_isPassed_167 (by decide) ?_
                    exact rRetZw hx hb hr hw (by decide) (by exact ⟨rfl, po_same hA hGa⟩) hlocks dL_isPassed_171 (by omega) (by omega)
                · skip
                  exact absurd c_10 (by decide)
            · skip
              exact absurd c_5 (by decide)
          · skip
            exact absurd c_4 (by decide)
        · skip
          exact absurd c_3 (by decide)
      · skip
        exact absurd c_2 (by decide)
    · skip
      have c_1 : ¬ n ≤ kk := fun h9 => c_1 ((nI_leI (by omega) (by omega)).mpr h9)
      omega
  · skip
    refine lv_iload hx hb dL_isPassed_0 (lv_at hl 4 rfl) ?_
    refine lv_aload_n hx hb dL_isPassed_2 rfl (lv_at hl 3 rfl) ?_
    refine lv_iconst (v := 2) hx hb dL_isPassed_3 (by decide) ?_
    refine lv_rep0 (x := 2) (y := nI 2) rfl ?_
    refine rAld hx hb fx hw 33 (hF.1 33 (by decide)) hF.2.1 (fun _ => rfl) 2 rfl (by omega) (by decide) dL_isPassed_4 ?_
    refine lv_rep0 (x := (σ 33 2)) (y := (nI n)) (pn hA).1 ?_
    refine lv_icmp_ge (tgt := 20) hx hb dL_isPassed_5 (by decide) (fun c_12 => ?_) (fun c_12 => ?_)
    · skip
      have c_12 : n ≤ kk := (nI_leI (by omega) (by omega)).mp c_12
      refine lv_iconst (v := 0) hx hb dL_isPassed_20 (by decide) ?_
      refine lv_istore (lv' := [(6, .int 0), (0, .ref (gad G 0)), (1, .ref (gad G 31)), (2, .ref (gad G 32)), (3, .ref (gad G 33)), (4, .int (nI kk)), (5, .int (nI to9))]) hx hb dL_isPassed_21 hl (by decide) rfl (fun ls hl => ?_)
      refine lv_iload hx hb dL_isPassed_23 (lv_at hl 0 rfl) ?_
      refine lv_if_eq (tgt := 36) hx hb dL_isPassed_25 (by decide) (fun c_13 => ?_) (fun c_13 => ?_)
      · skip
        refine lv_iconst (v := 0) hx hb dL_isPassed_36 (by decide) ?_
        refine lv_istore (lv' := [(7, .int 0), (6, .int 0), (0, .ref (gad G 0)), (1, .ref (gad G 31)), (2, .ref (gad G 32)), (3, .ref (gad G 33)), (4, .int (nI kk)), (5, .int (nI to9))]) hx hb dL_isPassed_37 hl (by decide) rfl (fun ls hl => ?_)
        refine lv_iload hx hb dL_isPassed_39 (lv_at hl 1 rfl) ?_
        refine lv_if_eq (tgt := 53) hx hb dL_isPassed_41 (by decide) (fun c_14 => ?_) (fun c_14 => ?_)
        · skip
          refine lv_iconst (v := 0) hx hb dL_isPassed_53 (by decide) ?_
          refine lv_istore (lv' := [(8, .int 0), (7, .int 0), (6, .int 0), (0, .ref (gad G 0)), (1, .ref (gad G 31)), (2, .ref (gad G 32)), (3, .ref (gad G 33)), (4, .int (nI kk)), (5, .int (nI to9))]) hx hb dL_isPassed_54 hl (by decide) rfl (fun ls hl => ?_)
          refine lv_iload hx hb dL_isPassed_56 (lv_at hl 2 rfl) ?_
          refine lv_if_eq (tgt := 76) hx hb dL_isPassed_58 (by decide) (fun c_15 => ?_) (fun c_15 => ?_)
          · skip
            refine lv_iconst (v := 0) hx hb dL_isPassed_76 (by decide) ?_
            refine lv_istore (lv' := [(9, .int 0), (8, .int 0), (7, .int 0), (6, .int 0), (0, .ref (gad G 0)), (1, .ref (gad G 31)), (2, .ref (gad G 32)), (3, .ref (gad G 33)), (4, .int (nI kk)), (5, .int (nI to9))]) hx hb dL_isPassed_77 hl (by decide) rfl (fun ls hl => ?_)
            refine lv_iload hx hb dL_isPassed_79 (lv_at hl 3 rfl) ?_
            refine lv_if_eq (tgt := 129) hx hb dL_isPassed_81 (by decide) (fun c_16 => ?_) (fun c_16 => ?_)
            · skip
              refine lv_iconst (v := 0) hx hb dL_isPassed_129 (by decide) ?_
              refine lv_istore (lv' := [(10, .int 0), (9, .int 0), (8, .int 0), (7, .int 0), (6, .int 0), (0, .ref (gad G 0)), (1, .ref (gad G 31)), (2, .ref (gad G 32)), (3, .ref (gad G 33)), (4, .int (nI kk)), (5, .int (nI to9))]) hx hb dL_isPassed_130 hl (by decide) rfl (fun ls hl => ?_)
              refine lv_aload_n hx hb dL_isPassed_132 rfl (lv_at hl 5 rfl) ?_
              refine lv_iconst (v := 4) hx hb dL_isPassed_133 (by decide) ?_
              refine lv_iload hx hb dL_isPassed_134 (lv_at hl 9 rfl) ?_
              refine lv_iload hx hb dL_isPassed_136 (lv_at hl 10 rfl) ?_
              refine lv_iconst (v := 0) hx hb dL_isPassed_138 (by decide) ?_
              refine rCallLS (As := [.ref (gad G 0), .int 4, .int (nI kk), .int (nI to9), .int 0]) (rest := []) ⟨hx, hb, hml, hown, hts⟩ fx hw (d4_t1 l hlt G hG hF σ (pcv hA) ((nI kk)) ((nI to9)) 0 (by first | (rw [inB_no (a := kk) (n := n) (by omega) (by omega)]; rfl) | (rw [inB_no (a := to9) (n := g) (by omega) (by omega), Bool.and_false]))) (vx_cwSW 5 hts gL_isPassed_L_does rfl rfl rfl (by decide +kernel) ⟨Nat.le_of_ble_eq_true rfl, Nat.le_of_ble_eq_true rfl⟩) rfl hl.1 rfl (Nat.le_of_ble_eq_true rfl) dL_isPassed_139 ⟨Nat.le_trans (show _ ≤ 3 by omega) (Nat.le_of_ble_eq_true rfl), Nat.le_trans (show _ ≤ 20 by omega) (Nat.le_of_ble_eq_true rfl)⟩ (fun r_17 σ_18 H locs p_19 hw => ?_)
              obtain ⟨er_17, eσ_18⟩ := p_19
              have er_17 := er_17.symm; subst er_17
              have eσ_18 := eσ_18.symm; subst eσ_18
              refine lv_istore (lv' := [(11, .int (-30)), (10, .int 0), (9, .int 0), (8, .int 0), (7, .int 0), (6, .int 0), (0, .ref (gad G 0)), (1, .ref (gad G 31)), (2, .ref (gad G 32)), (3, .ref (gad G 33)), (4, .int (nI kk)), (5, .int (nI to9))]) hx hb dL_isPassed_142 hl (by decide) rfl (fun ls hl => ?_)
              refine lv_iload hx hb dL_isPassed_144 (lv_at hl 1 rfl) ?_
              refine lv_if_ne (tgt := 172) hx hb dL_isPassed_146 (by decide) (fun c_20 => ?_) (fun c_20 => ?_)
              · skip
                exact absurd c_20 (by decide)
              · skip
                refine lv_iload hx hb dL_isPassed_149 (lv_at hl 0 rfl) ?_
                refine lv_iload hx hb dL_isPassed_151 (lv_at hl 5 rfl) ?_
                refine lv_if_eq (tgt := 161) hx hb dL_isPassed_153 (by decide) (fun c_21 => ?_) (fun c_21 => ?_)
                · skip
                  refine lv_bipush (v := (-30)) hx hb dL_isPassed_161 (by decide) ?_
                  refine lv_icmp_ne (tgt := 170) hx hb dL_isPassed_163 (by decide) (fun c_22 => ?_) (fun c_22 => ?_)
                  · skip
                    exact absurd c_22 (by decide)
                  · skip
                    refine lv_iconst (v := 1) hx hb dL_isPassed_166 (by decide) ?_
                    refine lv_goto (tgt := 171) hx hb dL_isPassed_167 (by decide) ?_
                    exact rRetZw hx hb hr hw (by decide) (by exact ⟨rfl, po_same hA hGa⟩) hlocks dL_isPassed_171 (by omega) (by omega)
                · skip
                  exact absurd c_21 (by decide)
            · skip
              exact absurd c_16 (by decide)
          · skip
            exact absurd c_15 (by decide)
        · skip
          exact absurd c_14 (by decide)
      · skip
        exact absurd c_13 (by decide)
    · skip
      have c_12 : ¬ n ≤ kk := fun h9 => c_12 ((nI_leI (by omega) (by omega)).mpr h9)
      omega
  · skip
    refine lv_iload hx hb dL_isPassed_0 (lv_at hl 4 rfl) ?_
    refine lv_aload_n hx hb dL_isPassed_2 rfl (lv_at hl 3 rfl) ?_
    refine lv_iconst (v := 2) hx hb dL_isPassed_3 (by decide) ?_
    refine lv_rep0 (x := 2) (y := nI 2) rfl ?_
    refine rAld hx hb fx hw 33 (hF.1 33 (by decide)) hF.2.1 (fun _ => rfl) 2 rfl (by omega) (by decide) dL_isPassed_4 ?_
    refine lv_rep0 (x := (σ 33 2)) (y := (nI n)) (pn hA).1 ?_
    refine lv_icmp_ge (tgt := 20) hx hb dL_isPassed_5 (by decide) (fun c_23 => ?_) (fun c_23 => ?_)
    · skip
      have c_23 : n ≤ kk := (nI_leI (by omega) (by omega)).mp c_23
      omega
    · skip
      have c_23 : ¬ n ≤ kk := fun h9 => c_23 ((nI_leI (by omega) (by omega)).mpr h9)
      refine lv_iload hx hb dL_isPassed_8 (lv_at hl 5 rfl) ?_
      refine lv_aload_n hx hb dL_isPassed_10 rfl (lv_at hl 3 rfl) ?_
      refine lv_iconst (v := 0) hx hb dL_isPassed_11 (by decide) ?_
      refine lv_rep0 (x := 0) (y := nI 0) rfl ?_
      refine rAld hx hb fx hw 33 (hF.1 33 (by decide)) hF.2.1 (fun _ => rfl) 0 rfl (by omega) (by decide) dL_isPassed_12 ?_
      refine lv_rep0 (x := (σ 33 0)) (y := (nI g)) (pg hA).1 ?_
      refine lv_icmp_ge (tgt := 20) hx hb dL_isPassed_13 (by decide) (fun c_24 => ?_) (fun c_24 => ?_)
      · skip
        have c_24 : g ≤ to9 := (nI_leI (by omega) (by omega)).mp c_24
        refine lv_iconst (v := 0) hx hb dL_isPassed_20 (by decide) ?_
        refine lv_istore (lv' := [(6, .int 0), (0, .ref (gad G 0)), (1, .ref (gad G 31)), (2, .ref (gad G 32)), (3, .ref (gad G 33)), (4, .int (nI kk)), (5, .int (nI to9))]) hx hb dL_isPassed_21 hl (by decide) rfl (fun ls hl => ?_)
        refine lv_iload hx hb dL_isPassed_23 (lv_at hl 0 rfl) ?_
        refine lv_if_eq (tgt := 36) hx hb dL_isPassed_25 (by decide) (fun c_25 => ?_) (fun c_25 => ?_)
        · skip
          refine lv_iconst (v := 0) hx hb dL_isPassed_36 (by decide) ?_
          refine lv_istore (lv' := [(7, .int 0), (6, .int 0), (0, .ref (gad G 0)), (1, .ref (gad G 31)), (2, .ref (gad G 32)), (3, .ref (gad G 33)), (4, .int (nI kk)), (5, .int (nI to9))]) hx hb dL_isPassed_37 hl (by decide) rfl (fun ls hl => ?_)
          refine lv_iload hx hb dL_isPassed_39 (lv_at hl 1 rfl) ?_
          refine lv_if_eq (tgt := 53) hx hb dL_isPassed_41 (by decide) (fun c_26 => ?_) (fun c_26 => ?_)
          · skip
            refine lv_iconst (v := 0) hx hb dL_isPassed_53 (by decide) ?_
            refine lv_istore (lv' := [(8, .int 0), (7, .int 0), (6, .int 0), (0, .ref (gad G 0)), (1, .ref (gad G 31)), (2, .ref (gad G 32)), (3, .ref (gad G 33)), (4, .int (nI kk)), (5, .int (nI to9))]) hx hb dL_isPassed_54 hl (by decide) rfl (fun ls hl => ?_)
            refine lv_iload hx hb dL_isPassed_56 (lv_at hl 2 rfl) ?_
            refine lv_if_eq (tgt := 76) hx hb dL_isPassed_58 (by decide) (fun c_27 => ?_) (fun c_27 => ?_)
            · skip
              refine lv_iconst (v := 0) hx hb dL_isPassed_76 (by decide) ?_
              refine lv_istore (lv' := [(9, .int 0), (8, .int 0), (7, .int 0), (6, .int 0), (0, .ref (gad G 0)), (1, .ref (gad G 31)), (2, .ref (gad G 32)), (3, .ref (gad G 33)), (4, .int (nI kk)), (5, .int (nI to9))]) hx hb dL_isPassed_77 hl (by decide) rfl (fun ls hl => ?_)
              refine lv_iload hx hb dL_isPassed_79 (lv_at hl 3 rfl) ?_
              refine lv_if_eq (tgt := 129) hx hb dL_isPassed_81 (by decide) (fun c_28 => ?_) (fun c_28 => ?_)
              · skip
                refine lv_iconst (v := 0) hx hb dL_isPassed_129 (by decide) ?_
                refine lv_istore (lv' := [(10, .int 0), (9, .int 0), (8, .int 0), (7, .int 0), (6, .int 0), (0, .ref (gad G 0)), (1, .ref (gad G 31)), (2, .ref (gad G 32)), (3, .ref (gad G 33)), (4, .int (nI kk)), (5, .int (nI to9))]) hx hb dL_isPassed_130 hl (by decide) rfl (fun ls hl => ?_)
                refine lv_aload_n hx hb dL_isPassed_132 rfl (lv_at hl 5 rfl) ?_
                refine lv_iconst (v := 4) hx hb dL_isPassed_133 (by decide) ?_
                refine lv_iload hx hb dL_isPassed_134 (lv_at hl 9 rfl) ?_
                refine lv_iload hx hb dL_isPassed_136 (lv_at hl 10 rfl) ?_
                refine lv_iconst (v := 0) hx hb dL_isPassed_138 (by decide) ?_
                refine rCallLS (As := [.ref (gad G 0), .int 4, .int (nI kk), .int (nI to9), .int 0]) (rest := []) ⟨hx, hb, hml, hown, hts⟩ fx hw (d4_t1 l hlt G hG hF σ (pcv hA) ((nI kk)) ((nI to9)) 0 (by first | (rw [inB_no (a := kk) (n := n) (by omega) (by omega)]; rfl) | (rw [inB_no (a := to9) (n := g) (by omega) (by omega), Bool.and_false]))) (vx_cwSW 5 hts gL_isPassed_L_does rfl rfl rfl (by decide +kernel) ⟨Nat.le_of_ble_eq_true rfl, Nat.le_of_ble_eq_true rfl⟩) rfl hl.1 rfl (Nat.le_of_ble_eq_true rfl) dL_isPassed_139 ⟨Nat.le_trans (show _ ≤ 3 by omega) (Nat.le_of_ble_eq_true rfl), Nat.le_trans (show _ ≤ 20 by omega) (Nat.le_of_ble_eq_true rfl)⟩ (fun r_29 σ_30 H locs p_31 hw => ?_)
                obtain ⟨er_29, eσ_30⟩ := p_31
                have er_29 := er_29.symm; subst er_29
                have eσ_30 := eσ_30.symm; subst eσ_30
                refine lv_istore (lv' := [(11, .int (-30)), (10, .int 0), (9, .int 0), (8, .int 0), (7, .int 0), (6, .int 0), (0, .ref (gad G 0)), (1, .ref (gad G 31)), (2, .ref (gad G 32)), (3, .ref (gad G 33)), (4, .int (nI kk)), (5, .int (nI to9))]) hx hb dL_isPassed_142 hl (by decide) rfl (fun ls hl => ?_)
                refine lv_iload hx hb dL_isPassed_144 (lv_at hl 1 rfl) ?_
                refine lv_if_ne (tgt := 172) hx hb dL_isPassed_146 (by decide) (fun c_32 => ?_) (fun c_32 => ?_)
                · skip
                  exact absurd c_32 (by decide)
                · skip
                  refine lv_iload hx hb dL_isPassed_149 (lv_at hl 0 rfl) ?_
                  refine lv_iload hx hb dL_isPassed_151 (lv_at hl 5 rfl) ?_
                  refine lv_if_eq (tgt := 161) hx hb dL_isPassed_153 (by decide) (fun c_33 => ?_) (fun c_33 => ?_)
                  · skip
                    refine lv_bipush (v := (-30)) hx hb dL_isPassed_161 (by decide) ?_
                    refine lv_icmp_ne (tgt := 170) hx hb dL_isPassed_163 (by decide) (fun c_34 => ?_) (fun c_34 => ?_)
                    · skip
                      exact absurd c_34 (by decide)
                    · skip
                      refine lv_iconst (v := 1) hx hb dL_isPassed_166 (by decide) ?_
                      refine lv_goto (tgt := 171) hx hb dL_isPassed_167 (by decide) ?_
                      exact rRetZw hx hb hr hw (by decide) (by exact ⟨rfl, po_same hA hGa⟩) hlocks dL_isPassed_171 (by omega) (by omega)
                  · skip
                    exact absurd c_33 (by decide)
              · skip
                exact absurd c_28 (by decide)
            · skip
              exact absurd c_27 (by decide)
          · skip
            exact absurd c_26 (by decide)
        · skip
          exact absurd c_25 (by decide)
      · skip
        have c_24 : ¬ g ≤ to9 := fun h9 => c_24 ((nI_leI (by omega) (by omega)).mpr h9)
        omega
  · skip
    refine lv_iload hx hb dL_isPassed_0 (lv_at hl 4 rfl) ?_
    refine lv_aload_n hx hb dL_isPassed_2 rfl (lv_at hl 3 rfl) ?_
    refine lv_iconst (v := 2) hx hb dL_isPassed_3 (by decide) ?_
    refine lv_rep0 (x := 2) (y := nI 2) rfl ?_
    refine rAld hx hb fx hw 33 (hF.1 33 (by decide)) hF.2.1 (fun _ => rfl) 2 rfl (by omega) (by decide) dL_isPassed_4 ?_
    refine lv_rep0 (x := (σ 33 2)) (y := (nI n)) (pn hA).1 ?_
    refine lv_icmp_ge (tgt := 20) hx hb dL_isPassed_5 (by decide) (fun c_35 => ?_) (fun c_35 => ?_)
    · skip
      have c_35 : n ≤ kk := (nI_leI (by omega) (by omega)).mp c_35
      omega
    · skip
      have c_35 : ¬ n ≤ kk := fun h9 => c_35 ((nI_leI (by omega) (by omega)).mpr h9)
      refine lv_iload hx hb dL_isPassed_8 (lv_at hl 5 rfl) ?_
      refine lv_aload_n hx hb dL_isPassed_10 rfl (lv_at hl 3 rfl) ?_
      refine lv_iconst (v := 0) hx hb dL_isPassed_11 (by decide) ?_
      refine lv_rep0 (x := 0) (y := nI 0) rfl ?_
      refine rAld hx hb fx hw 33 (hF.1 33 (by decide)) hF.2.1 (fun _ => rfl) 0 rfl (by omega) (by decide) dL_isPassed_12 ?_
      refine lv_rep0 (x := (σ 33 0)) (y := (nI g)) (pg hA).1 ?_
      refine lv_icmp_ge (tgt := 20) hx hb dL_isPassed_13 (by decide) (fun c_36 => ?_) (fun c_36 => ?_)
      · skip
        have c_36 : g ≤ to9 := (nI_leI (by omega) (by omega)).mp c_36
        refine lv_iconst (v := 0) hx hb dL_isPassed_20 (by decide) ?_
        refine lv_istore (lv' := [(6, .int 0), (0, .ref (gad G 0)), (1, .ref (gad G 31)), (2, .ref (gad G 32)), (3, .ref (gad G 33)), (4, .int (nI kk)), (5, .int (nI to9))]) hx hb dL_isPassed_21 hl (by decide) rfl (fun ls hl => ?_)
        refine lv_iload hx hb dL_isPassed_23 (lv_at hl 0 rfl) ?_
        refine lv_if_eq (tgt := 36) hx hb dL_isPassed_25 (by decide) (fun c_37 => ?_) (fun c_37 => ?_)
        · skip
          refine lv_iconst (v := 0) hx hb dL_isPassed_36 (by decide) ?_
          refine lv_istore (lv' := [(7, .int 0), (6, .int 0), (0, .ref (gad G 0)), (1, .ref (gad G 31)), (2, .ref (gad G 32)), (3, .ref (gad G 33)), (4, .int (nI kk)), (5, .int (nI to9))]) hx hb dL_isPassed_37 hl (by decide) rfl (fun ls hl => ?_)
          refine lv_iload hx hb dL_isPassed_39 (lv_at hl 1 rfl) ?_
          refine lv_if_eq (tgt := 53) hx hb dL_isPassed_41 (by decide) (fun c_38 => ?_) (fun c_38 => ?_)
          · skip
            refine lv_iconst (v := 0) hx hb dL_isPassed_53 (by decide) ?_
            refine lv_istore (lv' := [(8, .int 0), (7, .int 0), (6, .int 0), (0, .ref (gad G 0)), (1, .ref (gad G 31)), (2, .ref (gad G 32)), (3, .ref (gad G 33)), (4, .int (nI kk)), (5, .int (nI to9))]) hx hb dL_isPassed_54 hl (by decide) rfl (fun ls hl => ?_)
            refine lv_iload hx hb dL_isPassed_56 (lv_at hl 2 rfl) ?_
            refine lv_if_eq (tgt := 76) hx hb dL_isPassed_58 (by decide) (fun c_39 => ?_) (fun c_39 => ?_)
            · skip
              refine lv_iconst (v := 0) hx hb dL_isPassed_76 (by decide) ?_
              refine lv_istore (lv' := [(9, .int 0), (8, .int 0), (7, .int 0), (6, .int 0), (0, .ref (gad G 0)), (1, .ref (gad G 31)), (2, .ref (gad G 32)), (3, .ref (gad G 33)), (4, .int (nI kk)), (5, .int (nI to9))]) hx hb dL_isPassed_77 hl (by decide) rfl (fun ls hl => ?_)
              refine lv_iload hx hb dL_isPassed_79 (lv_at hl 3 rfl) ?_
              refine lv_if_eq (tgt := 129) hx hb dL_isPassed_81 (by decide) (fun c_40 => ?_) (fun c_40 => ?_)
              · skip
                refine lv_iconst (v := 0) hx hb dL_isPassed_129 (by decide) ?_
                refine lv_istore (lv' := [(10, .int 0), (9, .int 0), (8, .int 0), (7, .int 0), (6, .int 0), (0, .ref (gad G 0)), (1, .ref (gad G 31)), (2, .ref (gad G 32)), (3, .ref (gad G 33)), (4, .int (nI kk)), (5, .int (nI to9))]) hx hb dL_isPassed_130 hl (by decide) rfl (fun ls hl => ?_)
                refine lv_aload_n hx hb dL_isPassed_132 rfl (lv_at hl 5 rfl) ?_
                refine lv_iconst (v := 4) hx hb dL_isPassed_133 (by decide) ?_
                refine lv_iload hx hb dL_isPassed_134 (lv_at hl 9 rfl) ?_
                refine lv_iload hx hb dL_isPassed_136 (lv_at hl 10 rfl) ?_
                refine lv_iconst (v := 0) hx hb dL_isPassed_138 (by decide) ?_
                refine rCallLS (As := [.ref (gad G 0), .int 4, .int (nI kk), .int (nI to9), .int 0]) (rest := []) ⟨hx, hb, hml, hown, hts⟩ fx hw (d4_t1 l hlt G hG hF σ (pcv hA) ((nI kk)) ((nI to9)) 0 (by first | (rw [inB_no (a := kk) (n := n) (by omega) (by omega)]; rfl) | (rw [inB_no (a := to9) (n := g) (by omega) (by omega), Bool.and_false]))) (vx_cwSW 5 hts gL_isPassed_L_does rfl rfl rfl (by decide +kernel) ⟨Nat.le_of_ble_eq_true rfl, Nat.le_of_ble_eq_true rfl⟩) rfl hl.1 rfl (Nat.le_of_ble_eq_true rfl) dL_isPassed_139 ⟨Nat.le_trans (show _ ≤ 3 by omega) (Nat.le_of_ble_eq_true rfl), Nat.le_trans (show _ ≤ 20 by omega) (Nat.le_of_ble_eq_true rfl)⟩ (fun r_41 σ_42 H locs p_43 hw => ?_)
                obtain ⟨er_41, eσ_42⟩ := p_43
                have er_41 := er_41.symm; subst er_41
                have eσ_42 := eσ_42.symm; subst eσ_42
                refine lv_istore (lv' := [(11, .int (-30)), (10, .int 0), (9, .int 0), (8, .int 0), (7, .int 0), (6, .int 0), (0, .ref (gad G 0)), (1, .ref (gad G 31)), (2, .ref (gad G 32)), (3, .ref (gad G 33)), (4, .int (nI kk)), (5, .int (nI to9))]) hx hb dL_isPassed_142 hl (by decide) rfl (fun ls hl => ?_)
                refine lv_iload hx hb dL_isPassed_144 (lv_at hl 1 rfl) ?_
                refine lv_if_ne (tgt := 172) hx hb dL_isPassed_146 (by decide) (fun c_44 => ?_) (fun c_44 => ?_)
                · skip
                  exact absurd c_44 (by decide)
                · skip
                  refine lv_iload hx hb dL_isPassed_149 (lv_at hl 0 rfl) ?_
                  refine lv_iload hx hb dL_isPassed_151 (lv_at hl 5 rfl) ?_
                  refine lv_if_eq (tgt := 161) hx hb dL_isPassed_153 (by decide) (fun c_45 => ?_) (fun c_45 => ?_)
                  · skip
                    refine lv_bipush (v := (-30)) hx hb dL_isPassed_161 (by decide) ?_
                    refine lv_icmp_ne (tgt := 170) hx hb dL_isPassed_163 (by decide) (fun c_46 => ?_) (fun c_46 => ?_)
                    · skip
                      exact absurd c_46 (by decide)
                    · skip
                      refine lv_iconst (v := 1) hx hb dL_isPassed_166 (by decide) ?_
                      refine lv_goto (tgt := 171) hx hb dL_isPassed_167 (by decide) ?_
                      exact rRetZw hx hb hr hw (by decide) (by exact ⟨rfl, po_same hA hGa⟩) hlocks dL_isPassed_171 (by omega) (by omega)
                  · skip
                    exact absurd c_45 (by decide)
              · skip
                exact absurd c_40 (by decide)
            · skip
              exact absurd c_39 (by decide)
          · skip
            exact absurd c_38 (by decide)
        · skip
          exact absurd c_37 (by decide)
      · skip
        have c_36 : ¬ g ≤ to9 := fun h9 => c_36 ((nI_leI (by omega) (by omega)).mpr h9)
        omega
  · skip
    obtain ⟨G9, lp, db, ga, hX⟩ := pkx hA hbo (show kk < 6 by omega)
    obtain ⟨x1, x2, x3, x4, x5, x6, x7, x8, x9, x10⟩ := id hX
    have xa := x1.2
    have xb := x2.2
    have xc := x3.2
    have xd := x4.2
    have hzj : z ≤ j := hA.2.2.2.2.2.2.2
    have hst9 := fstu hA hj hbo (show kk < 6 by omega)
    refine lv_iload hx hb dL_isPassed_0 (lv_at hl 4 rfl) ?_
    refine lv_aload_n hx hb dL_isPassed_2 rfl (lv_at hl 3 rfl) ?_
    refine lv_iconst (v := 2) hx hb dL_isPassed_3 (by decide) ?_
    refine lv_rep0 (x := 2) (y := nI 2) rfl ?_
    refine rAld hx hb fx hw 33 (hF.1 33 (by decide)) hF.2.1 (fun _ => rfl) 2 rfl (by omega) (by decide) dL_isPassed_4 ?_
    refine lv_rep0 (x := (σ 33 2)) (y := (nI n)) (pn hA).1 ?_
    refine lv_icmp_ge (tgt := 20) hx hb dL_isPassed_5 (by decide) (fun c_47 => ?_) (fun c_47 => ?_)
    · skip
      have c_47 : n ≤ kk := (nI_leI (by omega) (by omega)).mp c_47
      omega
    · skip
      have c_47 : ¬ n ≤ kk := fun h9 => c_47 ((nI_leI (by omega) (by omega)).mpr h9)
      refine lv_iload hx hb dL_isPassed_8 (lv_at hl 5 rfl) ?_
      refine lv_aload_n hx hb dL_isPassed_10 rfl (lv_at hl 3 rfl) ?_
      refine lv_iconst (v := 0) hx hb dL_isPassed_11 (by decide) ?_
      refine lv_rep0 (x := 0) (y := nI 0) rfl ?_
      refine rAld hx hb fx hw 33 (hF.1 33 (by decide)) hF.2.1 (fun _ => rfl) 0 rfl (by omega) (by decide) dL_isPassed_12 ?_
      refine lv_rep0 (x := (σ 33 0)) (y := (nI g)) (pg hA).1 ?_
      refine lv_icmp_ge (tgt := 20) hx hb dL_isPassed_13 (by decide) (fun c_48 => ?_) (fun c_48 => ?_)
      · skip
        have c_48 : g ≤ to9 := (nI_leI (by omega) (by omega)).mp c_48
        omega
      · skip
        have c_48 : ¬ g ≤ to9 := fun h9 => c_48 ((nI_leI (by omega) (by omega)).mpr h9)
        refine lv_iconst (v := 1) hx hb dL_isPassed_16 (by decide) ?_
        refine lv_goto (tgt := 21) hx hb dL_isPassed_17 (by decide) ?_
        refine lv_istore (lv' := [(6, .int 1), (0, .ref (gad G 0)), (1, .ref (gad G 31)), (2, .ref (gad G 32)), (3, .ref (gad G 33)), (4, .int (nI kk)), (5, .int (nI to9))]) hx hb dL_isPassed_21 hl (by decide) rfl (fun ls hl => ?_)
        refine lv_iload hx hb dL_isPassed_23 (lv_at hl 0 rfl) ?_
        refine lv_if_eq (tgt := 36) hx hb dL_isPassed_25 (by decide) (fun c_49 => ?_) (fun c_49 => ?_)
        · skip
          exact absurd c_49 (by decide)
        · skip
          refine lv_bipush (v := 6) hx hb dL_isPassed_28 (by decide) ?_
          refine lv_iload hx hb dL_isPassed_30 (lv_at hl 5 rfl) ?_
          refine lv_rep1 (x := 6) (y := nI 6) rfl ?_
          refine lv_imul hx hb dL_isPassed_32 ?_
          refine lv_rep0 (x := ((nI 6) * (nI kk))) (y := nI (6 * kk)) (pk_mul _ _) ?_
          refine lv_goto (tgt := 37) hx hb dL_isPassed_33 (by decide) ?_
          refine lv_istore (lv' := [(7, .int (nI (6 * kk))), (6, .int 1), (0, .ref (gad G 0)), (1, .ref (gad G 31)), (2, .ref (gad G 32)), (3, .ref (gad G 33)), (4, .int (nI kk)), (5, .int (nI to9))]) hx hb dL_isPassed_37 hl (by decide) rfl (fun ls hl => ?_)
          refine lv_iload hx hb dL_isPassed_39 (lv_at hl 1 rfl) ?_
          refine lv_if_eq (tgt := 53) hx hb dL_isPassed_41 (by decide) (fun c_50 => ?_) (fun c_50 => ?_)
          · skip
            exact absurd c_50 (by decide)
          · skip
            refine lv_aload_n hx hb dL_isPassed_44 rfl (lv_at hl 4 rfl) ?_
            refine lv_iload hx hb dL_isPassed_45 (lv_at hl 0 rfl) ?_
            refine lv_iconst (v := 1) hx hb dL_isPassed_47 (by decide) ?_
            refine lv_rep0 (x := 1) (y := nI 1) rfl ?_
            refine lv_iadd hx hb dL_isPassed_48 ?_
            refine lv_rep0 (x := ((nI (6 * kk)) + (nI 1))) (y := nI ((6 * kk) + 1)) (nI_add _ _) ?_
            refine rAld hx hb fx hw 32 (hF.1 32 (by decide)) hF.2.1 (fun _ => rfl) ((6 * kk) + 1) rfl (by omega) (by decide) dL_isPassed_49 ?_
            refine lv_rep0 (x := (σ 32 ((6 * kk) + 1))) (y := (nI ga)) x5 ?_
            refine lv_goto (tgt := 54) hx hb dL_isPassed_50 (by decide) ?_
            refine lv_istore (lv' := [(8, .int (nI ga)), (7, .int (nI (6 * kk))), (6, .int 1), (0, .ref (gad G 0)), (1, .ref (gad G 31)), (2, .ref (gad G 32)), (3, .ref (gad G 33)), (4, .int (nI kk)), (5, .int (nI to9))]) hx hb dL_isPassed_54 hl (by decide) rfl (fun ls hl => ?_)
            refine lv_iload hx hb dL_isPassed_56 (lv_at hl 2 rfl) ?_
            refine lv_if_eq (tgt := 76) hx hb dL_isPassed_58 (by decide) (fun c_51 => ?_) (fun c_51 => ?_)
            · skip
              exact absurd c_51 (by decide)
            · skip
              refine lv_aload_n hx hb dL_isPassed_61 rfl (lv_at hl 4 rfl) ?_
              refine lv_iload hx hb dL_isPassed_62 (lv_at hl 0 rfl) ?_
              refine lv_iload hx hb dL_isPassed_64 (lv_at hl 8 rfl) ?_
              refine rCallM (As := [.ref (gad G 31), .int (nI ga), .int (nI to9)]) (rest := []) ⟨hx, hb, hml, hown, hts⟩ fx hw (kL_way l hlt G hG hF σ ga to9 (by omega) (by omega)) (va_cwS 3 hts gL_isPassed_L_way rfl rfl rfl (by decide +kernel) ⟨Nat.le_of_ble_eq_true rfl, Nat.le_of_ble_eq_true rfl⟩) rfl hl.1 rfl (Nat.le_of_ble_eq_true rfl) dL_isPassed_66 ⟨Nat.le_trans (show _ ≤ 3 by omega) (Nat.le_of_ble_eq_true rfl), Nat.le_trans (show _ ≤ 20 by omega) (Nat.le_of_ble_eq_true rfl)⟩ (fun r_52 σ_53 H locs p_54 hw => ?_)
              obtain ⟨er_52, eσ_53⟩ := p_54
              have er_52 := er_52.symm; subst er_52
              have eσ_53 := eσ_53.symm; subst eσ_53
              refine lv_if_le (tgt := 76) hx hb dL_isPassed_69 (by decide) (fun c_55 => ?_) (fun c_55 => ?_)
              · skip
                refine lv_iconst (v := 0) hx hb dL_isPassed_76 (by decide) ?_
                refine lv_istore (lv' := [(9, .int 0), (8, .int (nI ga)), (7, .int (nI (6 * kk))), (6, .int 1), (0, .ref (gad G 0)), (1, .ref (gad G 31)), (2, .ref (gad G 32)), (3, .ref (gad G 33)), (4, .int (nI kk)), (5, .int (nI to9))]) hx hb dL_isPassed_77 hl (by decide) rfl (fun ls hl => ?_)
                refine lv_iload hx hb dL_isPassed_79 (lv_at hl 3 rfl) ?_
                refine lv_if_eq (tgt := 129) hx hb dL_isPassed_81 (by decide) (fun c_56 => ?_) (fun c_56 => ?_)
                · skip
                  exact absurd c_56 (by decide)
                · skip
                  refine lv_aload_n hx hb dL_isPassed_84 rfl (lv_at hl 7 rfl) ?_
                  refine lv_iconst (v := 3) hx hb dL_isPassed_85 (by decide) ?_
                  refine lv_rep0 (x := 3) (y := nI 3) rfl ?_
                  refine rAld hx hb fx hw 33 (hF.1 33 (by decide)) hF.2.1 (fun _ => rfl) 3 rfl (by omega) (by decide) dL_isPassed_86 ?_
                  refine lv_rep0 (x := (σ 33 3)) (y := 1) ((pon hA).trans (by rw [hbo]; rfl)) ?_
                  refine lv_iconst (v := 1) hx hb dL_isPassed_87 (by decide) ?_
                  refine lv_icmp_ne (tgt := 129) hx hb dL_isPassed_88 (by decide) (fun c_57 => ?_) (fun c_57 => ?_)
                  · skip
                    exact absurd c_57 (by decide)
                  · skip
                    refine lv_aload_n hx hb dL_isPassed_91 rfl (lv_at hl 6 rfl) ?_
                    refine lv_iload hx hb dL_isPassed_92 (lv_at hl 2 rfl) ?_
                    refine lv_iconst (v := 5) hx hb dL_isPassed_94 (by decide) ?_
                    refine lv_rep0 (x := 5) (y := nI 5) rfl ?_
                    refine lv_iadd hx hb dL_isPassed_95 ?_
                    refine lv_rep0 (x := ((nI (6 * kk)) + (nI 5))) (y := nI ((6 * kk) + 5)) (nI_add _ _) ?_
                    refine rAld hx hb fx hw 32 (hF.1 32 (by decide)) hF.2.1 (fun _ => rfl) ((6 * kk) + 5) rfl (by omega) (by decide) dL_isPassed_96 ?_
                    refine lv_rep0 (x := (σ 32 ((6 * kk) + 5))) (y := (bI (finB σ 4 kk))) (pfin hA hbo (by omega)) ?_
                    refine lv_b_ne (tgt := 129) hx hb dL_isPassed_97 (by decide) (fun c_58 => ?_) (fun c_58 => ?_)
                    · skip
                      refine lv_iconst (v := 0) hx hb dL_isPassed_129 (by decide) ?_
                      refine lv_istore (lv' := [(10, .int 0), (9, .int 0), (8, .int (nI ga)), (7, .int (nI (6 * kk))), (6, .int 1), (0, .ref (gad G 0)), (1, .ref (gad G 31)), (2, .ref (gad G 32)), (3, .ref (gad G 33)), (4, .int (nI kk)), (5, .int (nI to9))]) hx hb dL_isPassed_130 hl (by decide) rfl (fun ls hl => ?_)
                      refine lv_aload_n hx hb dL_isPassed_132 rfl (lv_at hl 5 rfl) ?_
                      refine lv_iconst (v := 4) hx hb dL_isPassed_133 (by decide) ?_
                      refine lv_iload hx hb dL_isPassed_134 (lv_at hl 9 rfl) ?_
                      refine lv_iload hx hb dL_isPassed_136 (lv_at hl 10 rfl) ?_
                      refine lv_iconst (v := 0) hx hb dL_isPassed_138 (by decide) ?_
                      refine rCallLS (As := [.ref (gad G 0), .int 4, .int (nI kk), .int (nI to9), .int 0]) (rest := []) ⟨hx, hb, hml, hown, hts⟩ fx hw (d4_t2 l hlt G hG hF σ (pcv hA) ((nI kk)) ((nI to9)) 0 (by rw [inB_y (show kk < n by omega) (by omega), inB_y (show to9 < g by omega) (by omega)]; rfl) (by rw [ix_nI (by omega), ix_nI (by omega)]; exact cp_no hA (ga := ga) (fun _ => x4) (by omega) (by first | exact Or.inl hbo | exact Or.inr (Or.inl (by assumption)) | exact Or.inr (Or.inr (Or.inl ⟨hbo, hst9.1, hst9.2, by assumption⟩)) | exact Or.inr (Or.inr (Or.inr ⟨hbo, by assumption, by assumption⟩))))) (vx_cwSW 5 hts gL_isPassed_L_does rfl rfl rfl (by decide +kernel) ⟨Nat.le_of_ble_eq_true rfl, Nat.le_of_ble_eq_true rfl⟩) rfl hl.1 rfl (Nat.le_of_ble_eq_true rfl) dL_isPassed_139 ⟨Nat.le_trans (show _ ≤ 3 by omega) (Nat.le_of_ble_eq_true rfl), Nat.le_trans (show _ ≤ 20 by omega) (Nat.le_of_ble_eq_true rfl)⟩ (fun r_59 σ_60 H locs p_61 hw => ?_)
                      obtain ⟨er_59, eσ_60⟩ := p_61
                      have er_59 := er_59.symm; subst er_59
                      have eσ_60 := eσ_60.symm; subst eσ_60
                      refine lv_istore (lv' := [(11, .int (-10)), (10, .int 0), (9, .int 0), (8, .int (nI ga)), (7, .int (nI (6 * kk))), (6, .int 1), (0, .ref (gad G 0)), (1, .ref (gad G 31)), (2, .ref (gad G 32)), (3, .ref (gad G 33)), (4, .int (nI kk)), (5, .int (nI to9))]) hx hb dL_isPassed_142 hl (by decide) rfl (fun ls hl => ?_)
                      refine lv_iload hx hb dL_isPassed_144 (lv_at hl 1 rfl) ?_
                      refine lv_if_ne (tgt := 172) hx hb dL_isPassed_146 (by decide) (fun c_62 => ?_) (fun c_62 => ?_)
                      · skip
                        exact absurd c_62 (by decide)
                      · skip
                        refine lv_iload hx hb dL_isPassed_149 (lv_at hl 0 rfl) ?_
                        refine lv_iload hx hb dL_isPassed_151 (lv_at hl 5 rfl) ?_
                        refine lv_if_eq (tgt := 161) hx hb dL_isPassed_153 (by decide) (fun c_63 => ?_) (fun c_63 => ?_)
                        · skip
                          exact absurd c_63 (by decide)
                        · skip
                          refine lv_bipush (v := (-10)) hx hb dL_isPassed_156 (by decide) ?_
                          refine lv_goto (tgt := 163) hx hb dL_isPassed_158 (by decide) ?_
                          refine lv_icmp_ne (tgt := 170) hx hb dL_isPassed_163 (by decide) (fun c_64 => ?_) (fun c_64 => ?_)
                          · skip
                            exact absurd c_64 (by decide)
                          · skip
                            refine lv_iconst (v := 1) hx hb dL_isPassed_166 (by decide) ?_
                            refine lv_goto (tgt := 171) hx hb dL_isPassed_167 (by decide) ?_
                            exact rRetZw hx hb hr hw (by decide) (by exact ⟨rfl, po_same hA hGa⟩) hlocks dL_isPassed_171 (by omega) (by omega)
                    · skip
                      refine lv_aload_n hx hb dL_isPassed_100 rfl (lv_at hl 4 rfl) ?_
                      refine lv_iload hx hb dL_isPassed_101 (lv_at hl 8 rfl) ?_
                      refine rCallN (C := RX5) (As := [.int (nI kk)]) (rest := []) ⟨hx, hb, hml, hown, hts⟩ fx hw (n_stunned1 l hlt G hG hF σ hA hj hbo kk (by omega)) (cwV 1 hts gL_isPassed_X5_stunned rfl rfl rfl (by decide +kernel) ⟨Nat.le_of_ble_eq_true rfl, Nat.le_of_ble_eq_true rfl⟩) (hF.1 0 (by decide)) rfl rfl rfl rfl hl.1 rfl (Nat.le_of_ble_eq_true rfl) dL_isPassed_103 ⟨Nat.le_trans (show _ ≤ 3 by omega) (Nat.le_of_ble_eq_true rfl), Nat.le_trans (show _ ≤ 20 by omega) (Nat.le_of_ble_eq_true rfl)⟩ (fun r_65 σ_66 H locs p_67 hw => ?_)
                      obtain ⟨er_65, eσ_66, p_67_0⟩ := p_67
                      have er_65 := er_65.symm; subst er_65
                      have eσ_66 := eσ_66.symm; subst eσ_66
                      refine lv_if_ne (tgt := 129) hx hb dL_isPassed_106 (by decide) (fun c_68 => ?_) (fun c_68 => ?_)
                      · skip
                        have c_68 : ¬ (stN σ kk) = 0 := n0_net (by omega) c_68
                        refine lv_iconst (v := 0) hx hb dL_isPassed_129 (by decide) ?_
                        refine lv_istore (lv' := [(10, .int 0), (9, .int 0), (8, .int (nI ga)), (7, .int (nI (6 * kk))), (6, .int 1), (0, .ref (gad G 0)), (1, .ref (gad G 31)), (2, .ref (gad G 32)), (3, .ref (gad G 33)), (4, .int (nI kk)), (5, .int (nI to9))]) hx hb dL_isPassed_130 hl (by decide) rfl (fun ls hl => ?_)
                        refine lv_aload_n hx hb dL_isPassed_132 rfl (lv_at hl 5 rfl) ?_
                        refine lv_iconst (v := 4) hx hb dL_isPassed_133 (by decide) ?_
                        refine lv_iload hx hb dL_isPassed_134 (lv_at hl 9 rfl) ?_
                        refine lv_iload hx hb dL_isPassed_136 (lv_at hl 10 rfl) ?_
                        refine lv_iconst (v := 0) hx hb dL_isPassed_138 (by decide) ?_
                        refine rCallLS (As := [.ref (gad G 0), .int 4, .int (nI kk), .int (nI to9), .int 0]) (rest := []) ⟨hx, hb, hml, hown, hts⟩ fx hw (d4_t2 l hlt G hG hF σ (pcv hA) ((nI kk)) ((nI to9)) 0 (by rw [inB_y (show kk < n by omega) (by omega), inB_y (show to9 < g by omega) (by omega)]; rfl) (by rw [ix_nI (by omega), ix_nI (by omega)]; exact cp_no hA (ga := ga) (fun _ => x4) (by omega) (by first | exact Or.inl hbo | exact Or.inr (Or.inl (by assumption)) | exact Or.inr (Or.inr (Or.inl ⟨hbo, hst9.1, hst9.2, by assumption⟩)) | exact Or.inr (Or.inr (Or.inr ⟨hbo, by assumption, by assumption⟩))))) (vx_cwSW 5 hts gL_isPassed_L_does rfl rfl rfl (by decide +kernel) ⟨Nat.le_of_ble_eq_true rfl, Nat.le_of_ble_eq_true rfl⟩) rfl hl.1 rfl (Nat.le_of_ble_eq_true rfl) dL_isPassed_139 ⟨Nat.le_trans (show _ ≤ 3 by omega) (Nat.le_of_ble_eq_true rfl), Nat.le_trans (show _ ≤ 20 by omega) (Nat.le_of_ble_eq_true rfl)⟩ (fun r_69 σ_70 H locs p_71 hw => ?_)
                        obtain ⟨er_69, eσ_70⟩ := p_71
                        have er_69 := er_69.symm; subst er_69
                        have eσ_70 := eσ_70.symm; subst eσ_70
                        refine lv_istore (lv' := [(11, .int (-10)), (10, .int 0), (9, .int 0), (8, .int (nI ga)), (7, .int (nI (6 * kk))), (6, .int 1), (0, .ref (gad G 0)), (1, .ref (gad G 31)), (2, .ref (gad G 32)), (3, .ref (gad G 33)), (4, .int (nI kk)), (5, .int (nI to9))]) hx hb dL_isPassed_142 hl (by decide) rfl (fun ls hl => ?_)
                        refine lv_iload hx hb dL_isPassed_144 (lv_at hl 1 rfl) ?_
                        refine lv_if_ne (tgt := 172) hx hb dL_isPassed_146 (by decide) (fun c_72 => ?_) (fun c_72 => ?_)
                        · skip
                          exact absurd c_72 (by decide)
                        · skip
                          refine lv_iload hx hb dL_isPassed_149 (lv_at hl 0 rfl) ?_
                          refine lv_iload hx hb dL_isPassed_151 (lv_at hl 5 rfl) ?_
                          refine lv_if_eq (tgt := 161) hx hb dL_isPassed_153 (by decide) (fun c_73 => ?_) (fun c_73 => ?_)
                          · skip
                            exact absurd c_73 (by decide)
                          · skip
                            refine lv_bipush (v := (-10)) hx hb dL_isPassed_156 (by decide) ?_
                            refine lv_goto (tgt := 163) hx hb dL_isPassed_158 (by decide) ?_
                            refine lv_icmp_ne (tgt := 170) hx hb dL_isPassed_163 (by decide) (fun c_74 => ?_) (fun c_74 => ?_)
                            · skip
                              exact absurd c_74 (by decide)
                            · skip
                              refine lv_iconst (v := 1) hx hb dL_isPassed_166 (by decide) ?_
                              refine lv_goto (tgt := 171) hx hb dL_isPassed_167 (by decide) ?_
                              exact rRetZw hx hb hr hw (by decide) (by exact ⟨rfl, po_same hA hGa⟩) hlocks dL_isPassed_171 (by omega) (by omega)
                      · skip
                        have c_68 : (stN σ kk) = 0 := n0_nef (by omega) c_68
                        refine lv_iload hx hb dL_isPassed_109 (lv_at hl 0 rfl) ?_
                        refine lv_if_ne (tgt := 125) hx hb dL_isPassed_111 (by decide) (fun c_75 => ?_) (fun c_75 => ?_)
                        · skip
                          exact absurd c_75 (by decide)
                        · skip
                          refine lv_aload_n hx hb dL_isPassed_114 rfl (lv_at hl 5 rfl) ?_
                          refine lv_iload hx hb dL_isPassed_115 (lv_at hl 9 rfl) ?_
                          refine lv_iload hx hb dL_isPassed_117 (lv_at hl 1 rfl) ?_
                          refine rCallM (As := [.ref (gad G 31), .int (nI to9), .int (nI ga)]) (rest := []) ⟨hx, hb, hml, hown, hts⟩ fx hw (kL_way l hlt G hG hF σ to9 ga (by omega) (by omega)) (va_cwS 3 hts gL_isPassed_L_way rfl rfl rfl (by decide +kernel) ⟨Nat.le_of_ble_eq_true rfl, Nat.le_of_ble_eq_true rfl⟩) rfl hl.1 rfl (Nat.le_of_ble_eq_true rfl) dL_isPassed_119 ⟨Nat.le_trans (show _ ≤ 3 by omega) (Nat.le_of_ble_eq_true rfl), Nat.le_trans (show _ ≤ 20 by omega) (Nat.le_of_ble_eq_true rfl)⟩ (fun r_76 σ_77 H locs p_78 hw => ?_)
                          obtain ⟨er_76, eσ_77⟩ := p_78
                          have er_76 := er_76.symm; subst er_76
                          have eσ_77 := eσ_77.symm; subst eσ_77
                          refine lv_if_le (tgt := 129) hx hb dL_isPassed_122 (by decide) (fun c_79 => ?_) (fun c_79 => ?_)
                          · skip
                            refine lv_iconst (v := 0) hx hb dL_isPassed_129 (by decide) ?_
                            refine lv_istore (lv' := [(10, .int 0), (9, .int 0), (8, .int (nI ga)), (7, .int (nI (6 * kk))), (6, .int 1), (0, .ref (gad G 0)), (1, .ref (gad G 31)), (2, .ref (gad G 32)), (3, .ref (gad G 33)), (4, .int (nI kk)), (5, .int (nI to9))]) hx hb dL_isPassed_130 hl (by decide) rfl (fun ls hl => ?_)
                            refine lv_aload_n hx hb dL_isPassed_132 rfl (lv_at hl 5 rfl) ?_
                            refine lv_iconst (v := 4) hx hb dL_isPassed_133 (by decide) ?_
                            refine lv_iload hx hb dL_isPassed_134 (lv_at hl 9 rfl) ?_
                            refine lv_iload hx hb dL_isPassed_136 (lv_at hl 10 rfl) ?_
                            refine lv_iconst (v := 0) hx hb dL_isPassed_138 (by decide) ?_
                            refine rCallLS (As := [.ref (gad G 0), .int 4, .int (nI kk), .int (nI to9), .int 0]) (rest := []) ⟨hx, hb, hml, hown, hts⟩ fx hw (d4_t2 l hlt G hG hF σ (pcv hA) ((nI kk)) ((nI to9)) 0 (by rw [inB_y (show kk < n by omega) (by omega), inB_y (show to9 < g by omega) (by omega)]; rfl) (by rw [ix_nI (by omega), ix_nI (by omega)]; exact cp_no hA (ga := ga) (fun _ => x4) (by omega) (by first | exact Or.inl hbo | exact Or.inr (Or.inl (by assumption)) | exact Or.inr (Or.inr (Or.inl ⟨hbo, hst9.1, hst9.2, by assumption⟩)) | exact Or.inr (Or.inr (Or.inr ⟨hbo, by assumption, by assumption⟩))))) (vx_cwSW 5 hts gL_isPassed_L_does rfl rfl rfl (by decide +kernel) ⟨Nat.le_of_ble_eq_true rfl, Nat.le_of_ble_eq_true rfl⟩) rfl hl.1 rfl (Nat.le_of_ble_eq_true rfl) dL_isPassed_139 ⟨Nat.le_trans (show _ ≤ 3 by omega) (Nat.le_of_ble_eq_true rfl), Nat.le_trans (show _ ≤ 20 by omega) (Nat.le_of_ble_eq_true rfl)⟩ (fun r_80 σ_81 H locs p_82 hw => ?_)
                            obtain ⟨er_80, eσ_81⟩ := p_82
                            have er_80 := er_80.symm; subst er_80
                            have eσ_81 := eσ_81.symm; subst eσ_81
                            refine lv_istore (lv' := [(11, .int (-10)), (10, .int 0), (9, .int 0), (8, .int (nI ga)), (7, .int (nI (6 * kk))), (6, .int 1), (0, .ref (gad G 0)), (1, .ref (gad G 31)), (2, .ref (gad G 32)), (3, .ref (gad G 33)), (4, .int (nI kk)), (5, .int (nI to9))]) hx hb dL_isPassed_142 hl (by decide) rfl (fun ls hl => ?_)
                            refine lv_iload hx hb dL_isPassed_144 (lv_at hl 1 rfl) ?_
                            refine lv_if_ne (tgt := 172) hx hb dL_isPassed_146 (by decide) (fun c_83 => ?_) (fun c_83 => ?_)
                            · skip
                              exact absurd c_83 (by decide)
                            · skip
                              refine lv_iload hx hb dL_isPassed_149 (lv_at hl 0 rfl) ?_
                              refine lv_iload hx hb dL_isPassed_151 (lv_at hl 5 rfl) ?_
                              refine lv_if_eq (tgt := 161) hx hb dL_isPassed_153 (by decide) (fun c_84 => ?_) (fun c_84 => ?_)
                              · skip
                                exact absurd c_84 (by decide)
                              · skip
                                refine lv_bipush (v := (-10)) hx hb dL_isPassed_156 (by decide) ?_
                                refine lv_goto (tgt := 163) hx hb dL_isPassed_158 (by decide) ?_
                                refine lv_icmp_ne (tgt := 170) hx hb dL_isPassed_163 (by decide) (fun c_85 => ?_) (fun c_85 => ?_)
                                · skip
                                  exact absurd c_85 (by decide)
                                · skip
                                  refine lv_iconst (v := 1) hx hb dL_isPassed_166 (by decide) ?_
                                  refine lv_goto (tgt := 171) hx hb dL_isPassed_167 (by decide) ?_
                                  exact rRetZw hx hb hr hw (by decide) (by exact ⟨rfl, po_same hA hGa⟩) hlocks dL_isPassed_171 (by omega) (by omega)
                          · skip
                            refine lv_iconst (v := 1) hx hb dL_isPassed_125 (by decide) ?_
                            refine lv_goto (tgt := 130) hx hb dL_isPassed_126 (by decide) ?_
                            refine lv_istore (lv' := [(10, .int 1), (9, .int 0), (8, .int (nI ga)), (7, .int (nI (6 * kk))), (6, .int 1), (0, .ref (gad G 0)), (1, .ref (gad G 31)), (2, .ref (gad G 32)), (3, .ref (gad G 33)), (4, .int (nI kk)), (5, .int (nI to9))]) hx hb dL_isPassed_130 hl (by decide) rfl (fun ls hl => ?_)
                            refine lv_aload_n hx hb dL_isPassed_132 rfl (lv_at hl 5 rfl) ?_
                            refine lv_iconst (v := 4) hx hb dL_isPassed_133 (by decide) ?_
                            refine lv_iload hx hb dL_isPassed_134 (lv_at hl 9 rfl) ?_
                            refine lv_iload hx hb dL_isPassed_136 (lv_at hl 10 rfl) ?_
                            refine lv_iconst (v := 0) hx hb dL_isPassed_138 (by decide) ?_
                            refine rCallLS (As := [.ref (gad G 0), .int 4, .int (nI kk), .int (nI to9), .int 0]) (rest := []) ⟨hx, hb, hml, hown, hts⟩ fx hw (d4_ok l hlt G hG hF σ (pcv hA) kk to9 0 (by omega) (by omega) (cp_y hA hj hX (by omega) hbo (by assumption) hst9.1 (by assumption) (by first | exact Or.inl (by assumption) | exact Or.inr (by assumption)))) (vx_cwSW 5 hts gL_isPassed_L_does rfl rfl rfl (by decide +kernel) ⟨Nat.le_of_ble_eq_true rfl, Nat.le_of_ble_eq_true rfl⟩) rfl hl.1 rfl (Nat.le_of_ble_eq_true rfl) dL_isPassed_139 ⟨Nat.le_trans (show _ ≤ 3 by omega) (Nat.le_of_ble_eq_true rfl), Nat.le_trans (show _ ≤ 20 by omega) (Nat.le_of_ble_eq_true rfl)⟩ (fun r_86 σ_87 H locs p_88 hw => ?_)
                            obtain ⟨er_86, eσ_87⟩ := p_88
                            have er_86 := er_86.symm; subst er_86
                            refine lv_istore (lv' := [(11, .int (mvR (noSt σ z kk to9) 4 kk to9)), (10, .int 1), (9, .int 0), (8, .int (nI ga)), (7, .int (nI (6 * kk))), (6, .int 1), (0, .ref (gad G 0)), (1, .ref (gad G 31)), (2, .ref (gad G 32)), (3, .ref (gad G 33)), (4, .int (nI kk)), (5, .int (nI to9))]) hx hb dL_isPassed_142 hl (by decide) rfl (fun ls hl => ?_)
                            refine lv_iload hx hb dL_isPassed_144 (lv_at hl 1 rfl) ?_
                            refine lv_if_ne (tgt := 172) hx hb dL_isPassed_146 (by decide) (fun c_89 => ?_) (fun c_89 => ?_)
                            · skip
                              refine lv_aload_n hx hb dL_isPassed_172 rfl (lv_at hl 8 rfl) ?_
                              refine lv_iload hx hb dL_isPassed_173 (lv_at hl 4 rfl) ?_
                              refine lv_iconst (v := 1) hx hb dL_isPassed_175 (by decide) ?_
                              refine lv_rep0 (x := 1) (y := nI 1) rfl ?_
                              refine lv_iadd hx hb dL_isPassed_176 ?_
                              refine lv_rep0 (x := ((nI (6 * kk)) + (nI 1))) (y := nI ((6 * kk) + 1)) (nI_add _ _) ?_
                              refine lv_iload hx hb dL_isPassed_177 (lv_at hl 11 rfl) ?_
                              refine rAst (x := (nI to9)) hx hb fx hw 32 (hF.1 32 (by decide)) hF.2.1 (fun _ => rfl) ((6 * kk) + 1) rfl (by omega) (by decide) dL_isPassed_179 (fun H locs hw => ?_)
                              obtain ⟨σ_90, eσ_90⟩ : ∃ w9, w9 = upA σ_87 32 (upd (σ_87 32) ((6 * kk) + 1) (nI to9)) := ⟨_, rfl⟩
                              rw [← eσ_90] at hw
                              refine lv_iload hx hb dL_isPassed_180 (lv_at hl 2 rfl) ?_
                              refine lv_if_ne (tgt := 231) hx hb dL_isPassed_182 (by decide) (fun c_91 => ?_) (fun c_91 => ?_)
                              · skip
                                exact absurd c_91 (by decide)
                              · skip
                                refine lv_aload_n hx hb dL_isPassed_185 rfl (lv_at hl 8 rfl) ?_
                                refine lv_iload hx hb dL_isPassed_186 (lv_at hl 4 rfl) ?_
                                refine lv_iconst (v := 3) hx hb dL_isPassed_188 (by decide) ?_
                                refine lv_rep0 (x := 3) (y := nI 3) rfl ?_
                                refine lv_iadd hx hb dL_isPassed_189 ?_
                                refine lv_rep0 (x := ((nI (6 * kk)) + (nI 3))) (y := nI ((6 * kk) + 3)) (nI_add _ _) ?_
                                refine lv_dup2_11 hx hb dL_isPassed_190 rfl rfl ?_
                                refine rAld hx hb fx hw 32 (hF.1 32 (by decide)) hF.2.1 (fun _ => rfl) ((6 * kk) + 3) rfl (by omega) (by decide) dL_isPassed_191 ?_
                                refine lv_rep0 (x := (σ_90 32 ((6 * kk) + 3))) (y := (nI db)) ((ld_m eσ_90 (by omega)).trans ((congrFun ((ag_pass eσ_87) 32 (by decide)) (((6 * kk) + 3))).trans x7)) ?_
                                refine lv_iload hx hb dL_isPassed_192 (lv_at hl 3 rfl) ?_
                                refine lv_if_ne (tgt := 201) hx hb dL_isPassed_194 (by decide) (fun c_92 => ?_) (fun c_92 => ?_)
                                · skip
                                  have c_92 : ¬ ga = 0 := n0_net (by omega) c_92
                                  refine lv_iconst (v := 0) hx hb dL_isPassed_201 (by decide) ?_
                                  refine lv_rep0 (x := 0) (y := nI 0) rfl ?_
                                  refine lv_iadd hx hb dL_isPassed_202 ?_
                                  refine lv_rep0 (x := ((nI db) + (nI 0))) (y := nI (db + 0)) (nI_add _ _) ?_
                                  refine rAst (x := (nI (db + 0))) hx hb fx hw 32 (hF.1 32 (by decide)) hF.2.1 (fun _ => rfl) ((6 * kk) + 3) rfl (by omega) (by decide) dL_isPassed_203 (fun H locs hw => ?_)
                                  obtain ⟨σ_93, eσ_93⟩ : ∃ w9, w9 = upA σ_90 32 (upd (σ_90 32) ((6 * kk) + 3) (nI (db + 0))) := ⟨_, rfl⟩
                                  rw [← eσ_93] at hw
                                  refine lv_aload_n hx hb dL_isPassed_204 rfl (lv_at hl 8 rfl) ?_
                                  refine lv_iload hx hb dL_isPassed_205 (lv_at hl 4 rfl) ?_
                                  refine lv_iconst (v := 4) hx hb dL_isPassed_207 (by decide) ?_
                                  refine lv_rep0 (x := 4) (y := nI 4) rfl ?_
                                  refine lv_iadd hx hb dL_isPassed_208 ?_
                                  refine lv_rep0 (x := ((nI (6 * kk)) + (nI 4))) (y := nI ((6 * kk) + 4)) (nI_add _ _) ?_
                                  refine lv_dup2_11 hx hb dL_isPassed_209 rfl rfl ?_
                                  refine rAld hx hb fx hw 32 (hF.1 32 (by decide)) hF.2.1 (fun _ => rfl) ((6 * kk) + 4) rfl (by omega) (by decide) dL_isPassed_210 ?_
                                  refine lv_rep0 (x := (σ_93 32 ((6 * kk) + 4))) (y := (σ 32 ((6 * kk) + 4))) ((ld_m eσ_93 (by omega)).trans ((ld_m eσ_90 (by omega)).trans (congrFun ((ag_pass eσ_87) 32 (by decide)) (((6 * kk) + 4))))) ?_
                                  refine lv_iconst (v := 1) hx hb dL_isPassed_211 (by decide) ?_
                                  refine lv_iload hx hb dL_isPassed_212 (lv_at hl 3 rfl) ?_
                                  refine lv_ishl hx hb dL_isPassed_214 ?_
                                  refine lv_iconst (v := (-1)) hx hb dL_isPassed_215 (by decide) ?_
                                  refine lv_ixor hx hb dL_isPassed_216 ?_
                                  refine lv_iand hx hb dL_isPassed_217 ?_
                                  refine rAst (x := ((σ 32 ((6 * kk) + 4)) &&& (((1 : Int32) <<< ((nI ga) &&& 31)) ^^^ (-1)))) hx hb fx hw 32 (hF.1 32 (by decide)) hF.2.1 (fun _ => rfl) ((6 * kk) + 4) rfl (by omega) (by decide) dL_isPassed_218 (fun H locs hw => ?_)
                                  obtain ⟨σ_94, eσ_94⟩ : ∃ w9, w9 = upA σ_93 32 (upd (σ_93 32) ((6 * kk) + 4) ((σ 32 ((6 * kk) + 4)) &&& (((1 : Int32) <<< ((nI ga) &&& 31)) ^^^ (-1)))) := ⟨_, rfl⟩
                                  rw [← eσ_94] at hw
                                  refine lv_iload hx hb dL_isPassed_219 (lv_at hl 0 rfl) ?_
                                  refine lv_iconst (v := 3) hx hb dL_isPassed_221 (by decide) ?_
                                  refine lv_icmp_ne (tgt := 229) hx hb dL_isPassed_222 (by decide) (fun c_95 => ?_) (fun c_95 => ?_)
                                  · skip
                                    exact absurd (w_b (z := z) (by omega) x4.1 (by rw [hs_ld hA x4.2 (show to9 < g by omega), decide_eq_true (by assumption)]; rfl)).2 c_95
                                  · skip
                                    refine lv_iconst (v := 1) hx hb dL_isPassed_225 (by decide) ?_
                                    refine lv_goto (tgt := 230) hx hb dL_isPassed_226 (by decide) ?_
                                    subst eσ_94
                                    subst eσ_93
                                    subst eσ_90
                                    subst eσ_87
                                    exact rRetZw hx hb hr hw (by decide) (by exact ⟨rfl, pass_b hA hGa hj hbo (by omega) (by omega) hX (by assumption) (by first | rw [if_pos (by omega)] | rw [if_neg (by omega)]) (fun c9 h9 => by rw [upA_n h9, upA_n h9, upA_n h9]) rfl⟩) hlocks dL_isPassed_230 (by omega) (by omega)
                                · skip
                                  have c_92 : ga = 0 := n0_nef (by omega) c_92
                                  refine lv_iconst (v := 1) hx hb dL_isPassed_197 (by decide) ?_
                                  refine lv_goto (tgt := 202) hx hb dL_isPassed_198 (by decide) ?_
                                  refine lv_rep0 (x := 1) (y := nI 1) rfl ?_
                                  refine lv_iadd hx hb dL_isPassed_202 ?_
                                  refine lv_rep0 (x := ((nI db) + (nI 1))) (y := nI (db + 1)) (nI_add _ _) ?_
                                  refine rAst (x := (nI (db + 1))) hx hb fx hw 32 (hF.1 32 (by decide)) hF.2.1 (fun _ => rfl) ((6 * kk) + 3) rfl (by omega) (by decide) dL_isPassed_203 (fun H locs hw => ?_)
                                  obtain ⟨σ_96, eσ_96⟩ : ∃ w9, w9 = upA σ_90 32 (upd (σ_90 32) ((6 * kk) + 3) (nI (db + 1))) := ⟨_, rfl⟩
                                  rw [← eσ_96] at hw
                                  refine lv_aload_n hx hb dL_isPassed_204 rfl (lv_at hl 8 rfl) ?_
                                  refine lv_iload hx hb dL_isPassed_205 (lv_at hl 4 rfl) ?_
                                  refine lv_iconst (v := 4) hx hb dL_isPassed_207 (by decide) ?_
                                  refine lv_rep0 (x := 4) (y := nI 4) rfl ?_
                                  refine lv_iadd hx hb dL_isPassed_208 ?_
                                  refine lv_rep0 (x := ((nI (6 * kk)) + (nI 4))) (y := nI ((6 * kk) + 4)) (nI_add _ _) ?_
                                  refine lv_dup2_11 hx hb dL_isPassed_209 rfl rfl ?_
                                  refine rAld hx hb fx hw 32 (hF.1 32 (by decide)) hF.2.1 (fun _ => rfl) ((6 * kk) + 4) rfl (by omega) (by decide) dL_isPassed_210 ?_
                                  refine lv_rep0 (x := (σ_96 32 ((6 * kk) + 4))) (y := (σ 32 ((6 * kk) + 4))) ((ld_m eσ_96 (by omega)).trans ((ld_m eσ_90 (by omega)).trans (congrFun ((ag_pass eσ_87) 32 (by decide)) (((6 * kk) + 4))))) ?_
                                  refine lv_iconst (v := 1) hx hb dL_isPassed_211 (by decide) ?_
                                  refine lv_iload hx hb dL_isPassed_212 (lv_at hl 3 rfl) ?_
                                  refine lv_ishl hx hb dL_isPassed_214 ?_
                                  refine lv_iconst (v := (-1)) hx hb dL_isPassed_215 (by decide) ?_
                                  refine lv_ixor hx hb dL_isPassed_216 ?_
                                  refine lv_iand hx hb dL_isPassed_217 ?_
                                  refine rAst (x := ((σ 32 ((6 * kk) + 4)) &&& (((1 : Int32) <<< ((nI ga) &&& 31)) ^^^ (-1)))) hx hb fx hw 32 (hF.1 32 (by decide)) hF.2.1 (fun _ => rfl) ((6 * kk) + 4) rfl (by omega) (by decide) dL_isPassed_218 (fun H locs hw => ?_)
                                  obtain ⟨σ_97, eσ_97⟩ : ∃ w9, w9 = upA σ_96 32 (upd (σ_96 32) ((6 * kk) + 4) ((σ 32 ((6 * kk) + 4)) &&& (((1 : Int32) <<< ((nI ga) &&& 31)) ^^^ (-1)))) := ⟨_, rfl⟩
                                  rw [← eσ_97] at hw
                                  refine lv_iload hx hb dL_isPassed_219 (lv_at hl 0 rfl) ?_
                                  refine lv_iconst (v := 3) hx hb dL_isPassed_221 (by decide) ?_
                                  refine lv_icmp_ne (tgt := 229) hx hb dL_isPassed_222 (by decide) (fun c_98 => ?_) (fun c_98 => ?_)
                                  · skip
                                    exact absurd (w_b (z := z) (by omega) x4.1 (by rw [hs_ld hA x4.2 (show to9 < g by omega), decide_eq_true (by assumption)]; rfl)).2 c_98
                                  · skip
                                    refine lv_iconst (v := 1) hx hb dL_isPassed_225 (by decide) ?_
                                    refine lv_goto (tgt := 230) hx hb dL_isPassed_226 (by decide) ?_
                                    subst eσ_97
                                    subst eσ_96
                                    subst eσ_90
                                    subst eσ_87
                                    exact rRetZw hx hb hr hw (by decide) (by exact ⟨rfl, pass_b hA hGa hj hbo (by omega) (by omega) hX (by assumption) (by first | rw [if_pos (by omega)] | rw [if_neg (by omega)]) (fun c9 h9 => by rw [upA_n h9, upA_n h9, upA_n h9]) rfl⟩) hlocks dL_isPassed_230 (by omega) (by omega)
                            · skip
                              exact absurd c_89 (by decide)
              · skip
                refine lv_iconst (v := 1) hx hb dL_isPassed_72 (by decide) ?_
                refine lv_goto (tgt := 77) hx hb dL_isPassed_73 (by decide) ?_
                refine lv_istore (lv' := [(9, .int 1), (8, .int (nI ga)), (7, .int (nI (6 * kk))), (6, .int 1), (0, .ref (gad G 0)), (1, .ref (gad G 31)), (2, .ref (gad G 32)), (3, .ref (gad G 33)), (4, .int (nI kk)), (5, .int (nI to9))]) hx hb dL_isPassed_77 hl (by decide) rfl (fun ls hl => ?_)
                refine lv_iload hx hb dL_isPassed_79 (lv_at hl 3 rfl) ?_
                refine lv_if_eq (tgt := 129) hx hb dL_isPassed_81 (by decide) (fun c_99 => ?_) (fun c_99 => ?_)
                · skip
                  exact absurd c_99 (by decide)
                · skip
                  refine lv_aload_n hx hb dL_isPassed_84 rfl (lv_at hl 7 rfl) ?_
                  refine lv_iconst (v := 3) hx hb dL_isPassed_85 (by decide) ?_
                  refine lv_rep0 (x := 3) (y := nI 3) rfl ?_
                  refine rAld hx hb fx hw 33 (hF.1 33 (by decide)) hF.2.1 (fun _ => rfl) 3 rfl (by omega) (by decide) dL_isPassed_86 ?_
                  refine lv_rep0 (x := (σ 33 3)) (y := 1) ((pon hA).trans (by rw [hbo]; rfl)) ?_
                  refine lv_iconst (v := 1) hx hb dL_isPassed_87 (by decide) ?_
                  refine lv_icmp_ne (tgt := 129) hx hb dL_isPassed_88 (by decide) (fun c_100 => ?_) (fun c_100 => ?_)
                  · skip
                    exact absurd c_100 (by decide)
                  · skip
                    refine lv_aload_n hx hb dL_isPassed_91 rfl (lv_at hl 6 rfl) ?_
                    refine lv_iload hx hb dL_isPassed_92 (lv_at hl 2 rfl) ?_
                    refine lv_iconst (v := 5) hx hb dL_isPassed_94 (by decide) ?_
                    refine lv_rep0 (x := 5) (y := nI 5) rfl ?_
                    refine lv_iadd hx hb dL_isPassed_95 ?_
                    refine lv_rep0 (x := ((nI (6 * kk)) + (nI 5))) (y := nI ((6 * kk) + 5)) (nI_add _ _) ?_
                    refine rAld hx hb fx hw 32 (hF.1 32 (by decide)) hF.2.1 (fun _ => rfl) ((6 * kk) + 5) rfl (by omega) (by decide) dL_isPassed_96 ?_
                    refine lv_rep0 (x := (σ 32 ((6 * kk) + 5))) (y := (bI (finB σ 4 kk))) (pfin hA hbo (by omega)) ?_
                    refine lv_b_ne (tgt := 129) hx hb dL_isPassed_97 (by decide) (fun c_101 => ?_) (fun c_101 => ?_)
                    · skip
                      refine lv_iconst (v := 0) hx hb dL_isPassed_129 (by decide) ?_
                      refine lv_istore (lv' := [(10, .int 0), (9, .int 1), (8, .int (nI ga)), (7, .int (nI (6 * kk))), (6, .int 1), (0, .ref (gad G 0)), (1, .ref (gad G 31)), (2, .ref (gad G 32)), (3, .ref (gad G 33)), (4, .int (nI kk)), (5, .int (nI to9))]) hx hb dL_isPassed_130 hl (by decide) rfl (fun ls hl => ?_)
                      refine lv_aload_n hx hb dL_isPassed_132 rfl (lv_at hl 5 rfl) ?_
                      refine lv_iconst (v := 4) hx hb dL_isPassed_133 (by decide) ?_
                      refine lv_iload hx hb dL_isPassed_134 (lv_at hl 9 rfl) ?_
                      refine lv_iload hx hb dL_isPassed_136 (lv_at hl 10 rfl) ?_
                      refine lv_iconst (v := 0) hx hb dL_isPassed_138 (by decide) ?_
                      refine rCallLS (As := [.ref (gad G 0), .int 4, .int (nI kk), .int (nI to9), .int 0]) (rest := []) ⟨hx, hb, hml, hown, hts⟩ fx hw (d4_t2 l hlt G hG hF σ (pcv hA) ((nI kk)) ((nI to9)) 0 (by rw [inB_y (show kk < n by omega) (by omega), inB_y (show to9 < g by omega) (by omega)]; rfl) (by rw [ix_nI (by omega), ix_nI (by omega)]; exact cp_no hA (ga := ga) (fun _ => x4) (by omega) (by first | exact Or.inl hbo | exact Or.inr (Or.inl (by assumption)) | exact Or.inr (Or.inr (Or.inl ⟨hbo, hst9.1, hst9.2, by assumption⟩)) | exact Or.inr (Or.inr (Or.inr ⟨hbo, by assumption, by assumption⟩))))) (vx_cwSW 5 hts gL_isPassed_L_does rfl rfl rfl (by decide +kernel) ⟨Nat.le_of_ble_eq_true rfl, Nat.le_of_ble_eq_true rfl⟩) rfl hl.1 rfl (Nat.le_of_ble_eq_true rfl) dL_isPassed_139 ⟨Nat.le_trans (show _ ≤ 3 by omega) (Nat.le_of_ble_eq_true rfl), Nat.le_trans (show _ ≤ 20 by omega) (Nat.le_of_ble_eq_true rfl)⟩ (fun r_102 σ_103 H locs p_104 hw => ?_)
                      obtain ⟨er_102, eσ_103⟩ := p_104
                      have er_102 := er_102.symm; subst er_102
                      have eσ_103 := eσ_103.symm; subst eσ_103
                      refine lv_istore (lv' := [(11, .int (-10)), (10, .int 0), (9, .int 1), (8, .int (nI ga)), (7, .int (nI (6 * kk))), (6, .int 1), (0, .ref (gad G 0)), (1, .ref (gad G 31)), (2, .ref (gad G 32)), (3, .ref (gad G 33)), (4, .int (nI kk)), (5, .int (nI to9))]) hx hb dL_isPassed_142 hl (by decide) rfl (fun ls hl => ?_)
                      refine lv_iload hx hb dL_isPassed_144 (lv_at hl 1 rfl) ?_
                      refine lv_if_ne (tgt := 172) hx hb dL_isPassed_146 (by decide) (fun c_105 => ?_) (fun c_105 => ?_)
                      · skip
                        exact absurd c_105 (by decide)
                      · skip
                        refine lv_iload hx hb dL_isPassed_149 (lv_at hl 0 rfl) ?_
                        refine lv_iload hx hb dL_isPassed_151 (lv_at hl 5 rfl) ?_
                        refine lv_if_eq (tgt := 161) hx hb dL_isPassed_153 (by decide) (fun c_106 => ?_) (fun c_106 => ?_)
                        · skip
                          exact absurd c_106 (by decide)
                        · skip
                          refine lv_bipush (v := (-10)) hx hb dL_isPassed_156 (by decide) ?_
                          refine lv_goto (tgt := 163) hx hb dL_isPassed_158 (by decide) ?_
                          refine lv_icmp_ne (tgt := 170) hx hb dL_isPassed_163 (by decide) (fun c_107 => ?_) (fun c_107 => ?_)
                          · skip
                            exact absurd c_107 (by decide)
                          · skip
                            refine lv_iconst (v := 1) hx hb dL_isPassed_166 (by decide) ?_
                            refine lv_goto (tgt := 171) hx hb dL_isPassed_167 (by decide) ?_
                            exact rRetZw hx hb hr hw (by decide) (by exact ⟨rfl, po_same hA hGa⟩) hlocks dL_isPassed_171 (by omega) (by omega)
                    · skip
                      refine lv_aload_n hx hb dL_isPassed_100 rfl (lv_at hl 4 rfl) ?_
                      refine lv_iload hx hb dL_isPassed_101 (lv_at hl 8 rfl) ?_
                      refine rCallN (C := RX5) (As := [.int (nI kk)]) (rest := []) ⟨hx, hb, hml, hown, hts⟩ fx hw (n_stunned1 l hlt G hG hF σ hA hj hbo kk (by omega)) (cwV 1 hts gL_isPassed_X5_stunned rfl rfl rfl (by decide +kernel) ⟨Nat.le_of_ble_eq_true rfl, Nat.le_of_ble_eq_true rfl⟩) (hF.1 0 (by decide)) rfl rfl rfl rfl hl.1 rfl (Nat.le_of_ble_eq_true rfl) dL_isPassed_103 ⟨Nat.le_trans (show _ ≤ 3 by omega) (Nat.le_of_ble_eq_true rfl), Nat.le_trans (show _ ≤ 20 by omega) (Nat.le_of_ble_eq_true rfl)⟩ (fun r_108 σ_109 H locs p_110 hw => ?_)
                      obtain ⟨er_108, eσ_109, p_110_0⟩ := p_110
                      have er_108 := er_108.symm; subst er_108
                      have eσ_109 := eσ_109.symm; subst eσ_109
                      refine lv_if_ne (tgt := 129) hx hb dL_isPassed_106 (by decide) (fun c_111 => ?_) (fun c_111 => ?_)
                      · skip
                        have c_111 : ¬ (stN σ kk) = 0 := n0_net (by omega) c_111
                        refine lv_iconst (v := 0) hx hb dL_isPassed_129 (by decide) ?_
                        refine lv_istore (lv' := [(10, .int 0), (9, .int 1), (8, .int (nI ga)), (7, .int (nI (6 * kk))), (6, .int 1), (0, .ref (gad G 0)), (1, .ref (gad G 31)), (2, .ref (gad G 32)), (3, .ref (gad G 33)), (4, .int (nI kk)), (5, .int (nI to9))]) hx hb dL_isPassed_130 hl (by decide) rfl (fun ls hl => ?_)
                        refine lv_aload_n hx hb dL_isPassed_132 rfl (lv_at hl 5 rfl) ?_
                        refine lv_iconst (v := 4) hx hb dL_isPassed_133 (by decide) ?_
                        refine lv_iload hx hb dL_isPassed_134 (lv_at hl 9 rfl) ?_
                        refine lv_iload hx hb dL_isPassed_136 (lv_at hl 10 rfl) ?_
                        refine lv_iconst (v := 0) hx hb dL_isPassed_138 (by decide) ?_
                        refine rCallLS (As := [.ref (gad G 0), .int 4, .int (nI kk), .int (nI to9), .int 0]) (rest := []) ⟨hx, hb, hml, hown, hts⟩ fx hw (d4_t2 l hlt G hG hF σ (pcv hA) ((nI kk)) ((nI to9)) 0 (by rw [inB_y (show kk < n by omega) (by omega), inB_y (show to9 < g by omega) (by omega)]; rfl) (by rw [ix_nI (by omega), ix_nI (by omega)]; exact cp_no hA (ga := ga) (fun _ => x4) (by omega) (by first | exact Or.inl hbo | exact Or.inr (Or.inl (by assumption)) | exact Or.inr (Or.inr (Or.inl ⟨hbo, hst9.1, hst9.2, by assumption⟩)) | exact Or.inr (Or.inr (Or.inr ⟨hbo, by assumption, by assumption⟩))))) (vx_cwSW 5 hts gL_isPassed_L_does rfl rfl rfl (by decide +kernel) ⟨Nat.le_of_ble_eq_true rfl, Nat.le_of_ble_eq_true rfl⟩) rfl hl.1 rfl (Nat.le_of_ble_eq_true rfl) dL_isPassed_139 ⟨Nat.le_trans (show _ ≤ 3 by omega) (Nat.le_of_ble_eq_true rfl), Nat.le_trans (show _ ≤ 20 by omega) (Nat.le_of_ble_eq_true rfl)⟩ (fun r_112 σ_113 H locs p_114 hw => ?_)
                        obtain ⟨er_112, eσ_113⟩ := p_114
                        have er_112 := er_112.symm; subst er_112
                        have eσ_113 := eσ_113.symm; subst eσ_113
                        refine lv_istore (lv' := [(11, .int (-10)), (10, .int 0), (9, .int 1), (8, .int (nI ga)), (7, .int (nI (6 * kk))), (6, .int 1), (0, .ref (gad G 0)), (1, .ref (gad G 31)), (2, .ref (gad G 32)), (3, .ref (gad G 33)), (4, .int (nI kk)), (5, .int (nI to9))]) hx hb dL_isPassed_142 hl (by decide) rfl (fun ls hl => ?_)
                        refine lv_iload hx hb dL_isPassed_144 (lv_at hl 1 rfl) ?_
                        refine lv_if_ne (tgt := 172) hx hb dL_isPassed_146 (by decide) (fun c_115 => ?_) (fun c_115 => ?_)
                        · skip
                          exact absurd c_115 (by decide)
                        · skip
                          refine lv_iload hx hb dL_isPassed_149 (lv_at hl 0 rfl) ?_
                          refine lv_iload hx hb dL_isPassed_151 (lv_at hl 5 rfl) ?_
                          refine lv_if_eq (tgt := 161) hx hb dL_isPassed_153 (by decide) (fun c_116 => ?_) (fun c_116 => ?_)
                          · skip
                            exact absurd c_116 (by decide)
                          · skip
                            refine lv_bipush (v := (-10)) hx hb dL_isPassed_156 (by decide) ?_
                            refine lv_goto (tgt := 163) hx hb dL_isPassed_158 (by decide) ?_
                            refine lv_icmp_ne (tgt := 170) hx hb dL_isPassed_163 (by decide) (fun c_117 => ?_) (fun c_117 => ?_)
                            · skip
                              exact absurd c_117 (by decide)
                            · skip
                              refine lv_iconst (v := 1) hx hb dL_isPassed_166 (by decide) ?_
                              refine lv_goto (tgt := 171) hx hb dL_isPassed_167 (by decide) ?_
                              exact rRetZw hx hb hr hw (by decide) (by exact ⟨rfl, po_same hA hGa⟩) hlocks dL_isPassed_171 (by omega) (by omega)
                      · skip
                        have c_111 : (stN σ kk) = 0 := n0_nef (by omega) c_111
                        refine lv_iload hx hb dL_isPassed_109 (lv_at hl 0 rfl) ?_
                        refine lv_if_ne (tgt := 125) hx hb dL_isPassed_111 (by decide) (fun c_118 => ?_) (fun c_118 => ?_)
                        · skip
                          refine lv_iconst (v := 1) hx hb dL_isPassed_125 (by decide) ?_
                          refine lv_goto (tgt := 130) hx hb dL_isPassed_126 (by decide) ?_
                          refine lv_istore (lv' := [(10, .int 1), (9, .int 1), (8, .int (nI ga)), (7, .int (nI (6 * kk))), (6, .int 1), (0, .ref (gad G 0)), (1, .ref (gad G 31)), (2, .ref (gad G 32)), (3, .ref (gad G 33)), (4, .int (nI kk)), (5, .int (nI to9))]) hx hb dL_isPassed_130 hl (by decide) rfl (fun ls hl => ?_)
                          refine lv_aload_n hx hb dL_isPassed_132 rfl (lv_at hl 5 rfl) ?_
                          refine lv_iconst (v := 4) hx hb dL_isPassed_133 (by decide) ?_
                          refine lv_iload hx hb dL_isPassed_134 (lv_at hl 9 rfl) ?_
                          refine lv_iload hx hb dL_isPassed_136 (lv_at hl 10 rfl) ?_
                          refine lv_iconst (v := 0) hx hb dL_isPassed_138 (by decide) ?_
                          refine rCallLS (As := [.ref (gad G 0), .int 4, .int (nI kk), .int (nI to9), .int 0]) (rest := []) ⟨hx, hb, hml, hown, hts⟩ fx hw (d4_ok l hlt G hG hF σ (pcv hA) kk to9 0 (by omega) (by omega) (cp_y hA hj hX (by omega) hbo (by assumption) hst9.1 (by assumption) (by first | exact Or.inl (by assumption) | exact Or.inr (by assumption)))) (vx_cwSW 5 hts gL_isPassed_L_does rfl rfl rfl (by decide +kernel) ⟨Nat.le_of_ble_eq_true rfl, Nat.le_of_ble_eq_true rfl⟩) rfl hl.1 rfl (Nat.le_of_ble_eq_true rfl) dL_isPassed_139 ⟨Nat.le_trans (show _ ≤ 3 by omega) (Nat.le_of_ble_eq_true rfl), Nat.le_trans (show _ ≤ 20 by omega) (Nat.le_of_ble_eq_true rfl)⟩ (fun r_119 σ_120 H locs p_121 hw => ?_)
                          obtain ⟨er_119, eσ_120⟩ := p_121
                          have er_119 := er_119.symm; subst er_119
                          refine lv_istore (lv' := [(11, .int (mvR (noSt σ z kk to9) 4 kk to9)), (10, .int 1), (9, .int 1), (8, .int (nI ga)), (7, .int (nI (6 * kk))), (6, .int 1), (0, .ref (gad G 0)), (1, .ref (gad G 31)), (2, .ref (gad G 32)), (3, .ref (gad G 33)), (4, .int (nI kk)), (5, .int (nI to9))]) hx hb dL_isPassed_142 hl (by decide) rfl (fun ls hl => ?_)
                          refine lv_iload hx hb dL_isPassed_144 (lv_at hl 1 rfl) ?_
                          refine lv_if_ne (tgt := 172) hx hb dL_isPassed_146 (by decide) (fun c_122 => ?_) (fun c_122 => ?_)
                          · skip
                            refine lv_aload_n hx hb dL_isPassed_172 rfl (lv_at hl 8 rfl) ?_
                            refine lv_iload hx hb dL_isPassed_173 (lv_at hl 4 rfl) ?_
                            refine lv_iconst (v := 1) hx hb dL_isPassed_175 (by decide) ?_
                            refine lv_rep0 (x := 1) (y := nI 1) rfl ?_
                            refine lv_iadd hx hb dL_isPassed_176 ?_
                            refine lv_rep0 (x := ((nI (6 * kk)) + (nI 1))) (y := nI ((6 * kk) + 1)) (nI_add _ _) ?_
                            refine lv_iload hx hb dL_isPassed_177 (lv_at hl 11 rfl) ?_
                            refine rAst (x := (nI to9)) hx hb fx hw 32 (hF.1 32 (by decide)) hF.2.1 (fun _ => rfl) ((6 * kk) + 1) rfl (by omega) (by decide) dL_isPassed_179 (fun H locs hw => ?_)
                            obtain ⟨σ_123, eσ_123⟩ : ∃ w9, w9 = upA σ_120 32 (upd (σ_120 32) ((6 * kk) + 1) (nI to9)) := ⟨_, rfl⟩
                            rw [← eσ_123] at hw
                            refine lv_iload hx hb dL_isPassed_180 (lv_at hl 2 rfl) ?_
                            refine lv_if_ne (tgt := 231) hx hb dL_isPassed_182 (by decide) (fun c_124 => ?_) (fun c_124 => ?_)
                            · skip
                              refine lv_iload hx hb dL_isPassed_231 (lv_at hl 11 rfl) ?_
                              refine lv_if_le (tgt := 273) hx hb dL_isPassed_233 (by decide) (fun c_125 => ?_) (fun c_125 => ?_)
                              · skip
                                have c_125 : to9 = 0 := n0_let (by omega) c_125
                                refine lv_aload_n hx hb dL_isPassed_273 rfl (lv_at hl 9 rfl) ?_
                                refine lv_iconst (v := 1) hx hb dL_isPassed_274 (by decide) ?_
                                refine lv_rep0 (x := 1) (y := nI 1) rfl ?_
                                refine rAld hx hb fx hw 33 (hF.1 33 (by decide)) hF.2.1 (fun _ => rfl) 1 rfl (by omega) (by decide) dL_isPassed_275 ?_
                                refine lv_rep0 (x := (σ_123 33 1)) (y := (σ 33 1)) ((ld_n eσ_123 (by decide)).trans (congrFun ((ag_pass eσ_120) 33 (by decide)) 1)) ?_
                                refine lv_aload_n hx hb dL_isPassed_276 rfl (lv_at hl 8 rfl) ?_
                                refine lv_iload hx hb dL_isPassed_277 (lv_at hl 4 rfl) ?_
                                refine lv_iconst (v := 4) hx hb dL_isPassed_279 (by decide) ?_
                                refine lv_rep0 (x := 4) (y := nI 4) rfl ?_
                                refine lv_iadd hx hb dL_isPassed_280 ?_
                                refine lv_rep0 (x := ((nI (6 * kk)) + (nI 4))) (y := nI ((6 * kk) + 4)) (nI_add _ _) ?_
                                refine rAld hx hb fx hw 32 (hF.1 32 (by decide)) hF.2.1 (fun _ => rfl) ((6 * kk) + 4) rfl (by omega) (by decide) dL_isPassed_281 ?_
                                refine lv_rep0 (x := (σ_123 32 ((6 * kk) + 4))) (y := (σ 32 ((6 * kk) + 4))) ((ld_m eσ_123 (by omega)).trans (congrFun ((ag_pass eσ_120) 32 (by decide)) (((6 * kk) + 4)))) ?_
                                refine lv_iconst (v := (-1)) hx hb dL_isPassed_282 (by decide) ?_
                                refine lv_ixor hx hb dL_isPassed_283 ?_
                                refine lv_iand hx hb dL_isPassed_284 ?_
                                refine lv_if_ne (tgt := 292) hx hb dL_isPassed_285 (by decide) (fun c_126 => ?_) (fun c_126 => ?_)
                                · skip
                                  refine lv_iconst (v := 0) hx hb dL_isPassed_292 (by decide) ?_
                                  refine lv_istore (lv' := [(12, .int 0), (11, .int (mvR (noSt σ z kk to9) 4 kk to9)), (10, .int 1), (9, .int 1), (8, .int (nI ga)), (7, .int (nI (6 * kk))), (6, .int 1), (0, .ref (gad G 0)), (1, .ref (gad G 31)), (2, .ref (gad G 32)), (3, .ref (gad G 33)), (4, .int (nI kk)), (5, .int (nI to9))]) hx hb dL_isPassed_293 hl (by decide) rfl (fun ls hl => ?_)
                                  refine lv_aload_n hx hb dL_isPassed_295 rfl (lv_at hl 9 rfl) ?_
                                  refine lv_iload hx hb dL_isPassed_296 (lv_at hl 5 rfl) ?_
                                  refine lv_iconst (v := 4) hx hb dL_isPassed_298 (by decide) ?_
                                  refine lv_rep0 (x := 4) (y := nI 4) rfl ?_
                                  refine lv_iadd hx hb dL_isPassed_299 ?_
                                  refine lv_rep0 (x := ((nI (6 * kk)) + (nI 4))) (y := nI ((6 * kk) + 4)) (nI_add _ _) ?_
                                  refine lv_iconst (v := 0) hx hb dL_isPassed_300 (by decide) ?_
                                  refine rAst (x := 0) hx hb fx hw 32 (hF.1 32 (by decide)) hF.2.1 (fun _ => rfl) ((6 * kk) + 4) rfl (by omega) (by decide) dL_isPassed_301 (fun H locs hw => ?_)
                                  obtain ⟨σ_127, eσ_127⟩ : ∃ w9, w9 = upA σ_123 32 (upd (σ_123 32) ((6 * kk) + 4) 0) := ⟨_, rfl⟩
                                  rw [← eσ_127] at hw
                                  refine lv_aload_n hx hb dL_isPassed_302 rfl (lv_at hl 9 rfl) ?_
                                  refine lv_iload hx hb dL_isPassed_303 (lv_at hl 5 rfl) ?_
                                  refine lv_iconst (v := 3) hx hb dL_isPassed_305 (by decide) ?_
                                  refine lv_rep0 (x := 3) (y := nI 3) rfl ?_
                                  refine lv_iadd hx hb dL_isPassed_306 ?_
                                  refine lv_rep0 (x := ((nI (6 * kk)) + (nI 3))) (y := nI ((6 * kk) + 3)) (nI_add _ _) ?_
                                  refine rAld hx hb fx hw 32 (hF.1 32 (by decide)) hF.2.1 (fun _ => rfl) ((6 * kk) + 3) rfl (by omega) (by decide) dL_isPassed_307 ?_
                                  refine lv_rep0 (x := (σ_127 32 ((6 * kk) + 3))) (y := (nI db)) ((ld_m eσ_127 (by omega)).trans ((ld_m eσ_123 (by omega)).trans ((congrFun ((ag_pass eσ_120) 32 (by decide)) (((6 * kk) + 3))).trans x7))) ?_
                                  refine lv_if_le (tgt := 333) hx hb dL_isPassed_308 (by decide) (fun c_128 => ?_) (fun c_128 => ?_)
                                  · skip
                                    have c_128 : db = 0 := n0_let (by omega) c_128
                                    refine lv_aload_n hx hb dL_isPassed_333 rfl (lv_at hl 9 rfl) ?_
                                    refine lv_iload hx hb dL_isPassed_334 (lv_at hl 5 rfl) ?_
                                    refine lv_iconst (v := 2) hx hb dL_isPassed_336 (by decide) ?_
                                    refine lv_rep0 (x := 2) (y := nI 2) rfl ?_
                                    refine lv_iadd hx hb dL_isPassed_337 ?_
                                    refine lv_rep0 (x := ((nI (6 * kk)) + (nI 2))) (y := nI ((6 * kk) + 2)) (nI_add _ _) ?_
                                    refine lv_dup2_11 hx hb dL_isPassed_338 rfl rfl ?_
                                    refine rAld hx hb fx hw 32 (hF.1 32 (by decide)) hF.2.1 (fun _ => rfl) ((6 * kk) + 2) rfl (by omega) (by decide) dL_isPassed_339 ?_
                                    refine lv_rep0 (x := (σ_127 32 ((6 * kk) + 2))) (y := (nI lp)) ((ld_m eσ_127 (by omega)).trans ((ld_m eσ_123 (by omega)).trans ((congrFun ((ag_pass eσ_120) 32 (by decide)) (((6 * kk) + 2))).trans x6))) ?_
                                    refine lv_iload hx hb dL_isPassed_340 (lv_at hl 0 rfl) ?_
                                    refine lv_if_eq (tgt := 349) hx hb dL_isPassed_342 (by decide) (fun c_129 => ?_) (fun c_129 => ?_)
                                    · skip
                                      refine lv_iconst (v := 0) hx hb dL_isPassed_349 (by decide) ?_
                                      refine lv_rep0 (x := 0) (y := nI 0) rfl ?_
                                      refine lv_iadd hx hb dL_isPassed_350 ?_
                                      refine lv_rep0 (x := ((nI lp) + (nI 0))) (y := nI (lp + 0)) (nI_add _ _) ?_
                                      refine rAst (x := (nI (lp + 0))) hx hb fx hw 32 (hF.1 32 (by decide)) hF.2.1 (fun _ => rfl) ((6 * kk) + 2) rfl (by omega) (by decide) dL_isPassed_351 (fun H locs hw => ?_)
                                      obtain ⟨σ_130, eσ_130⟩ : ∃ w9, w9 = upA σ_127 32 (upd (σ_127 32) ((6 * kk) + 2) (nI (lp + 0))) := ⟨_, rfl⟩
                                      rw [← eσ_130] at hw
                                      refine lv_aload_n hx hb dL_isPassed_352 rfl (lv_at hl 9 rfl) ?_
                                      refine lv_iload hx hb dL_isPassed_353 (lv_at hl 5 rfl) ?_
                                      refine lv_iconst (v := 5) hx hb dL_isPassed_355 (by decide) ?_
                                      refine lv_rep0 (x := 5) (y := nI 5) rfl ?_
                                      refine lv_iadd hx hb dL_isPassed_356 ?_
                                      refine lv_rep0 (x := ((nI (6 * kk)) + (nI 5))) (y := nI ((6 * kk) + 5)) (nI_add _ _) ?_
                                      refine lv_iload hx hb dL_isPassed_357 (lv_at hl 0 rfl) ?_
                                      refine lv_if_eq (tgt := 378) hx hb dL_isPassed_359 (by decide) (fun c_131 => ?_) (fun c_131 => ?_)
                                      · skip
                                        refine lv_iconst (v := 0) hx hb dL_isPassed_378 (by decide) ?_
                                        refine rAst (x := 0) hx hb fx hw 32 (hF.1 32 (by decide)) hF.2.1 (fun _ => rfl) ((6 * kk) + 5) rfl (by omega) (by decide) dL_isPassed_379 (fun H locs hw => ?_)
                                        obtain ⟨σ_132, eσ_132⟩ : ∃ w9, w9 = upA σ_130 32 (upd (σ_130 32) ((6 * kk) + 5) 0) := ⟨_, rfl⟩
                                        rw [← eσ_132] at hw
                                        refine lv_iload hx hb dL_isPassed_380 (lv_at hl 1 rfl) ?_
                                        refine lv_iload hx hb dL_isPassed_382 (lv_at hl 0 rfl) ?_
                                        refine lv_if_ne (tgt := 391) hx hb dL_isPassed_384 (by decide) (fun c_133 => ?_) (fun c_133 => ?_)
                                        · skip
                                          exact absurd c_133 (by decide)
                                        · skip
                                          refine lv_iconst (v := 2) hx hb dL_isPassed_387 (by decide) ?_
                                          refine lv_goto (tgt := 406) hx hb dL_isPassed_388 (by decide) ?_
                                          refine lv_icmp_ne (tgt := 413) hx hb dL_isPassed_406 (by decide) (fun c_134 => ?_) (fun c_134 => ?_)
                                          · skip
                                            exact absurd ((mv_l hA hj (show to9 = 0 by omega) hX (by assumption)).trans (by have hl9 := lp_lt hX (by assumption); first | rw [if_pos (show db = 0 by omega), if_neg (by assumption)] | rw [if_pos (show db = 0 by omega), if_pos (by assumption), if_neg (by omega)] | rw [if_pos (show db = 0 by omega), if_pos (by assumption), if_pos (by omega)])) c_134
                                          · skip
                                            refine lv_iconst (v := 1) hx hb dL_isPassed_409 (by decide) ?_
                                            refine lv_goto (tgt := 414) hx hb dL_isPassed_410 (by decide) ?_
                                            subst eσ_132
                                            subst eσ_130
                                            subst eσ_127
                                            subst eσ_123
                                            subst eσ_120
                                            exact rRetZw hx hb hr hw (by decide) (by exact ⟨rfl, pass_k (lp' := lp + 0) hA hGa hj hbo (by omega) (show to9 = 0 by omega) hX (by assumption) (by assumption) (by omega) (by first | exact Or.inl ⟨by assumption, rfl⟩ | exact Or.inr ⟨by assumption, rfl⟩) (by have hl9 := lp_lt hX (by assumption); first | exact Or.inl ⟨rfl, by omega⟩ | exact Or.inr ⟨rfl, by omega⟩) (fun c9 h9 => by rw [upA_n h9, upA_n h9, upA_n h9, upA_n h9]) rfl⟩) hlocks dL_isPassed_414 (by omega) (by omega)
                                      · skip
                                        exact absurd c_131 (by decide)
                                    · skip
                                      exact absurd c_129 (by decide)
                                  · skip
                                    have c_128 : 0 < db := n0_lef (by omega) c_128
                                    refine lv_aload_n hx hb dL_isPassed_311 rfl (lv_at hl 9 rfl) ?_
                                    refine lv_iload hx hb dL_isPassed_312 (lv_at hl 5 rfl) ?_
                                    refine lv_iconst (v := 3) hx hb dL_isPassed_314 (by decide) ?_
                                    refine lv_rep0 (x := 3) (y := nI 3) rfl ?_
                                    refine lv_iadd hx hb dL_isPassed_315 ?_
                                    refine lv_rep0 (x := ((nI (6 * kk)) + (nI 3))) (y := nI ((6 * kk) + 3)) (nI_add _ _) ?_
                                    refine lv_dup2_11 hx hb dL_isPassed_316 rfl rfl ?_
                                    refine rAld hx hb fx hw 32 (hF.1 32 (by decide)) hF.2.1 (fun _ => rfl) ((6 * kk) + 3) rfl (by omega) (by decide) dL_isPassed_317 ?_
                                    refine lv_rep0 (x := (σ_127 32 ((6 * kk) + 3))) (y := (nI db)) ((ld_m eσ_127 (by omega)).trans ((ld_m eσ_123 (by omega)).trans ((congrFun ((ag_pass eσ_120) 32 (by decide)) (((6 * kk) + 3))).trans x7))) ?_
                                    refine lv_iconst (v := 1) hx hb dL_isPassed_318 (by decide) ?_
                                    refine lv_rep0 (x := 1) (y := nI 1) rfl ?_
                                    refine lv_isub hx hb dL_isPassed_319 ?_
                                    refine lv_rep0 (x := ((nI db) - (nI 1))) (y := nI (db - 1)) (pk_sub (by omega)) ?_
                                    refine rAst (x := (nI (db - 1))) hx hb fx hw 32 (hF.1 32 (by decide)) hF.2.1 (fun _ => rfl) ((6 * kk) + 3) rfl (by omega) (by decide) dL_isPassed_320 (fun H locs hw => ?_)
                                    obtain ⟨σ_135, eσ_135⟩ : ∃ w9, w9 = upA σ_127 32 (upd (σ_127 32) ((6 * kk) + 3) (nI (db - 1))) := ⟨_, rfl⟩
                                    rw [← eσ_135] at hw
                                    refine lv_iload hx hb dL_isPassed_321 (lv_at hl 1 rfl) ?_
                                    refine lv_iconst (v := 4) hx hb dL_isPassed_323 (by decide) ?_
                                    refine lv_icmp_ne (tgt := 331) hx hb dL_isPassed_324 (by decide) (fun c_136 => ?_) (fun c_136 => ?_)
                                    · skip
                                      exact absurd ((mv_l hA hj (show to9 = 0 by omega) hX (by assumption)).trans (if_neg (by omega))) c_136
                                    · skip
                                      refine lv_iconst (v := 1) hx hb dL_isPassed_327 (by decide) ?_
                                      refine lv_goto (tgt := 332) hx hb dL_isPassed_328 (by decide) ?_
                                      subst eσ_135
                                      subst eσ_127
                                      subst eσ_123
                                      subst eσ_120
                                      exact rRetZw hx hb hr hw (by decide) (by exact ⟨rfl, pass_p hA hGa hj hbo (by omega) (show to9 = 0 by omega) hX (by assumption) (by assumption) (by omega) rfl (fun c9 h9 => by rw [upA_n h9, upA_n h9, upA_n h9]) rfl⟩) hlocks dL_isPassed_332 (by omega) (by omega)
                                · skip
                                  refine lv_iconst (v := 1) hx hb dL_isPassed_288 (by decide) ?_
                                  refine lv_goto (tgt := 293) hx hb dL_isPassed_289 (by decide) ?_
                                  refine lv_istore (lv' := [(12, .int 1), (11, .int (mvR (noSt σ z kk to9) 4 kk to9)), (10, .int 1), (9, .int 1), (8, .int (nI ga)), (7, .int (nI (6 * kk))), (6, .int 1), (0, .ref (gad G 0)), (1, .ref (gad G 31)), (2, .ref (gad G 32)), (3, .ref (gad G 33)), (4, .int (nI kk)), (5, .int (nI to9))]) hx hb dL_isPassed_293 hl (by decide) rfl (fun ls hl => ?_)
                                  refine lv_aload_n hx hb dL_isPassed_295 rfl (lv_at hl 9 rfl) ?_
                                  refine lv_iload hx hb dL_isPassed_296 (lv_at hl 5 rfl) ?_
                                  refine lv_iconst (v := 4) hx hb dL_isPassed_298 (by decide) ?_
                                  refine lv_rep0 (x := 4) (y := nI 4) rfl ?_
                                  refine lv_iadd hx hb dL_isPassed_299 ?_
                                  refine lv_rep0 (x := ((nI (6 * kk)) + (nI 4))) (y := nI ((6 * kk) + 4)) (nI_add _ _) ?_
                                  refine lv_iconst (v := 0) hx hb dL_isPassed_300 (by decide) ?_
                                  refine rAst (x := 0) hx hb fx hw 32 (hF.1 32 (by decide)) hF.2.1 (fun _ => rfl) ((6 * kk) + 4) rfl (by omega) (by decide) dL_isPassed_301 (fun H locs hw => ?_)
                                  obtain ⟨σ_137, eσ_137⟩ : ∃ w9, w9 = upA σ_123 32 (upd (σ_123 32) ((6 * kk) + 4) 0) := ⟨_, rfl⟩
                                  rw [← eσ_137] at hw
                                  refine lv_aload_n hx hb dL_isPassed_302 rfl (lv_at hl 9 rfl) ?_
                                  refine lv_iload hx hb dL_isPassed_303 (lv_at hl 5 rfl) ?_
                                  refine lv_iconst (v := 3) hx hb dL_isPassed_305 (by decide) ?_
                                  refine lv_rep0 (x := 3) (y := nI 3) rfl ?_
                                  refine lv_iadd hx hb dL_isPassed_306 ?_
                                  refine lv_rep0 (x := ((nI (6 * kk)) + (nI 3))) (y := nI ((6 * kk) + 3)) (nI_add _ _) ?_
                                  refine rAld hx hb fx hw 32 (hF.1 32 (by decide)) hF.2.1 (fun _ => rfl) ((6 * kk) + 3) rfl (by omega) (by decide) dL_isPassed_307 ?_
                                  refine lv_rep0 (x := (σ_137 32 ((6 * kk) + 3))) (y := (nI db)) ((ld_m eσ_137 (by omega)).trans ((ld_m eσ_123 (by omega)).trans ((congrFun ((ag_pass eσ_120) 32 (by decide)) (((6 * kk) + 3))).trans x7))) ?_
                                  refine lv_if_le (tgt := 333) hx hb dL_isPassed_308 (by decide) (fun c_138 => ?_) (fun c_138 => ?_)
                                  · skip
                                    have c_138 : db = 0 := n0_let (by omega) c_138
                                    refine lv_aload_n hx hb dL_isPassed_333 rfl (lv_at hl 9 rfl) ?_
                                    refine lv_iload hx hb dL_isPassed_334 (lv_at hl 5 rfl) ?_
                                    refine lv_iconst (v := 2) hx hb dL_isPassed_336 (by decide) ?_
                                    refine lv_rep0 (x := 2) (y := nI 2) rfl ?_
                                    refine lv_iadd hx hb dL_isPassed_337 ?_
                                    refine lv_rep0 (x := ((nI (6 * kk)) + (nI 2))) (y := nI ((6 * kk) + 2)) (nI_add _ _) ?_
                                    refine lv_dup2_11 hx hb dL_isPassed_338 rfl rfl ?_
                                    refine rAld hx hb fx hw 32 (hF.1 32 (by decide)) hF.2.1 (fun _ => rfl) ((6 * kk) + 2) rfl (by omega) (by decide) dL_isPassed_339 ?_
                                    refine lv_rep0 (x := (σ_137 32 ((6 * kk) + 2))) (y := (nI lp)) ((ld_m eσ_137 (by omega)).trans ((ld_m eσ_123 (by omega)).trans ((congrFun ((ag_pass eσ_120) 32 (by decide)) (((6 * kk) + 2))).trans x6))) ?_
                                    refine lv_iload hx hb dL_isPassed_340 (lv_at hl 0 rfl) ?_
                                    refine lv_if_eq (tgt := 349) hx hb dL_isPassed_342 (by decide) (fun c_139 => ?_) (fun c_139 => ?_)
                                    · skip
                                      exact absurd c_139 (by decide)
                                    · skip
                                      refine lv_iconst (v := 1) hx hb dL_isPassed_345 (by decide) ?_
                                      refine lv_goto (tgt := 350) hx hb dL_isPassed_346 (by decide) ?_
                                      refine lv_rep0 (x := 1) (y := nI 1) rfl ?_
                                      refine lv_iadd hx hb dL_isPassed_350 ?_
                                      refine lv_rep0 (x := ((nI lp) + (nI 1))) (y := nI (lp + 1)) (nI_add _ _) ?_
                                      refine rAst (x := (nI (lp + 1))) hx hb fx hw 32 (hF.1 32 (by decide)) hF.2.1 (fun _ => rfl) ((6 * kk) + 2) rfl (by omega) (by decide) dL_isPassed_351 (fun H locs hw => ?_)
                                      obtain ⟨σ_140, eσ_140⟩ : ∃ w9, w9 = upA σ_137 32 (upd (σ_137 32) ((6 * kk) + 2) (nI (lp + 1))) := ⟨_, rfl⟩
                                      rw [← eσ_140] at hw
                                      refine lv_aload_n hx hb dL_isPassed_352 rfl (lv_at hl 9 rfl) ?_
                                      refine lv_iload hx hb dL_isPassed_353 (lv_at hl 5 rfl) ?_
                                      refine lv_iconst (v := 5) hx hb dL_isPassed_355 (by decide) ?_
                                      refine lv_rep0 (x := 5) (y := nI 5) rfl ?_
                                      refine lv_iadd hx hb dL_isPassed_356 ?_
                                      refine lv_rep0 (x := ((nI (6 * kk)) + (nI 5))) (y := nI ((6 * kk) + 5)) (nI_add _ _) ?_
                                      refine lv_iload hx hb dL_isPassed_357 (lv_at hl 0 rfl) ?_
                                      refine lv_if_eq (tgt := 378) hx hb dL_isPassed_359 (by decide) (fun c_141 => ?_) (fun c_141 => ?_)
                                      · skip
                                        exact absurd c_141 (by decide)
                                      · skip
                                        refine lv_aload_n hx hb dL_isPassed_362 rfl (lv_at hl 9 rfl) ?_
                                        refine lv_iload hx hb dL_isPassed_363 (lv_at hl 5 rfl) ?_
                                        refine lv_iconst (v := 2) hx hb dL_isPassed_365 (by decide) ?_
                                        refine lv_rep0 (x := 2) (y := nI 2) rfl ?_
                                        refine lv_iadd hx hb dL_isPassed_366 ?_
                                        refine lv_rep0 (x := ((nI (6 * kk)) + (nI 2))) (y := nI ((6 * kk) + 2)) (nI_add _ _) ?_
                                        refine rAld hx hb fx hw 32 (hF.1 32 (by decide)) hF.2.1 (fun _ => rfl) ((6 * kk) + 2) rfl (by omega) (by decide) dL_isPassed_367 ?_
                                        refine lv_rep0 (x := (σ_140 32 ((6 * kk) + 2))) (y := (nI (lp + 1))) (ld_h eσ_140) ?_
                                        refine lv_aload_n hx hb dL_isPassed_368 rfl (lv_at hl 10 rfl) ?_
                                        refine lv_iconst (v := 4) hx hb dL_isPassed_369 (by decide) ?_
                                        refine lv_rep0 (x := 4) (y := nI 4) rfl ?_
                                        refine rAld hx hb fx hw 33 (hF.1 33 (by decide)) hF.2.1 (fun _ => rfl) 4 rfl (by omega) (by decide) dL_isPassed_370 ?_
                                        refine lv_rep0 (x := (σ_140 33 4)) (y := (nI G9)) ((ld_n eσ_140 (by decide)).trans ((ld_n eσ_137 (by decide)).trans ((ld_n eσ_123 (by decide)).trans ((congrFun ((ag_pass eσ_120) 33 (by decide)) 4).trans x10)))) ?_
                                        refine lv_icmp_ne (tgt := 378) hx hb dL_isPassed_371 (by decide) (fun c_142 => ?_) (fun c_142 => ?_)
                                        · skip
                                          have c_142 : ¬ (lp + 1) = G9 := fun h9 => c_142 ((nI_eq (by omega) (by omega)).mpr h9)
                                          refine lv_iconst (v := 0) hx hb dL_isPassed_378 (by decide) ?_
                                          refine rAst (x := 0) hx hb fx hw 32 (hF.1 32 (by decide)) hF.2.1 (fun _ => rfl) ((6 * kk) + 5) rfl (by omega) (by decide) dL_isPassed_379 (fun H locs hw => ?_)
                                          obtain ⟨σ_143, eσ_143⟩ : ∃ w9, w9 = upA σ_140 32 (upd (σ_140 32) ((6 * kk) + 5) 0) := ⟨_, rfl⟩
                                          rw [← eσ_143] at hw
                                          refine lv_iload hx hb dL_isPassed_380 (lv_at hl 1 rfl) ?_
                                          refine lv_iload hx hb dL_isPassed_382 (lv_at hl 0 rfl) ?_
                                          refine lv_if_ne (tgt := 391) hx hb dL_isPassed_384 (by decide) (fun c_144 => ?_) (fun c_144 => ?_)
                                          · skip
                                            refine lv_aload_n hx hb dL_isPassed_391 rfl (lv_at hl 9 rfl) ?_
                                            refine lv_iload hx hb dL_isPassed_392 (lv_at hl 5 rfl) ?_
                                            refine lv_iconst (v := 5) hx hb dL_isPassed_394 (by decide) ?_
                                            refine lv_rep0 (x := 5) (y := nI 5) rfl ?_
                                            refine lv_iadd hx hb dL_isPassed_395 ?_
                                            refine lv_rep0 (x := ((nI (6 * kk)) + (nI 5))) (y := nI ((6 * kk) + 5)) (nI_add _ _) ?_
                                            refine rAld hx hb fx hw 32 (hF.1 32 (by decide)) hF.2.1 (fun _ => rfl) ((6 * kk) + 5) rfl (by omega) (by decide) dL_isPassed_396 ?_
                                            refine lv_rep0 (x := (σ_143 32 ((6 * kk) + 5))) (y := 0) (ld_h eσ_143) ?_
                                            refine lv_iconst (v := 1) hx hb dL_isPassed_397 (by decide) ?_
                                            refine lv_icmp_ne (tgt := 405) hx hb dL_isPassed_398 (by decide) (fun c_145 => ?_) (fun c_145 => ?_)
                                            · skip
                                              refine lv_iconst (v := 1) hx hb dL_isPassed_405 (by decide) ?_
                                              refine lv_icmp_ne (tgt := 413) hx hb dL_isPassed_406 (by decide) (fun c_146 => ?_) (fun c_146 => ?_)
                                              · skip
                                                exact absurd ((mv_l hA hj (show to9 = 0 by omega) hX (by assumption)).trans (by have hl9 := lp_lt hX (by assumption); first | rw [if_pos (show db = 0 by omega), if_neg (by assumption)] | rw [if_pos (show db = 0 by omega), if_pos (by assumption), if_neg (by omega)] | rw [if_pos (show db = 0 by omega), if_pos (by assumption), if_pos (by omega)])) c_146
                                              · skip
                                                refine lv_iconst (v := 1) hx hb dL_isPassed_409 (by decide) ?_
                                                refine lv_goto (tgt := 414) hx hb dL_isPassed_410 (by decide) ?_
                                                subst eσ_143
                                                subst eσ_140
                                                subst eσ_137
                                                subst eσ_123
                                                subst eσ_120
                                                exact rRetZw hx hb hr hw (by decide) (by exact ⟨rfl, pass_k (lp' := lp + 1) hA hGa hj hbo (by omega) (show to9 = 0 by omega) hX (by assumption) (by assumption) (by omega) (by first | exact Or.inl ⟨by assumption, rfl⟩ | exact Or.inr ⟨by assumption, rfl⟩) (by have hl9 := lp_lt hX (by assumption); first | exact Or.inl ⟨rfl, by omega⟩ | exact Or.inr ⟨rfl, by omega⟩) (fun c9 h9 => by rw [upA_n h9, upA_n h9, upA_n h9, upA_n h9]) rfl⟩) hlocks dL_isPassed_414 (by omega) (by omega)
                                            · skip
                                              exact absurd c_145 (by decide)
                                          · skip
                                            exact absurd c_144 (by decide)
                                        · skip
                                          have c_142 : (lp + 1) = G9 := (nI_eq (by omega) (by omega)).mp c_142
                                          refine lv_iconst (v := 1) hx hb dL_isPassed_374 (by decide) ?_
                                          refine lv_goto (tgt := 379) hx hb dL_isPassed_375 (by decide) ?_
                                          refine rAst (x := 1) hx hb fx hw 32 (hF.1 32 (by decide)) hF.2.1 (fun _ => rfl) ((6 * kk) + 5) rfl (by omega) (by decide) dL_isPassed_379 (fun H locs hw => ?_)
                                          obtain ⟨σ_147, eσ_147⟩ : ∃ w9, w9 = upA σ_140 32 (upd (σ_140 32) ((6 * kk) + 5) 1) := ⟨_, rfl⟩
                                          rw [← eσ_147] at hw
                                          refine lv_iload hx hb dL_isPassed_380 (lv_at hl 1 rfl) ?_
                                          refine lv_iload hx hb dL_isPassed_382 (lv_at hl 0 rfl) ?_
                                          refine lv_if_ne (tgt := 391) hx hb dL_isPassed_384 (by decide) (fun c_148 => ?_) (fun c_148 => ?_)
                                          · skip
                                            refine lv_aload_n hx hb dL_isPassed_391 rfl (lv_at hl 9 rfl) ?_
                                            refine lv_iload hx hb dL_isPassed_392 (lv_at hl 5 rfl) ?_
                                            refine lv_iconst (v := 5) hx hb dL_isPassed_394 (by decide) ?_
                                            refine lv_rep0 (x := 5) (y := nI 5) rfl ?_
                                            refine lv_iadd hx hb dL_isPassed_395 ?_
                                            refine lv_rep0 (x := ((nI (6 * kk)) + (nI 5))) (y := nI ((6 * kk) + 5)) (nI_add _ _) ?_
                                            refine rAld hx hb fx hw 32 (hF.1 32 (by decide)) hF.2.1 (fun _ => rfl) ((6 * kk) + 5) rfl (by omega) (by decide) dL_isPassed_396 ?_
                                            refine lv_rep0 (x := (σ_147 32 ((6 * kk) + 5))) (y := 1) (ld_h eσ_147) ?_
                                            refine lv_iconst (v := 1) hx hb dL_isPassed_397 (by decide) ?_
                                            refine lv_icmp_ne (tgt := 405) hx hb dL_isPassed_398 (by decide) (fun c_149 => ?_) (fun c_149 => ?_)
                                            · skip
                                              exact absurd c_149 (by decide)
                                            · skip
                                              refine lv_iconst (v := 5) hx hb dL_isPassed_401 (by decide) ?_
                                              refine lv_goto (tgt := 406) hx hb dL_isPassed_402 (by decide) ?_
                                              refine lv_icmp_ne (tgt := 413) hx hb dL_isPassed_406 (by decide) (fun c_150 => ?_) (fun c_150 => ?_)
                                              · skip
                                                exact absurd ((mv_l hA hj (show to9 = 0 by omega) hX (by assumption)).trans (by have hl9 := lp_lt hX (by assumption); first | rw [if_pos (show db = 0 by omega), if_neg (by assumption)] | rw [if_pos (show db = 0 by omega), if_pos (by assumption), if_neg (by omega)] | rw [if_pos (show db = 0 by omega), if_pos (by assumption), if_pos (by omega)])) c_150
                                              · skip
                                                refine lv_iconst (v := 1) hx hb dL_isPassed_409 (by decide) ?_
                                                refine lv_goto (tgt := 414) hx hb dL_isPassed_410 (by decide) ?_
                                                subst eσ_147
                                                subst eσ_140
                                                subst eσ_137
                                                subst eσ_123
                                                subst eσ_120
                                                exact rRetZw hx hb hr hw (by decide) (by exact ⟨rfl, pass_k (lp' := lp + 1) hA hGa hj hbo (by omega) (show to9 = 0 by omega) hX (by assumption) (by assumption) (by omega) (by first | exact Or.inl ⟨by assumption, rfl⟩ | exact Or.inr ⟨by assumption, rfl⟩) (by have hl9 := lp_lt hX (by assumption); first | exact Or.inl ⟨rfl, by omega⟩ | exact Or.inr ⟨rfl, by omega⟩) (fun c9 h9 => by rw [upA_n h9, upA_n h9, upA_n h9, upA_n h9]) rfl⟩) hlocks dL_isPassed_414 (by omega) (by omega)
                                          · skip
                                            exact absurd c_148 (by decide)
                                  · skip
                                    have c_138 : 0 < db := n0_lef (by omega) c_138
                                    refine lv_aload_n hx hb dL_isPassed_311 rfl (lv_at hl 9 rfl) ?_
                                    refine lv_iload hx hb dL_isPassed_312 (lv_at hl 5 rfl) ?_
                                    refine lv_iconst (v := 3) hx hb dL_isPassed_314 (by decide) ?_
                                    refine lv_rep0 (x := 3) (y := nI 3) rfl ?_
                                    refine lv_iadd hx hb dL_isPassed_315 ?_
                                    refine lv_rep0 (x := ((nI (6 * kk)) + (nI 3))) (y := nI ((6 * kk) + 3)) (nI_add _ _) ?_
                                    refine lv_dup2_11 hx hb dL_isPassed_316 rfl rfl ?_
                                    refine rAld hx hb fx hw 32 (hF.1 32 (by decide)) hF.2.1 (fun _ => rfl) ((6 * kk) + 3) rfl (by omega) (by decide) dL_isPassed_317 ?_
                                    refine lv_rep0 (x := (σ_137 32 ((6 * kk) + 3))) (y := (nI db)) ((ld_m eσ_137 (by omega)).trans ((ld_m eσ_123 (by omega)).trans ((congrFun ((ag_pass eσ_120) 32 (by decide)) (((6 * kk) + 3))).trans x7))) ?_
                                    refine lv_iconst (v := 1) hx hb dL_isPassed_318 (by decide) ?_
                                    refine lv_rep0 (x := 1) (y := nI 1) rfl ?_
                                    refine lv_isub hx hb dL_isPassed_319 ?_
                                    refine lv_rep0 (x := ((nI db) - (nI 1))) (y := nI (db - 1)) (pk_sub (by omega)) ?_
                                    refine rAst (x := (nI (db - 1))) hx hb fx hw 32 (hF.1 32 (by decide)) hF.2.1 (fun _ => rfl) ((6 * kk) + 3) rfl (by omega) (by decide) dL_isPassed_320 (fun H locs hw => ?_)
                                    obtain ⟨σ_151, eσ_151⟩ : ∃ w9, w9 = upA σ_137 32 (upd (σ_137 32) ((6 * kk) + 3) (nI (db - 1))) := ⟨_, rfl⟩
                                    rw [← eσ_151] at hw
                                    refine lv_iload hx hb dL_isPassed_321 (lv_at hl 1 rfl) ?_
                                    refine lv_iconst (v := 4) hx hb dL_isPassed_323 (by decide) ?_
                                    refine lv_icmp_ne (tgt := 331) hx hb dL_isPassed_324 (by decide) (fun c_152 => ?_) (fun c_152 => ?_)
                                    · skip
                                      exact absurd ((mv_l hA hj (show to9 = 0 by omega) hX (by assumption)).trans (if_neg (by omega))) c_152
                                    · skip
                                      refine lv_iconst (v := 1) hx hb dL_isPassed_327 (by decide) ?_
                                      refine lv_goto (tgt := 332) hx hb dL_isPassed_328 (by decide) ?_
                                      subst eσ_151
                                      subst eσ_137
                                      subst eσ_123
                                      subst eσ_120
                                      exact rRetZw hx hb hr hw (by decide) (by exact ⟨rfl, pass_p hA hGa hj hbo (by omega) (show to9 = 0 by omega) hX (by assumption) (by assumption) (by omega) rfl (fun c9 h9 => by rw [upA_n h9, upA_n h9, upA_n h9]) rfl⟩) hlocks dL_isPassed_332 (by omega) (by omega)
                              · skip
                                have c_125 : 0 < to9 := n0_lef (by omega) c_125
                                refine lv_aload_n hx hb dL_isPassed_236 rfl (lv_at hl 8 rfl) ?_
                                refine lv_iload hx hb dL_isPassed_237 (lv_at hl 4 rfl) ?_
                                refine lv_iconst (v := 4) hx hb dL_isPassed_239 (by decide) ?_
                                refine lv_rep0 (x := 4) (y := nI 4) rfl ?_
                                refine lv_iadd hx hb dL_isPassed_240 ?_
                                refine lv_rep0 (x := ((nI (6 * kk)) + (nI 4))) (y := nI ((6 * kk) + 4)) (nI_add _ _) ?_
                                refine lv_dup2_11 hx hb dL_isPassed_241 rfl rfl ?_
                                refine rAld hx hb fx hw 32 (hF.1 32 (by decide)) hF.2.1 (fun _ => rfl) ((6 * kk) + 4) rfl (by omega) (by decide) dL_isPassed_242 ?_
                                refine lv_rep0 (x := (σ_123 32 ((6 * kk) + 4))) (y := (σ 32 ((6 * kk) + 4))) ((ld_m eσ_123 (by omega)).trans (congrFun ((ag_pass eσ_120) 32 (by decide)) (((6 * kk) + 4)))) ?_
                                refine lv_aload_n hx hb dL_isPassed_243 rfl (lv_at hl 8 rfl) ?_
                                refine lv_iload hx hb dL_isPassed_244 (lv_at hl 4 rfl) ?_
                                refine lv_iconst (v := 3) hx hb dL_isPassed_246 (by decide) ?_
                                refine lv_rep0 (x := 3) (y := nI 3) rfl ?_
                                refine lv_iadd hx hb dL_isPassed_247 ?_
                                refine lv_rep0 (x := ((nI (6 * kk)) + (nI 3))) (y := nI ((6 * kk) + 3)) (nI_add _ _) ?_
                                refine rAld hx hb fx hw 32 (hF.1 32 (by decide)) hF.2.1 (fun _ => rfl) ((6 * kk) + 3) rfl (by omega) (by decide) dL_isPassed_248 ?_
                                refine lv_rep0 (x := (σ_123 32 ((6 * kk) + 3))) (y := (nI db)) ((ld_m eσ_123 (by omega)).trans ((congrFun ((ag_pass eσ_120) 32 (by decide)) (((6 * kk) + 3))).trans x7)) ?_
                                refine lv_if_ne (tgt := 259) hx hb dL_isPassed_249 (by decide) (fun c_153 => ?_) (fun c_153 => ?_)
                                · skip
                                  have c_153 : ¬ db = 0 := n0_net (by omega) c_153
                                  refine lv_iconst (v := 0) hx hb dL_isPassed_259 (by decide) ?_
                                  refine lv_ior hx hb dL_isPassed_260 ?_
                                  refine rAst (x := ((σ 32 ((6 * kk) + 4)) ||| 0)) hx hb fx hw 32 (hF.1 32 (by decide)) hF.2.1 (fun _ => rfl) ((6 * kk) + 4) rfl (by omega) (by decide) dL_isPassed_261 (fun H locs hw => ?_)
                                  obtain ⟨σ_154, eσ_154⟩ : ∃ w9, w9 = upA σ_123 32 (upd (σ_123 32) ((6 * kk) + 4) ((σ 32 ((6 * kk) + 4)) ||| 0)) := ⟨_, rfl⟩
                                  rw [← eσ_154] at hw
                                  refine lv_iload hx hb dL_isPassed_262 (lv_at hl 0 rfl) ?_
                                  refine lv_if_ne (tgt := 271) hx hb dL_isPassed_264 (by decide) (fun c_155 => ?_) (fun c_155 => ?_)
                                  · skip
                                    exact absurd (w_f (z := z) (by omega) x4.1 (by rw [hs_ld hA x4.2 (show to9 < g by omega), decide_eq_false (by assumption)]; rfl) (by omega)).2 c_155
                                  · skip
                                    refine lv_iconst (v := 1) hx hb dL_isPassed_267 (by decide) ?_
                                    refine lv_goto (tgt := 272) hx hb dL_isPassed_268 (by decide) ?_
                                    subst eσ_154
                                    subst eσ_123
                                    subst eσ_120
                                    exact rRetZw hx hb hr hw (by decide) (by exact ⟨rfl, pass_f hA hGa hj hbo (by omega) (by omega) hX (by assumption) (by omega) (by first | exact (if_pos (by omega)).symm | exact (if_neg (by omega)).symm) (fun c9 h9 => by rw [upA_n h9, upA_n h9]) rfl⟩) hlocks dL_isPassed_272 (by omega) (by omega)
                                · skip
                                  have c_153 : db = 0 := n0_nef (by omega) c_153
                                  refine lv_iconst (v := 1) hx hb dL_isPassed_252 (by decide) ?_
                                  refine lv_iload hx hb dL_isPassed_253 (lv_at hl 11 rfl) ?_
                                  refine lv_ishl hx hb dL_isPassed_255 ?_
                                  refine lv_goto (tgt := 260) hx hb dL_isPassed_256 (by decide) ?_
                                  refine lv_ior hx hb dL_isPassed_260 ?_
                                  refine rAst (x := ((σ 32 ((6 * kk) + 4)) ||| ((1 : Int32) <<< ((nI to9) &&& 31)))) hx hb fx hw 32 (hF.1 32 (by decide)) hF.2.1 (fun _ => rfl) ((6 * kk) + 4) rfl (by omega) (by decide) dL_isPassed_261 (fun H locs hw => ?_)
                                  obtain ⟨σ_156, eσ_156⟩ : ∃ w9, w9 = upA σ_123 32 (upd (σ_123 32) ((6 * kk) + 4) ((σ 32 ((6 * kk) + 4)) ||| ((1 : Int32) <<< ((nI to9) &&& 31)))) := ⟨_, rfl⟩
                                  rw [← eσ_156] at hw
                                  refine lv_iload hx hb dL_isPassed_262 (lv_at hl 0 rfl) ?_
                                  refine lv_if_ne (tgt := 271) hx hb dL_isPassed_264 (by decide) (fun c_157 => ?_) (fun c_157 => ?_)
                                  · skip
                                    exact absurd (w_f (z := z) (by omega) x4.1 (by rw [hs_ld hA x4.2 (show to9 < g by omega), decide_eq_false (by assumption)]; rfl) (by omega)).2 c_157
                                  · skip
                                    refine lv_iconst (v := 1) hx hb dL_isPassed_267 (by decide) ?_
                                    refine lv_goto (tgt := 272) hx hb dL_isPassed_268 (by decide) ?_
                                    subst eσ_156
                                    subst eσ_123
                                    subst eσ_120
                                    exact rRetZw hx hb hr hw (by decide) (by exact ⟨rfl, pass_f hA hGa hj hbo (by omega) (by omega) hX (by assumption) (by omega) (by first | exact (if_pos (by omega)).symm | exact (if_neg (by omega)).symm) (fun c9 h9 => by rw [upA_n h9, upA_n h9]) rfl⟩) hlocks dL_isPassed_272 (by omega) (by omega)
                            · skip
                              exact absurd c_124 (by decide)
                          · skip
                            exact absurd c_122 (by decide)
                        · skip
                          exact absurd c_118 (by decide)
  · skip
    obtain ⟨ga, hga1, hga2⟩ := hGa kk (by omega)
    refine lv_iload hx hb dL_isPassed_0 (lv_at hl 4 rfl) ?_
    refine lv_aload_n hx hb dL_isPassed_2 rfl (lv_at hl 3 rfl) ?_
    refine lv_iconst (v := 2) hx hb dL_isPassed_3 (by decide) ?_
    refine lv_rep0 (x := 2) (y := nI 2) rfl ?_
    refine rAld hx hb fx hw 33 (hF.1 33 (by decide)) hF.2.1 (fun _ => rfl) 2 rfl (by omega) (by decide) dL_isPassed_4 ?_
    refine lv_rep0 (x := (σ 33 2)) (y := (nI n)) (pn hA).1 ?_
    refine lv_icmp_ge (tgt := 20) hx hb dL_isPassed_5 (by decide) (fun c_158 => ?_) (fun c_158 => ?_)
    · skip
      have c_158 : n ≤ kk := (nI_leI (by omega) (by omega)).mp c_158
      omega
    · skip
      have c_158 : ¬ n ≤ kk := fun h9 => c_158 ((nI_leI (by omega) (by omega)).mpr h9)
      refine lv_iload hx hb dL_isPassed_8 (lv_at hl 5 rfl) ?_
      refine lv_aload_n hx hb dL_isPassed_10 rfl (lv_at hl 3 rfl) ?_
      refine lv_iconst (v := 0) hx hb dL_isPassed_11 (by decide) ?_
      refine lv_rep0 (x := 0) (y := nI 0) rfl ?_
      refine rAld hx hb fx hw 33 (hF.1 33 (by decide)) hF.2.1 (fun _ => rfl) 0 rfl (by omega) (by decide) dL_isPassed_12 ?_
      refine lv_rep0 (x := (σ 33 0)) (y := (nI g)) (pg hA).1 ?_
      refine lv_icmp_ge (tgt := 20) hx hb dL_isPassed_13 (by decide) (fun c_159 => ?_) (fun c_159 => ?_)
      · skip
        have c_159 : g ≤ to9 := (nI_leI (by omega) (by omega)).mp c_159
        omega
      · skip
        have c_159 : ¬ g ≤ to9 := fun h9 => c_159 ((nI_leI (by omega) (by omega)).mpr h9)
        refine lv_iconst (v := 1) hx hb dL_isPassed_16 (by decide) ?_
        refine lv_goto (tgt := 21) hx hb dL_isPassed_17 (by decide) ?_
        refine lv_istore (lv' := [(6, .int 1), (0, .ref (gad G 0)), (1, .ref (gad G 31)), (2, .ref (gad G 32)), (3, .ref (gad G 33)), (4, .int (nI kk)), (5, .int (nI to9))]) hx hb dL_isPassed_21 hl (by decide) rfl (fun ls hl => ?_)
        refine lv_iload hx hb dL_isPassed_23 (lv_at hl 0 rfl) ?_
        refine lv_if_eq (tgt := 36) hx hb dL_isPassed_25 (by decide) (fun c_160 => ?_) (fun c_160 => ?_)
        · skip
          exact absurd c_160 (by decide)
        · skip
          refine lv_bipush (v := 6) hx hb dL_isPassed_28 (by decide) ?_
          refine lv_iload hx hb dL_isPassed_30 (lv_at hl 5 rfl) ?_
          refine lv_rep1 (x := 6) (y := nI 6) rfl ?_
          refine lv_imul hx hb dL_isPassed_32 ?_
          refine lv_rep0 (x := ((nI 6) * (nI kk))) (y := nI (6 * kk)) (pk_mul _ _) ?_
          refine lv_goto (tgt := 37) hx hb dL_isPassed_33 (by decide) ?_
          refine lv_istore (lv' := [(7, .int (nI (6 * kk))), (6, .int 1), (0, .ref (gad G 0)), (1, .ref (gad G 31)), (2, .ref (gad G 32)), (3, .ref (gad G 33)), (4, .int (nI kk)), (5, .int (nI to9))]) hx hb dL_isPassed_37 hl (by decide) rfl (fun ls hl => ?_)
          refine lv_iload hx hb dL_isPassed_39 (lv_at hl 1 rfl) ?_
          refine lv_if_eq (tgt := 53) hx hb dL_isPassed_41 (by decide) (fun c_161 => ?_) (fun c_161 => ?_)
          · skip
            exact absurd c_161 (by decide)
          · skip
            refine lv_aload_n hx hb dL_isPassed_44 rfl (lv_at hl 4 rfl) ?_
            refine lv_iload hx hb dL_isPassed_45 (lv_at hl 0 rfl) ?_
            refine lv_iconst (v := 1) hx hb dL_isPassed_47 (by decide) ?_
            refine lv_rep0 (x := 1) (y := nI 1) rfl ?_
            refine lv_iadd hx hb dL_isPassed_48 ?_
            refine lv_rep0 (x := ((nI (6 * kk)) + (nI 1))) (y := nI ((6 * kk) + 1)) (nI_add _ _) ?_
            refine rAld hx hb fx hw 32 (hF.1 32 (by decide)) hF.2.1 (fun _ => rfl) ((6 * kk) + 1) rfl (by omega) (by decide) dL_isPassed_49 ?_
            refine lv_rep0 (x := (σ 32 ((6 * kk) + 1))) (y := (nI ga)) hga2 ?_
            refine lv_goto (tgt := 54) hx hb dL_isPassed_50 (by decide) ?_
            refine lv_istore (lv' := [(8, .int (nI ga)), (7, .int (nI (6 * kk))), (6, .int 1), (0, .ref (gad G 0)), (1, .ref (gad G 31)), (2, .ref (gad G 32)), (3, .ref (gad G 33)), (4, .int (nI kk)), (5, .int (nI to9))]) hx hb dL_isPassed_54 hl (by decide) rfl (fun ls hl => ?_)
            refine lv_iload hx hb dL_isPassed_56 (lv_at hl 2 rfl) ?_
            refine lv_if_eq (tgt := 76) hx hb dL_isPassed_58 (by decide) (fun c_162 => ?_) (fun c_162 => ?_)
            · skip
              exact absurd c_162 (by decide)
            · skip
              refine lv_aload_n hx hb dL_isPassed_61 rfl (lv_at hl 4 rfl) ?_
              refine lv_iload hx hb dL_isPassed_62 (lv_at hl 0 rfl) ?_
              refine lv_iload hx hb dL_isPassed_64 (lv_at hl 8 rfl) ?_
              refine rCallM (As := [.ref (gad G 31), .int (nI ga), .int (nI to9)]) (rest := []) ⟨hx, hb, hml, hown, hts⟩ fx hw (kL_way l hlt G hG hF σ ga to9 (by omega) (by omega)) (va_cwS 3 hts gL_isPassed_L_way rfl rfl rfl (by decide +kernel) ⟨Nat.le_of_ble_eq_true rfl, Nat.le_of_ble_eq_true rfl⟩) rfl hl.1 rfl (Nat.le_of_ble_eq_true rfl) dL_isPassed_66 ⟨Nat.le_trans (show _ ≤ 3 by omega) (Nat.le_of_ble_eq_true rfl), Nat.le_trans (show _ ≤ 20 by omega) (Nat.le_of_ble_eq_true rfl)⟩ (fun r_163 σ_164 H locs p_165 hw => ?_)
              obtain ⟨er_163, eσ_164⟩ := p_165
              have er_163 := er_163.symm; subst er_163
              have eσ_164 := eσ_164.symm; subst eσ_164
              refine lv_if_le (tgt := 76) hx hb dL_isPassed_69 (by decide) (fun c_166 => ?_) (fun c_166 => ?_)
              · skip
                refine lv_iconst (v := 0) hx hb dL_isPassed_76 (by decide) ?_
                refine lv_istore (lv' := [(9, .int 0), (8, .int (nI ga)), (7, .int (nI (6 * kk))), (6, .int 1), (0, .ref (gad G 0)), (1, .ref (gad G 31)), (2, .ref (gad G 32)), (3, .ref (gad G 33)), (4, .int (nI kk)), (5, .int (nI to9))]) hx hb dL_isPassed_77 hl (by decide) rfl (fun ls hl => ?_)
                refine lv_iload hx hb dL_isPassed_79 (lv_at hl 3 rfl) ?_
                refine lv_if_eq (tgt := 129) hx hb dL_isPassed_81 (by decide) (fun c_167 => ?_) (fun c_167 => ?_)
                · skip
                  exact absurd c_167 (by decide)
                · skip
                  refine lv_aload_n hx hb dL_isPassed_84 rfl (lv_at hl 7 rfl) ?_
                  refine lv_iconst (v := 3) hx hb dL_isPassed_85 (by decide) ?_
                  refine lv_rep0 (x := 3) (y := nI 3) rfl ?_
                  refine rAld hx hb fx hw 33 (hF.1 33 (by decide)) hF.2.1 (fun _ => rfl) 3 rfl (by omega) (by decide) dL_isPassed_86 ?_
                  refine lv_rep0 (x := (σ 33 3)) (y := 0) ((pon hA).trans (by rw [hbo]; rfl)) ?_
                  refine lv_iconst (v := 1) hx hb dL_isPassed_87 (by decide) ?_
                  refine lv_icmp_ne (tgt := 129) hx hb dL_isPassed_88 (by decide) (fun c_168 => ?_) (fun c_168 => ?_)
                  · skip
                    refine lv_iconst (v := 0) hx hb dL_isPassed_129 (by decide) ?_
                    refine lv_istore (lv' := [(10, .int 0), (9, .int 0), (8, .int (nI ga)), (7, .int (nI (6 * kk))), (6, .int 1), (0, .ref (gad G 0)), (1, .ref (gad G 31)), (2, .ref (gad G 32)), (3, .ref (gad G 33)), (4, .int (nI kk)), (5, .int (nI to9))]) hx hb dL_isPassed_130 hl (by decide) rfl (fun ls hl => ?_)
                    refine lv_aload_n hx hb dL_isPassed_132 rfl (lv_at hl 5 rfl) ?_
                    refine lv_iconst (v := 4) hx hb dL_isPassed_133 (by decide) ?_
                    refine lv_iload hx hb dL_isPassed_134 (lv_at hl 9 rfl) ?_
                    refine lv_iload hx hb dL_isPassed_136 (lv_at hl 10 rfl) ?_
                    refine lv_iconst (v := 0) hx hb dL_isPassed_138 (by decide) ?_
                    refine rCallLS (As := [.ref (gad G 0), .int 4, .int (nI kk), .int (nI to9), .int 0]) (rest := []) ⟨hx, hb, hml, hown, hts⟩ fx hw (d4_t2 l hlt G hG hF σ (pcv hA) ((nI kk)) ((nI to9)) 0 (by rw [inB_y (show kk < n by omega) (by omega), inB_y (show to9 < g by omega) (by omega)]; rfl) (by rw [ix_nI (by omega), ix_nI (by omega)]; exact cp_no hA (ga := ga) (fun h9 => absurd (hbo.symm.trans h9) (by decide)) (by omega) (by first | exact Or.inl hbo | exact Or.inr (Or.inl (by assumption)) | exact Or.inr (Or.inr (Or.inl ⟨hbo, hst9.1, hst9.2, by assumption⟩)) | exact Or.inr (Or.inr (Or.inr ⟨hbo, by assumption, by assumption⟩))))) (vx_cwSW 5 hts gL_isPassed_L_does rfl rfl rfl (by decide +kernel) ⟨Nat.le_of_ble_eq_true rfl, Nat.le_of_ble_eq_true rfl⟩) rfl hl.1 rfl (Nat.le_of_ble_eq_true rfl) dL_isPassed_139 ⟨Nat.le_trans (show _ ≤ 3 by omega) (Nat.le_of_ble_eq_true rfl), Nat.le_trans (show _ ≤ 20 by omega) (Nat.le_of_ble_eq_true rfl)⟩ (fun r_169 σ_170 H locs p_171 hw => ?_)
                    obtain ⟨er_169, eσ_170⟩ := p_171
                    have er_169 := er_169.symm; subst er_169
                    have eσ_170 := eσ_170.symm; subst eσ_170
                    refine lv_istore (lv' := [(11, .int (-10)), (10, .int 0), (9, .int 0), (8, .int (nI ga)), (7, .int (nI (6 * kk))), (6, .int 1), (0, .ref (gad G 0)), (1, .ref (gad G 31)), (2, .ref (gad G 32)), (3, .ref (gad G 33)), (4, .int (nI kk)), (5, .int (nI to9))]) hx hb dL_isPassed_142 hl (by decide) rfl (fun ls hl => ?_)
                    refine lv_iload hx hb dL_isPassed_144 (lv_at hl 1 rfl) ?_
                    refine lv_if_ne (tgt := 172) hx hb dL_isPassed_146 (by decide) (fun c_172 => ?_) (fun c_172 => ?_)
                    · skip
                      exact absurd c_172 (by decide)
                    · skip
                      refine lv_iload hx hb dL_isPassed_149 (lv_at hl 0 rfl) ?_
                      refine lv_iload hx hb dL_isPassed_151 (lv_at hl 5 rfl) ?_
                      refine lv_if_eq (tgt := 161) hx hb dL_isPassed_153 (by decide) (fun c_173 => ?_) (fun c_173 => ?_)
                      · skip
                        exact absurd c_173 (by decide)
                      · skip
                        refine lv_bipush (v := (-10)) hx hb dL_isPassed_156 (by decide) ?_
                        refine lv_goto (tgt := 163) hx hb dL_isPassed_158 (by decide) ?_
                        refine lv_icmp_ne (tgt := 170) hx hb dL_isPassed_163 (by decide) (fun c_174 => ?_) (fun c_174 => ?_)
                        · skip
                          exact absurd c_174 (by decide)
                        · skip
                          refine lv_iconst (v := 1) hx hb dL_isPassed_166 (by decide) ?_
                          refine lv_goto (tgt := 171) hx hb dL_isPassed_167 (by decide) ?_
                          exact rRetZw hx hb hr hw (by decide) (by exact ⟨rfl, po_same hA hGa⟩) hlocks dL_isPassed_171 (by omega) (by omega)
                  · skip
                    exact absurd c_168 (by decide)
              · skip
                refine lv_iconst (v := 1) hx hb dL_isPassed_72 (by decide) ?_
                refine lv_goto (tgt := 77) hx hb dL_isPassed_73 (by decide) ?_
                refine lv_istore (lv' := [(9, .int 1), (8, .int (nI ga)), (7, .int (nI (6 * kk))), (6, .int 1), (0, .ref (gad G 0)), (1, .ref (gad G 31)), (2, .ref (gad G 32)), (3, .ref (gad G 33)), (4, .int (nI kk)), (5, .int (nI to9))]) hx hb dL_isPassed_77 hl (by decide) rfl (fun ls hl => ?_)
                refine lv_iload hx hb dL_isPassed_79 (lv_at hl 3 rfl) ?_
                refine lv_if_eq (tgt := 129) hx hb dL_isPassed_81 (by decide) (fun c_175 => ?_) (fun c_175 => ?_)
                · skip
                  exact absurd c_175 (by decide)
                · skip
                  refine lv_aload_n hx hb dL_isPassed_84 rfl (lv_at hl 7 rfl) ?_
                  refine lv_iconst (v := 3) hx hb dL_isPassed_85 (by decide) ?_
                  refine lv_rep0 (x := 3) (y := nI 3) rfl ?_
                  refine rAld hx hb fx hw 33 (hF.1 33 (by decide)) hF.2.1 (fun _ => rfl) 3 rfl (by omega) (by decide) dL_isPassed_86 ?_
                  refine lv_rep0 (x := (σ 33 3)) (y := 0) ((pon hA).trans (by rw [hbo]; rfl)) ?_
                  refine lv_iconst (v := 1) hx hb dL_isPassed_87 (by decide) ?_
                  refine lv_icmp_ne (tgt := 129) hx hb dL_isPassed_88 (by decide) (fun c_176 => ?_) (fun c_176 => ?_)
                  · skip
                    refine lv_iconst (v := 0) hx hb dL_isPassed_129 (by decide) ?_
                    refine lv_istore (lv' := [(10, .int 0), (9, .int 1), (8, .int (nI ga)), (7, .int (nI (6 * kk))), (6, .int 1), (0, .ref (gad G 0)), (1, .ref (gad G 31)), (2, .ref (gad G 32)), (3, .ref (gad G 33)), (4, .int (nI kk)), (5, .int (nI to9))]) hx hb dL_isPassed_130 hl (by decide) rfl (fun ls hl => ?_)
                    refine lv_aload_n hx hb dL_isPassed_132 rfl (lv_at hl 5 rfl) ?_
                    refine lv_iconst (v := 4) hx hb dL_isPassed_133 (by decide) ?_
                    refine lv_iload hx hb dL_isPassed_134 (lv_at hl 9 rfl) ?_
                    refine lv_iload hx hb dL_isPassed_136 (lv_at hl 10 rfl) ?_
                    refine lv_iconst (v := 0) hx hb dL_isPassed_138 (by decide) ?_
                    refine rCallLS (As := [.ref (gad G 0), .int 4, .int (nI kk), .int (nI to9), .int 0]) (rest := []) ⟨hx, hb, hml, hown, hts⟩ fx hw (d4_t2 l hlt G hG hF σ (pcv hA) ((nI kk)) ((nI to9)) 0 (by rw [inB_y (show kk < n by omega) (by omega), inB_y (show to9 < g by omega) (by omega)]; rfl) (by rw [ix_nI (by omega), ix_nI (by omega)]; exact cp_no hA (ga := ga) (fun h9 => absurd (hbo.symm.trans h9) (by decide)) (by omega) (by first | exact Or.inl hbo | exact Or.inr (Or.inl (by assumption)) | exact Or.inr (Or.inr (Or.inl ⟨hbo, hst9.1, hst9.2, by assumption⟩)) | exact Or.inr (Or.inr (Or.inr ⟨hbo, by assumption, by assumption⟩))))) (vx_cwSW 5 hts gL_isPassed_L_does rfl rfl rfl (by decide +kernel) ⟨Nat.le_of_ble_eq_true rfl, Nat.le_of_ble_eq_true rfl⟩) rfl hl.1 rfl (Nat.le_of_ble_eq_true rfl) dL_isPassed_139 ⟨Nat.le_trans (show _ ≤ 3 by omega) (Nat.le_of_ble_eq_true rfl), Nat.le_trans (show _ ≤ 20 by omega) (Nat.le_of_ble_eq_true rfl)⟩ (fun r_177 σ_178 H locs p_179 hw => ?_)
                    obtain ⟨er_177, eσ_178⟩ := p_179
                    have er_177 := er_177.symm; subst er_177
                    have eσ_178 := eσ_178.symm; subst eσ_178
                    refine lv_istore (lv' := [(11, .int (-10)), (10, .int 0), (9, .int 1), (8, .int (nI ga)), (7, .int (nI (6 * kk))), (6, .int 1), (0, .ref (gad G 0)), (1, .ref (gad G 31)), (2, .ref (gad G 32)), (3, .ref (gad G 33)), (4, .int (nI kk)), (5, .int (nI to9))]) hx hb dL_isPassed_142 hl (by decide) rfl (fun ls hl => ?_)
                    refine lv_iload hx hb dL_isPassed_144 (lv_at hl 1 rfl) ?_
                    refine lv_if_ne (tgt := 172) hx hb dL_isPassed_146 (by decide) (fun c_180 => ?_) (fun c_180 => ?_)
                    · skip
                      exact absurd c_180 (by decide)
                    · skip
                      refine lv_iload hx hb dL_isPassed_149 (lv_at hl 0 rfl) ?_
                      refine lv_iload hx hb dL_isPassed_151 (lv_at hl 5 rfl) ?_
                      refine lv_if_eq (tgt := 161) hx hb dL_isPassed_153 (by decide) (fun c_181 => ?_) (fun c_181 => ?_)
                      · skip
                        exact absurd c_181 (by decide)
                      · skip
                        refine lv_bipush (v := (-10)) hx hb dL_isPassed_156 (by decide) ?_
                        refine lv_goto (tgt := 163) hx hb dL_isPassed_158 (by decide) ?_
                        refine lv_icmp_ne (tgt := 170) hx hb dL_isPassed_163 (by decide) (fun c_182 => ?_) (fun c_182 => ?_)
                        · skip
                          exact absurd c_182 (by decide)
                        · skip
                          refine lv_iconst (v := 1) hx hb dL_isPassed_166 (by decide) ?_
                          refine lv_goto (tgt := 171) hx hb dL_isPassed_167 (by decide) ?_
                          exact rRetZw hx hb hr hw (by decide) (by exact ⟨rfl, po_same hA hGa⟩) hlocks dL_isPassed_171 (by omega) (by omega)
                  · skip
                    exact absurd c_176 (by decide)
