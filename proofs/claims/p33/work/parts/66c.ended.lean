/-! isEnded -/
theorem fl_step {T : St} {f f' v w : Nat → Int32} {i : Nat} {x y : Int32} (hx : x = v i) (hy : y = w i) : upA (upA (upA (upA T 34 (flA f v i)) 35 (flA f' w i)) 34 (upd (upA (upA T 34 (flA f v i)) 35 (flA f' w i) 34) i x)) 35 (upd (upA (upA (upA T 34 (flA f v i)) 35 (flA f' w i)) 34 (upd (upA (upA T 34 (flA f v i)) 35 (flA f' w i) 34) i x) 35) i y) = upA (upA T 34 (flA f v (i + 1))) 35 (flA f' w (i + 1)) := by
  have e1 : upA (upA T 34 (flA f v i)) 35 (flA f' w i) 34 = flA f v i := rfl
  have e2 : upA (upA (upA T 34 (flA f v i)) 35 (flA f' w i)) 34 (upd (upA (upA T 34 (flA f v i)) 35 (flA f' w i) 34) i x) 35 = flA f' w i := rfl
  rw [e2, e1, flA_s hx, flA_s hy]
  funext c
  unfold upA
  by_cases c1 : c = 35
  · simp [c1]
  · by_cases c2 : c = 34 <;> simp [c1, c2]
theorem fl_first {T : St} {v w : Nat → Int32} : T = upA (upA T 34 (flA (T 34) v 0)) 35 (flA (T 35) w 0) := by
  rw [flA_0, flA_0, upA_self, upA_self]

def rmL_isEnded : Room := ({ frames := 9, cells := 6, slots := 60, locals := 150 } : Room)
set_option maxHeartbeats 4000000 in
set_option maxRecDepth 100000 in
theorem isEnded_rest (l : Launch) (hlt : l.stackTraces = false) (G0 G : Gx) (hG : gOk G) (hF : Full G) (h34 : 34 ∈ gl G) (h35 : 35 ∈ gl G) (hback : ∀ (σ' : St) (H' : Heap), va_P (gD G) vwCl (wl G σ') H' → va_P (gD G0) vwCl (wl G0 σ') H') (hAq : gA G = gA G0) (σ : St) {g n e9 z d t j : Nat} {b : Bool} (hA : PAll σ g n e9 z d t b j) (hGa : PGat σ g) (hj : j < 100) {v3 : Int32} (hv3 : b = true → v3 = nI (wnA σ n n)) {p : Program} {e : Env} {s : State} {m : MethodId} {args : Array Value} {below : List Frame} {meth : Method} {c : Code} {H : Heap} {locs : List Loc} {ls : Array Slot} (hx : p.tables.exec = Jvm.exec) (hb : c.code = cL_isEnded) (hr : meth.sig.returnType = some .boolean) (hml : c.maxLocals = 11) (hts : ∀ w ∈ wsL_isEnded, w.before args s = true) (hown : s.vm.findClass RL = some m.cls) (hlocks : meth.locks = false) (fx : Fx G s) (hw : Wd G s σ H locs) (hl : lv_has ls 11 [(0, .ref (gad G 0)), (1, .ref (gad G 32)), (2, .ref (gad G 33)), (3, .int v3), (4, .ref (gad G 34)), (5, .ref (gad G 35))]) : W p l e rmL_isEnded s m args below meth c H locs (0 + 1 + 1) (0 + 6 + 6) (MQ below (va_Qi (fun r σ' => r = 1 ∧ PIn σ' (j + 1)) (BW G0) (gA G0)) args s 6 60 (gA G0)) (F0 m 54 ls []) := by
  have hg5 := (pg hA).2
  have hn6 := (pn hA).2
  have he8 := (pe hA).2
  have hd3 := (pdr hA).2.2
  have hzb := pz hA
  have hn0 : b = true → 0 < n := fun h9 => pn0 hA h9
  rcases Bool.eq_false_or_eq_true b with hbo | hbo
  · skip
    refine lv_iconst (v := 0) hx hb dL_isEnded_54 (by decide) ?_
    refine lv_istore (lv' := [(6, .int 0), (0, .ref (gad G 0)), (1, .ref (gad G 32)), (2, .ref (gad G 33)), (3, .int v3), (4, .ref (gad G 34)), (5, .ref (gad G 35))]) hx hb dL_isEnded_55 hl (by decide) rfl (fun ls hl => ?_)
    have lab_57 : ∀ (n9 : Nat), ∀ (i : Nat), n - i < n9 → i ≤ n → ∀ (H : Heap) (locs : List Loc) (ls : Array Slot), Wd G s ((upA (upA σ 34 (flA (σ 34) (fun x => nI (rkA σ n x)) i)) 35 (flA (σ 35) (fun x => nI (ptN σ e9 x)) i))) H locs → lv_has ls 11 [(0, .ref (gad G 0)), (1, .ref (gad G 32)), (2, .ref (gad G 33)), (3, .int v3), (4, .ref (gad G 34)), (5, .ref (gad G 35)), (6, .int (nI i))] → W p l e rmL_isEnded s m args below meth c H locs (2) (12) (MQ below (va_Qi (fun r σ' => r = 1 ∧ PIn σ' (j + 1)) (BW G0) (gA G0)) args s 6 60 (gA G0)) (F0 m 57 ls []) := by
      intro n9
      induction n9 with
      | zero => intro i hn9; exact absurd hn9 (Nat.not_lt_zero _)
      | succ n9 ih57 =>
        intro i hn9 h57_0 H locs ls hw hl
        obtain ⟨σ_1, eσ_1⟩ : ∃ w9, w9 = (upA (upA σ 34 (flA (σ 34) (fun x => nI (rkA σ n x)) i)) 35 (flA (σ 35) (fun x => nI (ptN σ e9 x)) i)) := ⟨_, rfl⟩
        rw [← eσ_1] at hw
        have hok : ∀ c, c < 34 → σ_1 c = σ c := fun c hc => by rw [eσ_1, upA_n (by omega), upA_n (by omega)]
        refine lv_iload hx hb dL_isEnded_57 (lv_at hl 6 rfl) ?_
        refine lv_aload_n hx hb dL_isEnded_59 rfl (lv_at hl 2 rfl) ?_
        refine lv_iconst (v := 2) hx hb dL_isEnded_60 (by decide) ?_
        refine lv_rep0 (x := 2) (y := nI 2) rfl ?_
        refine rAld hx hb fx hw 33 (hF.1 33 (by decide)) hF.2.1 (fun _ => rfl) 2 rfl (by omega) (by decide) dL_isEnded_61 ?_
        refine lv_rep0 (x := (σ_1 33 2)) (y := (nI n)) ((congrFun (hok 33 (by decide)) 2).trans (pn hA).1) ?_
        refine lv_icmp_ge (tgt := 104) hx hb dL_isEnded_62 (by decide) (fun c_2 => ?_) (fun c_2 => ?_)
        · skip
          have c_2 : n ≤ i := (nI_leI (by omega) (by omega)).mp c_2
          have h34v : ∀ x, x < n → σ_1 34 x = nI (rkA σ n x) := fun x hx9 => by rw [eσ_1, upA_n (by decide), upA_s]; exact flA_v (by omega)
          have h35v : ∀ x, x < n → σ_1 35 x = nI (ptN σ e9 x) := fun x hx9 => by rw [eσ_1, upA_s]; exact flA_v (by omega)
          refine lv_aload_n hx hb dL_isEnded_104 rfl (lv_at hl 0 rfl) ?_
          refine lv_bipush (v := 8) hx hb dL_isEnded_105 (by decide) ?_
          refine lv_iconst (v := 0) hx hb dL_isEnded_107 (by decide) ?_
          refine lv_iconst (v := 0) hx hb dL_isEnded_108 (by decide) ?_
          refine lv_iconst (v := 0) hx hb dL_isEnded_109 (by decide) ?_
          refine rCallLS (As := [.ref (gad G 0), .int 8, .int 0, .int 0, .int 0]) (rest := []) ⟨hx, hb, hml, hown, hts⟩ fx hw (d8_ok l hlt G hG hF σ_1 (pcv (PAll_34 hok hA)) 0 0 0 hn0 hbo) (vx_cwSW 5 hts gL_isEnded_L_does rfl rfl rfl (by decide +kernel) ⟨Nat.le_of_ble_eq_true rfl, Nat.le_of_ble_eq_true rfl⟩) rfl hl.1 rfl (Nat.le_of_ble_eq_true rfl) dL_isEnded_110 ⟨Nat.le_trans (show _ ≤ 6 by omega) (Nat.le_of_ble_eq_true rfl), Nat.le_trans (show _ ≤ 60 by omega) (Nat.le_of_ble_eq_true rfl)⟩ (fun r_3 σ_4 H locs p_5 hw => ?_)
          obtain ⟨er_3, eσ_4⟩ := p_5
          have er_3 := er_3.symm; subst er_3
          have hCe : CIv σ_4 g n false (e9 + 1) z := by rw [eσ_4]; exact CIv_en (PAll_34 hok hA) hbo
          refine lv_istore (lv' := [(6, .int (nI (wnA σ_1 n n))), (0, .ref (gad G 0)), (1, .ref (gad G 32)), (2, .ref (gad G 33)), (3, .int v3), (4, .ref (gad G 34)), (5, .ref (gad G 35))]) hx hb dL_isEnded_113 hl (by decide) rfl (fun ls hl => ?_)
          refine lv_aload_n hx hb dL_isEnded_115 rfl (lv_at hl 3 rfl) ?_
          refine lv_iconst (v := 3) hx hb dL_isEnded_116 (by decide) ?_
          refine lv_rep0 (x := 3) (y := nI 3) rfl ?_
          refine rAld hx hb fx hw 33 (hF.1 33 (by decide)) hF.2.1 (fun _ => rfl) 3 rfl (by omega) (by decide) dL_isEnded_117 ?_
          refine lv_rep0 (x := (σ_4 33 3)) (y := 1) ((congrFun ((ag_end eσ_4) 33 (by decide)) 3).trans ((congrFun (hok 33 (by decide)) 3).trans ((pon hA).trans (by rw [hbo]; rfl)))) ?_
          refine lv_if_ne (tgt := 134) hx hb dL_isEnded_118 (by decide) (fun c_6 => ?_) (fun c_6 => ?_)
          · skip
            refine lv_iload hx hb dL_isEnded_134 (lv_at hl 0 rfl) ?_
            refine lv_iload_n hx hb dL_isEnded_136 rfl (lv_at hl 4 rfl) ?_
            refine lv_icmp_ne (tgt := 144) hx hb dL_isEnded_137 (by decide) (fun c_7 => ?_) (fun c_7 => ?_)
            · skip
              exact absurd ((congrArg nI (wn_34 hok n)).trans (hv3 hbo).symm) c_7
            · skip
              refine lv_iconst (v := 1) hx hb dL_isEnded_140 (by decide) ?_
              refine lv_goto (tgt := 145) hx hb dL_isEnded_141 (by decide) ?_
              refine lv_istore (lv' := [(7, .int 1), (6, .int (nI (wnA σ_1 n n))), (0, .ref (gad G 0)), (1, .ref (gad G 32)), (2, .ref (gad G 33)), (3, .int v3), (4, .ref (gad G 34)), (5, .ref (gad G 35))]) hx hb dL_isEnded_145 hl (by decide) rfl (fun ls hl => ?_)
              refine lv_iconst (v := 0) hx hb dL_isEnded_147 (by decide) ?_
              refine lv_istore (lv' := [(8, .int 0), (7, .int 1), (6, .int (nI (wnA σ_1 n n))), (0, .ref (gad G 0)), (1, .ref (gad G 32)), (2, .ref (gad G 33)), (3, .int v3), (4, .ref (gad G 34)), (5, .ref (gad G 35))]) hx hb dL_isEnded_148 hl (by decide) rfl (fun ls hl => ?_)
              have lab_150 : ∀ (n9 : Nat), ∀ (q : Nat), n - q < n9 → q ≤ n → ∀ (H : Heap) (locs : List Loc) (ls : Array Slot), Wd G s σ_4 H locs → lv_has ls 11 [(0, .ref (gad G 0)), (1, .ref (gad G 32)), (2, .ref (gad G 33)), (4, .ref (gad G 34)), (5, .ref (gad G 35)), (7, .int 1), (8, .int (nI q))] → W p l e rmL_isEnded s m args below meth c H locs (3) (18) (MQ below (va_Qi (fun r σ' => r = 1 ∧ PIn σ' (j + 1)) (BW G0) (gA G0)) args s 6 60 (gA G0)) (F0 m 150 ls []) := by
                intro n9
                induction n9 with
                | zero => intro q hn9; exact absurd hn9 (Nat.not_lt_zero _)
                | succ n9 ih150 =>
                  intro q hn9 h150_0 H locs ls hw hl
                  refine lv_iload hx hb dL_isEnded_150 (lv_at hl 6 rfl) ?_
                  refine lv_aload_n hx hb dL_isEnded_152 rfl (lv_at hl 2 rfl) ?_
                  refine lv_iconst (v := 2) hx hb dL_isEnded_153 (by decide) ?_
                  refine lv_rep0 (x := 2) (y := nI 2) rfl ?_
                  refine rAld hx hb fx hw 33 (hF.1 33 (by decide)) hF.2.1 (fun _ => rfl) 2 rfl (by omega) (by decide) dL_isEnded_154 ?_
                  refine lv_rep0 (x := (σ_4 33 2)) (y := (nI n)) ((congrFun ((ag_end eσ_4) 33 (by decide)) 2).trans ((congrFun (hok 33 (by decide)) 2).trans (pn hA).1)) ?_
                  refine lv_icmp_ge (tgt := 312) hx hb dL_isEnded_155 (by decide) (fun c_8 => ?_) (fun c_8 => ?_)
                  · skip
                    have c_8 : n ≤ q := (nI_leI (by omega) (by omega)).mp c_8
                    refine lv_aload_n hx hb dL_isEnded_312 rfl (lv_at hl 2 rfl) ?_
                    refine lv_iconst (v := 3) hx hb dL_isEnded_313 (by decide) ?_
                    refine lv_iconst (v := 0) hx hb dL_isEnded_314 (by decide) ?_
                    refine lv_rep1 (x := 3) (y := nI 3) rfl ?_
                    refine rAst (x := 0) hx hb fx hw 33 (hF.1 33 (by decide)) hF.2.1 (fun _ => rfl) 3 rfl (by omega) (by decide) dL_isEnded_315 (fun H locs hw => ?_)
                    obtain ⟨σ_9, eσ_9⟩ : ∃ w9, w9 = upA σ_4 33 (upd (σ_4 33) 3 0) := ⟨_, rfl⟩
                    rw [← eσ_9] at hw
                    refine lv_aload_n hx hb dL_isEnded_316 rfl (lv_at hl 2 rfl) ?_
                    refine lv_bipush (v := 6) hx hb dL_isEnded_317 (by decide) ?_
                    refine lv_rep0 (x := 6) (y := nI 6) rfl ?_
                    refine lv_dup2_11 hx hb dL_isEnded_319 rfl rfl ?_
                    refine rAld hx hb fx hw 33 (hF.1 33 (by decide)) hF.2.1 (fun _ => rfl) 6 rfl (by omega) (by decide) dL_isEnded_320 ?_
                    refine lv_rep0 (x := (σ_9 33 6)) (y := (nI e9)) ((ld_m eσ_9 (by decide)).trans ((congrFun ((ag_end eσ_4) 33 (by decide)) 6).trans ((congrFun (hok 33 (by decide)) 6).trans (pe hA).1))) ?_
                    refine lv_iconst (v := 1) hx hb dL_isEnded_321 (by decide) ?_
                    refine lv_rep0 (x := 1) (y := nI 1) rfl ?_
                    refine lv_iadd hx hb dL_isEnded_322 ?_
                    refine lv_rep0 (x := ((nI e9) + (nI 1))) (y := nI (e9 + 1)) (nI_add _ _) ?_
                    refine rAst (x := (nI (e9 + 1))) hx hb fx hw 33 (hF.1 33 (by decide)) hF.2.1 (fun _ => rfl) 6 rfl (by omega) (by decide) dL_isEnded_323 (fun H locs hw => ?_)
                    obtain ⟨σ_10, eσ_10⟩ : ∃ w9, w9 = upA σ_9 33 (upd (σ_9 33) 6 (nI (e9 + 1))) := ⟨_, rfl⟩
                    rw [← eσ_10] at hw
                    refine lv_iload hx hb dL_isEnded_324 (lv_at hl 5 rfl) ?_
                    refine lv_if_eq (tgt := 340) hx hb dL_isEnded_326 (by decide) (fun c_11 => ?_) (fun c_11 => ?_)
                    · skip
                      exact absurd c_11 (by decide)
                    · skip
                      refine lv_aload_n hx hb dL_isEnded_329 rfl (lv_at hl 0 rfl) ?_
                      refine rCallI (C := RX5) (As := []) (rest := []) ⟨hx, hb, hml, hown, hts⟩ fx hw (kX5_isOn l G hG hF σ_10 g n (e9 + 1) z false (show CIv σ_10 g n false (e9 + 1) z from by rw [eσ_10, eσ_9]; exact hCe)) (cwV 0 hts gL_isEnded_X5_isOn rfl rfl rfl (by decide +kernel) ⟨Nat.le_of_ble_eq_true rfl, Nat.le_of_ble_eq_true rfl⟩) (hF.1 0 (by decide)) rfl rfl rfl rfl hl.1 rfl (Nat.le_of_ble_eq_true rfl) dL_isEnded_330 ⟨Nat.le_trans (show _ ≤ 6 by omega) (Nat.le_of_ble_eq_true rfl), Nat.le_trans (show _ ≤ 60 by omega) (Nat.le_of_ble_eq_true rfl)⟩ (fun r_12 σ_13 H locs p_14 hw => ?_)
                      obtain ⟨er_12, eσ_13⟩ := p_14
                      have er_12 := er_12.symm; subst er_12
                      have eσ_13 := eσ_13.symm; subst eσ_13
                      refine lv_b_ne (tgt := 340) hx hb dL_isEnded_333 (by decide) (fun c_15 => ?_) (fun c_15 => ?_)
                      · skip
                        exact absurd c_15 (by decide)
                      · skip
                        refine lv_iconst (v := 1) hx hb dL_isEnded_336 (by decide) ?_
                        refine lv_goto (tgt := 341) hx hb dL_isEnded_337 (by decide) ?_
                        subst eσ_10
                        subst eσ_9
                        subst eσ_4
                        subst eσ_1
                        exact rRetB hx hb hr hw hback hAq (by decide) (by exact ⟨rfl, po_end (PAll_34 hok hA) (PGat_34 hok hGa) hbo (fun c9 q1 q2 => by rw [upA_n q1, upA_n q1]) (by rw [upA_s, upA_s, en_o (by decide) (by decide) (by decide) (by decide)])⟩) hlocks dL_isEnded_341 (by omega) (by omega)
                  · skip
                    have c_8 : ¬ n ≤ q := fun h9 => c_8 ((nI_leI (by omega) (by omega)).mpr h9)
                    refine lv_iload hx hb dL_isEnded_158 (lv_at hl 5 rfl) ?_
                    refine lv_if_eq (tgt := 312) hx hb dL_isEnded_160 (by decide) (fun c_16 => ?_) (fun c_16 => ?_)
                    · skip
                      exact absurd c_16 (by decide)
                    · skip
                      obtain ⟨hq1, hq2, hq3, hq4, hq5⟩ := pk_lp hA hbo (show q < 6 by omega)
                      have hrq9 := rkA_lt (σ := σ) (n := n) (k := q) (by omega)
                      have hwq9 := wtN_le (rkA σ n q)
                      have hpb9 := (fpt hA (show q < n by omega)).2.2
                      obtain ⟨pt9, hE1, hE2, hE3, hE4⟩ : ∃ pt9 : Nat, sumA (σ_4 29) (σ_4 27 3) q (e9 + 1) (e9 + 1) = nI pt9 ∧ pt9 ≤ 90 ∧ (0 < d → ptN σ e9 q ≤ pt9 ∧ pt9 ≤ ptN σ e9 q + 10) ∧ (d = 0 → pt9 = ptN σ e9 q + (if wrtB σ q = true then wtN (rkA σ n q) else 0)) := by rw [eσ_4]; have h9 := en_pt (PAll_34 hok hA) (pe8 hA hbo) (show q < n by omega); rw [pt_34 hok, wr_34 hok, rk_34 hok] at h9; exact ⟨_, h9⟩
                      refine lv_aload_n hx hb dL_isEnded_163 rfl (lv_at hl 1 rfl) ?_
                      refine lv_bipush (v := 6) hx hb dL_isEnded_164 (by decide) ?_
                      refine lv_iload hx hb dL_isEnded_166 (lv_at hl 6 rfl) ?_
                      refine lv_rep1 (x := 6) (y := nI 6) rfl ?_
                      refine lv_imul hx hb dL_isEnded_168 ?_
                      refine lv_rep0 (x := ((nI 6) * (nI q))) (y := nI (6 * q)) (pk_mul _ _) ?_
                      refine lv_iconst (v := 5) hx hb dL_isEnded_169 (by decide) ?_
                      refine lv_rep0 (x := 5) (y := nI 5) rfl ?_
                      refine lv_iadd hx hb dL_isEnded_170 ?_
                      refine lv_rep0 (x := ((nI (6 * q)) + (nI 5))) (y := nI ((6 * q) + 5)) (nI_add _ _) ?_
                      refine rAld hx hb fx hw 32 (hF.1 32 (by decide)) hF.2.1 (fun _ => rfl) ((6 * q) + 5) rfl (by omega) (by decide) dL_isEnded_171 ?_
                      refine lv_rep0 (x := (σ_4 32 ((6 * q) + 5))) (y := (bI (finB σ 4 q))) ((congrFun ((ag_end eσ_4) 32 (by decide)) (((6 * q) + 5))).trans ((congrFun (hok 32 (by decide)) (((6 * q) + 5))).trans (pfin hA hbo (by omega)))) ?_
                      refine lv_iconst (v := 1) hx hb dL_isEnded_172 (by decide) ?_
                      refine lv_icmp_eq (tgt := 197) hx hb dL_isEnded_173 (by decide) (fun c_17 => ?_) (fun c_17 => ?_)
                      · skip
                        have c_17 := bI_is1 c_17
                        refine lv_iconst (v := 1) hx hb dL_isEnded_197 (by decide) ?_
                        refine lv_goto (tgt := 202) hx hb dL_isEnded_198 (by decide) ?_
                        refine lv_istore (lv' := [(9, .int 1), (0, .ref (gad G 0)), (1, .ref (gad G 32)), (2, .ref (gad G 33)), (4, .ref (gad G 34)), (5, .ref (gad G 35)), (7, .int 1), (8, .int (nI q))]) hx hb dL_isEnded_202 hl (by decide) rfl (fun ls hl => ?_)
                        refine lv_iload hx hb dL_isEnded_204 (lv_at hl 0 rfl) ?_
                        refine lv_if_eq (tgt := 220) hx hb dL_isEnded_206 (by decide) (fun c_18 => ?_) (fun c_18 => ?_)
                        · skip
                          exact absurd c_18 (by decide)
                        · skip
                          refine lv_aload hx hb dL_isEnded_209 (lv_at hl 4 rfl) ?_
                          refine lv_iload hx hb dL_isEnded_211 (lv_at hl 7 rfl) ?_
                          refine rAld hx hb fx hw 34 h34 hF.2.1 (fun _ => rfl) q rfl (by omega) (by decide) dL_isEnded_213 ?_
                          refine lv_rep0 (x := (σ_4 34 q)) (y := (nI (rkA σ n q))) ((congrFun ((ag_end eσ_4) 34 (by decide)) q).trans (h34v q (by omega))) ?_
                          refine rCallM (As := [.int (nI (rkA σ n q))]) (rest := []) ⟨hx, hb, hml, hown, hts⟩ fx hw (kL_worth l hlt G hG hF σ_4 ((rkA σ n q)) (by omega)) (va_cwS 1 hts gL_isEnded_L_worth rfl rfl rfl (by decide +kernel) ⟨Nat.le_of_ble_eq_true rfl, Nat.le_of_ble_eq_true rfl⟩) rfl hl.1 rfl (Nat.le_of_ble_eq_true rfl) dL_isEnded_214 ⟨Nat.le_trans (show _ ≤ 6 by omega) (Nat.le_of_ble_eq_true rfl), Nat.le_trans (show _ ≤ 60 by omega) (Nat.le_of_ble_eq_true rfl)⟩ (fun r_19 σ_20 H locs p_21 hw => ?_)
                          obtain ⟨er_19, eσ_20⟩ := p_21
                          have er_19 := er_19.symm; subst er_19
                          have eσ_20 := eσ_20.symm; subst eσ_20
                          refine lv_goto (tgt := 221) hx hb dL_isEnded_217 (by decide) ?_
                          refine lv_istore (lv' := [(10, .int (nI (wtN (rkA σ n q)))), (9, .int 1), (0, .ref (gad G 0)), (1, .ref (gad G 32)), (2, .ref (gad G 33)), (4, .ref (gad G 34)), (5, .ref (gad G 35)), (7, .int 1), (8, .int (nI q))]) hx hb dL_isEnded_221 hl (by decide) rfl (fun ls hl => ?_)
                          refine lv_aload_n hx hb dL_isEnded_223 rfl (lv_at hl 2 rfl) ?_
                          refine lv_aload_n hx hb dL_isEnded_224 rfl (lv_at hl 4 rfl) ?_
                          refine lv_bipush (v := 6) hx hb dL_isEnded_225 (by decide) ?_
                          refine lv_rep0 (x := 6) (y := nI 6) rfl ?_
                          refine rAld hx hb fx hw 33 (hF.1 33 (by decide)) hF.2.1 (fun _ => rfl) 6 rfl (by omega) (by decide) dL_isEnded_227 ?_
                          refine lv_rep0 (x := (σ_4 33 6)) (y := (nI e9)) ((congrFun ((ag_end eσ_4) 33 (by decide)) 6).trans ((congrFun (hok 33 (by decide)) 6).trans (pe hA).1)) ?_
                          refine lv_iload hx hb dL_isEnded_228 (lv_at hl 8 rfl) ?_
                          refine rCallN (C := RX5) (As := [.int (nI e9), .int (nI q)]) (rest := []) ⟨hx, hb, hml, hown, hts⟩ fx hw (n_placeC l hlt G hG hF σ_4 hCe e9 q (by omega) (by omega)) (cwV 2 hts gL_isEnded_X5_place rfl rfl rfl (by decide +kernel) ⟨Nat.le_of_ble_eq_true rfl, Nat.le_of_ble_eq_true rfl⟩) (hF.1 0 (by decide)) rfl rfl rfl rfl hl.1 rfl (Nat.le_of_ble_eq_true rfl) dL_isEnded_230 ⟨Nat.le_trans (show _ ≤ 6 by omega) (Nat.le_of_ble_eq_true rfl), Nat.le_trans (show _ ≤ 60 by omega) (Nat.le_of_ble_eq_true rfl)⟩ (fun r_22 σ_23 H locs p_24 hw => ?_)
                          obtain ⟨er_22, eσ_23⟩ := p_24
                          have er_22 := er_22.symm; subst er_22
                          have eσ_23 := eσ_23.symm; subst eσ_23
                          refine lv_rep0 (x := (σ_4 28 (e9 * 6 + q))) (y := nI (rkA σ n q)) (by rw [eσ_4, en_pl (by omega), rk_34 hok]) ?_
                          refine lv_aload hx hb dL_isEnded_233 (lv_at hl 5 rfl) ?_
                          refine lv_iload hx hb dL_isEnded_235 (lv_at hl 8 rfl) ?_
                          refine rAld hx hb fx hw 34 h34 hF.2.1 (fun _ => rfl) q rfl (by omega) (by decide) dL_isEnded_237 ?_
                          refine lv_rep0 (x := (σ_4 34 q)) (y := (nI (rkA σ n q))) ((congrFun ((ag_end eσ_4) 34 (by decide)) q).trans (h34v q (by omega))) ?_
                          refine lv_icmp_ne (tgt := 303) hx hb dL_isEnded_238 (by decide) (fun c_25 => ?_) (fun c_25 => ?_)
                          · skip
                            exact absurd rfl c_25
                          · skip
                            refine lv_aload_n hx hb dL_isEnded_241 rfl (lv_at hl 4 rfl) ?_
                            refine lv_bipush (v := 7) hx hb dL_isEnded_242 (by decide) ?_
                            refine lv_rep0 (x := 7) (y := nI 7) rfl ?_
                            refine rAld hx hb fx hw 33 (hF.1 33 (by decide)) hF.2.1 (fun _ => rfl) 7 rfl (by omega) (by decide) dL_isEnded_244 ?_
                            refine lv_rep0 (x := (σ_4 33 7)) (y := (nI d)) ((congrFun ((ag_end eσ_4) 33 (by decide)) 7).trans ((congrFun (hok 33 (by decide)) 7).trans (pdr hA).1)) ?_
                            refine lv_if_le (tgt := 282) hx hb dL_isEnded_245 (by decide) (fun c_26 => ?_) (fun c_26 => ?_)
                            · skip
                              have c_26 : d = 0 := n0_let (by omega) c_26
                              have hE6 := hE4 c_26
                              refine lv_aload_n hx hb dL_isEnded_282 rfl (lv_at hl 2 rfl) ?_
                              refine lv_iload hx hb dL_isEnded_283 (lv_at hl 8 rfl) ?_
                              refine rCallN (C := RX5) (As := [.int (nI q)]) (rest := []) ⟨hx, hb, hml, hown, hts⟩ fx hw (n_pointsC l hlt G hG hF σ_4 hCe q (by omega)) (cwV 1 hts gL_isEnded_X5_points rfl rfl rfl (by decide +kernel) ⟨Nat.le_of_ble_eq_true rfl, Nat.le_of_ble_eq_true rfl⟩) (hF.1 0 (by decide)) rfl rfl rfl rfl hl.1 rfl (Nat.le_of_ble_eq_true rfl) dL_isEnded_285 ⟨Nat.le_trans (show _ ≤ 6 by omega) (Nat.le_of_ble_eq_true rfl), Nat.le_trans (show _ ≤ 60 by omega) (Nat.le_of_ble_eq_true rfl)⟩ (fun r_27 σ_28 H locs p_29 hw => ?_)
                              obtain ⟨er_27, eσ_28⟩ := p_29
                              have er_27 := er_27.symm; subst er_27
                              have eσ_28 := eσ_28.symm; subst eσ_28
                              refine lv_rep0 (x := (sumA (σ_4 29) (σ_4 27 3) q (e9 + 1) (e9 + 1))) (y := nI pt9) (by exact hE1) ?_
                              refine lv_aload hx hb dL_isEnded_288 (lv_at hl 6 rfl) ?_
                              refine lv_iload hx hb dL_isEnded_290 (lv_at hl 8 rfl) ?_
                              refine rAld hx hb fx hw 35 h35 hF.2.1 (fun _ => rfl) q rfl (by omega) (by decide) dL_isEnded_292 ?_
                              refine lv_rep0 (x := (σ_4 35 q)) (y := (nI (ptN σ e9 q))) ((congrFun ((ag_end eσ_4) 35 (by decide)) q).trans (h35v q (by omega))) ?_
                              refine lv_iload hx hb dL_isEnded_293 (lv_at hl 0 rfl) ?_
                              refine lv_iadd hx hb dL_isEnded_295 ?_
                              refine lv_rep0 (x := ((nI (ptN σ e9 q)) + (nI (wtN (rkA σ n q))))) (y := nI ((ptN σ e9 q) + (wtN (rkA σ n q)))) (nI_add _ _) ?_
                              refine lv_icmp_ne (tgt := 303) hx hb dL_isEnded_296 (by decide) (fun c_30 => ?_) (fun c_30 => ?_)
                              · skip
                                have c_30 : ¬ pt9 = ((ptN σ e9 q) + (wtN (rkA σ n q))) := fun h9 => c_30 ((nI_eq (by omega) (by omega)).mpr h9)
                                exact absurd (hE6.trans (by rw [hq5]; first | (rw [show finB σ 4 q = true from by assumption]; rfl) | (rw [show finB σ 4 q = false from by assumption, decide_eq_true (show dbN σ q < lpN σ q by omega)]; rfl) | (rw [show finB σ 4 q = false from by assumption, decide_eq_false (show ¬ dbN σ q < lpN σ q by omega)]; rfl))) c_30
                              · skip
                                have c_30 : pt9 = ((ptN σ e9 q) + (wtN (rkA σ n q))) := (nI_eq (by omega) (by omega)).mp c_30
                                refine lv_iconst (v := 1) hx hb dL_isEnded_299 (by decide) ?_
                                refine lv_goto (tgt := 304) hx hb dL_isEnded_300 (by decide) ?_
                                refine lv_istore (lv' := [(7, .int 1), (10, .int (nI (wtN (rkA σ n q)))), (9, .int 1), (0, .ref (gad G 0)), (1, .ref (gad G 32)), (2, .ref (gad G 33)), (4, .ref (gad G 34)), (5, .ref (gad G 35)), (8, .int (nI q))]) hx hb dL_isEnded_304 hl (by decide) rfl (fun ls hl => ?_)
                                refine lv_iinc (v := (nI (q + 1))) (lv' := [(8, .int (nI (q + 1))), (7, .int 1), (10, .int (nI (wtN (rkA σ n q)))), (9, .int 1), (0, .ref (gad G 0)), (1, .ref (gad G 32)), (2, .ref (gad G 33)), (4, .ref (gad G 34)), (5, .ref (gad G 35))]) hx hb dL_isEnded_306 hl (k := 8) rfl (nI_1 _) (by decide) rfl (fun ls hl => ?_)
                                refine lv_goto (tgt := 150) hx hb dL_isEnded_309 (by decide) ?_
                                exact W.widen (by omega) (by omega) (ih150 (q + 1) (by omega) (by omega) _ _ _ hw (lv_c (lv_at hl 4 rfl) (lv_c (lv_at hl 5 rfl) (lv_c (lv_at hl 6 rfl) (lv_c (lv_at hl 7 rfl) (lv_c (lv_at hl 8 rfl) (lv_c (lv_at hl 1 rfl) (lv_c (lv_at hl 0 rfl) (lv_c0 hl)))))))))
                            · skip
                              have c_26 : 0 < d := n0_lef (by omega) c_26
                              have hE5 := hE3 c_26
                              refine lv_aload_n hx hb dL_isEnded_248 rfl (lv_at hl 2 rfl) ?_
                              refine lv_iload hx hb dL_isEnded_249 (lv_at hl 8 rfl) ?_
                              refine rCallN (C := RX5) (As := [.int (nI q)]) (rest := []) ⟨hx, hb, hml, hown, hts⟩ fx hw (n_pointsC l hlt G hG hF σ_4 hCe q (by omega)) (cwV 1 hts gL_isEnded_X5_points rfl rfl rfl (by decide +kernel) ⟨Nat.le_of_ble_eq_true rfl, Nat.le_of_ble_eq_true rfl⟩) (hF.1 0 (by decide)) rfl rfl rfl rfl hl.1 rfl (Nat.le_of_ble_eq_true rfl) dL_isEnded_251 ⟨Nat.le_trans (show _ ≤ 6 by omega) (Nat.le_of_ble_eq_true rfl), Nat.le_trans (show _ ≤ 60 by omega) (Nat.le_of_ble_eq_true rfl)⟩ (fun r_31 σ_32 H locs p_33 hw => ?_)
                              obtain ⟨er_31, eσ_32⟩ := p_33
                              have er_31 := er_31.symm; subst er_31
                              have eσ_32 := eσ_32.symm; subst eσ_32
                              refine lv_rep0 (x := (sumA (σ_4 29) (σ_4 27 3) q (e9 + 1) (e9 + 1))) (y := nI pt9) (by exact hE1) ?_
                              refine lv_aload hx hb dL_isEnded_254 (lv_at hl 6 rfl) ?_
                              refine lv_iload hx hb dL_isEnded_256 (lv_at hl 8 rfl) ?_
                              refine rAld hx hb fx hw 35 h35 hF.2.1 (fun _ => rfl) q rfl (by omega) (by decide) dL_isEnded_258 ?_
                              refine lv_rep0 (x := (σ_4 35 q)) (y := (nI (ptN σ e9 q))) ((congrFun ((ag_end eσ_4) 35 (by decide)) q).trans (h35v q (by omega))) ?_
                              refine lv_icmp_lt (tgt := 303) hx hb dL_isEnded_259 (by decide) (fun c_34 => ?_) (fun c_34 => ?_)
                              · skip
                                have c_34 : pt9 < (ptN σ e9 q) := (nI_ltI (by omega) (by omega)).mp c_34
                                omega
                              · skip
                                have c_34 : ¬ pt9 < (ptN σ e9 q) := fun h9 => c_34 ((nI_ltI (by omega) (by omega)).mpr h9)
                                refine lv_aload_n hx hb dL_isEnded_262 rfl (lv_at hl 2 rfl) ?_
                                refine lv_iload hx hb dL_isEnded_263 (lv_at hl 8 rfl) ?_
                                refine rCallN (C := RX5) (As := [.int (nI q)]) (rest := []) ⟨hx, hb, hml, hown, hts⟩ fx hw (n_pointsC l hlt G hG hF σ_4 hCe q (by omega)) (cwV 1 hts gL_isEnded_X5_points rfl rfl rfl (by decide +kernel) ⟨Nat.le_of_ble_eq_true rfl, Nat.le_of_ble_eq_true rfl⟩) (hF.1 0 (by decide)) rfl rfl rfl rfl hl.1 rfl (Nat.le_of_ble_eq_true rfl) dL_isEnded_265 ⟨Nat.le_trans (show _ ≤ 6 by omega) (Nat.le_of_ble_eq_true rfl), Nat.le_trans (show _ ≤ 60 by omega) (Nat.le_of_ble_eq_true rfl)⟩ (fun r_35 σ_36 H locs p_37 hw => ?_)
                                obtain ⟨er_35, eσ_36⟩ := p_37
                                have er_35 := er_35.symm; subst er_35
                                have eσ_36 := eσ_36.symm; subst eσ_36
                                refine lv_rep0 (x := (sumA (σ_4 29) (σ_4 27 3) q (e9 + 1) (e9 + 1))) (y := nI pt9) (by exact hE1) ?_
                                refine lv_aload hx hb dL_isEnded_268 (lv_at hl 6 rfl) ?_
                                refine lv_iload hx hb dL_isEnded_270 (lv_at hl 8 rfl) ?_
                                refine rAld hx hb fx hw 35 h35 hF.2.1 (fun _ => rfl) q rfl (by omega) (by decide) dL_isEnded_272 ?_
                                refine lv_rep0 (x := (σ_4 35 q)) (y := (nI (ptN σ e9 q))) ((congrFun ((ag_end eσ_4) 35 (by decide)) q).trans (h35v q (by omega))) ?_
                                refine lv_bipush (v := 10) hx hb dL_isEnded_273 (by decide) ?_
                                refine lv_rep0 (x := 10) (y := nI 10) rfl ?_
                                refine lv_iadd hx hb dL_isEnded_275 ?_
                                refine lv_rep0 (x := ((nI (ptN σ e9 q)) + (nI 10))) (y := nI ((ptN σ e9 q) + 10)) (nI_add _ _) ?_
                                refine lv_icmp_gt (tgt := 303) hx hb dL_isEnded_276 (by decide) (fun c_38 => ?_) (fun c_38 => ?_)
                                · skip
                                  have c_38 : ((ptN σ e9 q) + 10) < pt9 := (nI_ltI (by omega) (by omega)).mp c_38
                                  omega
                                · skip
                                  have c_38 : ¬ ((ptN σ e9 q) + 10) < pt9 := fun h9 => c_38 ((nI_ltI (by omega) (by omega)).mpr h9)
                                  refine lv_goto (tgt := 299) hx hb dL_isEnded_279 (by decide) ?_
                                  refine lv_iconst (v := 1) hx hb dL_isEnded_299 (by decide) ?_
                                  refine lv_goto (tgt := 304) hx hb dL_isEnded_300 (by decide) ?_
                                  refine lv_istore (lv' := [(7, .int 1), (10, .int (nI (wtN (rkA σ n q)))), (9, .int 1), (0, .ref (gad G 0)), (1, .ref (gad G 32)), (2, .ref (gad G 33)), (4, .ref (gad G 34)), (5, .ref (gad G 35)), (8, .int (nI q))]) hx hb dL_isEnded_304 hl (by decide) rfl (fun ls hl => ?_)
                                  refine lv_iinc (v := (nI (q + 1))) (lv' := [(8, .int (nI (q + 1))), (7, .int 1), (10, .int (nI (wtN (rkA σ n q)))), (9, .int 1), (0, .ref (gad G 0)), (1, .ref (gad G 32)), (2, .ref (gad G 33)), (4, .ref (gad G 34)), (5, .ref (gad G 35))]) hx hb dL_isEnded_306 hl (k := 8) rfl (nI_1 _) (by decide) rfl (fun ls hl => ?_)
                                  refine lv_goto (tgt := 150) hx hb dL_isEnded_309 (by decide) ?_
                                  exact W.widen (by omega) (by omega) (ih150 (q + 1) (by omega) (by omega) _ _ _ hw (lv_c (lv_at hl 4 rfl) (lv_c (lv_at hl 5 rfl) (lv_c (lv_at hl 6 rfl) (lv_c (lv_at hl 7 rfl) (lv_c (lv_at hl 8 rfl) (lv_c (lv_at hl 1 rfl) (lv_c (lv_at hl 0 rfl) (lv_c0 hl)))))))))
                      · skip
                        have c_17 := bI_not1 c_17
                        refine lv_aload_n hx hb dL_isEnded_176 rfl (lv_at hl 1 rfl) ?_
                        refine lv_bipush (v := 6) hx hb dL_isEnded_177 (by decide) ?_
                        refine lv_iload hx hb dL_isEnded_179 (lv_at hl 6 rfl) ?_
                        refine lv_rep1 (x := 6) (y := nI 6) rfl ?_
                        refine lv_imul hx hb dL_isEnded_181 ?_
                        refine lv_rep0 (x := ((nI 6) * (nI q))) (y := nI (6 * q)) (pk_mul _ _) ?_
                        refine lv_iconst (v := 2) hx hb dL_isEnded_182 (by decide) ?_
                        refine lv_rep0 (x := 2) (y := nI 2) rfl ?_
                        refine lv_iadd hx hb dL_isEnded_183 ?_
                        refine lv_rep0 (x := ((nI (6 * q)) + (nI 2))) (y := nI ((6 * q) + 2)) (nI_add _ _) ?_
                        refine rAld hx hb fx hw 32 (hF.1 32 (by decide)) hF.2.1 (fun _ => rfl) ((6 * q) + 2) rfl (by omega) (by decide) dL_isEnded_184 ?_
                        refine lv_rep0 (x := (σ_4 32 ((6 * q) + 2))) (y := (nI (lpN σ q))) ((congrFun ((ag_end eσ_4) 32 (by decide)) (((6 * q) + 2))).trans ((congrFun (hok 32 (by decide)) (((6 * q) + 2))).trans hq1)) ?_
                        refine lv_aload_n hx hb dL_isEnded_185 rfl (lv_at hl 1 rfl) ?_
                        refine lv_bipush (v := 6) hx hb dL_isEnded_186 (by decide) ?_
                        refine lv_iload hx hb dL_isEnded_188 (lv_at hl 6 rfl) ?_
                        refine lv_rep1 (x := 6) (y := nI 6) rfl ?_
                        refine lv_imul hx hb dL_isEnded_190 ?_
                        refine lv_rep0 (x := ((nI 6) * (nI q))) (y := nI (6 * q)) (pk_mul _ _) ?_
                        refine lv_iconst (v := 3) hx hb dL_isEnded_191 (by decide) ?_
                        refine lv_rep0 (x := 3) (y := nI 3) rfl ?_
                        refine lv_iadd hx hb dL_isEnded_192 ?_
                        refine lv_rep0 (x := ((nI (6 * q)) + (nI 3))) (y := nI ((6 * q) + 3)) (nI_add _ _) ?_
                        refine rAld hx hb fx hw 32 (hF.1 32 (by decide)) hF.2.1 (fun _ => rfl) ((6 * q) + 3) rfl (by omega) (by decide) dL_isEnded_193 ?_
                        refine lv_rep0 (x := (σ_4 32 ((6 * q) + 3))) (y := (nI (dbN σ q))) ((congrFun ((ag_end eσ_4) 32 (by decide)) (((6 * q) + 3))).trans ((congrFun (hok 32 (by decide)) (((6 * q) + 3))).trans hq3)) ?_
                        refine lv_icmp_le (tgt := 201) hx hb dL_isEnded_194 (by decide) (fun c_39 => ?_) (fun c_39 => ?_)
                        · skip
                          have c_39 : (lpN σ q) ≤ (dbN σ q) := (nI_leI (by omega) (by omega)).mp c_39
                          refine lv_iconst (v := 0) hx hb dL_isEnded_201 (by decide) ?_
                          refine lv_istore (lv' := [(9, .int 0), (0, .ref (gad G 0)), (1, .ref (gad G 32)), (2, .ref (gad G 33)), (4, .ref (gad G 34)), (5, .ref (gad G 35)), (7, .int 1), (8, .int (nI q))]) hx hb dL_isEnded_202 hl (by decide) rfl (fun ls hl => ?_)
                          refine lv_iload hx hb dL_isEnded_204 (lv_at hl 0 rfl) ?_
                          refine lv_if_eq (tgt := 220) hx hb dL_isEnded_206 (by decide) (fun c_40 => ?_) (fun c_40 => ?_)
                          · skip
                            refine lv_iconst (v := 0) hx hb dL_isEnded_220 (by decide) ?_
                            refine lv_istore (lv' := [(10, .int 0), (9, .int 0), (0, .ref (gad G 0)), (1, .ref (gad G 32)), (2, .ref (gad G 33)), (4, .ref (gad G 34)), (5, .ref (gad G 35)), (7, .int 1), (8, .int (nI q))]) hx hb dL_isEnded_221 hl (by decide) rfl (fun ls hl => ?_)
                            refine lv_aload_n hx hb dL_isEnded_223 rfl (lv_at hl 2 rfl) ?_
                            refine lv_aload_n hx hb dL_isEnded_224 rfl (lv_at hl 4 rfl) ?_
                            refine lv_bipush (v := 6) hx hb dL_isEnded_225 (by decide) ?_
                            refine lv_rep0 (x := 6) (y := nI 6) rfl ?_
                            refine rAld hx hb fx hw 33 (hF.1 33 (by decide)) hF.2.1 (fun _ => rfl) 6 rfl (by omega) (by decide) dL_isEnded_227 ?_
                            refine lv_rep0 (x := (σ_4 33 6)) (y := (nI e9)) ((congrFun ((ag_end eσ_4) 33 (by decide)) 6).trans ((congrFun (hok 33 (by decide)) 6).trans (pe hA).1)) ?_
                            refine lv_iload hx hb dL_isEnded_228 (lv_at hl 8 rfl) ?_
                            refine rCallN (C := RX5) (As := [.int (nI e9), .int (nI q)]) (rest := []) ⟨hx, hb, hml, hown, hts⟩ fx hw (n_placeC l hlt G hG hF σ_4 hCe e9 q (by omega) (by omega)) (cwV 2 hts gL_isEnded_X5_place rfl rfl rfl (by decide +kernel) ⟨Nat.le_of_ble_eq_true rfl, Nat.le_of_ble_eq_true rfl⟩) (hF.1 0 (by decide)) rfl rfl rfl rfl hl.1 rfl (Nat.le_of_ble_eq_true rfl) dL_isEnded_230 ⟨Nat.le_trans (show _ ≤ 6 by omega) (Nat.le_of_ble_eq_true rfl), Nat.le_trans (show _ ≤ 60 by omega) (Nat.le_of_ble_eq_true rfl)⟩ (fun r_41 σ_42 H locs p_43 hw => ?_)
                            obtain ⟨er_41, eσ_42⟩ := p_43
                            have er_41 := er_41.symm; subst er_41
                            have eσ_42 := eσ_42.symm; subst eσ_42
                            refine lv_rep0 (x := (σ_4 28 (e9 * 6 + q))) (y := nI (rkA σ n q)) (by rw [eσ_4, en_pl (by omega), rk_34 hok]) ?_
                            refine lv_aload hx hb dL_isEnded_233 (lv_at hl 5 rfl) ?_
                            refine lv_iload hx hb dL_isEnded_235 (lv_at hl 8 rfl) ?_
                            refine rAld hx hb fx hw 34 h34 hF.2.1 (fun _ => rfl) q rfl (by omega) (by decide) dL_isEnded_237 ?_
                            refine lv_rep0 (x := (σ_4 34 q)) (y := (nI (rkA σ n q))) ((congrFun ((ag_end eσ_4) 34 (by decide)) q).trans (h34v q (by omega))) ?_
                            refine lv_icmp_ne (tgt := 303) hx hb dL_isEnded_238 (by decide) (fun c_44 => ?_) (fun c_44 => ?_)
                            · skip
                              exact absurd rfl c_44
                            · skip
                              refine lv_aload_n hx hb dL_isEnded_241 rfl (lv_at hl 4 rfl) ?_
                              refine lv_bipush (v := 7) hx hb dL_isEnded_242 (by decide) ?_
                              refine lv_rep0 (x := 7) (y := nI 7) rfl ?_
                              refine rAld hx hb fx hw 33 (hF.1 33 (by decide)) hF.2.1 (fun _ => rfl) 7 rfl (by omega) (by decide) dL_isEnded_244 ?_
                              refine lv_rep0 (x := (σ_4 33 7)) (y := (nI d)) ((congrFun ((ag_end eσ_4) 33 (by decide)) 7).trans ((congrFun (hok 33 (by decide)) 7).trans (pdr hA).1)) ?_
                              refine lv_if_le (tgt := 282) hx hb dL_isEnded_245 (by decide) (fun c_45 => ?_) (fun c_45 => ?_)
                              · skip
                                have c_45 : d = 0 := n0_let (by omega) c_45
                                have hE6 := hE4 c_45
                                refine lv_aload_n hx hb dL_isEnded_282 rfl (lv_at hl 2 rfl) ?_
                                refine lv_iload hx hb dL_isEnded_283 (lv_at hl 8 rfl) ?_
                                refine rCallN (C := RX5) (As := [.int (nI q)]) (rest := []) ⟨hx, hb, hml, hown, hts⟩ fx hw (n_pointsC l hlt G hG hF σ_4 hCe q (by omega)) (cwV 1 hts gL_isEnded_X5_points rfl rfl rfl (by decide +kernel) ⟨Nat.le_of_ble_eq_true rfl, Nat.le_of_ble_eq_true rfl⟩) (hF.1 0 (by decide)) rfl rfl rfl rfl hl.1 rfl (Nat.le_of_ble_eq_true rfl) dL_isEnded_285 ⟨Nat.le_trans (show _ ≤ 6 by omega) (Nat.le_of_ble_eq_true rfl), Nat.le_trans (show _ ≤ 60 by omega) (Nat.le_of_ble_eq_true rfl)⟩ (fun r_46 σ_47 H locs p_48 hw => ?_)
                                obtain ⟨er_46, eσ_47⟩ := p_48
                                have er_46 := er_46.symm; subst er_46
                                have eσ_47 := eσ_47.symm; subst eσ_47
                                refine lv_rep0 (x := (sumA (σ_4 29) (σ_4 27 3) q (e9 + 1) (e9 + 1))) (y := nI pt9) (by exact hE1) ?_
                                refine lv_aload hx hb dL_isEnded_288 (lv_at hl 6 rfl) ?_
                                refine lv_iload hx hb dL_isEnded_290 (lv_at hl 8 rfl) ?_
                                refine rAld hx hb fx hw 35 h35 hF.2.1 (fun _ => rfl) q rfl (by omega) (by decide) dL_isEnded_292 ?_
                                refine lv_rep0 (x := (σ_4 35 q)) (y := (nI (ptN σ e9 q))) ((congrFun ((ag_end eσ_4) 35 (by decide)) q).trans (h35v q (by omega))) ?_
                                refine lv_iload hx hb dL_isEnded_293 (lv_at hl 0 rfl) ?_
                                refine lv_rep0 (x := 0) (y := nI 0) rfl ?_
                                refine lv_iadd hx hb dL_isEnded_295 ?_
                                refine lv_rep0 (x := ((nI (ptN σ e9 q)) + (nI 0))) (y := nI ((ptN σ e9 q) + 0)) (nI_add _ _) ?_
                                refine lv_icmp_ne (tgt := 303) hx hb dL_isEnded_296 (by decide) (fun c_49 => ?_) (fun c_49 => ?_)
                                · skip
                                  have c_49 : ¬ pt9 = ((ptN σ e9 q) + 0) := fun h9 => c_49 ((nI_eq (by omega) (by omega)).mpr h9)
                                  exact absurd (hE6.trans (by rw [hq5]; first | (rw [show finB σ 4 q = true from by assumption]; rfl) | (rw [show finB σ 4 q = false from by assumption, decide_eq_true (show dbN σ q < lpN σ q by omega)]; rfl) | (rw [show finB σ 4 q = false from by assumption, decide_eq_false (show ¬ dbN σ q < lpN σ q by omega)]; rfl))) c_49
                                · skip
                                  have c_49 : pt9 = ((ptN σ e9 q) + 0) := (nI_eq (by omega) (by omega)).mp c_49
                                  refine lv_iconst (v := 1) hx hb dL_isEnded_299 (by decide) ?_
                                  refine lv_goto (tgt := 304) hx hb dL_isEnded_300 (by decide) ?_
                                  refine lv_istore (lv' := [(7, .int 1), (10, .int 0), (9, .int 0), (0, .ref (gad G 0)), (1, .ref (gad G 32)), (2, .ref (gad G 33)), (4, .ref (gad G 34)), (5, .ref (gad G 35)), (8, .int (nI q))]) hx hb dL_isEnded_304 hl (by decide) rfl (fun ls hl => ?_)
                                  refine lv_iinc (v := (nI (q + 1))) (lv' := [(8, .int (nI (q + 1))), (7, .int 1), (10, .int 0), (9, .int 0), (0, .ref (gad G 0)), (1, .ref (gad G 32)), (2, .ref (gad G 33)), (4, .ref (gad G 34)), (5, .ref (gad G 35))]) hx hb dL_isEnded_306 hl (k := 8) rfl (nI_1 _) (by decide) rfl (fun ls hl => ?_)
                                  refine lv_goto (tgt := 150) hx hb dL_isEnded_309 (by decide) ?_
                                  exact W.widen (by omega) (by omega) (ih150 (q + 1) (by omega) (by omega) _ _ _ hw (lv_c (lv_at hl 4 rfl) (lv_c (lv_at hl 5 rfl) (lv_c (lv_at hl 6 rfl) (lv_c (lv_at hl 7 rfl) (lv_c (lv_at hl 8 rfl) (lv_c (lv_at hl 1 rfl) (lv_c (lv_at hl 0 rfl) (lv_c0 hl)))))))))
                              · skip
                                have c_45 : 0 < d := n0_lef (by omega) c_45
                                have hE5 := hE3 c_45
                                refine lv_aload_n hx hb dL_isEnded_248 rfl (lv_at hl 2 rfl) ?_
                                refine lv_iload hx hb dL_isEnded_249 (lv_at hl 8 rfl) ?_
                                refine rCallN (C := RX5) (As := [.int (nI q)]) (rest := []) ⟨hx, hb, hml, hown, hts⟩ fx hw (n_pointsC l hlt G hG hF σ_4 hCe q (by omega)) (cwV 1 hts gL_isEnded_X5_points rfl rfl rfl (by decide +kernel) ⟨Nat.le_of_ble_eq_true rfl, Nat.le_of_ble_eq_true rfl⟩) (hF.1 0 (by decide)) rfl rfl rfl rfl hl.1 rfl (Nat.le_of_ble_eq_true rfl) dL_isEnded_251 ⟨Nat.le_trans (show _ ≤ 6 by omega) (Nat.le_of_ble_eq_true rfl), Nat.le_trans (show _ ≤ 60 by omega) (Nat.le_of_ble_eq_true rfl)⟩ (fun r_50 σ_51 H locs p_52 hw => ?_)
                                obtain ⟨er_50, eσ_51⟩ := p_52
                                have er_50 := er_50.symm; subst er_50
                                have eσ_51 := eσ_51.symm; subst eσ_51
                                refine lv_rep0 (x := (sumA (σ_4 29) (σ_4 27 3) q (e9 + 1) (e9 + 1))) (y := nI pt9) (by exact hE1) ?_
                                refine lv_aload hx hb dL_isEnded_254 (lv_at hl 6 rfl) ?_
                                refine lv_iload hx hb dL_isEnded_256 (lv_at hl 8 rfl) ?_
                                refine rAld hx hb fx hw 35 h35 hF.2.1 (fun _ => rfl) q rfl (by omega) (by decide) dL_isEnded_258 ?_
                                refine lv_rep0 (x := (σ_4 35 q)) (y := (nI (ptN σ e9 q))) ((congrFun ((ag_end eσ_4) 35 (by decide)) q).trans (h35v q (by omega))) ?_
                                refine lv_icmp_lt (tgt := 303) hx hb dL_isEnded_259 (by decide) (fun c_53 => ?_) (fun c_53 => ?_)
                                · skip
                                  have c_53 : pt9 < (ptN σ e9 q) := (nI_ltI (by omega) (by omega)).mp c_53
                                  omega
                                · skip
                                  have c_53 : ¬ pt9 < (ptN σ e9 q) := fun h9 => c_53 ((nI_ltI (by omega) (by omega)).mpr h9)
                                  refine lv_aload_n hx hb dL_isEnded_262 rfl (lv_at hl 2 rfl) ?_
                                  refine lv_iload hx hb dL_isEnded_263 (lv_at hl 8 rfl) ?_
                                  refine rCallN (C := RX5) (As := [.int (nI q)]) (rest := []) ⟨hx, hb, hml, hown, hts⟩ fx hw (n_pointsC l hlt G hG hF σ_4 hCe q (by omega)) (cwV 1 hts gL_isEnded_X5_points rfl rfl rfl (by decide +kernel) ⟨Nat.le_of_ble_eq_true rfl, Nat.le_of_ble_eq_true rfl⟩) (hF.1 0 (by decide)) rfl rfl rfl rfl hl.1 rfl (Nat.le_of_ble_eq_true rfl) dL_isEnded_265 ⟨Nat.le_trans (show _ ≤ 6 by omega) (Nat.le_of_ble_eq_true rfl), Nat.le_trans (show _ ≤ 60 by omega) (Nat.le_of_ble_eq_true rfl)⟩ (fun r_54 σ_55 H locs p_56 hw => ?_)
                                  obtain ⟨er_54, eσ_55⟩ := p_56
                                  have er_54 := er_54.symm; subst er_54
                                  have eσ_55 := eσ_55.symm; subst eσ_55
                                  refine lv_rep0 (x := (sumA (σ_4 29) (σ_4 27 3) q (e9 + 1) (e9 + 1))) (y := nI pt9) (by exact hE1) ?_
                                  refine lv_aload hx hb dL_isEnded_268 (lv_at hl 6 rfl) ?_
                                  refine lv_iload hx hb dL_isEnded_270 (lv_at hl 8 rfl) ?_
                                  refine rAld hx hb fx hw 35 h35 hF.2.1 (fun _ => rfl) q rfl (by omega) (by decide) dL_isEnded_272 ?_
                                  refine lv_rep0 (x := (σ_4 35 q)) (y := (nI (ptN σ e9 q))) ((congrFun ((ag_end eσ_4) 35 (by decide)) q).trans (h35v q (by omega))) ?_
                                  refine lv_bipush (v := 10) hx hb dL_isEnded_273 (by decide) ?_
                                  refine lv_rep0 (x := 10) (y := nI 10) rfl ?_
                                  refine lv_iadd hx hb dL_isEnded_275 ?_
                                  refine lv_rep0 (x := ((nI (ptN σ e9 q)) + (nI 10))) (y := nI ((ptN σ e9 q) + 10)) (nI_add _ _) ?_
                                  refine lv_icmp_gt (tgt := 303) hx hb dL_isEnded_276 (by decide) (fun c_57 => ?_) (fun c_57 => ?_)
                                  · skip
                                    have c_57 : ((ptN σ e9 q) + 10) < pt9 := (nI_ltI (by omega) (by omega)).mp c_57
                                    omega
                                  · skip
                                    have c_57 : ¬ ((ptN σ e9 q) + 10) < pt9 := fun h9 => c_57 ((nI_ltI (by omega) (by omega)).mpr h9)
                                    refine lv_goto (tgt := 299) hx hb dL_isEnded_279 (by decide) ?_
                                    refine lv_iconst (v := 1) hx hb dL_isEnded_299 (by decide) ?_
                                    refine lv_goto (tgt := 304) hx hb dL_isEnded_300 (by decide) ?_
                                    refine lv_istore (lv' := [(7, .int 1), (10, .int 0), (9, .int 0), (0, .ref (gad G 0)), (1, .ref (gad G 32)), (2, .ref (gad G 33)), (4, .ref (gad G 34)), (5, .ref (gad G 35)), (8, .int (nI q))]) hx hb dL_isEnded_304 hl (by decide) rfl (fun ls hl => ?_)
                                    refine lv_iinc (v := (nI (q + 1))) (lv' := [(8, .int (nI (q + 1))), (7, .int 1), (10, .int 0), (9, .int 0), (0, .ref (gad G 0)), (1, .ref (gad G 32)), (2, .ref (gad G 33)), (4, .ref (gad G 34)), (5, .ref (gad G 35))]) hx hb dL_isEnded_306 hl (k := 8) rfl (nI_1 _) (by decide) rfl (fun ls hl => ?_)
                                    refine lv_goto (tgt := 150) hx hb dL_isEnded_309 (by decide) ?_
                                    exact W.widen (by omega) (by omega) (ih150 (q + 1) (by omega) (by omega) _ _ _ hw (lv_c (lv_at hl 4 rfl) (lv_c (lv_at hl 5 rfl) (lv_c (lv_at hl 6 rfl) (lv_c (lv_at hl 7 rfl) (lv_c (lv_at hl 8 rfl) (lv_c (lv_at hl 1 rfl) (lv_c (lv_at hl 0 rfl) (lv_c0 hl)))))))))
                          · skip
                            exact absurd c_40 (by decide)
                        · skip
                          have c_39 : ¬ (lpN σ q) ≤ (dbN σ q) := fun h9 => c_39 ((nI_leI (by omega) (by omega)).mpr h9)
                          refine lv_iconst (v := 1) hx hb dL_isEnded_197 (by decide) ?_
                          refine lv_goto (tgt := 202) hx hb dL_isEnded_198 (by decide) ?_
                          refine lv_istore (lv' := [(9, .int 1), (0, .ref (gad G 0)), (1, .ref (gad G 32)), (2, .ref (gad G 33)), (4, .ref (gad G 34)), (5, .ref (gad G 35)), (7, .int 1), (8, .int (nI q))]) hx hb dL_isEnded_202 hl (by decide) rfl (fun ls hl => ?_)
                          refine lv_iload hx hb dL_isEnded_204 (lv_at hl 0 rfl) ?_
                          refine lv_if_eq (tgt := 220) hx hb dL_isEnded_206 (by decide) (fun c_58 => ?_) (fun c_58 => ?_)
                          · skip
                            exact absurd c_58 (by decide)
                          · skip
                            refine lv_aload hx hb dL_isEnded_209 (lv_at hl 4 rfl) ?_
                            refine lv_iload hx hb dL_isEnded_211 (lv_at hl 7 rfl) ?_
                            refine rAld hx hb fx hw 34 h34 hF.2.1 (fun _ => rfl) q rfl (by omega) (by decide) dL_isEnded_213 ?_
                            refine lv_rep0 (x := (σ_4 34 q)) (y := (nI (rkA σ n q))) ((congrFun ((ag_end eσ_4) 34 (by decide)) q).trans (h34v q (by omega))) ?_
                            refine rCallM (As := [.int (nI (rkA σ n q))]) (rest := []) ⟨hx, hb, hml, hown, hts⟩ fx hw (kL_worth l hlt G hG hF σ_4 ((rkA σ n q)) (by omega)) (va_cwS 1 hts gL_isEnded_L_worth rfl rfl rfl (by decide +kernel) ⟨Nat.le_of_ble_eq_true rfl, Nat.le_of_ble_eq_true rfl⟩) rfl hl.1 rfl (Nat.le_of_ble_eq_true rfl) dL_isEnded_214 ⟨Nat.le_trans (show _ ≤ 6 by omega) (Nat.le_of_ble_eq_true rfl), Nat.le_trans (show _ ≤ 60 by omega) (Nat.le_of_ble_eq_true rfl)⟩ (fun r_59 σ_60 H locs p_61 hw => ?_)
                            obtain ⟨er_59, eσ_60⟩ := p_61
                            have er_59 := er_59.symm; subst er_59
                            have eσ_60 := eσ_60.symm; subst eσ_60
                            refine lv_goto (tgt := 221) hx hb dL_isEnded_217 (by decide) ?_
                            refine lv_istore (lv' := [(10, .int (nI (wtN (rkA σ n q)))), (9, .int 1), (0, .ref (gad G 0)), (1, .ref (gad G 32)), (2, .ref (gad G 33)), (4, .ref (gad G 34)), (5, .ref (gad G 35)), (7, .int 1), (8, .int (nI q))]) hx hb dL_isEnded_221 hl (by decide) rfl (fun ls hl => ?_)
                            refine lv_aload_n hx hb dL_isEnded_223 rfl (lv_at hl 2 rfl) ?_
                            refine lv_aload_n hx hb dL_isEnded_224 rfl (lv_at hl 4 rfl) ?_
                            refine lv_bipush (v := 6) hx hb dL_isEnded_225 (by decide) ?_
                            refine lv_rep0 (x := 6) (y := nI 6) rfl ?_
                            refine rAld hx hb fx hw 33 (hF.1 33 (by decide)) hF.2.1 (fun _ => rfl) 6 rfl (by omega) (by decide) dL_isEnded_227 ?_
                            refine lv_rep0 (x := (σ_4 33 6)) (y := (nI e9)) ((congrFun ((ag_end eσ_4) 33 (by decide)) 6).trans ((congrFun (hok 33 (by decide)) 6).trans (pe hA).1)) ?_
                            refine lv_iload hx hb dL_isEnded_228 (lv_at hl 8 rfl) ?_
                            refine rCallN (C := RX5) (As := [.int (nI e9), .int (nI q)]) (rest := []) ⟨hx, hb, hml, hown, hts⟩ fx hw (n_placeC l hlt G hG hF σ_4 hCe e9 q (by omega) (by omega)) (cwV 2 hts gL_isEnded_X5_place rfl rfl rfl (by decide +kernel) ⟨Nat.le_of_ble_eq_true rfl, Nat.le_of_ble_eq_true rfl⟩) (hF.1 0 (by decide)) rfl rfl rfl rfl hl.1 rfl (Nat.le_of_ble_eq_true rfl) dL_isEnded_230 ⟨Nat.le_trans (show _ ≤ 6 by omega) (Nat.le_of_ble_eq_true rfl), Nat.le_trans (show _ ≤ 60 by omega) (Nat.le_of_ble_eq_true rfl)⟩ (fun r_62 σ_63 H locs p_64 hw => ?_)
                            obtain ⟨er_62, eσ_63⟩ := p_64
                            have er_62 := er_62.symm; subst er_62
                            have eσ_63 := eσ_63.symm; subst eσ_63
                            refine lv_rep0 (x := (σ_4 28 (e9 * 6 + q))) (y := nI (rkA σ n q)) (by rw [eσ_4, en_pl (by omega), rk_34 hok]) ?_
                            refine lv_aload hx hb dL_isEnded_233 (lv_at hl 5 rfl) ?_
                            refine lv_iload hx hb dL_isEnded_235 (lv_at hl 8 rfl) ?_
                            refine rAld hx hb fx hw 34 h34 hF.2.1 (fun _ => rfl) q rfl (by omega) (by decide) dL_isEnded_237 ?_
                            refine lv_rep0 (x := (σ_4 34 q)) (y := (nI (rkA σ n q))) ((congrFun ((ag_end eσ_4) 34 (by decide)) q).trans (h34v q (by omega))) ?_
                            refine lv_icmp_ne (tgt := 303) hx hb dL_isEnded_238 (by decide) (fun c_65 => ?_) (fun c_65 => ?_)
                            · skip
                              exact absurd rfl c_65
                            · skip
                              refine lv_aload_n hx hb dL_isEnded_241 rfl (lv_at hl 4 rfl) ?_
                              refine lv_bipush (v := 7) hx hb dL_isEnded_242 (by decide) ?_
                              refine lv_rep0 (x := 7) (y := nI 7) rfl ?_
                              refine rAld hx hb fx hw 33 (hF.1 33 (by decide)) hF.2.1 (fun _ => rfl) 7 rfl (by omega) (by decide) dL_isEnded_244 ?_
                              refine lv_rep0 (x := (σ_4 33 7)) (y := (nI d)) ((congrFun ((ag_end eσ_4) 33 (by decide)) 7).trans ((congrFun (hok 33 (by decide)) 7).trans (pdr hA).1)) ?_
                              refine lv_if_le (tgt := 282) hx hb dL_isEnded_245 (by decide) (fun c_66 => ?_) (fun c_66 => ?_)
                              · skip
                                have c_66 : d = 0 := n0_let (by omega) c_66
                                have hE6 := hE4 c_66
                                refine lv_aload_n hx hb dL_isEnded_282 rfl (lv_at hl 2 rfl) ?_
                                refine lv_iload hx hb dL_isEnded_283 (lv_at hl 8 rfl) ?_
                                refine rCallN (C := RX5) (As := [.int (nI q)]) (rest := []) ⟨hx, hb, hml, hown, hts⟩ fx hw (n_pointsC l hlt G hG hF σ_4 hCe q (by omega)) (cwV 1 hts gL_isEnded_X5_points rfl rfl rfl (by decide +kernel) ⟨Nat.le_of_ble_eq_true rfl, Nat.le_of_ble_eq_true rfl⟩) (hF.1 0 (by decide)) rfl rfl rfl rfl hl.1 rfl (Nat.le_of_ble_eq_true rfl) dL_isEnded_285 ⟨Nat.le_trans (show _ ≤ 6 by omega) (Nat.le_of_ble_eq_true rfl), Nat.le_trans (show _ ≤ 60 by omega) (Nat.le_of_ble_eq_true rfl)⟩ (fun r_67 σ_68 H locs p_69 hw => ?_)
                                obtain ⟨er_67, eσ_68⟩ := p_69
                                have er_67 := er_67.symm; subst er_67
                                have eσ_68 := eσ_68.symm; subst eσ_68
                                refine lv_rep0 (x := (sumA (σ_4 29) (σ_4 27 3) q (e9 + 1) (e9 + 1))) (y := nI pt9) (by exact hE1) ?_
                                refine lv_aload hx hb dL_isEnded_288 (lv_at hl 6 rfl) ?_
                                refine lv_iload hx hb dL_isEnded_290 (lv_at hl 8 rfl) ?_
                                refine rAld hx hb fx hw 35 h35 hF.2.1 (fun _ => rfl) q rfl (by omega) (by decide) dL_isEnded_292 ?_
                                refine lv_rep0 (x := (σ_4 35 q)) (y := (nI (ptN σ e9 q))) ((congrFun ((ag_end eσ_4) 35 (by decide)) q).trans (h35v q (by omega))) ?_
                                refine lv_iload hx hb dL_isEnded_293 (lv_at hl 0 rfl) ?_
                                refine lv_iadd hx hb dL_isEnded_295 ?_
                                refine lv_rep0 (x := ((nI (ptN σ e9 q)) + (nI (wtN (rkA σ n q))))) (y := nI ((ptN σ e9 q) + (wtN (rkA σ n q)))) (nI_add _ _) ?_
                                refine lv_icmp_ne (tgt := 303) hx hb dL_isEnded_296 (by decide) (fun c_70 => ?_) (fun c_70 => ?_)
                                · skip
                                  have c_70 : ¬ pt9 = ((ptN σ e9 q) + (wtN (rkA σ n q))) := fun h9 => c_70 ((nI_eq (by omega) (by omega)).mpr h9)
                                  exact absurd (hE6.trans (by rw [hq5]; first | (rw [show finB σ 4 q = true from by assumption]; rfl) | (rw [show finB σ 4 q = false from by assumption, decide_eq_true (show dbN σ q < lpN σ q by omega)]; rfl) | (rw [show finB σ 4 q = false from by assumption, decide_eq_false (show ¬ dbN σ q < lpN σ q by omega)]; rfl))) c_70
                                · skip
                                  have c_70 : pt9 = ((ptN σ e9 q) + (wtN (rkA σ n q))) := (nI_eq (by omega) (by omega)).mp c_70
                                  refine lv_iconst (v := 1) hx hb dL_isEnded_299 (by decide) ?_
                                  refine lv_goto (tgt := 304) hx hb dL_isEnded_300 (by decide) ?_
                                  refine lv_istore (lv' := [(7, .int 1), (10, .int (nI (wtN (rkA σ n q)))), (9, .int 1), (0, .ref (gad G 0)), (1, .ref (gad G 32)), (2, .ref (gad G 33)), (4, .ref (gad G 34)), (5, .ref (gad G 35)), (8, .int (nI q))]) hx hb dL_isEnded_304 hl (by decide) rfl (fun ls hl => ?_)
                                  refine lv_iinc (v := (nI (q + 1))) (lv' := [(8, .int (nI (q + 1))), (7, .int 1), (10, .int (nI (wtN (rkA σ n q)))), (9, .int 1), (0, .ref (gad G 0)), (1, .ref (gad G 32)), (2, .ref (gad G 33)), (4, .ref (gad G 34)), (5, .ref (gad G 35))]) hx hb dL_isEnded_306 hl (k := 8) rfl (nI_1 _) (by decide) rfl (fun ls hl => ?_)
                                  refine lv_goto (tgt := 150) hx hb dL_isEnded_309 (by decide) ?_
                                  exact W.widen (by omega) (by omega) (ih150 (q + 1) (by omega) (by omega) _ _ _ hw (lv_c (lv_at hl 4 rfl) (lv_c (lv_at hl 5 rfl) (lv_c (lv_at hl 6 rfl) (lv_c (lv_at hl 7 rfl) (lv_c (lv_at hl 8 rfl) (lv_c (lv_at hl 1 rfl) (lv_c (lv_at hl 0 rfl) (lv_c0 hl)))))))))
                              · skip
                                have c_66 : 0 < d := n0_lef (by omega) c_66
                                have hE5 := hE3 c_66
                                refine lv_aload_n hx hb dL_isEnded_248 rfl (lv_at hl 2 rfl) ?_
                                refine lv_iload hx hb dL_isEnded_249 (lv_at hl 8 rfl) ?_
                                refine rCallN (C := RX5) (As := [.int (nI q)]) (rest := []) ⟨hx, hb, hml, hown, hts⟩ fx hw (n_pointsC l hlt G hG hF σ_4 hCe q (by omega)) (cwV 1 hts gL_isEnded_X5_points rfl rfl rfl (by decide +kernel) ⟨Nat.le_of_ble_eq_true rfl, Nat.le_of_ble_eq_true rfl⟩) (hF.1 0 (by decide)) rfl rfl rfl rfl hl.1 rfl (Nat.le_of_ble_eq_true rfl) dL_isEnded_251 ⟨Nat.le_trans (show _ ≤ 6 by omega) (Nat.le_of_ble_eq_true rfl), Nat.le_trans (show _ ≤ 60 by omega) (Nat.le_of_ble_eq_true rfl)⟩ (fun r_71 σ_72 H locs p_73 hw => ?_)
                                obtain ⟨er_71, eσ_72⟩ := p_73
                                have er_71 := er_71.symm; subst er_71
                                have eσ_72 := eσ_72.symm; subst eσ_72
                                refine lv_rep0 (x := (sumA (σ_4 29) (σ_4 27 3) q (e9 + 1) (e9 + 1))) (y := nI pt9) (by exact hE1) ?_
                                refine lv_aload hx hb dL_isEnded_254 (lv_at hl 6 rfl) ?_
                                refine lv_iload hx hb dL_isEnded_256 (lv_at hl 8 rfl) ?_
                                refine rAld hx hb fx hw 35 h35 hF.2.1 (fun _ => rfl) q rfl (by omega) (by decide) dL_isEnded_258 ?_
                                refine lv_rep0 (x := (σ_4 35 q)) (y := (nI (ptN σ e9 q))) ((congrFun ((ag_end eσ_4) 35 (by decide)) q).trans (h35v q (by omega))) ?_
                                refine lv_icmp_lt (tgt := 303) hx hb dL_isEnded_259 (by decide) (fun c_74 => ?_) (fun c_74 => ?_)
                                · skip
                                  have c_74 : pt9 < (ptN σ e9 q) := (nI_ltI (by omega) (by omega)).mp c_74
                                  omega
                                · skip
                                  have c_74 : ¬ pt9 < (ptN σ e9 q) := fun h9 => c_74 ((nI_ltI (by omega) (by omega)).mpr h9)
                                  refine lv_aload_n hx hb dL_isEnded_262 rfl (lv_at hl 2 rfl) ?_
                                  refine lv_iload hx hb dL_isEnded_263 (lv_at hl 8 rfl) ?_
                                  refine rCallN (C := RX5) (As := [.int (nI q)]) (rest := []) ⟨hx, hb, hml, hown, hts⟩ fx hw (n_pointsC l hlt G hG hF σ_4 hCe q (by omega)) (cwV 1 hts gL_isEnded_X5_points rfl rfl rfl (by decide +kernel) ⟨Nat.le_of_ble_eq_true rfl, Nat.le_of_ble_eq_true rfl⟩) (hF.1 0 (by decide)) rfl rfl rfl rfl hl.1 rfl (Nat.le_of_ble_eq_true rfl) dL_isEnded_265 ⟨Nat.le_trans (show _ ≤ 6 by omega) (Nat.le_of_ble_eq_true rfl), Nat.le_trans (show _ ≤ 60 by omega) (Nat.le_of_ble_eq_true rfl)⟩ (fun r_75 σ_76 H locs p_77 hw => ?_)
                                  obtain ⟨er_75, eσ_76⟩ := p_77
                                  have er_75 := er_75.symm; subst er_75
                                  have eσ_76 := eσ_76.symm; subst eσ_76
                                  refine lv_rep0 (x := (sumA (σ_4 29) (σ_4 27 3) q (e9 + 1) (e9 + 1))) (y := nI pt9) (by exact hE1) ?_
                                  refine lv_aload hx hb dL_isEnded_268 (lv_at hl 6 rfl) ?_
                                  refine lv_iload hx hb dL_isEnded_270 (lv_at hl 8 rfl) ?_
                                  refine rAld hx hb fx hw 35 h35 hF.2.1 (fun _ => rfl) q rfl (by omega) (by decide) dL_isEnded_272 ?_
                                  refine lv_rep0 (x := (σ_4 35 q)) (y := (nI (ptN σ e9 q))) ((congrFun ((ag_end eσ_4) 35 (by decide)) q).trans (h35v q (by omega))) ?_
                                  refine lv_bipush (v := 10) hx hb dL_isEnded_273 (by decide) ?_
                                  refine lv_rep0 (x := 10) (y := nI 10) rfl ?_
                                  refine lv_iadd hx hb dL_isEnded_275 ?_
                                  refine lv_rep0 (x := ((nI (ptN σ e9 q)) + (nI 10))) (y := nI ((ptN σ e9 q) + 10)) (nI_add _ _) ?_
                                  refine lv_icmp_gt (tgt := 303) hx hb dL_isEnded_276 (by decide) (fun c_78 => ?_) (fun c_78 => ?_)
                                  · skip
                                    have c_78 : ((ptN σ e9 q) + 10) < pt9 := (nI_ltI (by omega) (by omega)).mp c_78
                                    omega
                                  · skip
                                    have c_78 : ¬ ((ptN σ e9 q) + 10) < pt9 := fun h9 => c_78 ((nI_ltI (by omega) (by omega)).mpr h9)
                                    refine lv_goto (tgt := 299) hx hb dL_isEnded_279 (by decide) ?_
                                    refine lv_iconst (v := 1) hx hb dL_isEnded_299 (by decide) ?_
                                    refine lv_goto (tgt := 304) hx hb dL_isEnded_300 (by decide) ?_
                                    refine lv_istore (lv' := [(7, .int 1), (10, .int (nI (wtN (rkA σ n q)))), (9, .int 1), (0, .ref (gad G 0)), (1, .ref (gad G 32)), (2, .ref (gad G 33)), (4, .ref (gad G 34)), (5, .ref (gad G 35)), (8, .int (nI q))]) hx hb dL_isEnded_304 hl (by decide) rfl (fun ls hl => ?_)
                                    refine lv_iinc (v := (nI (q + 1))) (lv' := [(8, .int (nI (q + 1))), (7, .int 1), (10, .int (nI (wtN (rkA σ n q)))), (9, .int 1), (0, .ref (gad G 0)), (1, .ref (gad G 32)), (2, .ref (gad G 33)), (4, .ref (gad G 34)), (5, .ref (gad G 35))]) hx hb dL_isEnded_306 hl (k := 8) rfl (nI_1 _) (by decide) rfl (fun ls hl => ?_)
                                    refine lv_goto (tgt := 150) hx hb dL_isEnded_309 (by decide) ?_
                                    exact W.widen (by omega) (by omega) (ih150 (q + 1) (by omega) (by omega) _ _ _ hw (lv_c (lv_at hl 4 rfl) (lv_c (lv_at hl 5 rfl) (lv_c (lv_at hl 6 rfl) (lv_c (lv_at hl 7 rfl) (lv_c (lv_at hl 8 rfl) (lv_c (lv_at hl 1 rfl) (lv_c (lv_at hl 0 rfl) (lv_c0 hl)))))))))
              have q_79 : 0 = (nI 0) := by first | rfl | (rw [decide_eq_true (by omega)]; rfl) | (rw [decide_eq_false (by omega)]; rfl) | (congr 1; omega)
              exact W.widen (by omega) (by omega) (lab_150 (n - 0 + 1) 0 (by omega) (by omega) _ _ _ hw (lv_c (lv_at hl 3 rfl) (lv_c (lv_at hl 4 rfl) (lv_c (lv_at hl 5 rfl) (lv_c (lv_at hl 7 rfl) (lv_c (lv_at hl 8 rfl) (lv_c (lv_at hl 1 rfl) (lv_c (lv_atq hl 0 rfl q_79) (lv_c0 hl)))))))))
          · skip
            exact absurd c_6 (by decide)
        · skip
          have c_2 : ¬ n ≤ i := fun h9 => c_2 ((nI_leI (by omega) (by omega)).mpr h9)
          refine lv_aload hx hb dL_isEnded_65 (lv_at hl 4 rfl) ?_
          refine lv_iload hx hb dL_isEnded_67 (lv_at hl 6 rfl) ?_
          refine lv_aload_n hx hb dL_isEnded_69 rfl (lv_at hl 2 rfl) ?_
          refine lv_iconst (v := 3) hx hb dL_isEnded_70 (by decide) ?_
          refine lv_rep0 (x := 3) (y := nI 3) rfl ?_
          refine rAld hx hb fx hw 33 (hF.1 33 (by decide)) hF.2.1 (fun _ => rfl) 3 rfl (by omega) (by decide) dL_isEnded_71 ?_
          refine lv_rep0 (x := (σ_1 33 3)) (y := 1) ((congrFun (hok 33 (by decide)) 3).trans ((pon hA).trans (by rw [hbo]; rfl))) ?_
          refine lv_iconst (v := 1) hx hb dL_isEnded_72 (by decide) ?_
          refine lv_icmp_ne (tgt := 85) hx hb dL_isEnded_73 (by decide) (fun c_80 => ?_) (fun c_80 => ?_)
          · skip
            exact absurd c_80 (by decide)
          · skip
            refine lv_aload_n hx hb dL_isEnded_76 rfl (lv_at hl 0 rfl) ?_
            refine lv_iload hx hb dL_isEnded_77 (lv_at hl 6 rfl) ?_
            refine rCallN (C := RX5) (As := [.int (nI i)]) (rest := [.int (nI i), .ref (gad G 34)]) ⟨hx, hb, hml, hown, hts⟩ fx hw (n_rank l hlt G hG hF σ_1 (PAll_34 hok hA) hbo i (by omega)) (cwV 1 hts gL_isEnded_X5_rank rfl rfl rfl (by decide +kernel) ⟨Nat.le_of_ble_eq_true rfl, Nat.le_of_ble_eq_true rfl⟩) (hF.1 0 (by decide)) rfl rfl rfl rfl hl.1 rfl (Nat.le_of_ble_eq_true rfl) dL_isEnded_79 ⟨Nat.le_trans (show _ ≤ 6 by omega) (Nat.le_of_ble_eq_true rfl), Nat.le_trans (show _ ≤ 60 by omega) (Nat.le_of_ble_eq_true rfl)⟩ (fun r_81 σ_82 H locs p_83 hw => ?_)
            obtain ⟨er_81, eσ_82, p_83_0⟩ := p_83
            have er_81 := er_81.symm; subst er_81
            have eσ_82 := eσ_82.symm; subst eσ_82
            refine lv_rep0 (x := (nI (rkA σ_1 n i))) (y := nI (rkA σ n i)) (by rw [rk_34 hok]) ?_
            refine lv_goto (tgt := 86) hx hb dL_isEnded_82 (by decide) ?_
            refine rAst (x := (nI (rkA σ n i))) hx hb fx hw 34 h34 hF.2.1 (fun _ => rfl) i rfl (by omega) (by decide) dL_isEnded_86 (fun H locs hw => ?_)
            obtain ⟨σ_84, eσ_84⟩ : ∃ w9, w9 = upA σ_1 34 (upd (σ_1 34) i (nI (rkA σ n i))) := ⟨_, rfl⟩
            rw [← eσ_84] at hw
            refine lv_aload hx hb dL_isEnded_87 (lv_at hl 5 rfl) ?_
            refine lv_iload hx hb dL_isEnded_89 (lv_at hl 6 rfl) ?_
            refine lv_aload_n hx hb dL_isEnded_91 rfl (lv_at hl 0 rfl) ?_
            refine lv_iload hx hb dL_isEnded_92 (lv_at hl 6 rfl) ?_
            refine rCallN (C := RX5) (As := [.int (nI i)]) (rest := [.int (nI i), .ref (gad G 35)]) ⟨hx, hb, hml, hown, hts⟩ fx hw (n_points l hlt G hG hF σ_84 (PAll_34 (fun c9 h9 => by rw [eσ_84, upA_n (by omega)]; exact hok c9 h9) hA) i (by omega)) (cwV 1 hts gL_isEnded_X5_points rfl rfl rfl (by decide +kernel) ⟨Nat.le_of_ble_eq_true rfl, Nat.le_of_ble_eq_true rfl⟩) (hF.1 0 (by decide)) rfl rfl rfl rfl hl.1 rfl (Nat.le_of_ble_eq_true rfl) dL_isEnded_94 ⟨Nat.le_trans (show _ ≤ 6 by omega) (Nat.le_of_ble_eq_true rfl), Nat.le_trans (show _ ≤ 60 by omega) (Nat.le_of_ble_eq_true rfl)⟩ (fun r_85 σ_86 H locs p_87 hw => ?_)
            obtain ⟨er_85, eσ_86, p_87_0⟩ := p_87
            have er_85 := er_85.symm; subst er_85
            have eσ_86 := eσ_86.symm; subst eσ_86
            refine lv_rep0 (x := (nI (ptN σ_84 e9 i))) (y := nI (ptN σ e9 i)) (by rw [pt_34 (σ := σ) (fun c9 h9 => by rw [eσ_84, upA_n (by omega)]; exact hok c9 h9)]) ?_
            refine rAst (x := (nI (ptN σ e9 i))) hx hb fx hw 35 h35 hF.2.1 (fun _ => rfl) i rfl (by omega) (by decide) dL_isEnded_97 (fun H locs hw => ?_)
            obtain ⟨σ_88, eσ_88⟩ : ∃ w9, w9 = upA σ_84 35 (upd (σ_84 35) i (nI (ptN σ e9 i))) := ⟨_, rfl⟩
            rw [← eσ_88] at hw
            refine lv_iinc (v := (nI (i + 1))) (lv' := [(6, .int (nI (i + 1))), (0, .ref (gad G 0)), (1, .ref (gad G 32)), (2, .ref (gad G 33)), (3, .int v3), (4, .ref (gad G 34)), (5, .ref (gad G 35))]) hx hb dL_isEnded_98 hl (k := 6) rfl (nI_1 _) (by decide) rfl (fun ls hl => ?_)
            refine lv_goto (tgt := 57) hx hb dL_isEnded_101 (by decide) ?_
            have q_89 : σ_88 = (upA (upA σ 34 (flA (σ 34) (fun x => nI (rkA σ n x)) (i + 1))) 35 (flA (σ 35) (fun x => nI (ptN σ e9 x)) (i + 1))) := by subst eσ_88 eσ_84 eσ_1; exact fl_step rfl rfl
            rw [q_89] at hw
            exact W.widen (by omega) (by omega) (ih57 (i + 1) (by omega) (by omega) _ _ _ hw (lv_c (lv_at hl 1 rfl) (lv_c (lv_at hl 2 rfl) (lv_c (lv_at hl 3 rfl) (lv_c (lv_at hl 4 rfl) (lv_c (lv_at hl 5 rfl) (lv_c (lv_at hl 6 rfl) (lv_c (lv_at hl 0 rfl) (lv_c0 hl)))))))))
    have q_90 : 0 = (nI 0) := by first | rfl | (rw [decide_eq_true (by omega)]; rfl) | (rw [decide_eq_false (by omega)]; rfl) | (congr 1; omega)
    have q_91 : σ = (upA (upA σ 34 (flA (σ 34) (fun x => nI (rkA σ n x)) 0)) 35 (flA (σ 35) (fun x => nI (ptN σ e9 x)) 0)) := by exact fl_first
    rw [q_91] at hw
    exact W.widen (by omega) (by omega) (lab_57 (n - 0 + 1) 0 (by omega) (by omega) _ _ _ hw (lv_c (lv_at hl 1 rfl) (lv_c (lv_at hl 2 rfl) (lv_c (lv_at hl 3 rfl) (lv_c (lv_at hl 4 rfl) (lv_c (lv_at hl 5 rfl) (lv_c (lv_at hl 6 rfl) (lv_c (lv_atq hl 0 rfl q_90) (lv_c0 hl)))))))))
  · skip
    refine lv_iconst (v := 0) hx hb dL_isEnded_54 (by decide) ?_
    refine lv_istore (lv' := [(6, .int 0), (0, .ref (gad G 0)), (1, .ref (gad G 32)), (2, .ref (gad G 33)), (3, .int v3), (4, .ref (gad G 34)), (5, .ref (gad G 35))]) hx hb dL_isEnded_55 hl (by decide) rfl (fun ls hl => ?_)
    have lab_57 : ∀ (n9 : Nat), ∀ (i : Nat), n - i < n9 → i ≤ n → ∀ (H : Heap) (locs : List Loc) (ls : Array Slot), Wd G s ((upA (upA σ 34 (flA (σ 34) (fun x => 0) i)) 35 (flA (σ 35) (fun x => nI (ptN σ e9 x)) i))) H locs → lv_has ls 11 [(0, .ref (gad G 0)), (1, .ref (gad G 32)), (2, .ref (gad G 33)), (3, .int v3), (4, .ref (gad G 34)), (5, .ref (gad G 35)), (6, .int (nI i))] → W p l e rmL_isEnded s m args below meth c H locs (2) (12) (MQ below (va_Qi (fun r σ' => r = 1 ∧ PIn σ' (j + 1)) (BW G0) (gA G0)) args s 6 60 (gA G0)) (F0 m 57 ls []) := by
      intro n9
      induction n9 with
      | zero => intro i hn9; exact absurd hn9 (Nat.not_lt_zero _)
      | succ n9 ih57 =>
        intro i hn9 h57_0 H locs ls hw hl
        obtain ⟨σ_92, eσ_92⟩ : ∃ w9, w9 = (upA (upA σ 34 (flA (σ 34) (fun x => 0) i)) 35 (flA (σ 35) (fun x => nI (ptN σ e9 x)) i)) := ⟨_, rfl⟩
        rw [← eσ_92] at hw
        have hok : ∀ c, c < 34 → σ_92 c = σ c := fun c hc => by rw [eσ_92, upA_n (by omega), upA_n (by omega)]
        refine lv_iload hx hb dL_isEnded_57 (lv_at hl 6 rfl) ?_
        refine lv_aload_n hx hb dL_isEnded_59 rfl (lv_at hl 2 rfl) ?_
        refine lv_iconst (v := 2) hx hb dL_isEnded_60 (by decide) ?_
        refine lv_rep0 (x := 2) (y := nI 2) rfl ?_
        refine rAld hx hb fx hw 33 (hF.1 33 (by decide)) hF.2.1 (fun _ => rfl) 2 rfl (by omega) (by decide) dL_isEnded_61 ?_
        refine lv_rep0 (x := (σ_92 33 2)) (y := (nI n)) ((congrFun (hok 33 (by decide)) 2).trans (pn hA).1) ?_
        refine lv_icmp_ge (tgt := 104) hx hb dL_isEnded_62 (by decide) (fun c_93 => ?_) (fun c_93 => ?_)
        · skip
          have c_93 : n ≤ i := (nI_leI (by omega) (by omega)).mp c_93
          refine lv_aload_n hx hb dL_isEnded_104 rfl (lv_at hl 0 rfl) ?_
          refine lv_bipush (v := 8) hx hb dL_isEnded_105 (by decide) ?_
          refine lv_iconst (v := 0) hx hb dL_isEnded_107 (by decide) ?_
          refine lv_iconst (v := 0) hx hb dL_isEnded_108 (by decide) ?_
          refine lv_iconst (v := 0) hx hb dL_isEnded_109 (by decide) ?_
          refine rCallLS (As := [.ref (gad G 0), .int 8, .int 0, .int 0, .int 0]) (rest := []) ⟨hx, hb, hml, hown, hts⟩ fx hw (d8_t1 l hlt G hG hF σ_92 (pcv (PAll_34 hok hA)) 0 0 0 hn0 hbo) (vx_cwSW 5 hts gL_isEnded_L_does rfl rfl rfl (by decide +kernel) ⟨Nat.le_of_ble_eq_true rfl, Nat.le_of_ble_eq_true rfl⟩) rfl hl.1 rfl (Nat.le_of_ble_eq_true rfl) dL_isEnded_110 ⟨Nat.le_trans (show _ ≤ 6 by omega) (Nat.le_of_ble_eq_true rfl), Nat.le_trans (show _ ≤ 60 by omega) (Nat.le_of_ble_eq_true rfl)⟩ (fun r_94 σ_95 H locs p_96 hw => ?_)
          obtain ⟨er_94, eσ_95⟩ := p_96
          have er_94 := er_94.symm; subst er_94
          have eσ_95 := eσ_95.symm; subst eσ_95
          refine lv_istore (lv' := [(6, .int (-10)), (0, .ref (gad G 0)), (1, .ref (gad G 32)), (2, .ref (gad G 33)), (3, .int v3), (4, .ref (gad G 34)), (5, .ref (gad G 35))]) hx hb dL_isEnded_113 hl (by decide) rfl (fun ls hl => ?_)
          refine lv_aload_n hx hb dL_isEnded_115 rfl (lv_at hl 3 rfl) ?_
          refine lv_iconst (v := 3) hx hb dL_isEnded_116 (by decide) ?_
          refine lv_rep0 (x := 3) (y := nI 3) rfl ?_
          refine rAld hx hb fx hw 33 (hF.1 33 (by decide)) hF.2.1 (fun _ => rfl) 3 rfl (by omega) (by decide) dL_isEnded_117 ?_
          refine lv_rep0 (x := (σ_92 33 3)) (y := 0) ((congrFun (hok 33 (by decide)) 3).trans ((pon hA).trans (by rw [hbo]; rfl))) ?_
          refine lv_if_ne (tgt := 134) hx hb dL_isEnded_118 (by decide) (fun c_97 => ?_) (fun c_97 => ?_)
          · skip
            exact absurd c_97 (by decide)
          · skip
            refine lv_iload hx hb dL_isEnded_121 (lv_at hl 0 rfl) ?_
            refine lv_bipush (v := (-10)) hx hb dL_isEnded_123 (by decide) ?_
            refine lv_icmp_ne (tgt := 132) hx hb dL_isEnded_125 (by decide) (fun c_98 => ?_) (fun c_98 => ?_)
            · skip
              exact absurd c_98 (by decide)
            · skip
              refine lv_iconst (v := 1) hx hb dL_isEnded_128 (by decide) ?_
              refine lv_goto (tgt := 133) hx hb dL_isEnded_129 (by decide) ?_
              subst eσ_92
              exact rRetB hx hb hr hw hback hAq (by decide) (by exact ⟨rfl, po_same (PAll_34 hok hA) (PGat_34 hok hGa)⟩) hlocks dL_isEnded_133 (by omega) (by omega)
        · skip
          have c_93 : ¬ n ≤ i := fun h9 => c_93 ((nI_leI (by omega) (by omega)).mpr h9)
          refine lv_aload hx hb dL_isEnded_65 (lv_at hl 4 rfl) ?_
          refine lv_iload hx hb dL_isEnded_67 (lv_at hl 6 rfl) ?_
          refine lv_aload_n hx hb dL_isEnded_69 rfl (lv_at hl 2 rfl) ?_
          refine lv_iconst (v := 3) hx hb dL_isEnded_70 (by decide) ?_
          refine lv_rep0 (x := 3) (y := nI 3) rfl ?_
          refine rAld hx hb fx hw 33 (hF.1 33 (by decide)) hF.2.1 (fun _ => rfl) 3 rfl (by omega) (by decide) dL_isEnded_71 ?_
          refine lv_rep0 (x := (σ_92 33 3)) (y := 0) ((congrFun (hok 33 (by decide)) 3).trans ((pon hA).trans (by rw [hbo]; rfl))) ?_
          refine lv_iconst (v := 1) hx hb dL_isEnded_72 (by decide) ?_
          refine lv_icmp_ne (tgt := 85) hx hb dL_isEnded_73 (by decide) (fun c_99 => ?_) (fun c_99 => ?_)
          · skip
            refine lv_iconst (v := 0) hx hb dL_isEnded_85 (by decide) ?_
            refine rAst (x := 0) hx hb fx hw 34 h34 hF.2.1 (fun _ => rfl) i rfl (by omega) (by decide) dL_isEnded_86 (fun H locs hw => ?_)
            obtain ⟨σ_100, eσ_100⟩ : ∃ w9, w9 = upA σ_92 34 (upd (σ_92 34) i 0) := ⟨_, rfl⟩
            rw [← eσ_100] at hw
            refine lv_aload hx hb dL_isEnded_87 (lv_at hl 5 rfl) ?_
            refine lv_iload hx hb dL_isEnded_89 (lv_at hl 6 rfl) ?_
            refine lv_aload_n hx hb dL_isEnded_91 rfl (lv_at hl 0 rfl) ?_
            refine lv_iload hx hb dL_isEnded_92 (lv_at hl 6 rfl) ?_
            refine rCallN (C := RX5) (As := [.int (nI i)]) (rest := [.int (nI i), .ref (gad G 35)]) ⟨hx, hb, hml, hown, hts⟩ fx hw (n_points l hlt G hG hF σ_100 (PAll_34 (fun c9 h9 => by rw [eσ_100, upA_n (by omega)]; exact hok c9 h9) hA) i (by omega)) (cwV 1 hts gL_isEnded_X5_points rfl rfl rfl (by decide +kernel) ⟨Nat.le_of_ble_eq_true rfl, Nat.le_of_ble_eq_true rfl⟩) (hF.1 0 (by decide)) rfl rfl rfl rfl hl.1 rfl (Nat.le_of_ble_eq_true rfl) dL_isEnded_94 ⟨Nat.le_trans (show _ ≤ 6 by omega) (Nat.le_of_ble_eq_true rfl), Nat.le_trans (show _ ≤ 60 by omega) (Nat.le_of_ble_eq_true rfl)⟩ (fun r_101 σ_102 H locs p_103 hw => ?_)
            obtain ⟨er_101, eσ_102, p_103_0⟩ := p_103
            have er_101 := er_101.symm; subst er_101
            have eσ_102 := eσ_102.symm; subst eσ_102
            refine lv_rep0 (x := (nI (ptN σ_100 e9 i))) (y := nI (ptN σ e9 i)) (by rw [pt_34 (σ := σ) (fun c9 h9 => by rw [eσ_100, upA_n (by omega)]; exact hok c9 h9)]) ?_
            refine rAst (x := (nI (ptN σ e9 i))) hx hb fx hw 35 h35 hF.2.1 (fun _ => rfl) i rfl (by omega) (by decide) dL_isEnded_97 (fun H locs hw => ?_)
            obtain ⟨σ_104, eσ_104⟩ : ∃ w9, w9 = upA σ_100 35 (upd (σ_100 35) i (nI (ptN σ e9 i))) := ⟨_, rfl⟩
            rw [← eσ_104] at hw
            refine lv_iinc (v := (nI (i + 1))) (lv' := [(6, .int (nI (i + 1))), (0, .ref (gad G 0)), (1, .ref (gad G 32)), (2, .ref (gad G 33)), (3, .int v3), (4, .ref (gad G 34)), (5, .ref (gad G 35))]) hx hb dL_isEnded_98 hl (k := 6) rfl (nI_1 _) (by decide) rfl (fun ls hl => ?_)
            refine lv_goto (tgt := 57) hx hb dL_isEnded_101 (by decide) ?_
            have q_105 : σ_104 = (upA (upA σ 34 (flA (σ 34) (fun x => 0) (i + 1))) 35 (flA (σ 35) (fun x => nI (ptN σ e9 x)) (i + 1))) := by subst eσ_104 eσ_100 eσ_92; exact fl_step rfl rfl
            rw [q_105] at hw
            exact W.widen (by omega) (by omega) (ih57 (i + 1) (by omega) (by omega) _ _ _ hw (lv_c (lv_at hl 1 rfl) (lv_c (lv_at hl 2 rfl) (lv_c (lv_at hl 3 rfl) (lv_c (lv_at hl 4 rfl) (lv_c (lv_at hl 5 rfl) (lv_c (lv_at hl 6 rfl) (lv_c (lv_at hl 0 rfl) (lv_c0 hl)))))))))
          · skip
            exact absurd c_99 (by decide)
    have q_106 : 0 = (nI 0) := by first | rfl | (rw [decide_eq_true (by omega)]; rfl) | (rw [decide_eq_false (by omega)]; rfl) | (congr 1; omega)
    have q_107 : σ = (upA (upA σ 34 (flA (σ 34) (fun x => 0) 0)) 35 (flA (σ 35) (fun x => nI (ptN σ e9 x)) 0)) := by exact fl_first
    rw [q_107] at hw
    exact W.widen (by omega) (by omega) (lab_57 (n - 0 + 1) 0 (by omega) (by omega) _ _ _ hw (lv_c (lv_at hl 1 rfl) (lv_c (lv_at hl 2 rfl) (lv_c (lv_at hl 3 rfl) (lv_c (lv_at hl 4 rfl) (lv_c (lv_at hl 5 rfl) (lv_c (lv_at hl 6 rfl) (lv_c (lv_atq hl 0 rfl q_106) (lv_c0 hl)))))))))
set_option maxHeartbeats 4000000 in
set_option maxRecDepth 100000 in
theorem kL_isEnded (l : Launch) (hlt : l.stackTraces = false) (G : Gx) (hG : gOk G) (hF : Full G) (σ : St) {g n e9 z d t j : Nat} {b : Bool} (hA : PAll σ g n e9 z d t b j) (hGa : PGat σ g) (hj : j < 100) (hgl : 34 ∉ gl G ∧ 35 ∉ gl G)  : CmI l yL_isEnded wsL_isEnded rmL_isEnded G σ [.ref (gad G 0), .ref (gad G 32), .ref (gad G 33)] (fun r σ' => r = 1 ∧ PIn σ' (j + 1)) 6 60 := by
  refine bgM (cc := cL_isEnded) (maxL := 11) (ret := (some .boolean)) (own := RL) (by decide) rfl rfl hG (Nat.le_of_ble_eq_true rfl) rfl ?_
  intro p e s m args below meth c ls Bd hl
  obtain ⟨hx, hb, hr, hml, hts, hown, hlocks, fx, hw⟩ := Bd
  have hl : lv_has ls 11 [(0, .ref (gad G 0)), (1, .ref (gad G 32)), (2, .ref (gad G 33))] := hl
  have hg5 := (pg hA).2
  have hn6 := (pn hA).2
  have he8 := (pe hA).2
  rcases Bool.eq_false_or_eq_true b with hbo | hbo
  · skip
    refine lv_iconst (v := (-1)) hx hb dL_isEnded_0 (by decide) ?_
    refine lv_istore_n (lv' := [(3, .int (-1)), (0, .ref (gad G 0)), (1, .ref (gad G 32)), (2, .ref (gad G 33))]) hx hb dL_isEnded_1 rfl hl (by decide) rfl (fun ls hl => ?_)
    refine lv_iconst (v := 0) hx hb dL_isEnded_2 (by decide) ?_
    refine lv_istore (lv' := [(4, .int 0), (3, .int (-1)), (0, .ref (gad G 0)), (1, .ref (gad G 32)), (2, .ref (gad G 33))]) hx hb dL_isEnded_3 hl (by decide) rfl (fun ls hl => ?_)
    have lab_5 : ∀ (n9 : Nat), ∀ (i : Nat), n - i < n9 → i ≤ n → ∀ (H : Heap) (locs : List Loc) (ls : Array Slot), Wd G s σ H locs → lv_has ls 11 [(0, .ref (gad G 0)), (1, .ref (gad G 32)), (2, .ref (gad G 33)), (3, .int (fiA σ n i)), (4, .int (nI i))] → W p l e rmL_isEnded s m args below meth c H locs (0) (0) (MQ below (va_Qi (fun r σ' => r = 1 ∧ PIn σ' (j + 1)) (BW G) (gA G)) args s 6 60 (gA G)) (F0 m 5 ls []) := by
      intro n9
      induction n9 with
      | zero => intro i hn9; exact absurd hn9 (Nat.not_lt_zero _)
      | succ n9 ih5 =>
        intro i hn9 h5_0 H locs ls hw hl
        refine lv_iload hx hb dL_isEnded_5 (lv_at hl 4 rfl) ?_
        refine lv_aload_n hx hb dL_isEnded_7 rfl (lv_at hl 2 rfl) ?_
        refine lv_iconst (v := 2) hx hb dL_isEnded_8 (by decide) ?_
        refine lv_rep0 (x := 2) (y := nI 2) rfl ?_
        refine rAld hx hb fx hw 33 (hF.1 33 (by decide)) hF.2.1 (fun _ => rfl) 2 rfl (by omega) (by decide) dL_isEnded_9 ?_
        refine lv_rep0 (x := (σ 33 2)) (y := (nI n)) (pn hA).1 ?_
        refine lv_icmp_ge (tgt := 42) hx hb dL_isEnded_10 (by decide) (fun c_1 => ?_) (fun c_1 => ?_)
        · skip
          have c_1 : n ≤ i := (nI_leI (by omega) (by omega)).mp c_1
          refine lv_bipush (v := 6) hx hb dL_isEnded_42 (by decide) ?_
          refine rNewI hx hb (hts (.arrayClass .int) (by decide +kernel)) fx hw hF.2.1 34 (by decide) hgl.1 (N' := 6) rfl (by decide) (by decide) (Nat.le_of_ble_eq_true rfl) (Nat.le_of_ble_eq_true rfl) (Nat.le_of_ble_eq_true rfl) dL_isEnded_44 (fun a34 H hG1 fx1 hw1 => ?_)
          have hl : lv_has ls 11 [(0, .ref (gad G 0)), (1, .ref (gad G 32)), (2, .ref (gad G 33)), (3, .int (fiA σ n i))] := lv_sub hl [0, 1, 2, 3] rfl
          refine lv_astore (lv' := [(4, .ref a34), (0, .ref (gad G 0)), (1, .ref (gad G 32)), (2, .ref (gad G 33)), (3, .int (fiA σ n i))]) hx hb dL_isEnded_46 hl (by decide) rfl (fun ls hl => ?_)
          refine lv_bipush (v := 6) hx hb dL_isEnded_48 (by decide) ?_
          have h35n : 35 ∉ gl (extG G 34 a34) := fun h9 => (List.mem_cons.mp h9).elim (fun h9 => absurd h9 (by decide)) hgl.2
          refine rNewI hx hb (hts (.arrayClass .int) (by decide +kernel)) fx1 hw1 hF.2.1 35 (by decide) h35n (N' := 6) rfl (by decide) (by decide) (Nat.le_of_ble_eq_true rfl) (Nat.le_of_ble_eq_true rfl) (Nat.le_of_ble_eq_true rfl) dL_isEnded_50 (fun a35 H hG2 fx2 hw2 => ?_)
          refine lv_astore (lv' := [(5, .ref a35), (4, .ref a34), (0, .ref (gad G 0)), (1, .ref (gad G 32)), (2, .ref (gad G 33)), (3, .int (fiA σ n i))]) hx hb dL_isEnded_52 hl (by decide) rfl (fun ls hl => ?_)
          refine isEnded_rest l hlt G (extG (extG G 34 a34) 35 a35) hG2 ⟨fun c9 h9 => List.mem_cons_of_mem _ (List.mem_cons_of_mem _ (hF.1 c9 h9)), hF.2.1, hF.2.2.1, trivial, hF.2.2.2.2⟩ (List.mem_cons_of_mem _ List.mem_cons_self) List.mem_cons_self (fun σ9 H9 h9 => ?_) rfl _ (PAll_34 (fun c9 h9 => by rw [upA_n (by omega), upA_n (by omega)]) hA) (PGat_34 (fun c9 h9 => by rw [upA_n (by omega), upA_n (by omega)]) hGa) hj (v3 := (fiA σ n i)) (fun _ => (show fiA σ n i = nI (wnA σ n n) from (by rw [show i = n by omega]; exact fi_is hA hbo)).trans (congrArg nI (wn_34 (fun c9 h9 => by rw [upA_n (by omega), upA_n (by omega)]) n).symm)) hx hb hr hml hts hown hlocks fx2 hw2 (lv_sub hl [2, 3, 4, 5, 1, 0] rfl)
          rw [ext_tl (by decide) h35n, ext_tl (by decide) hgl.1] at h9
          exact P_tail (P_tail h9)
        · skip
          have c_1 : ¬ n ≤ i := fun h9 => c_1 ((nI_leI (by omega) (by omega)).mpr h9)
          refine lv_aload_n hx hb dL_isEnded_13 rfl (lv_at hl 2 rfl) ?_
          refine lv_iconst (v := 3) hx hb dL_isEnded_14 (by decide) ?_
          refine lv_rep0 (x := 3) (y := nI 3) rfl ?_
          refine rAld hx hb fx hw 33 (hF.1 33 (by decide)) hF.2.1 (fun _ => rfl) 3 rfl (by omega) (by decide) dL_isEnded_15 ?_
          refine lv_rep0 (x := (σ 33 3)) (y := 1) ((pon hA).trans (by rw [hbo]; rfl)) ?_
          refine lv_iconst (v := 1) hx hb dL_isEnded_16 (by decide) ?_
          refine lv_icmp_ne (tgt := 42) hx hb dL_isEnded_17 (by decide) (fun c_2 => ?_) (fun c_2 => ?_)
          · skip
            exact absurd c_2 (by decide)
          · skip
            refine lv_aload_n hx hb dL_isEnded_20 rfl (lv_at hl 0 rfl) ?_
            refine lv_iload hx hb dL_isEnded_21 (lv_at hl 4 rfl) ?_
            refine rCallN (C := RX5) (As := [.int (nI i)]) (rest := []) ⟨hx, hb, hml, hown, hts⟩ fx hw (n_rank l hlt G hG hF σ hA hbo i (by omega)) (cwV 1 hts gL_isEnded_X5_rank rfl rfl rfl (by decide +kernel) ⟨Nat.le_of_ble_eq_true rfl, Nat.le_of_ble_eq_true rfl⟩) (hF.1 0 (by decide)) rfl rfl rfl rfl hl.1 rfl (Nat.le_of_ble_eq_true rfl) dL_isEnded_23 ⟨Nat.le_trans (show _ ≤ 6 by omega) (Nat.le_of_ble_eq_true rfl), Nat.le_trans (show _ ≤ 60 by omega) (Nat.le_of_ble_eq_true rfl)⟩ (fun r_3 σ_4 H locs p_5 hw => ?_)
            obtain ⟨er_3, eσ_4, p_5_0⟩ := p_5
            have er_3 := er_3.symm; subst er_3
            have eσ_4 := eσ_4.symm; subst eσ_4
            refine lv_if_ne (tgt := 34) hx hb dL_isEnded_26 (by decide) (fun c_6 => ?_) (fun c_6 => ?_)
            · skip
              have c_6 : ¬ (rkA σ n i) = 0 := n0_net (by omega) c_6
              refine lv_iload_n hx hb dL_isEnded_34 rfl (lv_at hl 3 rfl) ?_
              refine lv_istore_n (lv' := [(3, .int (fiA σ n i)), (0, .ref (gad G 0)), (1, .ref (gad G 32)), (2, .ref (gad G 33)), (4, .int (nI i))]) hx hb dL_isEnded_35 rfl hl (by decide) rfl (fun ls hl => ?_)
              refine lv_iinc (v := (nI (i + 1))) (lv' := [(4, .int (nI (i + 1))), (3, .int (fiA σ n i)), (0, .ref (gad G 0)), (1, .ref (gad G 32)), (2, .ref (gad G 33))]) hx hb dL_isEnded_36 hl (k := 4) rfl (nI_1 _) (by decide) rfl (fun ls hl => ?_)
              refine lv_goto (tgt := 5) hx hb dL_isEnded_39 (by decide) ?_
              have q_7 : (fiA σ n i) = (fiA σ n (i + 1)) := by first | (rw [fiA, if_pos (by assumption)]) | (rw [fiA, if_neg (by assumption)])
              exact W.widen (by omega) (by omega) (ih5 (i + 1) (by omega) (by omega) _ _ _ hw (lv_c (lv_at hl 2 rfl) (lv_c (lv_at hl 3 rfl) (lv_c (lv_at hl 4 rfl) (lv_c (lv_atq hl 1 rfl q_7) (lv_c (lv_at hl 0 rfl) (lv_c0 hl)))))))
            · skip
              have c_6 : (rkA σ n i) = 0 := n0_nef (by omega) c_6
              refine lv_iload hx hb dL_isEnded_29 (lv_at hl 4 rfl) ?_
              refine lv_goto (tgt := 35) hx hb dL_isEnded_31 (by decide) ?_
              refine lv_istore_n (lv' := [(3, .int (nI i)), (0, .ref (gad G 0)), (1, .ref (gad G 32)), (2, .ref (gad G 33)), (4, .int (nI i))]) hx hb dL_isEnded_35 rfl hl (by decide) rfl (fun ls hl => ?_)
              refine lv_iinc (v := (nI (i + 1))) (lv' := [(4, .int (nI (i + 1))), (3, .int (nI i)), (0, .ref (gad G 0)), (1, .ref (gad G 32)), (2, .ref (gad G 33))]) hx hb dL_isEnded_36 hl (k := 4) rfl (nI_1 _) (by decide) rfl (fun ls hl => ?_)
              refine lv_goto (tgt := 5) hx hb dL_isEnded_39 (by decide) ?_
              have q_8 : (nI i) = (fiA σ n (i + 1)) := by first | (rw [fiA, if_pos (by assumption)]) | (rw [fiA, if_neg (by assumption)])
              exact W.widen (by omega) (by omega) (ih5 (i + 1) (by omega) (by omega) _ _ _ hw (lv_c (lv_at hl 2 rfl) (lv_c (lv_at hl 3 rfl) (lv_c (lv_at hl 4 rfl) (lv_c (lv_atq hl 1 rfl q_8) (lv_c (lv_at hl 0 rfl) (lv_c0 hl)))))))
    have q_9 : (-1) = (fiA σ n 0) := by first | rfl | (rw [decide_eq_true (by omega)]; rfl) | (rw [decide_eq_false (by omega)]; rfl) | (congr 1; omega)
    have q_10 : 0 = (nI 0) := by first | rfl | (rw [decide_eq_true (by omega)]; rfl) | (rw [decide_eq_false (by omega)]; rfl) | (congr 1; omega)
    exact W.widen (by omega) (by omega) (lab_5 (n - 0 + 1) 0 (by omega) (by omega) _ _ _ hw (lv_c (lv_at hl 2 rfl) (lv_c (lv_at hl 3 rfl) (lv_c (lv_at hl 4 rfl) (lv_c (lv_atq hl 1 rfl q_9) (lv_c (lv_atq hl 0 rfl q_10) (lv_c0 hl)))))))
  · skip
    refine lv_iconst (v := (-1)) hx hb dL_isEnded_0 (by decide) ?_
    refine lv_istore_n (lv' := [(3, .int (-1)), (0, .ref (gad G 0)), (1, .ref (gad G 32)), (2, .ref (gad G 33))]) hx hb dL_isEnded_1 rfl hl (by decide) rfl (fun ls hl => ?_)
    refine lv_iconst (v := 0) hx hb dL_isEnded_2 (by decide) ?_
    refine lv_istore (lv' := [(4, .int 0), (3, .int (-1)), (0, .ref (gad G 0)), (1, .ref (gad G 32)), (2, .ref (gad G 33))]) hx hb dL_isEnded_3 hl (by decide) rfl (fun ls hl => ?_)
    refine lv_iload hx hb dL_isEnded_5 (lv_at hl 0 rfl) ?_
    refine lv_aload_n hx hb dL_isEnded_7 rfl (lv_at hl 4 rfl) ?_
    refine lv_iconst (v := 2) hx hb dL_isEnded_8 (by decide) ?_
    refine lv_rep0 (x := 2) (y := nI 2) rfl ?_
    refine rAld hx hb fx hw 33 (hF.1 33 (by decide)) hF.2.1 (fun _ => rfl) 2 rfl (by omega) (by decide) dL_isEnded_9 ?_
    refine lv_rep0 (x := (σ 33 2)) (y := (nI n)) (pn hA).1 ?_
    refine lv_rep1 (x := 0) (y := nI 0) rfl ?_
    refine lv_icmp_ge (tgt := 42) hx hb dL_isEnded_10 (by decide) (fun c_11 => ?_) (fun c_11 => ?_)
    · skip
      have c_11 : n ≤ 0 := (nI_leI (by omega) (by omega)).mp c_11
      refine lv_bipush (v := 6) hx hb dL_isEnded_42 (by decide) ?_
      refine rNewI hx hb (hts (.arrayClass .int) (by decide +kernel)) fx hw hF.2.1 34 (by decide) hgl.1 (N' := 6) rfl (by decide) (by decide) (Nat.le_of_ble_eq_true rfl) (Nat.le_of_ble_eq_true rfl) (Nat.le_of_ble_eq_true rfl) dL_isEnded_44 (fun a34 H hG1 fx1 hw1 => ?_)
      have hl : lv_has ls 11 [(0, .ref (gad G 0)), (1, .ref (gad G 32)), (2, .ref (gad G 33)), (3, .int (-1))] := lv_sub hl [2, 3, 4, 1] rfl
      refine lv_astore (lv' := [(4, .ref a34), (0, .ref (gad G 0)), (1, .ref (gad G 32)), (2, .ref (gad G 33)), (3, .int (-1))]) hx hb dL_isEnded_46 hl (by decide) rfl (fun ls hl => ?_)
      refine lv_bipush (v := 6) hx hb dL_isEnded_48 (by decide) ?_
      have h35n : 35 ∉ gl (extG G 34 a34) := fun h9 => (List.mem_cons.mp h9).elim (fun h9 => absurd h9 (by decide)) hgl.2
      refine rNewI hx hb (hts (.arrayClass .int) (by decide +kernel)) fx1 hw1 hF.2.1 35 (by decide) h35n (N' := 6) rfl (by decide) (by decide) (Nat.le_of_ble_eq_true rfl) (Nat.le_of_ble_eq_true rfl) (Nat.le_of_ble_eq_true rfl) dL_isEnded_50 (fun a35 H hG2 fx2 hw2 => ?_)
      refine lv_astore (lv' := [(5, .ref a35), (4, .ref a34), (0, .ref (gad G 0)), (1, .ref (gad G 32)), (2, .ref (gad G 33)), (3, .int (-1))]) hx hb dL_isEnded_52 hl (by decide) rfl (fun ls hl => ?_)
      refine isEnded_rest l hlt G (extG (extG G 34 a34) 35 a35) hG2 ⟨fun c9 h9 => List.mem_cons_of_mem _ (List.mem_cons_of_mem _ (hF.1 c9 h9)), hF.2.1, hF.2.2.1, trivial, hF.2.2.2.2⟩ (List.mem_cons_of_mem _ List.mem_cons_self) List.mem_cons_self (fun σ9 H9 h9 => ?_) rfl _ (PAll_34 (fun c9 h9 => by rw [upA_n (by omega), upA_n (by omega)]) hA) (PGat_34 (fun c9 h9 => by rw [upA_n (by omega), upA_n (by omega)]) hGa) hj (v3 := (-1)) (fun h9 => absurd (hbo.symm.trans h9) (by decide)) hx hb hr hml hts hown hlocks fx2 hw2 (lv_sub hl [2, 3, 4, 5, 1, 0] rfl)
      rw [ext_tl (by decide) h35n, ext_tl (by decide) hgl.1] at h9
      exact P_tail (P_tail h9)
    · skip
      have c_11 : ¬ n ≤ 0 := fun h9 => c_11 ((nI_leI (by omega) (by omega)).mpr h9)
      refine lv_aload_n hx hb dL_isEnded_13 rfl (lv_at hl 4 rfl) ?_
      refine lv_iconst (v := 3) hx hb dL_isEnded_14 (by decide) ?_
      refine lv_rep0 (x := 3) (y := nI 3) rfl ?_
      refine rAld hx hb fx hw 33 (hF.1 33 (by decide)) hF.2.1 (fun _ => rfl) 3 rfl (by omega) (by decide) dL_isEnded_15 ?_
      refine lv_rep0 (x := (σ 33 3)) (y := 0) ((pon hA).trans (by rw [hbo]; rfl)) ?_
      refine lv_iconst (v := 1) hx hb dL_isEnded_16 (by decide) ?_
      refine lv_icmp_ne (tgt := 42) hx hb dL_isEnded_17 (by decide) (fun c_12 => ?_) (fun c_12 => ?_)
      · skip
        refine lv_bipush (v := 6) hx hb dL_isEnded_42 (by decide) ?_
        refine rNewI hx hb (hts (.arrayClass .int) (by decide +kernel)) fx hw hF.2.1 34 (by decide) hgl.1 (N' := 6) rfl (by decide) (by decide) (Nat.le_of_ble_eq_true rfl) (Nat.le_of_ble_eq_true rfl) (Nat.le_of_ble_eq_true rfl) dL_isEnded_44 (fun a34 H hG1 fx1 hw1 => ?_)
        have hl : lv_has ls 11 [(0, .ref (gad G 0)), (1, .ref (gad G 32)), (2, .ref (gad G 33)), (3, .int (-1))] := lv_sub hl [2, 3, 4, 1] rfl
        refine lv_astore (lv' := [(4, .ref a34), (0, .ref (gad G 0)), (1, .ref (gad G 32)), (2, .ref (gad G 33)), (3, .int (-1))]) hx hb dL_isEnded_46 hl (by decide) rfl (fun ls hl => ?_)
        refine lv_bipush (v := 6) hx hb dL_isEnded_48 (by decide) ?_
        have h35n : 35 ∉ gl (extG G 34 a34) := fun h9 => (List.mem_cons.mp h9).elim (fun h9 => absurd h9 (by decide)) hgl.2
        refine rNewI hx hb (hts (.arrayClass .int) (by decide +kernel)) fx1 hw1 hF.2.1 35 (by decide) h35n (N' := 6) rfl (by decide) (by decide) (Nat.le_of_ble_eq_true rfl) (Nat.le_of_ble_eq_true rfl) (Nat.le_of_ble_eq_true rfl) dL_isEnded_50 (fun a35 H hG2 fx2 hw2 => ?_)
        refine lv_astore (lv' := [(5, .ref a35), (4, .ref a34), (0, .ref (gad G 0)), (1, .ref (gad G 32)), (2, .ref (gad G 33)), (3, .int (-1))]) hx hb dL_isEnded_52 hl (by decide) rfl (fun ls hl => ?_)
        refine isEnded_rest l hlt G (extG (extG G 34 a34) 35 a35) hG2 ⟨fun c9 h9 => List.mem_cons_of_mem _ (List.mem_cons_of_mem _ (hF.1 c9 h9)), hF.2.1, hF.2.2.1, trivial, hF.2.2.2.2⟩ (List.mem_cons_of_mem _ List.mem_cons_self) List.mem_cons_self (fun σ9 H9 h9 => ?_) rfl _ (PAll_34 (fun c9 h9 => by rw [upA_n (by omega), upA_n (by omega)]) hA) (PGat_34 (fun c9 h9 => by rw [upA_n (by omega), upA_n (by omega)]) hGa) hj (v3 := (-1)) (fun h9 => absurd (hbo.symm.trans h9) (by decide)) hx hb hr hml hts hown hlocks fx2 hw2 (lv_sub hl [2, 3, 4, 5, 1, 0] rfl)
        rw [ext_tl (by decide) h35n, ext_tl (by decide) hgl.1] at h9
        exact P_tail (P_tail h9)
      · skip
        exact absurd c_12 (by decide)
