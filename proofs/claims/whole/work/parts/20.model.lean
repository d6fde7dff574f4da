def rmX6_thrown : Room := ({ frames := 0, cells := 0, slots := 0, locals := 0 } : Room)
set_option maxHeartbeats 4000000 in
set_option maxRecDepth 100000 in
theorem kX6_thrown (l : Launch) (G : Gx) (hG : gOk G) (hF : Full G) (σ : St)  : CtI l yX6_thrown wsX6_thrown rmX6_thrown G σ [.ref (gad G 31)] (fun r σ' => r = σ 31 25 ∧ σ' = σ) := by
  refine bgMet (cc := cX6_thrown) (maxL := 1) (ret := (some .int)) (own := RX6) (by decide) rfl rfl hG (Nat.le_of_ble_eq_true rfl) rfl ?_
  intro p e s m args below meth c ls Bd hl
  obtain ⟨hx, hb, hr, hml, hts, hown, hlocks, fx, hw⟩ := Bd
  have hl : lv_has ls 1 [(0, .ref (gad G 31))] := hl
  have hin : ∀ w ∈ wsX60, w ∈ wsX6_thrown := by decide +kernel
  refine lv_aload_n hx hb dX6_thrown_0 rfl (lv_at hl 0 rfl) ?_
  refine rGet (v := .int (σ 31 25)) (C := RX6) (T := TX6) (N := 26) hx hb fx hown hts hin hw 31 (hF.1 31 (by decide)) rfl rfl 25 (by decide) (hts (.fieldLink RX6 57 "LeaguewheelModel" "thrown" "I") (by decide +kernel)) (fun _ h9 => h9) rfl dX6_thrown_1 ?_
  exact rRetI hx hb hr hw (by exact ⟨by first | rfl | simp [bI, bI] | simp [bI, upA_n, upA_s, upA_upA, upA_self, upd_self, upd_upd, pk_us, bI], by first | rfl | simp [bI, upA_n, upA_s, upA_upA, upA_self, upd_self, upd_upd, pk_us, bI]⟩) hlocks dX6_thrown_4

def rmX6_fails : Room := ({ frames := 0, cells := 0, slots := 0, locals := 0 } : Room)
set_option maxHeartbeats 4000000 in
set_option maxRecDepth 100000 in
theorem kX6_fails (l : Launch) (G : Gx) (hG : gOk G) (hF : Full G) (σ : St) (w : Nat) (hw9 : w < 2 ^ 30)  : CtI l yX6_fails wsX6_fails rmX6_fails G σ [.ref (gad G 31), .int (nI w)] (fun r σ' => r = bI (!decide (w = 0)) ∧ σ' = thr σ w) := by
  refine bgMet (cc := cX6_fails) (maxL := 2) (ret := (some .boolean)) (own := RX6) (by decide) rfl rfl hG (Nat.le_of_ble_eq_true rfl) rfl ?_
  intro p e s m args below meth c ls Bd hl
  obtain ⟨hx, hb, hr, hml, hts, hown, hlocks, fx, hw⟩ := Bd
  have hl : lv_has ls 2 [(0, .ref (gad G 31)), (1, .int (nI w))] := hl
  have hin : ∀ w ∈ wsX60, w ∈ wsX6_fails := by decide +kernel
  refine lv_aload_n hx hb dX6_fails_0 rfl (lv_at hl 0 rfl) ?_
  refine lv_iload_n hx hb dX6_fails_1 rfl (lv_at hl 1 rfl) ?_
  refine rPut (v := (nI w)) (ty := .int) (C := RX6) (T := TX6) (N := 26) hx hb fx hown hts hin tyX6 tyX6_ok nmX6 hw 31 (hF.1 31 (by decide)) rfl rfl 25 (by decide) (hts (.fieldLink RX6 57 "LeaguewheelModel" "thrown" "I") (by decide +kernel)) (fun _ h9 => h9) rfl (by decide +kernel) rfl rfl (Nat.le_of_ble_eq_true rfl) rfl dX6_fails_2 (fun H locs hw => ?_)
  obtain ⟨σ_1, eσ_1⟩ : ∃ w9, w9 = upA σ 31 (upd (σ 31) 25 (nI w)) := ⟨_, rfl⟩
  rw [← eσ_1] at hw
  refine lv_iload_n hx hb dX6_fails_5 rfl (lv_at hl 1 rfl) ?_
  refine lv_if_le (tgt := 13) hx hb dX6_fails_6 (by decide) (fun c_2 => ?_) (fun c_2 => ?_)
  · skip
    have c_2 : w = 0 := n0_let (by omega) c_2
    refine lv_iconst (v := 0) hx hb dX6_fails_13 (by decide) ?_
    subst eσ_1
    exact rRetZ hx hb hr hw (by decide) (by exact ⟨by simp [bI, c_2]; try omega, rfl⟩) hlocks dX6_fails_14
  · skip
    have c_2 : 0 < w := n0_lef (by omega) c_2
    refine lv_iconst (v := 1) hx hb dX6_fails_9 (by decide) ?_
    refine lv_goto (tgt := 14) hx hb dX6_fails_10 (by decide) ?_
    subst eσ_1
    exact rRetZ hx hb hr hw (by decide) (by exact ⟨by simp [bI, c_2]; try omega, rfl⟩) hlocks dX6_fails_14

def rmX6_tells : Room := ({ frames := 0, cells := 0, slots := 0, locals := 0 } : Room)
set_option maxHeartbeats 4000000 in
set_option maxRecDepth 100000 in
theorem kX6_tells (l : Launch) (G : Gx) (hG : gOk G) (hF : Full G) (σ : St) (x : Int32)  : CtI l yX6_tells wsX6_tells rmX6_tells G σ [.ref (gad G 31), .int x] (fun r σ' => r = x ∧ σ' = thr σ 0) := by
  refine bgMet (cc := cX6_tells) (maxL := 2) (ret := (some .int)) (own := RX6) (by decide) rfl rfl hG (Nat.le_of_ble_eq_true rfl) rfl ?_
  intro p e s m args below meth c ls Bd hl
  obtain ⟨hx, hb, hr, hml, hts, hown, hlocks, fx, hw⟩ := Bd
  have hl : lv_has ls 2 [(0, .ref (gad G 31)), (1, .int x)] := hl
  have hin : ∀ w ∈ wsX60, w ∈ wsX6_tells := by decide +kernel
  refine lv_aload_n hx hb dX6_tells_0 rfl (lv_at hl 0 rfl) ?_
  refine lv_iconst (v := 0) hx hb dX6_tells_1 (by decide) ?_
  refine rPut (v := 0) (ty := .int) (C := RX6) (T := TX6) (N := 26) hx hb fx hown hts hin tyX6 tyX6_ok nmX6 hw 31 (hF.1 31 (by decide)) rfl rfl 25 (by decide) (hts (.fieldLink RX6 57 "LeaguewheelModel" "thrown" "I") (by decide +kernel)) (fun _ h9 => h9) rfl (by decide +kernel) rfl rfl (Nat.le_of_ble_eq_true rfl) rfl dX6_tells_2 (fun H locs hw => ?_)
  obtain ⟨σ_1, eσ_1⟩ : ∃ w9, w9 = upA σ 31 (upd (σ 31) 25 0) := ⟨_, rfl⟩
  rw [← eσ_1] at hw
  refine lv_iload_n hx hb dX6_tells_5 rfl (lv_at hl 1 rfl) ?_
  subst eσ_1
  exact rRetI hx hb hr hw (by exact ⟨rfl, rfl⟩) hlocks dX6_tells_6

def rmX6_isIn : Room := ({ frames := 0, cells := 0, slots := 0, locals := 0 } : Room)
set_option maxHeartbeats 4000000 in
set_option maxRecDepth 100000 in
theorem kX6_isIn (l : Launch) (G : Gx) (hG : gOk G) (hF : Full G) (σ : St) (x y w : Int32)  : CtI l yX6_isIn wsX6_isIn rmX6_isIn G σ [.int x, .int y, .int w] (fun r σ' => r = bI (inR x y w) ∧ σ' = σ) := by
  refine bgMet (cc := cX6_isIn) (maxL := 3) (ret := (some .boolean)) (own := RX6) (by decide) rfl rfl hG (Nat.le_of_ble_eq_true rfl) rfl ?_
  intro p e s m args below meth c ls Bd hl
  obtain ⟨hx, hb, hr, hml, hts, hown, hlocks, fx, hw⟩ := Bd
  have hl : lv_has ls 3 [(0, .int x), (1, .int y), (2, .int w)] := hl
  refine lv_iload_n hx hb dX6_isIn_0 rfl (lv_at hl 0 rfl) ?_
  refine lv_iload_n hx hb dX6_isIn_1 rfl (lv_at hl 1 rfl) ?_
  refine lv_icmp_lt (tgt := 14) hx hb dX6_isIn_2 (by decide) (fun c_1 => ?_) (fun c_1 => ?_)
  · skip
    refine lv_iconst (v := 0) hx hb dX6_isIn_14 (by decide) ?_
    exact rRetZ hx hb hr hw (by decide) (by exact ⟨by simp [inR, bI, c_1]; try exact Int32.not_lt.mp c_1, rfl⟩) hlocks dX6_isIn_15
  · skip
    refine lv_iload_n hx hb dX6_isIn_5 rfl (lv_at hl 0 rfl) ?_
    refine lv_iload_n hx hb dX6_isIn_6 rfl (lv_at hl 2 rfl) ?_
    refine lv_icmp_gt (tgt := 14) hx hb dX6_isIn_7 (by decide) (fun c_2 => ?_) (fun c_2 => ?_)
    · skip
      refine lv_iconst (v := 0) hx hb dX6_isIn_14 (by decide) ?_
      exact rRetZ hx hb hr hw (by decide) (by exact ⟨by simp [inR, bI, c_1, c_2]; try exact Int32.not_lt.mp c_2, rfl⟩) hlocks dX6_isIn_15
    · skip
      refine lv_iconst (v := 1) hx hb dX6_isIn_10 (by decide) ?_
      refine lv_goto (tgt := 15) hx hb dX6_isIn_11 (by decide) ?_
      exact rRetZ hx hb hr hw (by decide) (by exact ⟨by simp [inR, bI, c_1, c_2]; try exact Int32.not_lt.mp c_2, rfl⟩) hlocks dX6_isIn_15

def rmX6_isGate : Room := ({ frames := 1, cells := 0, slots := 0, locals := 22 } : Room)
set_option maxHeartbeats 4000000 in
set_option maxRecDepth 100000 in
theorem kX6_isGate (l : Launch) (G : Gx) (hG : gOk G) (hF : Full G) (σ : St) (x : Int32) (g : Nat) (hmg : σ 31 0 = nI g) (hmg2 : g ≤ 12)  : CtI l yX6_isGate wsX6_isGate rmX6_isGate G σ [.ref (gad G 31), .int x] (fun r σ' => r = bI (inB x g) ∧ σ' = σ) := by
  refine bgMet (cc := cX6_isGate) (maxL := 2) (ret := (some .boolean)) (own := RX6) (by decide) rfl rfl hG (Nat.le_of_ble_eq_true rfl) rfl ?_
  intro p e s m args below meth c ls Bd hl
  obtain ⟨hx, hb, hr, hml, hts, hown, hlocks, fx, hw⟩ := Bd
  have hl : lv_has ls 2 [(0, .ref (gad G 31)), (1, .int x)] := hl
  have hin : ∀ w ∈ wsX60, w ∈ wsX6_isGate := by decide +kernel
  refine lv_iload_n hx hb dX6_isGate_0 rfl (lv_at hl 1 rfl) ?_
  refine lv_iconst (v := 0) hx hb dX6_isGate_1 (by decide) ?_
  refine lv_aload_n hx hb dX6_isGate_2 rfl (lv_at hl 0 rfl) ?_
  refine rGet (v := .int (σ 31 0)) (C := RX6) (T := TX6) (N := 26) hx hb fx hown hts hin hw 31 (hF.1 31 (by decide)) rfl rfl 0 (by decide) (hts (.fieldLink RX6 7 "LeaguewheelModel" "gates" "I") (by decide +kernel)) (fun _ h9 => h9) rfl dX6_isGate_3 ?_
  refine lv_rep0 (x := (σ 31 0)) (y := nI g) (by exact hmg) ?_
  refine lv_iconst (v := 1) hx hb dX6_isGate_6 (by decide) ?_
  refine lv_rep0 (x := 1) (y := nI 1) rfl ?_
  refine lv_isub hx hb dX6_isGate_7 ?_
  refine lv_rep0 (x := ((nI g) - (nI 1))) (y := (nI g - 1)) (by rfl) ?_
  refine rCallS (As := [.int x, .int 0, .int (nI g - 1)]) (rest := []) ⟨hx, hb, hml, hown, hts⟩ fx hw (kX6_isIn l G hG hF σ x 0 ((nI g - 1))) (va_cwS 3 hts gX6_isGate_X6_isIn rfl rfl rfl (by decide +kernel) ⟨Nat.le_of_ble_eq_true rfl, Nat.le_of_ble_eq_true rfl⟩) rfl hl.1 rfl (Nat.le_of_ble_eq_true rfl) dX6_isGate_8 ⟨Nat.zero_le _, Nat.zero_le _⟩ ?_
  intro r_2 σ_3 H locs p_1 hw
  obtain ⟨er_2, eσ_3⟩ := p_1
  have er_2 := er_2.symm; subst er_2
  have eσ_3 := eσ_3.symm; subst eσ_3
  refine lv_rep0 (x := (bI (inR x 0 (nI g - 1)))) (y := (bI (inB x g))) (by rw [inR_inB (by omega)]) ?_
  exact rRetZ hx hb hr hw (nar_bI _) (by exact ⟨by first | rfl | simp [bI, bI] | simp [bI, upA_n, upA_s, upA_upA, upA_self, upd_self, upd_upd, pk_us, bI], by first | rfl | simp [bI, upA_n, upA_s, upA_upA, upA_self, upd_self, upd_upd, pk_us, bI]⟩) hlocks dX6_isGate_11

def rmX6_isKart : Room := ({ frames := 1, cells := 0, slots := 0, locals := 22 } : Room)
set_option maxHeartbeats 4000000 in
set_option maxRecDepth 100000 in
theorem kX6_isKart (l : Launch) (G : Gx) (hG : gOk G) (hF : Full G) (σ : St) (x : Int32) (n : Nat) (hmn : σ 31 4 = nI n) (hmn6 : n ≤ 6)  : CtI l yX6_isKart wsX6_isKart rmX6_isKart G σ [.ref (gad G 31), .int x] (fun r σ' => r = bI (inB x n) ∧ σ' = σ) := by
  refine bgMet (cc := cX6_isKart) (maxL := 2) (ret := (some .boolean)) (own := RX6) (by decide) rfl rfl hG (Nat.le_of_ble_eq_true rfl) rfl ?_
  intro p e s m args below meth c ls Bd hl
  obtain ⟨hx, hb, hr, hml, hts, hown, hlocks, fx, hw⟩ := Bd
  have hl : lv_has ls 2 [(0, .ref (gad G 31)), (1, .int x)] := hl
  have hin : ∀ w ∈ wsX60, w ∈ wsX6_isKart := by decide +kernel
  refine lv_iload_n hx hb dX6_isKart_0 rfl (lv_at hl 1 rfl) ?_
  refine lv_iconst (v := 0) hx hb dX6_isKart_1 (by decide) ?_
  refine lv_aload_n hx hb dX6_isKart_2 rfl (lv_at hl 0 rfl) ?_
  refine rGet (v := .int (σ 31 4)) (C := RX6) (T := TX6) (N := 26) hx hb fx hown hts hin hw 31 (hF.1 31 (by decide)) rfl rfl 4 (by decide) (hts (.fieldLink RX6 64 "LeaguewheelModel" "karts" "I") (by decide +kernel)) (fun _ h9 => h9) rfl dX6_isKart_3 ?_
  refine lv_rep0 (x := (σ 31 4)) (y := nI n) (by exact hmn) ?_
  refine lv_iconst (v := 1) hx hb dX6_isKart_6 (by decide) ?_
  refine lv_rep0 (x := 1) (y := nI 1) rfl ?_
  refine lv_isub hx hb dX6_isKart_7 ?_
  refine lv_rep0 (x := ((nI n) - (nI 1))) (y := (nI n - 1)) (by rfl) ?_
  refine rCallS (As := [.int x, .int 0, .int (nI n - 1)]) (rest := []) ⟨hx, hb, hml, hown, hts⟩ fx hw (kX6_isIn l G hG hF σ x 0 ((nI n - 1))) (va_cwS 3 hts gX6_isKart_X6_isIn rfl rfl rfl (by decide +kernel) ⟨Nat.le_of_ble_eq_true rfl, Nat.le_of_ble_eq_true rfl⟩) rfl hl.1 rfl (Nat.le_of_ble_eq_true rfl) dX6_isKart_8 ⟨Nat.zero_le _, Nat.zero_le _⟩ ?_
  intro r_2 σ_3 H locs p_1 hw
  obtain ⟨er_2, eσ_3⟩ := p_1
  have er_2 := er_2.symm; subst er_2
  have eσ_3 := eσ_3.symm; subst eσ_3
  refine lv_rep0 (x := (bI (inR x 0 (nI n - 1)))) (y := (bI (inB x n))) (by rw [inR_inB (by omega)]) ?_
  exact rRetZ hx hb hr hw (nar_bI _) (by exact ⟨by first | rfl | simp [bI, bI] | simp [bI, upA_n, upA_s, upA_upA, upA_self, upd_self, upd_upd, pk_us, bI], by first | rfl | simp [bI, upA_n, upA_s, upA_upA, upA_self, upd_self, upd_upd, pk_us, bI]⟩) hlocks dX6_isKart_11

def rmX6_finds : Room := ({ frames := 0, cells := 0, slots := 0, locals := 0 } : Room)
set_option maxHeartbeats 4000000 in
set_option maxRecDepth 100000 in
theorem kX6_finds (l : Launch) (G : Gx) (hG : gOk G) (hF : Full G) (σ : St) (g : Nat) (hmg : σ 31 0 = nI g) (hmg2 : g ≤ 12)  : CtV l yX6_finds wsX6_finds rmX6_finds G σ [.ref (gad G 31)] (fun σ' => σ' = upA σ 33 (moA (σ 32) (σ 33) g g)) := by
  refine bgMet (cc := cX6_finds) (maxL := 6) (ret := none) (own := RX6) (by decide) rfl rfl hG (Nat.le_of_ble_eq_true rfl) rfl ?_
  intro p e s m args below meth c ls Bd hl
  obtain ⟨hx, hb, hr, hml, hts, hown, hlocks, fx, hw⟩ := Bd
  have hl : lv_has ls 6 [(0, .ref (gad G 31))] := hl
  have hin : ∀ w ∈ wsX60, w ∈ wsX6_finds := by decide +kernel
  refine lv_aload_n hx hb dX6_finds_0 rfl (lv_at hl 0 rfl) ?_
  refine rGet (v := .int (σ 31 0)) (C := RX6) (T := TX6) (N := 26) hx hb fx hown hts hin hw 31 (hF.1 31 (by decide)) rfl rfl 0 (by decide) (hts (.fieldLink RX6 7 "LeaguewheelModel" "gates" "I") (by decide +kernel)) (fun _ h9 => h9) rfl dX6_finds_1 ?_
  refine lv_rep0 (x := (σ 31 0)) (y := nI g) (by exact hmg) ?_
  refine lv_iconst (v := 1) hx hb dX6_finds_4 (by decide) ?_
  refine lv_rep0 (x := 1) (y := nI 1) rfl ?_
  refine lv_isub hx hb dX6_finds_5 ?_
  refine lv_istore_n (lv' := [(1, .int ((nI g) - (nI 1))), (0, .ref (gad G 31))]) hx hb dX6_finds_6 rfl hl (by decide) rfl (fun ls hl => ?_)
  have lab_7 : ∀ (n9 : Nat), ∀ (k : Nat), g - k < n9 → k ≤ g → ∀ (H : Heap) (locs : List Loc) (ls : Array Slot), Wd G s (upA σ 33 (moA (σ 32) (σ 33) g k)) H locs → lv_has ls 6 [(0, .ref (gad G 31)), (1, .int (nI (g - k) - 1))] → W p l e rmX6_finds s m args below meth c H locs 0 0 (MQ below (va_Qv (fun σ' => σ' = upA σ 33 (moA (σ 32) (σ 33) g g)) (BW G) (gA G)) args s 0 0 (gA G)) (F0 m 7 ls []) := by
    intro n9
    induction n9 with
    | zero => intro k hn9; exact absurd hn9 (Nat.not_lt_zero _)
    | succ n9 ih7 =>
      intro k hn9 h7_0 H locs ls hw hl
      obtain ⟨σ_1, eσ_1⟩ : ∃ w9, w9 = upA σ 33 (moA (σ 32) (σ 33) g k) := ⟨_, rfl⟩
      rw [← eσ_1] at hw
      refine lv_iload_n hx hb dX6_finds_7 rfl (lv_at hl 1 rfl) ?_
      refine lv_if_lt (tgt := 121) hx hb dX6_finds_8 (by decide) (fun c_2 => ?_) (fun c_2 => ?_)
      · skip
        subst eσ_1
        exact rRetV hx hb hr hw (by rw [show g = k by rcases Nat.lt_or_ge k g with qz | qz; exact absurd (show ¬ nI (g - k) - 1 < 0 by rw [show g - k = (g - 1 - k) + 1 by omega, nI_pred]; exact nI_pos (by omega)) (fun h => h c_2); omega]) hlocks dX6_finds_121
      · skip
        have hk9 : k < g := by rcases Nat.lt_or_ge k g with qz | qz; exact qz; exact absurd (show nI (g - k) - 1 < 0 by rw [show g - k = 0 by omega]; decide) c_2
        have q_3 : (nI (g - k) - 1) = (nI (g - 1 - k)) := by rw [show g - k = (g - 1 - k) + 1 by omega, nI_pred]
        have hl : lv_has ls 6 [(0, .ref (gad G 31)), (1, .int (nI (g - 1 - k)))] := (lv_c (lv_at hl 0 rfl) (lv_c (lv_atq hl 1 rfl q_3) (lv_c0 hl)))
        refine lv_iconst (v := (-1)) hx hb dX6_finds_11 (by decide) ?_
        refine lv_istore_n (lv' := [(2, .int (-1)), (0, .ref (gad G 31)), (1, .int (nI (g - 1 - k)))]) hx hb dX6_finds_12 rfl hl (by decide) rfl (fun ls hl => ?_)
        refine lv_iconst (v := 0) hx hb dX6_finds_13 (by decide) ?_
        refine lv_istore_n (lv' := [(3, .int 0), (2, .int (-1)), (0, .ref (gad G 31)), (1, .int (nI (g - 1 - k)))]) hx hb dX6_finds_14 rfl hl (by decide) rfl (fun ls hl => ?_)
        have lab_15 : ∀ (n9 : Nat), ∀ (j : Nat), g - j < n9 → j ≤ g → ∀ (H : Heap) (locs : List Loc) (ls : Array Slot), Wd G s σ_1 H locs → lv_has ls 6 [(0, .ref (gad G 31)), (1, .int (nI (g - 1 - k))), (2, .int (frA (σ 32) (moA (σ 32) (σ 33) g k) (g - 1 - k) j)), (3, .int (nI j))] → W p l e rmX6_finds s m args below meth c H locs 0 0 (MQ below (va_Qv (fun σ' => σ' = upA σ 33 (moA (σ 32) (σ 33) g g)) (BW G) (gA G)) args s 0 0 (gA G)) (F0 m 15 ls []) := by
          intro n9
          induction n9 with
          | zero => intro j hn9; exact absurd hn9 (Nat.not_lt_zero _)
          | succ n9 ih15 =>
            intro j hn9 h15_0 H locs ls hw hl
            refine lv_iload_n hx hb dX6_finds_15 rfl (lv_at hl 3 rfl) ?_
            refine lv_aload_n hx hb dX6_finds_16 rfl (lv_at hl 0 rfl) ?_
            refine rGet (v := .int (σ_1 31 0)) (C := RX6) (T := TX6) (N := 26) hx hb fx hown hts hin hw 31 (hF.1 31 (by decide)) rfl rfl 0 (by decide) (hts (.fieldLink RX6 7 "LeaguewheelModel" "gates" "I") (by decide +kernel)) (fun _ h9 => h9) rfl dX6_finds_17 ?_
            refine lv_rep0 (x := (σ_1 31 0)) (y := nI g) (by subst_vars; rw [upA_n (by decide)]; exact hmg) ?_
            refine lv_icmp_ge (tgt := 108) hx hb dX6_finds_20 (by decide) (fun c_4 => ?_) (fun c_4 => ?_)
            · skip
              have c_4 : g ≤ j := (nI_leI (by omega) (by omega)).mp c_4
              refine lv_aload_n hx hb dX6_finds_108 rfl (lv_at hl 0 rfl) ?_
              refine rGet (v := .ref (gad G 33)) (C := RX6) (T := TX6) (N := 26) hx hb fx hown hts hin hw 31 (hF.1 31 (by decide)) rfl rfl 3 (by decide) (hts (.fieldLink RX6 17 "LeaguewheelModel" "rest" "[I") (by decide +kernel)) (fun _ h9 => h9) rfl dX6_finds_109 ?_
              refine lv_iload_n hx hb dX6_finds_112 rfl (lv_at hl 1 rfl) ?_
              refine lv_iload_n hx hb dX6_finds_113 rfl (lv_at hl 2 rfl) ?_
              refine rAst (x := (frA (σ 32) (moA (σ 32) (σ 33) g k) (g - 1 - k) j)) hx hb fx hw 33 (hF.1 33 (by decide)) hF.2.1 (fun _ => rfl) (g - 1 - k) rfl (by omega) (by decide) dX6_finds_114 (fun H locs hw => ?_)
              obtain ⟨σ_5, eσ_5⟩ : ∃ w9, w9 = upA σ_1 33 (upd (σ_1 33) (g - 1 - k) (frA (σ 32) (moA (σ 32) (σ 33) g k) (g - 1 - k) j)) := ⟨_, rfl⟩
              rw [← eσ_5] at hw
              refine lv_iinc (v := ((nI (g - 1 - k)) + (-1))) (lv' := [(1, .int ((nI (g - 1 - k)) + (-1))), (0, .ref (gad G 31)), (2, .int (frA (σ 32) (moA (σ 32) (σ 33) g k) (g - 1 - k) j)), (3, .int (nI j))]) hx hb dX6_finds_115 hl (k := 1) rfl (rfl) (by decide) rfl (fun ls hl => ?_)
              refine lv_goto (tgt := 7) hx hb dX6_finds_118 (by decide) ?_
              have q_6 : ((nI (g - 1 - k)) + (-1)) = (nI (g - (k + 1)) - 1) := by rw [show g - (k + 1) = g - 1 - k by omega, Int32.sub_eq_add_neg]
              have q_7 : σ_5 = upA σ 33 (moA (σ 32) (σ 33) g (k + 1)) := by subst eσ_5 eσ_1; simp only [upA_s, upA_upA]; rw [show j = g by omega]; rfl
              rw [q_7] at hw
              exact ih7 (k + 1) (by omega) (by omega) _ _ _ hw (lv_c (lv_at hl 1 rfl) (lv_c (lv_atq hl 0 rfl q_6) (lv_c0 hl)))
            · skip
              have c_4 : ¬ g ≤ j := fun h9 => c_4 ((nI_leI (by omega) (by omega)).mpr h9)
              refine lv_aload_n hx hb dX6_finds_23 rfl (lv_at hl 0 rfl) ?_
              refine rGet (v := .ref (gad G 32)) (C := RX6) (T := TX6) (N := 26) hx hb fx hown hts hin hw 31 (hF.1 31 (by decide)) rfl rfl 2 (by decide) (hts (.fieldLink RX6 13 "LeaguewheelModel" "length" "[I") (by decide +kernel)) (fun _ h9 => h9) rfl dX6_finds_24 ?_
              refine lv_bipush (v := 12) hx hb dX6_finds_27 (by decide) ?_
              refine lv_iload_n hx hb dX6_finds_29 rfl (lv_at hl 1 rfl) ?_
              refine lv_rep1 (x := 12) (y := nI 12) rfl ?_
              refine lv_imul hx hb dX6_finds_30 ?_
              refine lv_rep0 (x := ((nI 12) * (nI (g - 1 - k)))) (y := nI (12 * (g - 1 - k))) (pk_mul _ _) ?_
              refine lv_iload_n hx hb dX6_finds_31 rfl (lv_at hl 3 rfl) ?_
              refine lv_iadd hx hb dX6_finds_32 ?_
              refine lv_rep0 (x := ((nI (12 * (g - 1 - k))) + (nI j))) (y := nI ((12 * (g - 1 - k)) + j)) (nI_add _ _) ?_
              refine lv_rep0 (x := (nI ((12 * (g - 1 - k)) + j))) (y := nI ((g - 1 - k) * 12 + j)) (by rw [Nat.mul_comm 12]) ?_
              refine rAld hx hb fx hw 32 (hF.1 32 (by decide)) hF.2.1 (fun _ => rfl) ((g - 1 - k) * 12 + j) rfl (by omega) (by decide) dX6_finds_33 ?_
              refine lv_rep0 (x := (σ_1 32 ((g - 1 - k) * 12 + j))) (y := (σ 32 ((g - 1 - k) * 12 + j))) (by subst_vars; rw [upA_n (by decide)]) ?_
              refine lv_istore (lv' := [(4, .int (σ 32 ((g - 1 - k) * 12 + j))), (0, .ref (gad G 31)), (1, .int (nI (g - 1 - k))), (2, .int (frA (σ 32) (moA (σ 32) (σ 33) g k) (g - 1 - k) j)), (3, .int (nI j))]) hx hb dX6_finds_34 hl (by decide) rfl (fun ls hl => ?_)
              refine lv_iload hx hb dX6_finds_36 (lv_at hl 0 rfl) ?_
              have lab_76 : ∀ (H : Heap) (locs : List Loc) (ls : Array Slot), Wd G s σ_1 H locs → lv_has ls 6 [(0, .ref (gad G 31)), (1, .int (nI (g - 1 - k))), (2, .int (frA (σ 32) (moA (σ 32) (σ 33) g k) (g - 1 - k) j)), (3, .int (nI j)), (4, .int (σ 32 ((g - 1 - k) * 12 + j)))] → W p l e rmX6_finds s m args below meth c H locs 0 0 (MQ below (va_Qv (fun σ' => σ' = upA σ 33 (moA (σ 32) (σ 33) g g)) (BW G) (gA G)) args s 0 0 (gA G)) (F0 m 76 ls [.int (itsA (σ 32) (moA (σ 32) (σ 33) g k) (g - 1 - k) j)]) := by
                intro   H locs ls hw hl
                refine lv_istore (lv' := [(5, .int (itsA (σ 32) (moA (σ 32) (σ 33) g k) (g - 1 - k) j)), (0, .ref (gad G 31)), (1, .int (nI (g - 1 - k))), (2, .int (frA (σ 32) (moA (σ 32) (σ 33) g k) (g - 1 - k) j)), (3, .int (nI j)), (4, .int (σ 32 ((g - 1 - k) * 12 + j)))]) hx hb dX6_finds_76 hl (by decide) rfl (fun ls hl => ?_)
                have lab_101 : ∀ (H : Heap) (locs : List Loc) (ls : Array Slot), Wd G s σ_1 H locs → lv_has ls 6 [(0, .ref (gad G 31)), (1, .int (nI (g - 1 - k))), (3, .int (nI j))] → W p l e rmX6_finds s m args below meth c H locs 0 0 (MQ below (va_Qv (fun σ' => σ' = upA σ 33 (moA (σ 32) (σ 33) g g)) (BW G) (gA G)) args s 0 0 (gA G)) (F0 m 101 ls [.int (frA (σ 32) (moA (σ 32) (σ 33) g k) (g - 1 - k) (j + 1))]) := by
                  intro   H locs ls hw hl
                  refine lv_istore_n (lv' := [(2, .int (frA (σ 32) (moA (σ 32) (σ 33) g k) (g - 1 - k) (j + 1))), (0, .ref (gad G 31)), (1, .int (nI (g - 1 - k))), (3, .int (nI j))]) hx hb dX6_finds_101 rfl hl (by decide) rfl (fun ls hl => ?_)
                  refine lv_iinc (v := (nI (j + 1))) (lv' := [(3, .int (nI (j + 1))), (2, .int (frA (σ 32) (moA (σ 32) (σ 33) g k) (g - 1 - k) (j + 1))), (0, .ref (gad G 31)), (1, .int (nI (g - 1 - k)))]) hx hb dX6_finds_102 hl (k := 3) rfl (nI_1 _) (by decide) rfl (fun ls hl => ?_)
                  refine lv_goto (tgt := 15) hx hb dX6_finds_105 (by decide) ?_
                  exact ih15 (j + 1) (by omega) (by omega) _ _ _ hw (lv_c (lv_at hl 2 rfl) (lv_c (lv_at hl 3 rfl) (lv_c (lv_at hl 1 rfl) (lv_c (lv_at hl 0 rfl) (lv_c0 hl)))))
                refine lv_iload hx hb dX6_finds_78 (lv_at hl 0 rfl) ?_
                refine lv_iconst (v := (-1)) hx hb dX6_finds_80 (by decide) ?_
                refine lv_icmp_eq (tgt := 100) hx hb dX6_finds_81 (by decide) (fun c_8 => ?_) (fun c_8 => ?_)
                · skip
                  refine lv_iload_n hx hb dX6_finds_100 rfl (lv_at hl 3 rfl) ?_
                  have q_9 : (frA (σ 32) (moA (σ 32) (σ 33) g k) (g - 1 - k) j) = (frA (σ 32) (moA (σ 32) (σ 33) g k) (g - 1 - k) (j + 1)) := by first | rfl | (rw [frA]; first | (simp [c_2, c_4, c_8]; done) | (simp [c_2, c_4, c_8, Int32.not_lt.mpr c_8]; done))
                  refine lv_rep0 q_9 ?_
                  exact lab_101   _ _ _ hw (lv_c (lv_at hl 1 rfl) (lv_c (lv_at hl 2 rfl) (lv_c (lv_at hl 4 rfl) (lv_c0 hl))))
                · skip
                  refine lv_iload_n hx hb dX6_finds_84 rfl (lv_at hl 3 rfl) ?_
                  refine lv_iconst (v := (-1)) hx hb dX6_finds_85 (by decide) ?_
                  refine lv_icmp_eq (tgt := 95) hx hb dX6_finds_86 (by decide) (fun c_10 => ?_) (fun c_10 => ?_)
                  · skip
                    refine lv_iload hx hb dX6_finds_95 (lv_at hl 0 rfl) ?_
                    refine lv_goto (tgt := 101) hx hb dX6_finds_97 (by decide) ?_
                    have q_11 : (itsA (σ 32) (moA (σ 32) (σ 33) g k) (g - 1 - k) j) = (frA (σ 32) (moA (σ 32) (σ 33) g k) (g - 1 - k) (j + 1)) := by first | rfl | (rw [frA]; first | (simp [c_2, c_4, c_8, c_10]; done) | (simp [c_2, c_4, c_8, c_10, Int32.not_lt.mpr c_10]; done))
                    refine lv_rep0 q_11 ?_
                    exact lab_101   _ _ _ hw (lv_c (lv_at hl 1 rfl) (lv_c (lv_at hl 2 rfl) (lv_c (lv_at hl 4 rfl) (lv_c0 hl))))
                  · skip
                    refine lv_iload hx hb dX6_finds_89 (lv_at hl 0 rfl) ?_
                    refine lv_iload_n hx hb dX6_finds_91 rfl (lv_at hl 3 rfl) ?_
                    refine lv_icmp_ge (tgt := 100) hx hb dX6_finds_92 (by decide) (fun c_12 => ?_) (fun c_12 => ?_)
                    · skip
                      refine lv_iload_n hx hb dX6_finds_100 rfl (lv_at hl 3 rfl) ?_
                      have q_13 : (frA (σ 32) (moA (σ 32) (σ 33) g k) (g - 1 - k) j) = (frA (σ 32) (moA (σ 32) (σ 33) g k) (g - 1 - k) (j + 1)) := by first | rfl | (rw [frA]; first | (simp [c_2, c_4, c_8, c_10, c_12]; done) | (simp [c_2, c_4, c_8, c_10, c_12, Int32.not_lt.mpr c_12]; done))
                      refine lv_rep0 q_13 ?_
                      exact lab_101   _ _ _ hw (lv_c (lv_at hl 1 rfl) (lv_c (lv_at hl 2 rfl) (lv_c (lv_at hl 4 rfl) (lv_c0 hl))))
                    · skip
                      refine lv_iload hx hb dX6_finds_95 (lv_at hl 0 rfl) ?_
                      refine lv_goto (tgt := 101) hx hb dX6_finds_97 (by decide) ?_
                      have q_14 : (itsA (σ 32) (moA (σ 32) (σ 33) g k) (g - 1 - k) j) = (frA (σ 32) (moA (σ 32) (σ 33) g k) (g - 1 - k) (j + 1)) := by first | rfl | (rw [frA]; first | (simp [c_2, c_4, c_8, c_10, c_12]; done) | (simp [c_2, c_4, c_8, c_10, c_12, Int32.not_lt.mpr c_12]; done))
                      refine lv_rep0 q_14 ?_
                      exact lab_101   _ _ _ hw (lv_c (lv_at hl 1 rfl) (lv_c (lv_at hl 2 rfl) (lv_c (lv_at hl 4 rfl) (lv_c0 hl))))
              refine lv_if_eq (tgt := 55) hx hb dX6_finds_38 (by decide) (fun c_15 => ?_) (fun c_15 => ?_)
              · skip
                refine lv_iconst (v := (-1)) hx hb dX6_finds_55 (by decide) ?_
                refine lv_goto (tgt := 76) hx hb dX6_finds_56 (by decide) ?_
                have q_16 : (-1) = (itsA (σ 32) (moA (σ 32) (σ 33) g k) (g - 1 - k) j) := by first | rfl | (first | (exfalso; omega) | (unfold itsA; simp [c_2, c_4, c_15]; done) | (unfold itsA; rw [if_neg (fun h9 => h9.elim (fun h8 => absurd h8 (by assumption)) (fun h8 => absurd h8.1 (by omega))), if_neg (by omega)]; simp))
                refine lv_rep0 q_16 ?_
                exact lab_76   _ _ _ hw (lv_c (lv_at hl 1 rfl) (lv_c (lv_at hl 2 rfl) (lv_c (lv_at hl 3 rfl) (lv_c (lv_at hl 4 rfl) (lv_c (lv_at hl 0 rfl) (lv_c0 hl))))))
              · skip
                refine lv_iload_n hx hb dX6_finds_41 rfl (lv_at hl 4 rfl) ?_
                refine lv_if_le (tgt := 59) hx hb dX6_finds_42 (by decide) (fun c_17 => ?_) (fun c_17 => ?_)
                · skip
                  have c_17 : j = 0 := n0_let (by omega) c_17
                  refine lv_iload hx hb dX6_finds_59 (lv_at hl 0 rfl) ?_
                  refine lv_iload_n hx hb dX6_finds_61 rfl (lv_at hl 4 rfl) ?_
                  refine lv_if_le (tgt := 74) hx hb dX6_finds_62 (by decide) (fun c_18 => ?_) (fun c_18 => ?_)
                  · skip
                    have c_18 : j = 0 := n0_let (by omega) c_18
                    refine lv_iconst (v := 0) hx hb dX6_finds_74 (by decide) ?_
                    refine lv_iadd hx hb dX6_finds_75 ?_
                    have q_19 : ((σ 32 ((g - 1 - k) * 12 + j)) + 0) = (itsA (σ 32) (moA (σ 32) (σ 33) g k) (g - 1 - k) j) := by first | rfl | (first | (exfalso; omega) | (unfold itsA; simp [c_2, c_4, c_15, c_17, c_18]; done) | (unfold itsA; rw [if_neg (fun h9 => h9.elim (fun h8 => absurd h8 (by assumption)) (fun h8 => absurd h8.1 (by omega))), if_neg (by omega)]; simp))
                    refine lv_rep0 q_19 ?_
                    exact lab_76   _ _ _ hw (lv_c (lv_at hl 1 rfl) (lv_c (lv_at hl 2 rfl) (lv_c (lv_at hl 3 rfl) (lv_c (lv_at hl 4 rfl) (lv_c (lv_at hl 0 rfl) (lv_c0 hl))))))
                  · skip
                    have c_18 : 0 < j := n0_lef (by omega) c_18
                    refine lv_aload_n hx hb dX6_finds_65 rfl (lv_at hl 1 rfl) ?_
                    refine rGet (v := .ref (gad G 33)) (C := RX6) (T := TX6) (N := 26) hx hb fx hown hts hin hw 31 (hF.1 31 (by decide)) rfl rfl 3 (by decide) (hts (.fieldLink RX6 17 "LeaguewheelModel" "rest" "[I") (by decide +kernel)) (fun _ h9 => h9) rfl dX6_finds_66 ?_
                    refine lv_iload_n hx hb dX6_finds_69 rfl (lv_at hl 4 rfl) ?_
                    refine rAld hx hb fx hw 33 (hF.1 33 (by decide)) hF.2.1 (fun _ => rfl) j rfl (by omega) (by decide) dX6_finds_70 ?_
                    refine lv_rep0 (x := (σ_1 33 j)) (y := (moA (σ 32) (σ 33) g k j)) (by subst_vars; rw [upA_s]) ?_
                    refine lv_goto (tgt := 75) hx hb dX6_finds_71 (by decide) ?_
                    refine lv_iadd hx hb dX6_finds_75 ?_
                    have q_20 : ((σ 32 ((g - 1 - k) * 12 + j)) + (moA (σ 32) (σ 33) g k j)) = (itsA (σ 32) (moA (σ 32) (σ 33) g k) (g - 1 - k) j) := by first | rfl | (first | (exfalso; omega) | (unfold itsA; simp [c_2, c_4, c_15, c_17, c_18]; done) | (unfold itsA; rw [if_neg (fun h9 => h9.elim (fun h8 => absurd h8 (by assumption)) (fun h8 => absurd h8.1 (by omega))), if_neg (by omega)]; simp))
                    refine lv_rep0 q_20 ?_
                    exact lab_76   _ _ _ hw (lv_c (lv_at hl 1 rfl) (lv_c (lv_at hl 2 rfl) (lv_c (lv_at hl 3 rfl) (lv_c (lv_at hl 4 rfl) (lv_c (lv_at hl 0 rfl) (lv_c0 hl))))))
                · skip
                  have c_17 : 0 < j := n0_lef (by omega) c_17
                  refine lv_aload_n hx hb dX6_finds_45 rfl (lv_at hl 1 rfl) ?_
                  refine rGet (v := .ref (gad G 33)) (C := RX6) (T := TX6) (N := 26) hx hb fx hown hts hin hw 31 (hF.1 31 (by decide)) rfl rfl 3 (by decide) (hts (.fieldLink RX6 17 "LeaguewheelModel" "rest" "[I") (by decide +kernel)) (fun _ h9 => h9) rfl dX6_finds_46 ?_
                  refine lv_iload_n hx hb dX6_finds_49 rfl (lv_at hl 4 rfl) ?_
                  refine rAld hx hb fx hw 33 (hF.1 33 (by decide)) hF.2.1 (fun _ => rfl) j rfl (by omega) (by decide) dX6_finds_50 ?_
                  refine lv_rep0 (x := (σ_1 33 j)) (y := (moA (σ 32) (σ 33) g k j)) (by subst_vars; rw [upA_s]) ?_
                  refine lv_iconst (v := (-1)) hx hb dX6_finds_51 (by decide) ?_
                  refine lv_icmp_ne (tgt := 59) hx hb dX6_finds_52 (by decide) (fun c_21 => ?_) (fun c_21 => ?_)
                  · skip
                    refine lv_iload hx hb dX6_finds_59 (lv_at hl 0 rfl) ?_
                    refine lv_iload_n hx hb dX6_finds_61 rfl (lv_at hl 4 rfl) ?_
                    refine lv_if_le (tgt := 74) hx hb dX6_finds_62 (by decide) (fun c_22 => ?_) (fun c_22 => ?_)
                    · skip
                      have c_22 : j = 0 := n0_let (by omega) c_22
                      refine lv_iconst (v := 0) hx hb dX6_finds_74 (by decide) ?_
                      refine lv_iadd hx hb dX6_finds_75 ?_
                      have q_23 : ((σ 32 ((g - 1 - k) * 12 + j)) + 0) = (itsA (σ 32) (moA (σ 32) (σ 33) g k) (g - 1 - k) j) := by first | rfl | (first | (exfalso; omega) | (unfold itsA; simp [c_2, c_4, c_15, c_17, c_21, c_22]; done) | (unfold itsA; rw [if_neg (fun h9 => h9.elim (fun h8 => absurd h8 (by assumption)) (fun h8 => absurd h8.1 (by omega))), if_neg (by omega)]; simp))
                      refine lv_rep0 q_23 ?_
                      exact lab_76   _ _ _ hw (lv_c (lv_at hl 1 rfl) (lv_c (lv_at hl 2 rfl) (lv_c (lv_at hl 3 rfl) (lv_c (lv_at hl 4 rfl) (lv_c (lv_at hl 0 rfl) (lv_c0 hl))))))
                    · skip
                      have c_22 : 0 < j := n0_lef (by omega) c_22
                      refine lv_aload_n hx hb dX6_finds_65 rfl (lv_at hl 1 rfl) ?_
                      refine rGet (v := .ref (gad G 33)) (C := RX6) (T := TX6) (N := 26) hx hb fx hown hts hin hw 31 (hF.1 31 (by decide)) rfl rfl 3 (by decide) (hts (.fieldLink RX6 17 "LeaguewheelModel" "rest" "[I") (by decide +kernel)) (fun _ h9 => h9) rfl dX6_finds_66 ?_
                      refine lv_iload_n hx hb dX6_finds_69 rfl (lv_at hl 4 rfl) ?_
                      refine rAld hx hb fx hw 33 (hF.1 33 (by decide)) hF.2.1 (fun _ => rfl) j rfl (by omega) (by decide) dX6_finds_70 ?_
                      refine lv_rep0 (x := (σ_1 33 j)) (y := (moA (σ 32) (σ 33) g k j)) (by subst_vars; rw [upA_s]) ?_
                      refine lv_goto (tgt := 75) hx hb dX6_finds_71 (by decide) ?_
                      refine lv_iadd hx hb dX6_finds_75 ?_
                      have q_24 : ((σ 32 ((g - 1 - k) * 12 + j)) + (moA (σ 32) (σ 33) g k j)) = (itsA (σ 32) (moA (σ 32) (σ 33) g k) (g - 1 - k) j) := by first | rfl | (first | (exfalso; omega) | (unfold itsA; simp [c_2, c_4, c_15, c_17, c_21, c_22]; done) | (unfold itsA; rw [if_neg (fun h9 => h9.elim (fun h8 => absurd h8 (by assumption)) (fun h8 => absurd h8.1 (by omega))), if_neg (by omega)]; simp))
                      refine lv_rep0 q_24 ?_
                      exact lab_76   _ _ _ hw (lv_c (lv_at hl 1 rfl) (lv_c (lv_at hl 2 rfl) (lv_c (lv_at hl 3 rfl) (lv_c (lv_at hl 4 rfl) (lv_c (lv_at hl 0 rfl) (lv_c0 hl))))))
                  · skip
                    refine lv_iconst (v := (-1)) hx hb dX6_finds_55 (by decide) ?_
                    refine lv_goto (tgt := 76) hx hb dX6_finds_56 (by decide) ?_
                    have q_25 : (-1) = (itsA (σ 32) (moA (σ 32) (σ 33) g k) (g - 1 - k) j) := by first | rfl | (first | (exfalso; omega) | (unfold itsA; simp [c_2, c_4, c_15, c_17, c_21]; done) | (unfold itsA; rw [if_neg (fun h9 => h9.elim (fun h8 => absurd h8 (by assumption)) (fun h8 => absurd h8.1 (by omega))), if_neg (by omega)]; simp))
                    refine lv_rep0 q_25 ?_
                    exact lab_76   _ _ _ hw (lv_c (lv_at hl 1 rfl) (lv_c (lv_at hl 2 rfl) (lv_c (lv_at hl 3 rfl) (lv_c (lv_at hl 4 rfl) (lv_c (lv_at hl 0 rfl) (lv_c0 hl))))))
        have q_26 : (-1) = (frA (σ 32) (moA (σ 32) (σ 33) g k) (g - 1 - k) 0) := by first | rfl | (simp)
        have q_27 : 0 = (nI 0) := by first | rfl | (simp)
        exact lab_15 (g - 0 + 1) 0 (by omega) (by omega) _ _ _ hw (lv_c (lv_at hl 2 rfl) (lv_c (lv_at hl 3 rfl) (lv_c (lv_atq hl 1 rfl q_26) (lv_c (lv_atq hl 0 rfl q_27) (lv_c0 hl)))))
  have q_28 : ((nI g) - (nI 1)) = (nI (g - 0) - 1) := by rfl
  have q_29 : σ = upA σ 33 (moA (σ 32) (σ 33) g 0) := by exact (upA_self σ 33).symm
  rw [q_29] at hw
  exact lab_7 (g - 0 + 1) 0 (by omega) (by omega) _ _ _ hw (lv_c (lv_at hl 1 rfl) (lv_c (lv_atq hl 0 rfl q_28) (lv_c0 hl)))

def rmX6_isTrack : Room := ({ frames := 1, cells := 0, slots := 0, locals := 25 } : Room)
set_option maxHeartbeats 4000000 in
set_option maxRecDepth 100000 in
theorem kX6_isTrack (l : Launch) (G : Gx) (hG : gOk G) (hF : Full G) (σ : St) (g : Nat) (hmg : σ 31 0 = nI g) (hmg2 : g ≤ 12)  : CtI l yX6_isTrack wsX6_isTrack rmX6_isTrack G σ [.ref (gad G 31)] (fun r σ' => r = bI (trkB σ g) ∧ σ' = upA σ 33 (moA (σ 32) (σ 33) g g)) := by
  refine bgMet (cc := cX6_isTrack) (maxL := 3) (ret := (some .boolean)) (own := RX6) (by decide) rfl rfl hG (Nat.le_of_ble_eq_true rfl) rfl ?_
  intro p e s m args below meth c ls Bd hl
  obtain ⟨hx, hb, hr, hml, hts, hown, hlocks, fx, hw⟩ := Bd
  have hl : lv_has ls 3 [(0, .ref (gad G 31))] := hl
  have hin : ∀ w ∈ wsX60, w ∈ wsX6_isTrack := by decide +kernel
  refine lv_aload_n hx hb dX6_isTrack_0 rfl (lv_at hl 0 rfl) ?_
  refine rCallV (C := RX6) (As := []) (rest := []) ⟨hx, hb, hml, hown, hts⟩ fx hw (kX6_finds l G hG hF σ g hmg (by omega)) (cwV 0 hts gX6_isTrack_X6_finds rfl rfl rfl (by decide +kernel) ⟨Nat.le_of_ble_eq_true rfl, Nat.le_of_ble_eq_true rfl⟩) (hF.1 31 (by decide)) rfl rfl rfl rfl hl.1 rfl (Nat.le_of_ble_eq_true rfl) dX6_isTrack_1 ⟨Nat.zero_le _, Nat.zero_le _⟩ ?_
  intro σ_2 H locs p_1 hw
  have eσ_2 := p_1
  refine lv_iconst (v := 1) hx hb dX6_isTrack_4 (by decide) ?_
  refine lv_istore_n (lv' := [(1, .int 1), (0, .ref (gad G 31))]) hx hb dX6_isTrack_5 rfl hl (by decide) rfl (fun ls hl => ?_)
  refine lv_iconst (v := 0) hx hb dX6_isTrack_6 (by decide) ?_
  refine lv_istore_n (lv' := [(2, .int 0), (1, .int 1), (0, .ref (gad G 31))]) hx hb dX6_isTrack_7 rfl hl (by decide) rfl (fun ls hl => ?_)
  have lab_8 : ∀ (n9 : Nat), ∀ (i : Nat), g - i < n9 → i ≤ g → ∀ (H : Heap) (locs : List Loc) (ls : Array Slot), Wd G s (upA σ 33 (moA (σ 32) (σ 33) g g)) H locs → lv_has ls 3 [(0, .ref (gad G 31)), (1, .int (bI (isA (moA (σ 32) (σ 33) g g) i))), (2, .int (nI i))] → W p l e rmX6_isTrack s m args below meth c H locs 0 0 (MQ below (va_Qi (fun r σ' => r = bI (trkB σ g) ∧ σ' = upA σ 33 (moA (σ 32) (σ 33) g g)) (BW G) (gA G)) args s 0 0 (gA G)) (F0 m 8 ls []) := by
    intro n9
    induction n9 with
    | zero => intro i hn9; exact absurd hn9 (Nat.not_lt_zero _)
    | succ n9 ih8 =>
      intro i hn9 h8_0 H locs ls hw hl
      obtain ⟨σ_3, eσ_3⟩ : ∃ w9, w9 = upA σ 33 (moA (σ 32) (σ 33) g g) := ⟨_, rfl⟩
      rw [← eσ_3] at hw
      refine lv_iload_n hx hb dX6_isTrack_8 rfl (lv_at hl 2 rfl) ?_
      refine lv_aload_n hx hb dX6_isTrack_9 rfl (lv_at hl 0 rfl) ?_
      refine rGet (v := .int (σ_3 31 0)) (C := RX6) (T := TX6) (N := 26) hx hb fx hown hts hin hw 31 (hF.1 31 (by decide)) rfl rfl 0 (by decide) (hts (.fieldLink RX6 7 "LeaguewheelModel" "gates" "I") (by decide +kernel)) (fun _ h9 => h9) rfl dX6_isTrack_10 ?_
      refine lv_rep0 (x := (σ_3 31 0)) (y := nI g) (by subst_vars; rw [upA_n (by decide)]; exact hmg) ?_
      refine lv_icmp_ge (tgt := 42) hx hb dX6_isTrack_13 (by decide) (fun c_4 => ?_) (fun c_4 => ?_)
      · skip
        have c_4 : g ≤ i := (nI_leI (by omega) (by omega)).mp c_4
        refine lv_iload_n hx hb dX6_isTrack_42 rfl (lv_at hl 1 rfl) ?_
        subst eσ_3
        exact rRetZ hx hb hr hw (nar_bI _) (by unfold trkB; rw [show g = i by omega]; exact ⟨rfl, rfl⟩) hlocks dX6_isTrack_43
      · skip
        have c_4 : ¬ g ≤ i := fun h9 => c_4 ((nI_leI (by omega) (by omega)).mpr h9)
        refine lv_iload_n hx hb dX6_isTrack_16 rfl (lv_at hl 1 rfl) ?_
        refine lv_b_eq (tgt := 34) hx hb dX6_isTrack_17 (by decide) (fun c_5 => ?_) (fun c_5 => ?_)
        · skip
          refine lv_iconst (v := 0) hx hb dX6_isTrack_34 (by decide) ?_
          refine lv_istore_n (lv' := [(1, .int 0), (0, .ref (gad G 31)), (2, .int (nI i))]) hx hb dX6_isTrack_35 rfl hl (by decide) rfl (fun ls hl => ?_)
          refine lv_iinc (v := (nI (i + 1))) (lv' := [(2, .int (nI (i + 1))), (1, .int 0), (0, .ref (gad G 31))]) hx hb dX6_isTrack_36 hl (k := 2) rfl (nI_1 _) (by decide) rfl (fun ls hl => ?_)
          refine lv_goto (tgt := 8) hx hb dX6_isTrack_39 (by decide) ?_
          have q_6 : 0 = (bI (isA (moA (σ 32) (σ 33) g g) (i + 1))) := by first | rfl | (simp [isA, bI, c_4, c_5])
          have q_7 : σ_3 = upA σ 33 (moA (σ 32) (σ 33) g g) := by subst eσ_3; rfl
          rw [q_7] at hw
          exact ih8 (i + 1) (by omega) (by omega) _ _ _ hw (lv_c (lv_at hl 2 rfl) (lv_c (lv_atq hl 1 rfl q_6) (lv_c (lv_at hl 0 rfl) (lv_c0 hl))))
        · skip
          refine lv_aload_n hx hb dX6_isTrack_20 rfl (lv_at hl 0 rfl) ?_
          refine rGet (v := .ref (gad G 33)) (C := RX6) (T := TX6) (N := 26) hx hb fx hown hts hin hw 31 (hF.1 31 (by decide)) rfl rfl 3 (by decide) (hts (.fieldLink RX6 17 "LeaguewheelModel" "rest" "[I") (by decide +kernel)) (fun _ h9 => h9) rfl dX6_isTrack_21 ?_
          refine lv_iload_n hx hb dX6_isTrack_24 rfl (lv_at hl 2 rfl) ?_
          refine rAld hx hb fx hw 33 (hF.1 33 (by decide)) hF.2.1 (fun _ => rfl) i rfl (by omega) (by decide) dX6_isTrack_25 ?_
          refine lv_rep0 (x := (σ_3 33 i)) (y := (moA (σ 32) (σ 33) g g i)) (by subst_vars; rw [upA_s]) ?_
          refine lv_iconst (v := (-1)) hx hb dX6_isTrack_26 (by decide) ?_
          refine lv_icmp_eq (tgt := 34) hx hb dX6_isTrack_27 (by decide) (fun c_8 => ?_) (fun c_8 => ?_)
          · skip
            refine lv_iconst (v := 0) hx hb dX6_isTrack_34 (by decide) ?_
            refine lv_istore_n (lv' := [(1, .int 0), (0, .ref (gad G 31)), (2, .int (nI i))]) hx hb dX6_isTrack_35 rfl hl (by decide) rfl (fun ls hl => ?_)
            refine lv_iinc (v := (nI (i + 1))) (lv' := [(2, .int (nI (i + 1))), (1, .int 0), (0, .ref (gad G 31))]) hx hb dX6_isTrack_36 hl (k := 2) rfl (nI_1 _) (by decide) rfl (fun ls hl => ?_)
            refine lv_goto (tgt := 8) hx hb dX6_isTrack_39 (by decide) ?_
            have q_9 : 0 = (bI (isA (moA (σ 32) (σ 33) g g) (i + 1))) := by first | rfl | (simp [isA, bI, c_4, c_5, c_8])
            have q_10 : σ_3 = upA σ 33 (moA (σ 32) (σ 33) g g) := by subst eσ_3; rfl
            rw [q_10] at hw
            exact ih8 (i + 1) (by omega) (by omega) _ _ _ hw (lv_c (lv_at hl 2 rfl) (lv_c (lv_atq hl 1 rfl q_9) (lv_c (lv_at hl 0 rfl) (lv_c0 hl))))
          · skip
            refine lv_iconst (v := 1) hx hb dX6_isTrack_30 (by decide) ?_
            refine lv_goto (tgt := 35) hx hb dX6_isTrack_31 (by decide) ?_
            refine lv_istore_n (lv' := [(1, .int 1), (0, .ref (gad G 31)), (2, .int (nI i))]) hx hb dX6_isTrack_35 rfl hl (by decide) rfl (fun ls hl => ?_)
            refine lv_iinc (v := (nI (i + 1))) (lv' := [(2, .int (nI (i + 1))), (1, .int 1), (0, .ref (gad G 31))]) hx hb dX6_isTrack_36 hl (k := 2) rfl (nI_1 _) (by decide) rfl (fun ls hl => ?_)
            refine lv_goto (tgt := 8) hx hb dX6_isTrack_39 (by decide) ?_
            have q_11 : 1 = (bI (isA (moA (σ 32) (σ 33) g g) (i + 1))) := by first | rfl | (simp [isA, bI, c_4, c_5, c_8])
            have q_12 : σ_3 = upA σ 33 (moA (σ 32) (σ 33) g g) := by subst eσ_3; rfl
            rw [q_12] at hw
            exact ih8 (i + 1) (by omega) (by omega) _ _ _ hw (lv_c (lv_at hl 2 rfl) (lv_c (lv_atq hl 1 rfl q_11) (lv_c (lv_at hl 0 rfl) (lv_c0 hl))))
  have q_13 : 1 = (bI (isA (moA (σ 32) (σ 33) g g) 0)) := by first | rfl | (simp [isA, bI])
  have q_14 : 0 = (nI 0) := by first | rfl | (simp [isA, bI])
  have q_15 : σ_2 = upA σ 33 (moA (σ 32) (σ 33) g g) := by subst eσ_2; rfl
  rw [q_15] at hw
  exact lab_8 (g - 0 + 1) 0 (by omega) (by omega) _ _ _ hw (lv_c (lv_at hl 2 rfl) (lv_c (lv_atq hl 1 rfl q_13) (lv_c (lv_atq hl 0 rfl q_14) (lv_c0 hl))))

def rmX6_crosses : Room := ({ frames := 0, cells := 0, slots := 0, locals := 0 } : Room)
set_option maxHeartbeats 4000000 in
set_option maxRecDepth 100000 in
theorem kX6_crosses (l : Launch) (G : Gx) (hG : gOk G) (hF : Full G) (σ : St) (k : Nat) (hk : k < 6)  : CtI l yX6_crosses wsX6_crosses rmX6_crosses G σ [.ref (gad G 31), .int (nI k)] (fun r σ' => r = mcR σ k ∧ σ' = mcS σ k) := by
  refine bgMet (cc := cX6_crosses) (maxL := 3) (ret := (some .int)) (own := RX6) (by decide) rfl rfl hG (Nat.le_of_ble_eq_true rfl) rfl ?_
  intro p e s m args below meth c ls Bd hl
  obtain ⟨hx, hb, hr, hml, hts, hown, hlocks, fx, hw⟩ := Bd
  have hl : lv_has ls 3 [(0, .ref (gad G 31)), (1, .int (nI k))] := hl
  have hin : ∀ w ∈ wsX60, w ∈ wsX6_crosses := by decide +kernel
  refine lv_aload_n hx hb dX6_crosses_0 rfl (lv_at hl 0 rfl) ?_
  refine rGet (v := .ref (gad G 38)) (C := RX6) (T := TX6) (N := 26) hx hb fx hown hts hin hw 31 (hF.1 31 (by decide)) rfl rfl 16 (by decide) (hts (.fieldLink RX6 32 "LeaguewheelModel" "passed" "[I") (by decide +kernel)) (fun _ h9 => h9) rfl dX6_crosses_1 ?_
  refine lv_iload_n hx hb dX6_crosses_4 rfl (lv_at hl 1 rfl) ?_
  refine rAld hx hb fx hw 38 (hF.1 38 (by decide)) hF.2.1 (fun _ => rfl) k rfl (by omega) (by decide) dX6_crosses_5 ?_
  refine lv_aload_n hx hb dX6_crosses_6 rfl (lv_at hl 0 rfl) ?_
  refine rGet (v := .int (σ 31 1)) (C := RX6) (T := TX6) (N := 26) hx hb fx hown hts hin hw 31 (hF.1 31 (by decide)) rfl rfl 1 (by decide) (hts (.fieldLink RX6 74 "LeaguewheelModel" "needed" "I") (by decide +kernel)) (fun _ h9 => h9) rfl dX6_crosses_7 ?_
  refine lv_iand hx hb dX6_crosses_10 ?_
  refine lv_aload_n hx hb dX6_crosses_11 rfl (lv_at hl 0 rfl) ?_
  refine rGet (v := .int (σ 31 1)) (C := RX6) (T := TX6) (N := 26) hx hb fx hown hts hin hw 31 (hF.1 31 (by decide)) rfl rfl 1 (by decide) (hts (.fieldLink RX6 74 "LeaguewheelModel" "needed" "I") (by decide +kernel)) (fun _ h9 => h9) rfl dX6_crosses_12 ?_
  have lab_23 : ∀ (H : Heap) (locs : List Loc) (ls : Array Slot), Wd G s σ H locs → lv_has ls 3 [(0, .ref (gad G 31)), (1, .int (nI k))] → W p l e rmX6_crosses s m args below meth c H locs 0 0 (MQ below (va_Qi (fun r σ' => r = mcR σ k ∧ σ' = mcS σ k) (BW G) (gA G)) args s 0 0 (gA G)) (F0 m 23 ls [.int (bI (fulB σ k))]) := by
    intro   H locs ls hw hl
    refine lv_istore_n (lv' := [(2, .int (bI (fulB σ k))), (0, .ref (gad G 31)), (1, .int (nI k))]) hx hb dX6_crosses_23 rfl hl (by decide) rfl (fun ls hl => ?_)
    refine lv_aload_n hx hb dX6_crosses_24 rfl (lv_at hl 1 rfl) ?_
    refine rGet (v := .ref (gad G 38)) (C := RX6) (T := TX6) (N := 26) hx hb fx hown hts hin hw 31 (hF.1 31 (by decide)) rfl rfl 16 (by decide) (hts (.fieldLink RX6 32 "LeaguewheelModel" "passed" "[I") (by decide +kernel)) (fun _ h9 => h9) rfl dX6_crosses_25 ?_
    refine lv_iload_n hx hb dX6_crosses_28 rfl (lv_at hl 2 rfl) ?_
    refine lv_iconst (v := 0) hx hb dX6_crosses_29 (by decide) ?_
    refine rAst (x := 0) hx hb fx hw 38 (hF.1 38 (by decide)) hF.2.1 (fun _ => rfl) k rfl (by omega) (by decide) dX6_crosses_30 (fun H locs hw => ?_)
    obtain ⟨σ_1, eσ_1⟩ : ∃ w9, w9 = upA σ 38 (upd (σ 38) k 0) := ⟨_, rfl⟩
    rw [← eσ_1] at hw
    refine lv_aload_n hx hb dX6_crosses_31 rfl (lv_at hl 1 rfl) ?_
    refine rGet (v := .ref (gad G 37)) (C := RX6) (T := TX6) (N := 26) hx hb fx hown hts hin hw 31 (hF.1 31 (by decide)) rfl rfl 15 (by decide) (hts (.fieldLink RX6 29 "LeaguewheelModel" "debt" "[I") (by decide +kernel)) (fun _ h9 => h9) rfl dX6_crosses_32 ?_
    refine lv_iload_n hx hb dX6_crosses_35 rfl (lv_at hl 2 rfl) ?_
    refine rAld hx hb fx hw 37 (hF.1 37 (by decide)) hF.2.1 (fun _ => rfl) k rfl (by omega) (by decide) dX6_crosses_36 ?_
    refine lv_if_le (tgt := 52) hx hb dX6_crosses_37 (by decide) (fun c_2 => ?_) (fun c_2 => ?_)
    · skip
      refine lv_iload_n hx hb dX6_crosses_52 rfl (lv_at hl 0 rfl) ?_
      refine lv_b_ne (tgt := 58) hx hb dX6_crosses_53 (by decide) (fun c_3 => ?_) (fun c_3 => ?_)
      · skip
        refine lv_aload_n hx hb dX6_crosses_58 rfl (lv_at hl 1 rfl) ?_
        refine rGet (v := .ref (gad G 36)) (C := RX6) (T := TX6) (N := 26) hx hb fx hown hts hin hw 31 (hF.1 31 (by decide)) rfl rfl 14 (by decide) (hts (.fieldLink RX6 26 "LeaguewheelModel" "lap" "[I") (by decide +kernel)) (fun _ h9 => h9) rfl dX6_crosses_59 ?_
        refine lv_iload_n hx hb dX6_crosses_62 rfl (lv_at hl 2 rfl) ?_
        refine lv_dup2_11 hx hb dX6_crosses_63 rfl rfl ?_
        refine rAld hx hb fx hw 36 (hF.1 36 (by decide)) hF.2.1 (fun _ => rfl) k rfl (by omega) (by decide) dX6_crosses_64 ?_
        refine lv_iconst (v := 1) hx hb dX6_crosses_65 (by decide) ?_
        refine lv_iadd hx hb dX6_crosses_66 ?_
        refine rAst (x := ((σ_1 36 k) + 1)) hx hb fx hw 36 (hF.1 36 (by decide)) hF.2.1 (fun _ => rfl) k rfl (by omega) (by decide) dX6_crosses_67 (fun H locs hw => ?_)
        obtain ⟨σ_4, eσ_4⟩ : ∃ w9, w9 = upA σ_1 36 (upd (σ_1 36) k ((σ_1 36 k) + 1)) := ⟨_, rfl⟩
        rw [← eσ_4] at hw
        refine lv_aload_n hx hb dX6_crosses_68 rfl (lv_at hl 1 rfl) ?_
        refine rGet (v := .ref (gad G 36)) (C := RX6) (T := TX6) (N := 26) hx hb fx hown hts hin hw 31 (hF.1 31 (by decide)) rfl rfl 14 (by decide) (hts (.fieldLink RX6 26 "LeaguewheelModel" "lap" "[I") (by decide +kernel)) (fun _ h9 => h9) rfl dX6_crosses_69 ?_
        refine lv_iload_n hx hb dX6_crosses_72 rfl (lv_at hl 2 rfl) ?_
        refine rAld hx hb fx hw 36 (hF.1 36 (by decide)) hF.2.1 (fun _ => rfl) k rfl (by omega) (by decide) dX6_crosses_73 ?_
        refine lv_aload_n hx hb dX6_crosses_74 rfl (lv_at hl 1 rfl) ?_
        refine rGet (v := .int (σ_4 31 9)) (C := RX6) (T := TX6) (N := 26) hx hb fx hown hts hin hw 31 (hF.1 31 (by decide)) rfl rfl 9 (by decide) (hts (.fieldLink RX6 95 "LeaguewheelModel" "laps" "I") (by decide +kernel)) (fun _ h9 => h9) rfl dX6_crosses_75 ?_
        refine lv_icmp_ne (tgt := 93) hx hb dX6_crosses_78 (by decide) (fun c_5 => ?_) (fun c_5 => ?_)
        · skip
          refine lv_iconst (v := 1) hx hb dX6_crosses_93 (by decide) ?_
          subst eσ_4
          subst eσ_1
          exact rRetI hx hb hr hw (by (try simp only [mcR, mcS, upA_n, upA_s, pk_us, ne_eq, Nat.reduceAdd, Nat.reduceEqDiff, not_false_eq_true, decide_eq_true_eq, decide_eq_false_iff_not, Bool.not_eq_true', Bool.not_eq_false'] at c_2 c_3 c_5); exact ⟨by simp [mcR, mcS, upA_n, upA_s, upA_upA, upA_self, upd_self, upd_upd, pk_us, bI, c_2, c_3, c_5], by simp [mcR, mcS, upA_n, upA_s, upA_upA, upA_self, upd_self, upd_upd, pk_us, bI, c_2, c_3, c_5]⟩) hlocks dX6_crosses_94
        · skip
          refine lv_aload_n hx hb dX6_crosses_81 rfl (lv_at hl 1 rfl) ?_
          refine rGet (v := .ref (gad G 40)) (C := RX6) (T := TX6) (N := 26) hx hb fx hown hts hin hw 31 (hF.1 31 (by decide)) rfl rfl 18 (by decide) (hts (.fieldLink RX6 38 "LeaguewheelModel" "finish" "[I") (by decide +kernel)) (fun _ h9 => h9) rfl dX6_crosses_82 ?_
          refine lv_iload_n hx hb dX6_crosses_85 rfl (lv_at hl 2 rfl) ?_
          refine lv_aload_n hx hb dX6_crosses_86 rfl (lv_at hl 1 rfl) ?_
          refine rGet (v := .int (σ_4 31 11)) (C := RX6) (T := TX6) (N := 26) hx hb fx hown hts hin hw 31 (hF.1 31 (by decide)) rfl rfl 11 (by decide) (hts (.fieldLink RX6 98 "LeaguewheelModel" "passings" "I") (by decide +kernel)) (fun _ h9 => h9) rfl dX6_crosses_87 ?_
          refine rAst (x := (σ_4 31 11)) hx hb fx hw 40 (hF.1 40 (by decide)) hF.2.1 (fun _ => rfl) k rfl (by omega) (by decide) dX6_crosses_90 (fun H locs hw => ?_)
          obtain ⟨σ_6, eσ_6⟩ : ∃ w9, w9 = upA σ_4 40 (upd (σ_4 40) k (σ_4 31 11)) := ⟨_, rfl⟩
          rw [← eσ_6] at hw
          refine lv_iconst (v := 5) hx hb dX6_crosses_91 (by decide) ?_
          subst eσ_6
          subst eσ_4
          subst eσ_1
          exact rRetI hx hb hr hw (by (try simp only [mcR, mcS, upA_n, upA_s, pk_us, ne_eq, Nat.reduceAdd, Nat.reduceEqDiff, not_false_eq_true, decide_eq_true_eq, decide_eq_false_iff_not, Bool.not_eq_true', Bool.not_eq_false'] at c_2 c_3 c_5); exact ⟨by simp [mcR, mcS, upA_n, upA_s, upA_upA, upA_self, upd_self, upd_upd, pk_us, bI, c_2, c_3, c_5], by simp [mcR, mcS, upA_n, upA_s, upA_upA, upA_self, upd_self, upd_upd, pk_us, bI, c_2, c_3, c_5]⟩) hlocks dX6_crosses_92
      · skip
        refine lv_iconst (v := 2) hx hb dX6_crosses_56 (by decide) ?_
        subst eσ_1
        exact rRetI hx hb hr hw (by (try simp only [mcR, mcS, upA_n, upA_s, pk_us, ne_eq, Nat.reduceAdd, Nat.reduceEqDiff, not_false_eq_true, decide_eq_true_eq, decide_eq_false_iff_not, Bool.not_eq_true', Bool.not_eq_false'] at c_2 c_3); exact ⟨by simp [mcR, mcS, upA_n, upA_s, upA_upA, upA_self, upd_self, upd_upd, pk_us, bI, c_2, c_3], by simp [mcR, mcS, upA_n, upA_s, upA_upA, upA_self, upd_self, upd_upd, pk_us, bI, c_2, c_3]⟩) hlocks dX6_crosses_57
    · skip
      refine lv_aload_n hx hb dX6_crosses_40 rfl (lv_at hl 1 rfl) ?_
      refine rGet (v := .ref (gad G 37)) (C := RX6) (T := TX6) (N := 26) hx hb fx hown hts hin hw 31 (hF.1 31 (by decide)) rfl rfl 15 (by decide) (hts (.fieldLink RX6 29 "LeaguewheelModel" "debt" "[I") (by decide +kernel)) (fun _ h9 => h9) rfl dX6_crosses_41 ?_
      refine lv_iload_n hx hb dX6_crosses_44 rfl (lv_at hl 2 rfl) ?_
      refine lv_dup2_11 hx hb dX6_crosses_45 rfl rfl ?_
      refine rAld hx hb fx hw 37 (hF.1 37 (by decide)) hF.2.1 (fun _ => rfl) k rfl (by omega) (by decide) dX6_crosses_46 ?_
      refine lv_iconst (v := 1) hx hb dX6_crosses_47 (by decide) ?_
      refine lv_isub hx hb dX6_crosses_48 ?_
      refine rAst (x := ((σ_1 37 k) - 1)) hx hb fx hw 37 (hF.1 37 (by decide)) hF.2.1 (fun _ => rfl) k rfl (by omega) (by decide) dX6_crosses_49 (fun H locs hw => ?_)
      obtain ⟨σ_7, eσ_7⟩ : ∃ w9, w9 = upA σ_1 37 (upd (σ_1 37) k ((σ_1 37 k) - 1)) := ⟨_, rfl⟩
      rw [← eσ_7] at hw
      refine lv_iconst (v := 4) hx hb dX6_crosses_50 (by decide) ?_
      subst eσ_7
      subst eσ_1
      exact rRetI hx hb hr hw (by (try simp only [mcR, mcS, upA_n, upA_s, pk_us, ne_eq, Nat.reduceAdd, Nat.reduceEqDiff, not_false_eq_true, decide_eq_true_eq, decide_eq_false_iff_not, Bool.not_eq_true', Bool.not_eq_false'] at c_2); exact ⟨by simp [mcR, mcS, upA_n, upA_s, upA_upA, upA_self, upd_self, upd_upd, pk_us, bI, c_2], by simp [mcR, mcS, upA_n, upA_s, upA_upA, upA_self, upd_self, upd_upd, pk_us, bI, c_2]⟩) hlocks dX6_crosses_51
  refine lv_icmp_ne (tgt := 22) hx hb dX6_crosses_15 (by decide) (fun c_8 => ?_) (fun c_8 => ?_)
  · skip
    refine lv_iconst (v := 0) hx hb dX6_crosses_22 (by decide) ?_
    have q_9 : 0 = (bI (fulB σ k)) := by first | rfl | (simp [bI, fulB, c_8])
    refine lv_rep0 q_9 ?_
    exact lab_23   _ _ _ hw (lv_c (lv_at hl 0 rfl) (lv_c (lv_at hl 1 rfl) (lv_c0 hl)))
  · skip
    refine lv_iconst (v := 1) hx hb dX6_crosses_18 (by decide) ?_
    refine lv_goto (tgt := 23) hx hb dX6_crosses_19 (by decide) ?_
    have q_10 : 1 = (bI (fulB σ k)) := by first | rfl | (simp [bI, fulB, c_8])
    refine lv_rep0 q_10 ?_
    exact lab_23   _ _ _ hw (lv_c (lv_at hl 0 rfl) (lv_c (lv_at hl 1 rfl) (lv_c0 hl)))

def rmX6_isAhead : Room := ({ frames := 0, cells := 0, slots := 0, locals := 0 } : Room)
set_option maxHeartbeats 4000000 in
set_option maxRecDepth 100000 in
theorem kX6_isAhead (l : Launch) (G : Gx) (hG : gOk G) (hF : Full G) (σ : St) (i j : Nat) (hi : i < 6) (hj : j < 6) (hgm : mgOk σ)  : CtI l yX6_isAhead wsX6_isAhead rmX6_isAhead G σ [.ref (gad G 31), .int (nI i), .int (nI j)] (fun r σ' => r = bI (maB σ i j) ∧ σ' = σ) := by
  refine bgMet (cc := cX6_isAhead) (maxL := 7) (ret := (some .boolean)) (own := RX6) (by decide) rfl rfl hG (Nat.le_of_ble_eq_true rfl) rfl ?_
  intro p e s m args below meth c ls Bd hl
  obtain ⟨hx, hb, hr, hml, hts, hown, hlocks, fx, hw⟩ := Bd
  have hl : lv_has ls 7 [(0, .ref (gad G 31)), (1, .int (nI i)), (2, .int (nI j))] := hl
  have hin : ∀ w ∈ wsX60, w ∈ wsX6_isAhead := by decide +kernel
  have hgi := (hgm i hi).2
  have hgj := (hgm j hj).2
  refine lv_aload_n hx hb dX6_isAhead_0 rfl (lv_at hl 0 rfl) ?_
  refine rGet (v := .ref (gad G 40)) (C := RX6) (T := TX6) (N := 26) hx hb fx hown hts hin hw 31 (hF.1 31 (by decide)) rfl rfl 18 (by decide) (hts (.fieldLink RX6 38 "LeaguewheelModel" "finish" "[I") (by decide +kernel)) (fun _ h9 => h9) rfl dX6_isAhead_1 ?_
  refine lv_iload_n hx hb dX6_isAhead_4 rfl (lv_at hl 1 rfl) ?_
  refine rAld hx hb fx hw 40 (hF.1 40 (by decide)) hF.2.1 (fun _ => rfl) i rfl (by omega) (by decide) dX6_isAhead_5 ?_
  refine lv_if_gt (tgt := 18) hx hb dX6_isAhead_6 (by decide) (fun c_1 => ?_) (fun c_1 => ?_)
  · skip
    have c_1 := Int32.not_le.mpr c_1
    refine lv_aload_n hx hb dX6_isAhead_18 rfl (lv_at hl 0 rfl) ?_
    refine rGet (v := .ref (gad G 40)) (C := RX6) (T := TX6) (N := 26) hx hb fx hown hts hin hw 31 (hF.1 31 (by decide)) rfl rfl 18 (by decide) (hts (.fieldLink RX6 38 "LeaguewheelModel" "finish" "[I") (by decide +kernel)) (fun _ h9 => h9) rfl dX6_isAhead_19 ?_
    refine lv_iload_n hx hb dX6_isAhead_22 rfl (lv_at hl 1 rfl) ?_
    refine rAld hx hb fx hw 40 (hF.1 40 (by decide)) hF.2.1 (fun _ => rfl) i rfl (by omega) (by decide) dX6_isAhead_23 ?_
    refine lv_if_le (tgt := 55) hx hb dX6_isAhead_24 (by decide) (fun c_2 => ?_) (fun c_2 => ?_)
    · skip
      exact absurd c_2 c_1
    · skip
      refine lv_aload_n hx hb dX6_isAhead_27 rfl (lv_at hl 0 rfl) ?_
      refine rGet (v := .ref (gad G 40)) (C := RX6) (T := TX6) (N := 26) hx hb fx hown hts hin hw 31 (hF.1 31 (by decide)) rfl rfl 18 (by decide) (hts (.fieldLink RX6 38 "LeaguewheelModel" "finish" "[I") (by decide +kernel)) (fun _ h9 => h9) rfl dX6_isAhead_28 ?_
      refine lv_iload_n hx hb dX6_isAhead_31 rfl (lv_at hl 2 rfl) ?_
      refine rAld hx hb fx hw 40 (hF.1 40 (by decide)) hF.2.1 (fun _ => rfl) j rfl (by omega) (by decide) dX6_isAhead_32 ?_
      refine lv_if_eq (tgt := 51) hx hb dX6_isAhead_33 (by decide) (fun c_3 => ?_) (fun c_3 => ?_)
      · skip
        refine lv_iconst (v := 1) hx hb dX6_isAhead_51 (by decide) ?_
        refine lv_goto (tgt := 56) hx hb dX6_isAhead_52 (by decide) ?_
        exact rRetZ hx hb hr hw (by decide) (by exact ⟨by unfold maB; simp [bI, c_1, c_2, c_3], rfl⟩) hlocks dX6_isAhead_56
      · skip
        refine lv_aload_n hx hb dX6_isAhead_36 rfl (lv_at hl 0 rfl) ?_
        refine rGet (v := .ref (gad G 40)) (C := RX6) (T := TX6) (N := 26) hx hb fx hown hts hin hw 31 (hF.1 31 (by decide)) rfl rfl 18 (by decide) (hts (.fieldLink RX6 38 "LeaguewheelModel" "finish" "[I") (by decide +kernel)) (fun _ h9 => h9) rfl dX6_isAhead_37 ?_
        refine lv_iload_n hx hb dX6_isAhead_40 rfl (lv_at hl 1 rfl) ?_
        refine rAld hx hb fx hw 40 (hF.1 40 (by decide)) hF.2.1 (fun _ => rfl) i rfl (by omega) (by decide) dX6_isAhead_41 ?_
        refine lv_aload_n hx hb dX6_isAhead_42 rfl (lv_at hl 0 rfl) ?_
        refine rGet (v := .ref (gad G 40)) (C := RX6) (T := TX6) (N := 26) hx hb fx hown hts hin hw 31 (hF.1 31 (by decide)) rfl rfl 18 (by decide) (hts (.fieldLink RX6 38 "LeaguewheelModel" "finish" "[I") (by decide +kernel)) (fun _ h9 => h9) rfl dX6_isAhead_43 ?_
        refine lv_iload_n hx hb dX6_isAhead_46 rfl (lv_at hl 2 rfl) ?_
        refine rAld hx hb fx hw 40 (hF.1 40 (by decide)) hF.2.1 (fun _ => rfl) j rfl (by omega) (by decide) dX6_isAhead_47 ?_
        refine lv_icmp_ge (tgt := 55) hx hb dX6_isAhead_48 (by decide) (fun c_4 => ?_) (fun c_4 => ?_)
        · skip
          refine lv_iconst (v := 0) hx hb dX6_isAhead_55 (by decide) ?_
          exact rRetZ hx hb hr hw (by decide) (by exact ⟨by unfold maB; simp [bI, c_1, c_2, c_3, c_4], rfl⟩) hlocks dX6_isAhead_56
        · skip
          refine lv_iconst (v := 1) hx hb dX6_isAhead_51 (by decide) ?_
          refine lv_goto (tgt := 56) hx hb dX6_isAhead_52 (by decide) ?_
          exact rRetZ hx hb hr hw (by decide) (by exact ⟨by unfold maB; simp [bI, c_1, c_2, c_3, c_4], rfl⟩) hlocks dX6_isAhead_56
  · skip
    have c_1 := Int32.not_lt.mp c_1
    refine lv_aload_n hx hb dX6_isAhead_9 rfl (lv_at hl 0 rfl) ?_
    refine rGet (v := .ref (gad G 40)) (C := RX6) (T := TX6) (N := 26) hx hb fx hown hts hin hw 31 (hF.1 31 (by decide)) rfl rfl 18 (by decide) (hts (.fieldLink RX6 38 "LeaguewheelModel" "finish" "[I") (by decide +kernel)) (fun _ h9 => h9) rfl dX6_isAhead_10 ?_
    refine lv_iload_n hx hb dX6_isAhead_13 rfl (lv_at hl 2 rfl) ?_
    refine rAld hx hb fx hw 40 (hF.1 40 (by decide)) hF.2.1 (fun _ => rfl) j rfl (by omega) (by decide) dX6_isAhead_14 ?_
    refine lv_if_le (tgt := 57) hx hb dX6_isAhead_15 (by decide) (fun c_5 => ?_) (fun c_5 => ?_)
    · skip
      refine lv_aload_n hx hb dX6_isAhead_57 rfl (lv_at hl 0 rfl) ?_
      refine rGet (v := .ref (gad G 36)) (C := RX6) (T := TX6) (N := 26) hx hb fx hown hts hin hw 31 (hF.1 31 (by decide)) rfl rfl 14 (by decide) (hts (.fieldLink RX6 26 "LeaguewheelModel" "lap" "[I") (by decide +kernel)) (fun _ h9 => h9) rfl dX6_isAhead_58 ?_
      refine lv_iload_n hx hb dX6_isAhead_61 rfl (lv_at hl 1 rfl) ?_
      refine rAld hx hb fx hw 36 (hF.1 36 (by decide)) hF.2.1 (fun _ => rfl) i rfl (by omega) (by decide) dX6_isAhead_62 ?_
      refine lv_aload_n hx hb dX6_isAhead_63 rfl (lv_at hl 0 rfl) ?_
      refine rGet (v := .ref (gad G 37)) (C := RX6) (T := TX6) (N := 26) hx hb fx hown hts hin hw 31 (hF.1 31 (by decide)) rfl rfl 15 (by decide) (hts (.fieldLink RX6 29 "LeaguewheelModel" "debt" "[I") (by decide +kernel)) (fun _ h9 => h9) rfl dX6_isAhead_64 ?_
      refine lv_iload_n hx hb dX6_isAhead_67 rfl (lv_at hl 1 rfl) ?_
      refine rAld hx hb fx hw 37 (hF.1 37 (by decide)) hF.2.1 (fun _ => rfl) i rfl (by omega) (by decide) dX6_isAhead_68 ?_
      refine lv_isub hx hb dX6_isAhead_69 ?_
      refine lv_istore_n (lv' := [(3, .int ((σ 36 i) - (σ 37 i))), (0, .ref (gad G 31)), (1, .int (nI i)), (2, .int (nI j))]) hx hb dX6_isAhead_70 rfl hl (by decide) rfl (fun ls hl => ?_)
      refine lv_aload_n hx hb dX6_isAhead_71 rfl (lv_at hl 1 rfl) ?_
      refine rGet (v := .ref (gad G 36)) (C := RX6) (T := TX6) (N := 26) hx hb fx hown hts hin hw 31 (hF.1 31 (by decide)) rfl rfl 14 (by decide) (hts (.fieldLink RX6 26 "LeaguewheelModel" "lap" "[I") (by decide +kernel)) (fun _ h9 => h9) rfl dX6_isAhead_72 ?_
      refine lv_iload_n hx hb dX6_isAhead_75 rfl (lv_at hl 3 rfl) ?_
      refine rAld hx hb fx hw 36 (hF.1 36 (by decide)) hF.2.1 (fun _ => rfl) j rfl (by omega) (by decide) dX6_isAhead_76 ?_
      refine lv_aload_n hx hb dX6_isAhead_77 rfl (lv_at hl 1 rfl) ?_
      refine rGet (v := .ref (gad G 37)) (C := RX6) (T := TX6) (N := 26) hx hb fx hown hts hin hw 31 (hF.1 31 (by decide)) rfl rfl 15 (by decide) (hts (.fieldLink RX6 29 "LeaguewheelModel" "debt" "[I") (by decide +kernel)) (fun _ h9 => h9) rfl dX6_isAhead_78 ?_
      refine lv_iload_n hx hb dX6_isAhead_81 rfl (lv_at hl 3 rfl) ?_
      refine rAld hx hb fx hw 37 (hF.1 37 (by decide)) hF.2.1 (fun _ => rfl) j rfl (by omega) (by decide) dX6_isAhead_82 ?_
      refine lv_isub hx hb dX6_isAhead_83 ?_
      refine lv_istore (lv' := [(4, .int ((σ 36 j) - (σ 37 j))), (3, .int ((σ 36 i) - (σ 37 i))), (0, .ref (gad G 31)), (1, .int (nI i)), (2, .int (nI j))]) hx hb dX6_isAhead_84 hl (by decide) rfl (fun ls hl => ?_)
      refine lv_iload_n hx hb dX6_isAhead_86 rfl (lv_at hl 1 rfl) ?_
      refine lv_iload hx hb dX6_isAhead_87 (lv_at hl 0 rfl) ?_
      refine lv_icmp_eq (tgt := 104) hx hb dX6_isAhead_89 (by decide) (fun c_6 => ?_) (fun c_6 => ?_)
      · skip
        refine lv_aload_n hx hb dX6_isAhead_104 rfl (lv_at hl 2 rfl) ?_
        refine rGet (v := .ref (gad G 33)) (C := RX6) (T := TX6) (N := 26) hx hb fx hown hts hin hw 31 (hF.1 31 (by decide)) rfl rfl 3 (by decide) (hts (.fieldLink RX6 17 "LeaguewheelModel" "rest" "[I") (by decide +kernel)) (fun _ h9 => h9) rfl dX6_isAhead_105 ?_
        refine lv_aload_n hx hb dX6_isAhead_108 rfl (lv_at hl 2 rfl) ?_
        refine rGet (v := .ref (gad G 35)) (C := RX6) (T := TX6) (N := 26) hx hb fx hown hts hin hw 31 (hF.1 31 (by decide)) rfl rfl 13 (by decide) (hts (.fieldLink RX6 23 "LeaguewheelModel" "gate" "[I") (by decide +kernel)) (fun _ h9 => h9) rfl dX6_isAhead_109 ?_
        refine lv_iload_n hx hb dX6_isAhead_112 rfl (lv_at hl 3 rfl) ?_
        refine rAld hx hb fx hw 35 (hF.1 35 (by decide)) hF.2.1 (fun _ => rfl) i rfl (by omega) (by decide) dX6_isAhead_113 ?_
        refine lv_rep0 (x := (σ 35 i)) (y := nI (ix (σ 35 i))) (by exact (hgm i hi).1) ?_
        refine rAld hx hb fx hw 33 (hF.1 33 (by decide)) hF.2.1 (fun _ => rfl) (ix (σ 35 i)) rfl (by omega) (by decide) dX6_isAhead_114 ?_
        refine lv_istore (lv' := [(5, .int (σ 33 (ix (σ 35 i)))), (4, .int ((σ 36 j) - (σ 37 j))), (3, .int ((σ 36 i) - (σ 37 i))), (0, .ref (gad G 31)), (1, .int (nI i)), (2, .int (nI j))]) hx hb dX6_isAhead_115 hl (by decide) rfl (fun ls hl => ?_)
        refine lv_aload_n hx hb dX6_isAhead_117 rfl (lv_at hl 3 rfl) ?_
        refine rGet (v := .ref (gad G 33)) (C := RX6) (T := TX6) (N := 26) hx hb fx hown hts hin hw 31 (hF.1 31 (by decide)) rfl rfl 3 (by decide) (hts (.fieldLink RX6 17 "LeaguewheelModel" "rest" "[I") (by decide +kernel)) (fun _ h9 => h9) rfl dX6_isAhead_118 ?_
        refine lv_aload_n hx hb dX6_isAhead_121 rfl (lv_at hl 3 rfl) ?_
        refine rGet (v := .ref (gad G 35)) (C := RX6) (T := TX6) (N := 26) hx hb fx hown hts hin hw 31 (hF.1 31 (by decide)) rfl rfl 13 (by decide) (hts (.fieldLink RX6 23 "LeaguewheelModel" "gate" "[I") (by decide +kernel)) (fun _ h9 => h9) rfl dX6_isAhead_122 ?_
        refine lv_iload_n hx hb dX6_isAhead_125 rfl (lv_at hl 5 rfl) ?_
        refine rAld hx hb fx hw 35 (hF.1 35 (by decide)) hF.2.1 (fun _ => rfl) j rfl (by omega) (by decide) dX6_isAhead_126 ?_
        refine lv_rep0 (x := (σ 35 j)) (y := nI (ix (σ 35 j))) (by exact (hgm j hj).1) ?_
        refine rAld hx hb fx hw 33 (hF.1 33 (by decide)) hF.2.1 (fun _ => rfl) (ix (σ 35 j)) rfl (by omega) (by decide) dX6_isAhead_127 ?_
        refine lv_istore (lv' := [(6, .int (σ 33 (ix (σ 35 j)))), (5, .int (σ 33 (ix (σ 35 i)))), (4, .int ((σ 36 j) - (σ 37 j))), (3, .int ((σ 36 i) - (σ 37 i))), (0, .ref (gad G 31)), (1, .int (nI i)), (2, .int (nI j))]) hx hb dX6_isAhead_128 hl (by decide) rfl (fun ls hl => ?_)
        refine lv_iload hx hb dX6_isAhead_130 (lv_at hl 1 rfl) ?_
        refine lv_iload hx hb dX6_isAhead_132 (lv_at hl 0 rfl) ?_
        refine lv_icmp_eq (tgt := 150) hx hb dX6_isAhead_134 (by decide) (fun c_7 => ?_) (fun c_7 => ?_)
        · skip
          refine lv_aload_n hx hb dX6_isAhead_150 rfl (lv_at hl 4 rfl) ?_
          refine rGet (v := .ref (gad G 39)) (C := RX6) (T := TX6) (N := 26) hx hb fx hown hts hin hw 31 (hF.1 31 (by decide)) rfl rfl 17 (by decide) (hts (.fieldLink RX6 35 "LeaguewheelModel" "last" "[I") (by decide +kernel)) (fun _ h9 => h9) rfl dX6_isAhead_151 ?_
          refine lv_iload_n hx hb dX6_isAhead_154 rfl (lv_at hl 5 rfl) ?_
          refine rAld hx hb fx hw 39 (hF.1 39 (by decide)) hF.2.1 (fun _ => rfl) i rfl (by omega) (by decide) dX6_isAhead_155 ?_
          refine lv_aload_n hx hb dX6_isAhead_156 rfl (lv_at hl 4 rfl) ?_
          refine rGet (v := .ref (gad G 39)) (C := RX6) (T := TX6) (N := 26) hx hb fx hown hts hin hw 31 (hF.1 31 (by decide)) rfl rfl 17 (by decide) (hts (.fieldLink RX6 35 "LeaguewheelModel" "last" "[I") (by decide +kernel)) (fun _ h9 => h9) rfl dX6_isAhead_157 ?_
          refine lv_iload_n hx hb dX6_isAhead_160 rfl (lv_at hl 6 rfl) ?_
          refine rAld hx hb fx hw 39 (hF.1 39 (by decide)) hF.2.1 (fun _ => rfl) j rfl (by omega) (by decide) dX6_isAhead_161 ?_
          refine lv_icmp_lt (tgt := 185) hx hb dX6_isAhead_162 (by decide) (fun c_8 => ?_) (fun c_8 => ?_)
          · skip
            have c_8 := Int32.not_le.mpr c_8
            refine lv_iconst (v := 1) hx hb dX6_isAhead_185 (by decide) ?_
            refine lv_goto (tgt := 190) hx hb dX6_isAhead_186 (by decide) ?_
            exact rRetZ hx hb hr hw (by decide) (by exact ⟨by unfold maB; simp [bI, c_1, c_5, c_6, c_7, c_8], rfl⟩) hlocks dX6_isAhead_190
          · skip
            have c_8 := Int32.not_lt.mp c_8
            refine lv_aload_n hx hb dX6_isAhead_165 rfl (lv_at hl 4 rfl) ?_
            refine rGet (v := .ref (gad G 39)) (C := RX6) (T := TX6) (N := 26) hx hb fx hown hts hin hw 31 (hF.1 31 (by decide)) rfl rfl 17 (by decide) (hts (.fieldLink RX6 35 "LeaguewheelModel" "last" "[I") (by decide +kernel)) (fun _ h9 => h9) rfl dX6_isAhead_166 ?_
            refine lv_iload_n hx hb dX6_isAhead_169 rfl (lv_at hl 5 rfl) ?_
            refine rAld hx hb fx hw 39 (hF.1 39 (by decide)) hF.2.1 (fun _ => rfl) i rfl (by omega) (by decide) dX6_isAhead_170 ?_
            refine lv_aload_n hx hb dX6_isAhead_171 rfl (lv_at hl 4 rfl) ?_
            refine rGet (v := .ref (gad G 39)) (C := RX6) (T := TX6) (N := 26) hx hb fx hown hts hin hw 31 (hF.1 31 (by decide)) rfl rfl 17 (by decide) (hts (.fieldLink RX6 35 "LeaguewheelModel" "last" "[I") (by decide +kernel)) (fun _ h9 => h9) rfl dX6_isAhead_172 ?_
            refine lv_iload_n hx hb dX6_isAhead_175 rfl (lv_at hl 6 rfl) ?_
            refine rAld hx hb fx hw 39 (hF.1 39 (by decide)) hF.2.1 (fun _ => rfl) j rfl (by omega) (by decide) dX6_isAhead_176 ?_
            refine lv_icmp_ne (tgt := 189) hx hb dX6_isAhead_177 (by decide) (fun c_9 => ?_) (fun c_9 => ?_)
            · skip
              refine lv_iconst (v := 0) hx hb dX6_isAhead_189 (by decide) ?_
              exact rRetZ hx hb hr hw (by decide) (by exact ⟨by unfold maB; simp [bI, c_1, c_5, c_6, c_7, c_8, c_9], rfl⟩) hlocks dX6_isAhead_190
            · skip
              refine lv_iload_n hx hb dX6_isAhead_180 rfl (lv_at hl 5 rfl) ?_
              refine lv_iload_n hx hb dX6_isAhead_181 rfl (lv_at hl 6 rfl) ?_
              refine lv_icmp_ge (tgt := 189) hx hb dX6_isAhead_182 (by decide) (fun c_10 => ?_) (fun c_10 => ?_)
              · skip
                have c_10 : j ≤ i := (nI_leI (by omega) (by omega)).mp c_10
                refine lv_iconst (v := 0) hx hb dX6_isAhead_189 (by decide) ?_
                exact rRetZ hx hb hr hw (by decide) (by exact ⟨by unfold maB; simp [bI, c_1, c_5, c_6, c_7, c_8, c_9, c_10], rfl⟩) hlocks dX6_isAhead_190
              · skip
                have c_10 : ¬ j ≤ i := fun h9 => c_10 ((nI_leI (by omega) (by omega)).mpr h9)
                refine lv_iconst (v := 1) hx hb dX6_isAhead_185 (by decide) ?_
                refine lv_goto (tgt := 190) hx hb dX6_isAhead_186 (by decide) ?_
                exact rRetZ hx hb hr hw (by decide) (by exact ⟨by unfold maB; simp [bI, c_1, c_5, c_6, c_7, c_8, c_9, c_10], rfl⟩) hlocks dX6_isAhead_190
        · skip
          refine lv_iload hx hb dX6_isAhead_137 (lv_at hl 1 rfl) ?_
          refine lv_iload hx hb dX6_isAhead_139 (lv_at hl 0 rfl) ?_
          refine lv_icmp_ge (tgt := 148) hx hb dX6_isAhead_141 (by decide) (fun c_11 => ?_) (fun c_11 => ?_)
          · skip
            refine lv_iconst (v := 0) hx hb dX6_isAhead_148 (by decide) ?_
            exact rRetZ hx hb hr hw (by decide) (by exact ⟨by unfold maB; simp [bI, c_1, c_5, c_6, c_7, c_11], rfl⟩) hlocks dX6_isAhead_149
          · skip
            refine lv_iconst (v := 1) hx hb dX6_isAhead_144 (by decide) ?_
            refine lv_goto (tgt := 149) hx hb dX6_isAhead_145 (by decide) ?_
            exact rRetZ hx hb hr hw (by decide) (by exact ⟨by unfold maB; simp [bI, c_1, c_5, c_6, c_7, c_11], rfl⟩) hlocks dX6_isAhead_149
      · skip
        refine lv_iload_n hx hb dX6_isAhead_92 rfl (lv_at hl 1 rfl) ?_
        refine lv_iload hx hb dX6_isAhead_93 (lv_at hl 0 rfl) ?_
        refine lv_icmp_le (tgt := 102) hx hb dX6_isAhead_95 (by decide) (fun c_12 => ?_) (fun c_12 => ?_)
        · skip
          refine lv_iconst (v := 0) hx hb dX6_isAhead_102 (by decide) ?_
          exact rRetZ hx hb hr hw (by decide) (by exact ⟨by unfold maB; simp [bI, c_1, c_5, c_6, c_12], rfl⟩) hlocks dX6_isAhead_103
        · skip
          refine lv_iconst (v := 1) hx hb dX6_isAhead_98 (by decide) ?_
          refine lv_goto (tgt := 103) hx hb dX6_isAhead_99 (by decide) ?_
          exact rRetZ hx hb hr hw (by decide) (by exact ⟨by unfold maB; simp [bI, c_1, c_5, c_6, c_12], rfl⟩) hlocks dX6_isAhead_103
    · skip
      refine lv_aload_n hx hb dX6_isAhead_18 rfl (lv_at hl 0 rfl) ?_
      refine rGet (v := .ref (gad G 40)) (C := RX6) (T := TX6) (N := 26) hx hb fx hown hts hin hw 31 (hF.1 31 (by decide)) rfl rfl 18 (by decide) (hts (.fieldLink RX6 38 "LeaguewheelModel" "finish" "[I") (by decide +kernel)) (fun _ h9 => h9) rfl dX6_isAhead_19 ?_
      refine lv_iload_n hx hb dX6_isAhead_22 rfl (lv_at hl 1 rfl) ?_
      refine rAld hx hb fx hw 40 (hF.1 40 (by decide)) hF.2.1 (fun _ => rfl) i rfl (by omega) (by decide) dX6_isAhead_23 ?_
      refine lv_if_le (tgt := 55) hx hb dX6_isAhead_24 (by decide) (fun c_13 => ?_) (fun c_13 => ?_)
      · skip
        refine lv_iconst (v := 0) hx hb dX6_isAhead_55 (by decide) ?_
        exact rRetZ hx hb hr hw (by decide) (by exact ⟨by unfold maB; simp [bI, c_1, c_5, c_13], rfl⟩) hlocks dX6_isAhead_56
      · skip
        exact absurd c_1 c_13

def rmX6_ranked : Room := ({ frames := 1, cells := 0, slots := 0, locals := 26 } : Room)
set_option maxHeartbeats 4000000 in
set_option maxRecDepth 100000 in
theorem kX6_ranked (l : Launch) (G : Gx) (hG : gOk G) (hF : Full G) (σ : St) (k : Nat) (hk : k < 6) (n : Nat) (hmn : σ 31 4 = nI n) (hmn6 : n ≤ 6) (hgm : mgOk σ)  : CtI l yX6_ranked wsX6_ranked rmX6_ranked G σ [.ref (gad G 31), .int (nI k)] (fun r σ' => r = nI (rkM σ n k) ∧ σ' = σ) := by
  refine bgMet (cc := cX6_ranked) (maxL := 4) (ret := (some .int)) (own := RX6) (by decide) rfl rfl hG (Nat.le_of_ble_eq_true rfl) rfl ?_
  intro p e s m args below meth c ls Bd hl
  obtain ⟨hx, hb, hr, hml, hts, hown, hlocks, fx, hw⟩ := Bd
  have hl : lv_has ls 4 [(0, .ref (gad G 31)), (1, .int (nI k))] := hl
  have hin : ∀ w ∈ wsX60, w ∈ wsX6_ranked := by decide +kernel
  refine lv_iconst (v := 0) hx hb dX6_ranked_0 (by decide) ?_
  refine lv_istore_n (lv' := [(2, .int 0), (0, .ref (gad G 31)), (1, .int (nI k))]) hx hb dX6_ranked_1 rfl hl (by decide) rfl (fun ls hl => ?_)
  refine lv_iconst (v := 0) hx hb dX6_ranked_2 (by decide) ?_
  refine lv_istore_n (lv' := [(3, .int 0), (2, .int 0), (0, .ref (gad G 31)), (1, .int (nI k))]) hx hb dX6_ranked_3 rfl hl (by decide) rfl (fun ls hl => ?_)
  have lab_4 : ∀ (n9 : Nat), ∀ (i : Nat), n - i < n9 → i ≤ n → ∀ (H : Heap) (locs : List Loc) (ls : Array Slot), Wd G s σ H locs → lv_has ls 4 [(0, .ref (gad G 31)), (1, .int (nI k)), (2, .int (nI (cntA (fun a => !decide (a = k) && maB σ a k) i))), (3, .int (nI i))] → W p l e rmX6_ranked s m args below meth c H locs 0 0 (MQ below (va_Qi (fun r σ' => r = nI (rkM σ n k) ∧ σ' = σ) (BW G) (gA G)) args s 0 0 (gA G)) (F0 m 4 ls []) := by
    intro n9
    induction n9 with
    | zero => intro i hn9; exact absurd hn9 (Nat.not_lt_zero _)
    | succ n9 ih4 =>
      intro i hn9 h4_0 H locs ls hw hl
      refine lv_iload_n hx hb dX6_ranked_4 rfl (lv_at hl 3 rfl) ?_
      refine lv_aload_n hx hb dX6_ranked_5 rfl (lv_at hl 0 rfl) ?_
      refine rGet (v := .int (σ 31 4)) (C := RX6) (T := TX6) (N := 26) hx hb fx hown hts hin hw 31 (hF.1 31 (by decide)) rfl rfl 4 (by decide) (hts (.fieldLink RX6 64 "LeaguewheelModel" "karts" "I") (by decide +kernel)) (fun _ h9 => h9) rfl dX6_ranked_6 ?_
      refine lv_rep0 (x := (σ 31 4)) (y := nI n) (by exact hmn) ?_
      refine lv_icmp_ge (tgt := 40) hx hb dX6_ranked_9 (by decide) (fun c_1 => ?_) (fun c_1 => ?_)
      · skip
        have c_1 : n ≤ i := (nI_leI (by omega) (by omega)).mp c_1
        refine lv_iload_n hx hb dX6_ranked_40 rfl (lv_at hl 2 rfl) ?_
        exact rRetI hx hb hr hw (by exact ⟨by rw [show n = i by omega]; rfl, rfl⟩) hlocks dX6_ranked_41
      · skip
        have c_1 : ¬ n ≤ i := fun h9 => c_1 ((nI_leI (by omega) (by omega)).mpr h9)
        refine lv_iload_n hx hb dX6_ranked_12 rfl (lv_at hl 2 rfl) ?_
        refine lv_iload_n hx hb dX6_ranked_13 rfl (lv_at hl 3 rfl) ?_
        refine lv_iload_n hx hb dX6_ranked_14 rfl (lv_at hl 1 rfl) ?_
        refine lv_icmp_eq (tgt := 31) hx hb dX6_ranked_15 (by decide) (fun c_2 => ?_) (fun c_2 => ?_)
        · skip
          have c_2 : i = k := (nI_eq (by omega) (by omega)).mp c_2
          refine lv_iconst (v := 0) hx hb dX6_ranked_31 (by decide) ?_
          refine lv_rep0 (x := 0) (y := nI 0) rfl ?_
          refine lv_iadd hx hb dX6_ranked_32 ?_
          refine lv_rep0 (x := ((nI (cntA (fun a => !decide (a = k) && maB σ a k) i)) + (nI 0))) (y := nI ((cntA (fun a => !decide (a = k) && maB σ a k) i) + 0)) (nI_add _ _) ?_
          refine lv_istore_n (lv' := [(2, .int (nI ((cntA (fun a => !decide (a = k) && maB σ a k) i) + 0))), (0, .ref (gad G 31)), (1, .int (nI k)), (3, .int (nI i))]) hx hb dX6_ranked_33 rfl hl (by decide) rfl (fun ls hl => ?_)
          refine lv_iinc (v := (nI (i + 1))) (lv' := [(3, .int (nI (i + 1))), (2, .int (nI ((cntA (fun a => !decide (a = k) && maB σ a k) i) + 0))), (0, .ref (gad G 31)), (1, .int (nI k))]) hx hb dX6_ranked_34 hl (k := 3) rfl (nI_1 _) (by decide) rfl (fun ls hl => ?_)
          refine lv_goto (tgt := 4) hx hb dX6_ranked_37 (by decide) ?_
          have q_3 : (nI ((cntA (fun a => !decide (a = k) && maB σ a k) i) + 0)) = (nI (cntA (fun a => !decide (a = k) && maB σ a k) (i + 1))) := by first | rfl | (simp [cntA, c_1, c_2])
          exact ih4 (i + 1) (by omega) (by omega) _ _ _ hw (lv_c (lv_at hl 2 rfl) (lv_c (lv_at hl 3 rfl) (lv_c (lv_atq hl 1 rfl q_3) (lv_c (lv_at hl 0 rfl) (lv_c0 hl)))))
        · skip
          have c_2 : ¬ i = k := fun h9 => c_2 ((nI_eq (by omega) (by omega)).mpr h9)
          refine lv_aload_n hx hb dX6_ranked_18 rfl (lv_at hl 0 rfl) ?_
          refine lv_iload_n hx hb dX6_ranked_19 rfl (lv_at hl 3 rfl) ?_
          refine lv_iload_n hx hb dX6_ranked_20 rfl (lv_at hl 1 rfl) ?_
          refine rCallI (C := RX6) (As := [.int (nI i), .int (nI k)]) (rest := [.int (nI (cntA (fun a => !decide (a = k) && maB σ a k) i))]) ⟨hx, hb, hml, hown, hts⟩ fx hw (kX6_isAhead l G hG hF σ i k (by omega) (by omega) hgm) (cwV 2 hts gX6_ranked_X6_isAhead rfl rfl rfl (by decide +kernel) ⟨Nat.le_of_ble_eq_true rfl, Nat.le_of_ble_eq_true rfl⟩) (hF.1 31 (by decide)) rfl rfl rfl rfl hl.1 rfl (Nat.le_of_ble_eq_true rfl) dX6_ranked_21 ⟨Nat.zero_le _, Nat.zero_le _⟩ ?_
          intro r_5 σ_6 H locs p_4 hw
          obtain ⟨er_5, eσ_6⟩ := p_4
          have er_5 := er_5.symm; subst er_5
          have eσ_6 := eσ_6.symm; subst eσ_6
          refine lv_b_eq (tgt := 31) hx hb dX6_ranked_24 (by decide) (fun c_7 => ?_) (fun c_7 => ?_)
          · skip
            refine lv_iconst (v := 0) hx hb dX6_ranked_31 (by decide) ?_
            refine lv_rep0 (x := 0) (y := nI 0) rfl ?_
            refine lv_iadd hx hb dX6_ranked_32 ?_
            refine lv_rep0 (x := ((nI (cntA (fun a => !decide (a = k) && maB σ a k) i)) + (nI 0))) (y := nI ((cntA (fun a => !decide (a = k) && maB σ a k) i) + 0)) (nI_add _ _) ?_
            refine lv_istore_n (lv' := [(2, .int (nI ((cntA (fun a => !decide (a = k) && maB σ a k) i) + 0))), (0, .ref (gad G 31)), (1, .int (nI k)), (3, .int (nI i))]) hx hb dX6_ranked_33 rfl hl (by decide) rfl (fun ls hl => ?_)
            refine lv_iinc (v := (nI (i + 1))) (lv' := [(3, .int (nI (i + 1))), (2, .int (nI ((cntA (fun a => !decide (a = k) && maB σ a k) i) + 0))), (0, .ref (gad G 31)), (1, .int (nI k))]) hx hb dX6_ranked_34 hl (k := 3) rfl (nI_1 _) (by decide) rfl (fun ls hl => ?_)
            refine lv_goto (tgt := 4) hx hb dX6_ranked_37 (by decide) ?_
            have q_8 : (nI ((cntA (fun a => !decide (a = k) && maB σ a k) i) + 0)) = (nI (cntA (fun a => !decide (a = k) && maB σ a k) (i + 1))) := by first | rfl | (simp [cntA, c_1, c_2, c_7])
            exact ih4 (i + 1) (by omega) (by omega) _ _ _ hw (lv_c (lv_at hl 2 rfl) (lv_c (lv_at hl 3 rfl) (lv_c (lv_atq hl 1 rfl q_8) (lv_c (lv_at hl 0 rfl) (lv_c0 hl)))))
          · skip
            refine lv_iconst (v := 1) hx hb dX6_ranked_27 (by decide) ?_
            refine lv_goto (tgt := 32) hx hb dX6_ranked_28 (by decide) ?_
            refine lv_rep0 (x := 1) (y := nI 1) rfl ?_
            refine lv_iadd hx hb dX6_ranked_32 ?_
            refine lv_rep0 (x := ((nI (cntA (fun a => !decide (a = k) && maB σ a k) i)) + (nI 1))) (y := nI ((cntA (fun a => !decide (a = k) && maB σ a k) i) + 1)) (nI_add _ _) ?_
            refine lv_istore_n (lv' := [(2, .int (nI ((cntA (fun a => !decide (a = k) && maB σ a k) i) + 1))), (0, .ref (gad G 31)), (1, .int (nI k)), (3, .int (nI i))]) hx hb dX6_ranked_33 rfl hl (by decide) rfl (fun ls hl => ?_)
            refine lv_iinc (v := (nI (i + 1))) (lv' := [(3, .int (nI (i + 1))), (2, .int (nI ((cntA (fun a => !decide (a = k) && maB σ a k) i) + 1))), (0, .ref (gad G 31)), (1, .int (nI k))]) hx hb dX6_ranked_34 hl (k := 3) rfl (nI_1 _) (by decide) rfl (fun ls hl => ?_)
            refine lv_goto (tgt := 4) hx hb dX6_ranked_37 (by decide) ?_
            have q_9 : (nI ((cntA (fun a => !decide (a = k) && maB σ a k) i) + 1)) = (nI (cntA (fun a => !decide (a = k) && maB σ a k) (i + 1))) := by first | rfl | (simp [cntA, c_1, c_2, c_7])
            exact ih4 (i + 1) (by omega) (by omega) _ _ _ hw (lv_c (lv_at hl 2 rfl) (lv_c (lv_at hl 3 rfl) (lv_c (lv_atq hl 1 rfl q_9) (lv_c (lv_at hl 0 rfl) (lv_c0 hl)))))
  have q_10 : 0 = (nI (cntA (fun a => !decide (a = k) && maB σ a k) 0)) := by first | rfl | (simp [cntA])
  have q_11 : 0 = (nI 0) := by first | rfl | (simp [cntA])
  exact lab_4 (n - 0 + 1) 0 (by omega) (by omega) _ _ _ hw (lv_c (lv_at hl 2 rfl) (lv_c (lv_at hl 3 rfl) (lv_c (lv_atq hl 1 rfl q_10) (lv_c (lv_atq hl 0 rfl q_11) (lv_c0 hl)))))

def rmX6_done : Room := ({ frames := 0, cells := 0, slots := 0, locals := 0 } : Room)
set_option maxHeartbeats 4000000 in
set_option maxRecDepth 100000 in
theorem kX6_done (l : Launch) (G : Gx) (hG : gOk G) (hF : Full G) (σ : St) (k : Nat) (hk : k < 6) (hgm : mgOk σ)  : CtI l yX6_done wsX6_done rmX6_done G σ [.ref (gad G 31), .int (nI k)] (fun r σ' => r = mdA σ k ∧ σ' = σ) := by
  refine bgMet (cc := cX6_done) (maxL := 2) (ret := (some .int)) (own := RX6) (by decide) rfl rfl hG (Nat.le_of_ble_eq_true rfl) rfl ?_
  intro p e s m args below meth c ls Bd hl
  obtain ⟨hx, hb, hr, hml, hts, hown, hlocks, fx, hw⟩ := Bd
  have hl : lv_has ls 2 [(0, .ref (gad G 31)), (1, .int (nI k))] := hl
  have hin : ∀ w ∈ wsX60, w ∈ wsX6_done := by decide +kernel
  have hgk := (hgm k hk).2
  refine lv_aload_n hx hb dX6_done_0 rfl (lv_at hl 0 rfl) ?_
  refine rGet (v := .ref (gad G 36)) (C := RX6) (T := TX6) (N := 26) hx hb fx hown hts hin hw 31 (hF.1 31 (by decide)) rfl rfl 14 (by decide) (hts (.fieldLink RX6 26 "LeaguewheelModel" "lap" "[I") (by decide +kernel)) (fun _ h9 => h9) rfl dX6_done_1 ?_
  refine lv_iload_n hx hb dX6_done_4 rfl (lv_at hl 1 rfl) ?_
  refine rAld hx hb fx hw 36 (hF.1 36 (by decide)) hF.2.1 (fun _ => rfl) k rfl (by omega) (by decide) dX6_done_5 ?_
  refine lv_aload_n hx hb dX6_done_6 rfl (lv_at hl 0 rfl) ?_
  refine rGet (v := .ref (gad G 37)) (C := RX6) (T := TX6) (N := 26) hx hb fx hown hts hin hw 31 (hF.1 31 (by decide)) rfl rfl 15 (by decide) (hts (.fieldLink RX6 29 "LeaguewheelModel" "debt" "[I") (by decide +kernel)) (fun _ h9 => h9) rfl dX6_done_7 ?_
  refine lv_iload_n hx hb dX6_done_10 rfl (lv_at hl 1 rfl) ?_
  refine rAld hx hb fx hw 37 (hF.1 37 (by decide)) hF.2.1 (fun _ => rfl) k rfl (by omega) (by decide) dX6_done_11 ?_
  refine lv_isub hx hb dX6_done_12 ?_
  refine lv_aload_n hx hb dX6_done_13 rfl (lv_at hl 0 rfl) ?_
  refine rGet (v := .ref (gad G 33)) (C := RX6) (T := TX6) (N := 26) hx hb fx hown hts hin hw 31 (hF.1 31 (by decide)) rfl rfl 3 (by decide) (hts (.fieldLink RX6 17 "LeaguewheelModel" "rest" "[I") (by decide +kernel)) (fun _ h9 => h9) rfl dX6_done_14 ?_
  refine lv_iconst (v := 0) hx hb dX6_done_17 (by decide) ?_
  refine lv_rep0 (x := 0) (y := nI 0) rfl ?_
  refine rAld hx hb fx hw 33 (hF.1 33 (by decide)) hF.2.1 (fun _ => rfl) 0 rfl (by omega) (by decide) dX6_done_18 ?_
  refine lv_imul hx hb dX6_done_19 ?_
  refine lv_aload_n hx hb dX6_done_20 rfl (lv_at hl 0 rfl) ?_
  refine rGet (v := .ref (gad G 35)) (C := RX6) (T := TX6) (N := 26) hx hb fx hown hts hin hw 31 (hF.1 31 (by decide)) rfl rfl 13 (by decide) (hts (.fieldLink RX6 23 "LeaguewheelModel" "gate" "[I") (by decide +kernel)) (fun _ h9 => h9) rfl dX6_done_21 ?_
  refine lv_iload_n hx hb dX6_done_24 rfl (lv_at hl 1 rfl) ?_
  refine rAld hx hb fx hw 35 (hF.1 35 (by decide)) hF.2.1 (fun _ => rfl) k rfl (by omega) (by decide) dX6_done_25 ?_
  refine lv_rep0 (x := (σ 35 k)) (y := nI (ix (σ 35 k))) (by exact (hgm k hk).1) ?_
  refine lv_if_ne (tgt := 33) hx hb dX6_done_26 (by decide) (fun c_1 => ?_) (fun c_1 => ?_)
  · skip
    have c_1 : ¬ (ix (σ 35 k)) = 0 := n0_net (by omega) c_1
    refine lv_aload_n hx hb dX6_done_33 rfl (lv_at hl 0 rfl) ?_
    refine rGet (v := .ref (gad G 33)) (C := RX6) (T := TX6) (N := 26) hx hb fx hown hts hin hw 31 (hF.1 31 (by decide)) rfl rfl 3 (by decide) (hts (.fieldLink RX6 17 "LeaguewheelModel" "rest" "[I") (by decide +kernel)) (fun _ h9 => h9) rfl dX6_done_34 ?_
    refine lv_iconst (v := 0) hx hb dX6_done_37 (by decide) ?_
    refine lv_rep0 (x := 0) (y := nI 0) rfl ?_
    refine rAld hx hb fx hw 33 (hF.1 33 (by decide)) hF.2.1 (fun _ => rfl) 0 rfl (by omega) (by decide) dX6_done_38 ?_
    refine lv_aload_n hx hb dX6_done_39 rfl (lv_at hl 0 rfl) ?_
    refine rGet (v := .ref (gad G 33)) (C := RX6) (T := TX6) (N := 26) hx hb fx hown hts hin hw 31 (hF.1 31 (by decide)) rfl rfl 3 (by decide) (hts (.fieldLink RX6 17 "LeaguewheelModel" "rest" "[I") (by decide +kernel)) (fun _ h9 => h9) rfl dX6_done_40 ?_
    refine lv_aload_n hx hb dX6_done_43 rfl (lv_at hl 0 rfl) ?_
    refine rGet (v := .ref (gad G 35)) (C := RX6) (T := TX6) (N := 26) hx hb fx hown hts hin hw 31 (hF.1 31 (by decide)) rfl rfl 13 (by decide) (hts (.fieldLink RX6 23 "LeaguewheelModel" "gate" "[I") (by decide +kernel)) (fun _ h9 => h9) rfl dX6_done_44 ?_
    refine lv_iload_n hx hb dX6_done_47 rfl (lv_at hl 1 rfl) ?_
    refine rAld hx hb fx hw 35 (hF.1 35 (by decide)) hF.2.1 (fun _ => rfl) k rfl (by omega) (by decide) dX6_done_48 ?_
    refine lv_rep0 (x := (σ 35 k)) (y := nI (ix (σ 35 k))) (by exact (hgm k hk).1) ?_
    refine rAld hx hb fx hw 33 (hF.1 33 (by decide)) hF.2.1 (fun _ => rfl) (ix (σ 35 k)) rfl (by omega) (by decide) dX6_done_49 ?_
    refine lv_isub hx hb dX6_done_50 ?_
    refine lv_iadd hx hb dX6_done_51 ?_
    exact rRetI hx hb hr hw (by exact ⟨by first | rfl | simp [mdA, bI, c_1] | simp [mdA, upA_n, upA_s, upA_upA, upA_self, upd_self, upd_upd, pk_us, bI, c_1], by first | rfl | simp [mdA, upA_n, upA_s, upA_upA, upA_self, upd_self, upd_upd, pk_us, bI, c_1]⟩) hlocks dX6_done_52
  · skip
    have c_1 : (ix (σ 35 k)) = 0 := n0_nef (by omega) c_1
    refine lv_iconst (v := 0) hx hb dX6_done_29 (by decide) ?_
    refine lv_goto (tgt := 51) hx hb dX6_done_30 (by decide) ?_
    refine lv_iadd hx hb dX6_done_51 ?_
    exact rRetI hx hb hr hw (by exact ⟨by first | rfl | simp [mdA, bI, c_1] | simp [mdA, upA_n, upA_s, upA_upA, upA_self, upd_self, upd_upd, pk_us, bI, c_1], by first | rfl | simp [mdA, upA_n, upA_s, upA_upA, upA_self, upd_self, upd_upd, pk_us, bI, c_1]⟩) hlocks dX6_done_52

def rmX6_atRank : Room := ({ frames := 2, cells := 0, slots := 0, locals := 49 } : Room)
set_option maxHeartbeats 4000000 in
set_option maxRecDepth 100000 in
theorem kX6_atRank (l : Launch) (G : Gx) (hG : gOk G) (hF : Full G) (σ : St) (q : Nat) (hq : q < 2 ^ 30) (n : Nat) (hmn : σ 31 4 = nI n) (hmn6 : n ≤ 6) (hgm : mgOk σ)  : CtI l yX6_atRank wsX6_atRank rmX6_atRank G σ [.ref (gad G 31), .int (nI q)] (fun r σ' => r = mkA σ n q n ∧ σ' = σ) := by
  refine bgMet (cc := cX6_atRank) (maxL := 4) (ret := (some .int)) (own := RX6) (by decide) rfl rfl hG (Nat.le_of_ble_eq_true rfl) rfl ?_
  intro p e s m args below meth c ls Bd hl
  obtain ⟨hx, hb, hr, hml, hts, hown, hlocks, fx, hw⟩ := Bd
  have hl : lv_has ls 4 [(0, .ref (gad G 31)), (1, .int (nI q))] := hl
  have hin : ∀ w ∈ wsX60, w ∈ wsX6_atRank := by decide +kernel
  refine lv_iconst (v := (-1)) hx hb dX6_atRank_0 (by decide) ?_
  refine lv_istore_n (lv' := [(2, .int (-1)), (0, .ref (gad G 31)), (1, .int (nI q))]) hx hb dX6_atRank_1 rfl hl (by decide) rfl (fun ls hl => ?_)
  refine lv_iconst (v := 0) hx hb dX6_atRank_2 (by decide) ?_
  refine lv_istore_n (lv' := [(3, .int 0), (2, .int (-1)), (0, .ref (gad G 31)), (1, .int (nI q))]) hx hb dX6_atRank_3 rfl hl (by decide) rfl (fun ls hl => ?_)
  have lab_4 : ∀ (n9 : Nat), ∀ (i : Nat), n - i < n9 → i ≤ n → ∀ (H : Heap) (locs : List Loc) (ls : Array Slot), Wd G s σ H locs → lv_has ls 4 [(0, .ref (gad G 31)), (1, .int (nI q)), (2, .int (mkA σ n q i)), (3, .int (nI i))] → W p l e rmX6_atRank s m args below meth c H locs 0 0 (MQ below (va_Qi (fun r σ' => r = mkA σ n q n ∧ σ' = σ) (BW G) (gA G)) args s 0 0 (gA G)) (F0 m 4 ls []) := by
    intro n9
    induction n9 with
    | zero => intro i hn9; exact absurd hn9 (Nat.not_lt_zero _)
    | succ n9 ih4 =>
      intro i hn9 h4_0 H locs ls hw hl
      refine lv_iload_n hx hb dX6_atRank_4 rfl (lv_at hl 3 rfl) ?_
      refine lv_aload_n hx hb dX6_atRank_5 rfl (lv_at hl 0 rfl) ?_
      refine rGet (v := .int (σ 31 4)) (C := RX6) (T := TX6) (N := 26) hx hb fx hown hts hin hw 31 (hF.1 31 (by decide)) rfl rfl 4 (by decide) (hts (.fieldLink RX6 64 "LeaguewheelModel" "karts" "I") (by decide +kernel)) (fun _ h9 => h9) rfl dX6_atRank_6 ?_
      refine lv_rep0 (x := (σ 31 4)) (y := nI n) (by exact hmn) ?_
      refine lv_icmp_ge (tgt := 33) hx hb dX6_atRank_9 (by decide) (fun c_1 => ?_) (fun c_1 => ?_)
      · skip
        have c_1 : n ≤ i := (nI_leI (by omega) (by omega)).mp c_1
        refine lv_iload_n hx hb dX6_atRank_33 rfl (lv_at hl 2 rfl) ?_
        exact rRetI hx hb hr hw (by exact ⟨by rw [show n = i by omega], rfl⟩) hlocks dX6_atRank_34
      · skip
        have c_1 : ¬ n ≤ i := fun h9 => c_1 ((nI_leI (by omega) (by omega)).mpr h9)
        refine lv_aload_n hx hb dX6_atRank_12 rfl (lv_at hl 0 rfl) ?_
        refine lv_iload_n hx hb dX6_atRank_13 rfl (lv_at hl 3 rfl) ?_
        refine rCallI (C := RX6) (As := [.int (nI i)]) (rest := []) ⟨hx, hb, hml, hown, hts⟩ fx hw (kX6_ranked l G hG hF σ i (by omega) n hmn (by omega) hgm) (cwV 1 hts gX6_atRank_X6_ranked rfl rfl rfl (by decide +kernel) ⟨Nat.le_of_ble_eq_true rfl, Nat.le_of_ble_eq_true rfl⟩) (hF.1 31 (by decide)) rfl rfl rfl rfl hl.1 rfl (Nat.le_of_ble_eq_true rfl) dX6_atRank_14 ⟨Nat.zero_le _, Nat.zero_le _⟩ ?_
        intro r_3 σ_4 H locs p_2 hw
        obtain ⟨er_3, eσ_4⟩ := p_2
        have er_3 := er_3.symm; subst er_3
        have eσ_4 := eσ_4.symm; subst eσ_4
        have hr9 := rkM_lt (σ := σ) (n := n) (k := i) (by omega)
        refine lv_iload_n hx hb dX6_atRank_17 rfl (lv_at hl 1 rfl) ?_
        refine lv_icmp_ne (tgt := 25) hx hb dX6_atRank_18 (by decide) (fun c_5 => ?_) (fun c_5 => ?_)
        · skip
          have c_5 : ¬ (rkM σ n i) = q := fun h9 => c_5 ((nI_eq (by omega) (by omega)).mpr h9)
          refine lv_iload_n hx hb dX6_atRank_25 rfl (lv_at hl 2 rfl) ?_
          refine lv_istore_n (lv' := [(2, .int (mkA σ n q i)), (0, .ref (gad G 31)), (1, .int (nI q)), (3, .int (nI i))]) hx hb dX6_atRank_26 rfl hl (by decide) rfl (fun ls hl => ?_)
          refine lv_iinc (v := (nI (i + 1))) (lv' := [(3, .int (nI (i + 1))), (2, .int (mkA σ n q i)), (0, .ref (gad G 31)), (1, .int (nI q))]) hx hb dX6_atRank_27 hl (k := 3) rfl (nI_1 _) (by decide) rfl (fun ls hl => ?_)
          refine lv_goto (tgt := 4) hx hb dX6_atRank_30 (by decide) ?_
          have q_6 : (mkA σ n q i) = (mkA σ n q (i + 1)) := by first | rfl | (simp [mkA, c_1, c_5])
          exact ih4 (i + 1) (by omega) (by omega) _ _ _ hw (lv_c (lv_at hl 2 rfl) (lv_c (lv_at hl 3 rfl) (lv_c (lv_atq hl 1 rfl q_6) (lv_c (lv_at hl 0 rfl) (lv_c0 hl)))))
        · skip
          have c_5 : (rkM σ n i) = q := (nI_eq (by omega) (by omega)).mp c_5
          refine lv_iload_n hx hb dX6_atRank_21 rfl (lv_at hl 3 rfl) ?_
          refine lv_goto (tgt := 26) hx hb dX6_atRank_22 (by decide) ?_
          refine lv_istore_n (lv' := [(2, .int (nI i)), (0, .ref (gad G 31)), (1, .int (nI q)), (3, .int (nI i))]) hx hb dX6_atRank_26 rfl hl (by decide) rfl (fun ls hl => ?_)
          refine lv_iinc (v := (nI (i + 1))) (lv' := [(3, .int (nI (i + 1))), (2, .int (nI i)), (0, .ref (gad G 31)), (1, .int (nI q))]) hx hb dX6_atRank_27 hl (k := 3) rfl (nI_1 _) (by decide) rfl (fun ls hl => ?_)
          refine lv_goto (tgt := 4) hx hb dX6_atRank_30 (by decide) ?_
          have q_7 : (nI i) = (mkA σ n q (i + 1)) := by first | rfl | (simp [mkA, c_1, c_5])
          exact ih4 (i + 1) (by omega) (by omega) _ _ _ hw (lv_c (lv_at hl 2 rfl) (lv_c (lv_at hl 3 rfl) (lv_c (lv_atq hl 1 rfl q_7) (lv_c (lv_at hl 0 rfl) (lv_c0 hl)))))
  have q_8 : (-1) = (mkA σ n q 0) := by first | rfl | (simp [mkA])
  have q_9 : 0 = (nI 0) := by first | rfl | (simp [mkA])
  exact lab_4 (n - 0 + 1) 0 (by omega) (by omega) _ _ _ hw (lv_c (lv_at hl 2 rfl) (lv_c (lv_at hl 3 rfl) (lv_c (lv_atq hl 1 rfl q_8) (lv_c (lv_atq hl 0 rfl q_9) (lv_c0 hl)))))

def rmX6_drawn : Room := ({ frames := 0, cells := 0, slots := 0, locals := 0 } : Room)
set_option maxHeartbeats 4000000 in
set_option maxRecDepth 100000 in
theorem kX6_drawn (l : Launch) (G : Gx) (hG : gOk G) (hF : Full G) (σ : St) (w d : Nat) (hw9 : w < 6) (hd9 : d < 4)  : CtI l yX6_drawn wsX6_drawn rmX6_drawn G σ [.int (nI w), .int (nI d)] (fun r σ' => r = itA w d ∧ σ' = σ) := by
  refine bgMet (cc := cX6_drawn) (maxL := 2) (ret := (some .int)) (own := RX6) (by decide) rfl rfl hG (Nat.le_of_ble_eq_true rfl) rfl ?_
  intro p e s m args below meth c ls Bd hl
  obtain ⟨hx, hb, hr, hml, hts, hown, hlocks, fx, hw⟩ := Bd
  have hl : lv_has ls 2 [(0, .int (nI w)), (1, .int (nI d))] := hl
  refine lv_iload_n hx hb dX6_drawn_0 rfl (lv_at hl 0 rfl) ?_
  refine lv_if_ne (tgt := 24) hx hb dX6_drawn_1 (by decide) (fun c_1 => ?_) (fun c_1 => ?_)
  · skip
    have c_1 : ¬ w = 0 := n0_net (by omega) c_1
    refine lv_iload_n hx hb dX6_drawn_24 rfl (lv_at hl 0 rfl) ?_
    refine lv_iconst (v := 3) hx hb dX6_drawn_25 (by decide) ?_
    refine lv_rep0 (x := 3) (y := nI 3) rfl ?_
    refine lv_icmp_ge (tgt := 49) hx hb dX6_drawn_26 (by decide) (fun c_2 => ?_) (fun c_2 => ?_)
    · skip
      have c_2 : 3 ≤ w := (nI_leI (by omega) (by omega)).mp c_2
      refine lv_iload_n hx hb dX6_drawn_49 rfl (lv_at hl 1 rfl) ?_
      refine lv_iconst (v := 1) hx hb dX6_drawn_50 (by decide) ?_
      refine lv_rep0 (x := 1) (y := nI 1) rfl ?_
      refine lv_icmp_ne (tgt := 58) hx hb dX6_drawn_51 (by decide) (fun c_3 => ?_) (fun c_3 => ?_)
      · skip
        have c_3 : ¬ d = 1 := fun h9 => c_3 ((nI_eq (by omega) (by omega)).mpr h9)
        refine lv_iload_n hx hb dX6_drawn_58 rfl (lv_at hl 1 rfl) ?_
        refine lv_iconst (v := 2) hx hb dX6_drawn_59 (by decide) ?_
        refine lv_rep0 (x := 2) (y := nI 2) rfl ?_
        refine lv_icmp_ne (tgt := 67) hx hb dX6_drawn_60 (by decide) (fun c_4 => ?_) (fun c_4 => ?_)
        · skip
          have c_4 : ¬ d = 2 := fun h9 => c_4 ((nI_eq (by omega) (by omega)).mpr h9)
          refine lv_iconst (v := 3) hx hb dX6_drawn_67 (by decide) ?_
          exact rRetI hx hb hr hw (by exact ⟨by unfold itA tFirst tMid tOth; (repeat' split) <;> first | rfl | (exfalso; omega), rfl⟩) hlocks dX6_drawn_68
        · skip
          have c_4 : d = 2 := (nI_eq (by omega) (by omega)).mp c_4
          refine lv_iconst (v := 1) hx hb dX6_drawn_63 (by decide) ?_
          refine lv_goto (tgt := 68) hx hb dX6_drawn_64 (by decide) ?_
          exact rRetI hx hb hr hw (by exact ⟨by unfold itA tFirst tMid tOth; (repeat' split) <;> first | rfl | (exfalso; omega), rfl⟩) hlocks dX6_drawn_68
      · skip
        have c_3 : d = 1 := (nI_eq (by omega) (by omega)).mp c_3
        refine lv_iconst (v := 0) hx hb dX6_drawn_54 (by decide) ?_
        refine lv_goto (tgt := 68) hx hb dX6_drawn_55 (by decide) ?_
        exact rRetI hx hb hr hw (by exact ⟨by unfold itA tFirst tMid tOth; (repeat' split) <;> first | rfl | (exfalso; omega), rfl⟩) hlocks dX6_drawn_68
    · skip
      have c_2 : ¬ 3 ≤ w := fun h9 => c_2 ((nI_leI (by omega) (by omega)).mpr h9)
      refine lv_iload_n hx hb dX6_drawn_29 rfl (lv_at hl 1 rfl) ?_
      refine lv_iconst (v := 1) hx hb dX6_drawn_30 (by decide) ?_
      refine lv_rep0 (x := 1) (y := nI 1) rfl ?_
      refine lv_icmp_ne (tgt := 38) hx hb dX6_drawn_31 (by decide) (fun c_5 => ?_) (fun c_5 => ?_)
      · skip
        have c_5 : ¬ d = 1 := fun h9 => c_5 ((nI_eq (by omega) (by omega)).mpr h9)
        refine lv_iload_n hx hb dX6_drawn_38 rfl (lv_at hl 1 rfl) ?_
        refine lv_iconst (v := 2) hx hb dX6_drawn_39 (by decide) ?_
        refine lv_rep0 (x := 2) (y := nI 2) rfl ?_
        refine lv_icmp_ne (tgt := 47) hx hb dX6_drawn_40 (by decide) (fun c_6 => ?_) (fun c_6 => ?_)
        · skip
          have c_6 : ¬ d = 2 := fun h9 => c_6 ((nI_eq (by omega) (by omega)).mpr h9)
          refine lv_iconst (v := 1) hx hb dX6_drawn_47 (by decide) ?_
          exact rRetI hx hb hr hw (by exact ⟨by unfold itA tFirst tMid tOth; (repeat' split) <;> first | rfl | (exfalso; omega), rfl⟩) hlocks dX6_drawn_48
        · skip
          have c_6 : d = 2 := (nI_eq (by omega) (by omega)).mp c_6
          refine lv_iconst (v := 0) hx hb dX6_drawn_43 (by decide) ?_
          refine lv_goto (tgt := 48) hx hb dX6_drawn_44 (by decide) ?_
          exact rRetI hx hb hr hw (by exact ⟨by unfold itA tFirst tMid tOth; (repeat' split) <;> first | rfl | (exfalso; omega), rfl⟩) hlocks dX6_drawn_48
      · skip
        have c_5 : d = 1 := (nI_eq (by omega) (by omega)).mp c_5
        refine lv_iconst (v := 2) hx hb dX6_drawn_34 (by decide) ?_
        refine lv_goto (tgt := 48) hx hb dX6_drawn_35 (by decide) ?_
        exact rRetI hx hb hr hw (by exact ⟨by unfold itA tFirst tMid tOth; (repeat' split) <;> first | rfl | (exfalso; omega), rfl⟩) hlocks dX6_drawn_48
  · skip
    have c_1 : w = 0 := n0_nef (by omega) c_1
    refine lv_iload_n hx hb dX6_drawn_4 rfl (lv_at hl 1 rfl) ?_
    refine lv_iconst (v := 2) hx hb dX6_drawn_5 (by decide) ?_
    refine lv_rep0 (x := 2) (y := nI 2) rfl ?_
    refine lv_icmp_ge (tgt := 13) hx hb dX6_drawn_6 (by decide) (fun c_7 => ?_) (fun c_7 => ?_)
    · skip
      have c_7 : 2 ≤ d := (nI_leI (by omega) (by omega)).mp c_7
      refine lv_iload_n hx hb dX6_drawn_13 rfl (lv_at hl 1 rfl) ?_
      refine lv_iconst (v := 2) hx hb dX6_drawn_14 (by decide) ?_
      refine lv_rep0 (x := 2) (y := nI 2) rfl ?_
      refine lv_icmp_ne (tgt := 22) hx hb dX6_drawn_15 (by decide) (fun c_8 => ?_) (fun c_8 => ?_)
      · skip
        have c_8 : ¬ d = 2 := fun h9 => c_8 ((nI_eq (by omega) (by omega)).mpr h9)
        refine lv_iconst (v := 0) hx hb dX6_drawn_22 (by decide) ?_
        exact rRetI hx hb hr hw (by exact ⟨by unfold itA tFirst tMid tOth; (repeat' split) <;> first | rfl | (exfalso; omega), rfl⟩) hlocks dX6_drawn_23
      · skip
        have c_8 : d = 2 := (nI_eq (by omega) (by omega)).mp c_8
        refine lv_iconst (v := 1) hx hb dX6_drawn_18 (by decide) ?_
        refine lv_goto (tgt := 23) hx hb dX6_drawn_19 (by decide) ?_
        exact rRetI hx hb hr hw (by exact ⟨by unfold itA tFirst tMid tOth; (repeat' split) <;> first | rfl | (exfalso; omega), rfl⟩) hlocks dX6_drawn_23
    · skip
      have c_7 : ¬ 2 ≤ d := fun h9 => c_7 ((nI_leI (by omega) (by omega)).mpr h9)
      refine lv_iconst (v := 2) hx hb dX6_drawn_9 (by decide) ?_
      refine lv_goto (tgt := 23) hx hb dX6_drawn_10 (by decide) ?_
      exact rRetI hx hb hr hw (by exact ⟨by unfold itA tFirst tMid tOth; (repeat' split) <;> first | rfl | (exfalso; omega), rfl⟩) hlocks dX6_drawn_23

def rmX6_hits : Room := ({ frames := 0, cells := 0, slots := 0, locals := 0 } : Room)
set_option maxHeartbeats 4000000 in
set_option maxRecDepth 100000 in
theorem kX6_hits (l : Launch) (G : Gx) (hG : gOk G) (hF : Full G) (σ : St) (k : Nat) (hk : k < 6) (u : Int32)  : CtI l yX6_hits wsX6_hits rmX6_hits G σ [.ref (gad G 31), .int (nI k), .int u] (fun r σ' => r = nI (mhR σ k) ∧ σ' = mhS σ k u) := by
  refine bgMet (cc := cX6_hits) (maxL := 3) (ret := (some .int)) (own := RX6) (by decide) rfl rfl hG (Nat.le_of_ble_eq_true rfl) rfl ?_
  intro p e s m args below meth c ls Bd hl
  obtain ⟨hx, hb, hr, hml, hts, hown, hlocks, fx, hw⟩ := Bd
  have hl : lv_has ls 3 [(0, .ref (gad G 31)), (1, .int (nI k)), (2, .int u)] := hl
  have hin : ∀ w ∈ wsX60, w ∈ wsX6_hits := by decide +kernel
  refine lv_aload_n hx hb dX6_hits_0 rfl (lv_at hl 0 rfl) ?_
  refine rGet (v := .ref (gad G 40)) (C := RX6) (T := TX6) (N := 26) hx hb fx hown hts hin hw 31 (hF.1 31 (by decide)) rfl rfl 18 (by decide) (hts (.fieldLink RX6 38 "LeaguewheelModel" "finish" "[I") (by decide +kernel)) (fun _ h9 => h9) rfl dX6_hits_1 ?_
  refine lv_iload_n hx hb dX6_hits_4 rfl (lv_at hl 1 rfl) ?_
  refine rAld hx hb fx hw 40 (hF.1 40 (by decide)) hF.2.1 (fun _ => rfl) k rfl (by omega) (by decide) dX6_hits_5 ?_
  refine lv_if_le (tgt := 11) hx hb dX6_hits_6 (by decide) (fun c_1 => ?_) (fun c_1 => ?_)
  · skip
    refine lv_aload_n hx hb dX6_hits_11 rfl (lv_at hl 0 rfl) ?_
    refine rGet (v := .ref (gad G 42)) (C := RX6) (T := TX6) (N := 26) hx hb fx hown hts hin hw 31 (hF.1 31 (by decide)) rfl rfl 20 (by decide) (hts (.fieldLink RX6 44 "LeaguewheelModel" "isShielded" "[Z") (by decide +kernel)) (fun _ h9 => h9) rfl dX6_hits_12 ?_
    refine lv_iload_n hx hb dX6_hits_15 rfl (lv_at hl 1 rfl) ?_
    refine rZld hx hb fx hw 42 (hF.1 42 (by decide)) hF.2.2.1 (fun _ => rfl) k rfl (by omega) (by decide) dX6_hits_16 ?_
    refine lv_if_eq (tgt := 29) hx hb dX6_hits_17 (by decide) (fun c_2 => ?_) (fun c_2 => ?_)
    · skip
      refine lv_aload_n hx hb dX6_hits_29 rfl (lv_at hl 0 rfl) ?_
      refine rGet (v := .ref (gad G 43)) (C := RX6) (T := TX6) (N := 26) hx hb fx hown hts hin hw 31 (hF.1 31 (by decide)) rfl rfl 21 (by decide) (hts (.fieldLink RX6 48 "LeaguewheelModel" "until" "[I") (by decide +kernel)) (fun _ h9 => h9) rfl dX6_hits_30 ?_
      refine lv_iload_n hx hb dX6_hits_33 rfl (lv_at hl 1 rfl) ?_
      refine lv_aload_n hx hb dX6_hits_34 rfl (lv_at hl 0 rfl) ?_
      refine rGet (v := .ref (gad G 43)) (C := RX6) (T := TX6) (N := 26) hx hb fx hown hts hin hw 31 (hF.1 31 (by decide)) rfl rfl 21 (by decide) (hts (.fieldLink RX6 48 "LeaguewheelModel" "until" "[I") (by decide +kernel)) (fun _ h9 => h9) rfl dX6_hits_35 ?_
      refine lv_iload_n hx hb dX6_hits_38 rfl (lv_at hl 1 rfl) ?_
      refine rAld hx hb fx hw 43 (hF.1 43 (by decide)) hF.2.1 (fun _ => rfl) k rfl (by omega) (by decide) dX6_hits_39 ?_
      refine lv_aload_n hx hb dX6_hits_40 rfl (lv_at hl 0 rfl) ?_
      refine rGet (v := .int (σ 31 10)) (C := RX6) (T := TX6) (N := 26) hx hb fx hown hts hin hw 31 (hF.1 31 (by decide)) rfl rfl 10 (by decide) (hts (.fieldLink RX6 104 "LeaguewheelModel" "time" "I") (by decide +kernel)) (fun _ h9 => h9) rfl dX6_hits_41 ?_
      refine lv_iload_n hx hb dX6_hits_44 rfl (lv_at hl 2 rfl) ?_
      refine lv_iadd hx hb dX6_hits_45 ?_
      refine lv_icmp_le (tgt := 58) hx hb dX6_hits_46 (by decide) (fun c_3 => ?_) (fun c_3 => ?_)
      · skip
        refine lv_aload_n hx hb dX6_hits_58 rfl (lv_at hl 0 rfl) ?_
        refine rGet (v := .int (σ 31 10)) (C := RX6) (T := TX6) (N := 26) hx hb fx hown hts hin hw 31 (hF.1 31 (by decide)) rfl rfl 10 (by decide) (hts (.fieldLink RX6 104 "LeaguewheelModel" "time" "I") (by decide +kernel)) (fun _ h9 => h9) rfl dX6_hits_59 ?_
        refine lv_iload_n hx hb dX6_hits_62 rfl (lv_at hl 2 rfl) ?_
        refine lv_iadd hx hb dX6_hits_63 ?_
        refine rAst (x := ((σ 31 10) + u)) hx hb fx hw 43 (hF.1 43 (by decide)) hF.2.1 (fun _ => rfl) k rfl (by omega) (by decide) dX6_hits_64 (fun H locs hw => ?_)
        obtain ⟨σ_4, eσ_4⟩ : ∃ w9, w9 = upA σ 43 (upd (σ 43) k ((σ 31 10) + u)) := ⟨_, rfl⟩
        rw [← eσ_4] at hw
        refine lv_iconst (v := 1) hx hb dX6_hits_65 (by decide) ?_
        subst eσ_4
        exact rRetI hx hb hr hw (by exact ⟨by rw [mhR, if_neg (not_not_intro c_1), if_pos c_2]; rfl, by rw [mhS, if_neg (not_not_intro c_1), if_pos c_2]; simp [c_3]⟩) hlocks dX6_hits_66
      · skip
        refine lv_aload_n hx hb dX6_hits_49 rfl (lv_at hl 0 rfl) ?_
        refine rGet (v := .ref (gad G 43)) (C := RX6) (T := TX6) (N := 26) hx hb fx hown hts hin hw 31 (hF.1 31 (by decide)) rfl rfl 21 (by decide) (hts (.fieldLink RX6 48 "LeaguewheelModel" "until" "[I") (by decide +kernel)) (fun _ h9 => h9) rfl dX6_hits_50 ?_
        refine lv_iload_n hx hb dX6_hits_53 rfl (lv_at hl 1 rfl) ?_
        refine rAld hx hb fx hw 43 (hF.1 43 (by decide)) hF.2.1 (fun _ => rfl) k rfl (by omega) (by decide) dX6_hits_54 ?_
        refine lv_goto (tgt := 64) hx hb dX6_hits_55 (by decide) ?_
        refine rAst (x := (σ 43 k)) hx hb fx hw 43 (hF.1 43 (by decide)) hF.2.1 (fun _ => rfl) k rfl (by omega) (by decide) dX6_hits_64 (fun H locs hw => ?_)
        obtain ⟨σ_5, eσ_5⟩ : ∃ w9, w9 = upA σ 43 (upd (σ 43) k (σ 43 k)) := ⟨_, rfl⟩
        rw [← eσ_5] at hw
        refine lv_iconst (v := 1) hx hb dX6_hits_65 (by decide) ?_
        subst eσ_5
        exact rRetI hx hb hr hw (by exact ⟨by rw [mhR, if_neg (not_not_intro c_1), if_pos c_2]; rfl, by rw [mhS, if_neg (not_not_intro c_1), if_pos c_2]; simp [c_3]⟩) hlocks dX6_hits_66
    · skip
      refine lv_aload_n hx hb dX6_hits_20 rfl (lv_at hl 0 rfl) ?_
      refine rGet (v := .ref (gad G 42)) (C := RX6) (T := TX6) (N := 26) hx hb fx hown hts hin hw 31 (hF.1 31 (by decide)) rfl rfl 20 (by decide) (hts (.fieldLink RX6 44 "LeaguewheelModel" "isShielded" "[Z") (by decide +kernel)) (fun _ h9 => h9) rfl dX6_hits_21 ?_
      refine lv_iload_n hx hb dX6_hits_24 rfl (lv_at hl 1 rfl) ?_
      refine lv_iconst (v := 0) hx hb dX6_hits_25 (by decide) ?_
      refine rZst (x := 0) hx hb fx hw 42 (hF.1 42 (by decide)) hF.2.2.1 (fun _ => rfl) k rfl (by omega) (by decide) (by decide) dX6_hits_26 (fun H locs hw => ?_)
      obtain ⟨σ_6, eσ_6⟩ : ∃ w9, w9 = upA σ 42 (upd (σ 42) k 0) := ⟨_, rfl⟩
      rw [← eσ_6] at hw
      refine lv_iconst (v := 0) hx hb dX6_hits_27 (by decide) ?_
      subst eσ_6
      exact rRetI hx hb hr hw (by exact ⟨by rw [mhR, if_neg (not_not_intro c_1), if_neg c_2]; rfl, by rw [mhS, if_neg (not_not_intro c_1), if_neg c_2]⟩) hlocks dX6_hits_28
  · skip
    refine lv_iconst (v := 0) hx hb dX6_hits_9 (by decide) ?_
    exact rRetI hx hb hr hw (by exact ⟨by rw [mhR, if_pos c_1]; rfl, by rw [mhS, if_pos c_1]⟩) hlocks dX6_hits_10

def rmX6_worth : Room := ({ frames := 0, cells := 0, slots := 0, locals := 0 } : Room)
set_option maxHeartbeats 4000000 in
set_option maxRecDepth 100000 in
theorem kX6_worth (l : Launch) (G : Gx) (hG : gOk G) (hF : Full G) (σ : St) (q : Nat) (hq : q < 6)  : CtI l yX6_worth wsX6_worth rmX6_worth G σ [.int (nI q)] (fun r σ' => r = tPts q ∧ σ' = σ) := by
  refine bgMet (cc := cX6_worth) (maxL := 1) (ret := (some .int)) (own := RX6) (by decide) rfl rfl hG (Nat.le_of_ble_eq_true rfl) rfl ?_
  intro p e s m args below meth c ls Bd hl
  obtain ⟨hx, hb, hr, hml, hts, hown, hlocks, fx, hw⟩ := Bd
  have hl : lv_has ls 1 [(0, .int (nI q))] := hl
  refine lv_iload_n hx hb dX6_worth_0 rfl (lv_at hl 0 rfl) ?_
  refine lv_if_ne (tgt := 9) hx hb dX6_worth_1 (by decide) (fun c_1 => ?_) (fun c_1 => ?_)
  · skip
    have c_1 : ¬ q = 0 := n0_net (by omega) c_1
    refine lv_iload_n hx hb dX6_worth_9 rfl (lv_at hl 0 rfl) ?_
    refine lv_iconst (v := 1) hx hb dX6_worth_10 (by decide) ?_
    refine lv_rep0 (x := 1) (y := nI 1) rfl ?_
    refine lv_icmp_ne (tgt := 19) hx hb dX6_worth_11 (by decide) (fun c_2 => ?_) (fun c_2 => ?_)
    · skip
      have c_2 : ¬ q = 1 := fun h9 => c_2 ((nI_eq (by omega) (by omega)).mpr h9)
      refine lv_iload_n hx hb dX6_worth_19 rfl (lv_at hl 0 rfl) ?_
      refine lv_iconst (v := 2) hx hb dX6_worth_20 (by decide) ?_
      refine lv_rep0 (x := 2) (y := nI 2) rfl ?_
      refine lv_icmp_ne (tgt := 29) hx hb dX6_worth_21 (by decide) (fun c_3 => ?_) (fun c_3 => ?_)
      · skip
        have c_3 : ¬ q = 2 := fun h9 => c_3 ((nI_eq (by omega) (by omega)).mpr h9)
        refine lv_bipush (v := 8) hx hb dX6_worth_29 (by decide) ?_
        refine lv_iload_n hx hb dX6_worth_31 rfl (lv_at hl 0 rfl) ?_
        refine lv_rep1 (x := 8) (y := nI 8) rfl ?_
        refine lv_isub hx hb dX6_worth_32 ?_
        refine lv_rep0 (x := ((nI 8) - (nI q))) (y := nI (8 - q)) (pk_sub (by omega)) ?_
        exact rRetI hx hb hr hw (by exact ⟨by first | (exact pts_3 c_1 c_2 c_3 hq) | (subst c_3; rfl), rfl⟩) hlocks dX6_worth_33
      · skip
        have c_3 : q = 2 := (nI_eq (by omega) (by omega)).mp c_3
        refine lv_bipush (v := 6) hx hb dX6_worth_24 (by decide) ?_
        refine lv_goto (tgt := 33) hx hb dX6_worth_26 (by decide) ?_
        exact rRetI hx hb hr hw (by exact ⟨by first | (exact pts_3 c_1 c_2 c_3 hq) | (subst c_3; rfl), rfl⟩) hlocks dX6_worth_33
    · skip
      have c_2 : q = 1 := (nI_eq (by omega) (by omega)).mp c_2
      refine lv_bipush (v := 8) hx hb dX6_worth_14 (by decide) ?_
      refine lv_goto (tgt := 33) hx hb dX6_worth_16 (by decide) ?_
      exact rRetI hx hb hr hw (by exact ⟨by first | (exact pts_3 c_1 c_2 hl hq) | (subst c_2; rfl), rfl⟩) hlocks dX6_worth_33
  · skip
    have c_1 : q = 0 := n0_nef (by omega) c_1
    refine lv_bipush (v := 10) hx hb dX6_worth_4 (by decide) ?_
    refine lv_goto (tgt := 33) hx hb dX6_worth_6 (by decide) ?_
    exact rRetI hx hb hr hw (by exact ⟨by first | (exact pts_3 c_1 hl hl hq) | (subst c_1; rfl), rfl⟩) hlocks dX6_worth_33

def rmX6_sum : Room := ({ frames := 0, cells := 0, slots := 0, locals := 0 } : Room)
set_option maxHeartbeats 4000000 in
set_option maxRecDepth 100000 in
theorem kX6_sum (l : Launch) (G : Gx) (hG : gOk G) (hF : Full G) (σ : St) (k : Nat) (hk : k < 6) (e9 : Nat) (hme : σ 31 7 = nI e9) (hme8 : e9 ≤ 8)  : CtI l yX6_sum wsX6_sum rmX6_sum G σ [.ref (gad G 31), .int (nI k)] (fun r σ' => r = sumA (σ 45) (σ 31 24) k e9 e9 ∧ σ' = σ) := by
  refine bgMet (cc := cX6_sum) (maxL := 8) (ret := (some .int)) (own := RX6) (by decide) rfl rfl hG (Nat.le_of_ble_eq_true rfl) rfl ?_
  intro p e s m args below meth c ls Bd hl
  obtain ⟨hx, hb, hr, hml, hts, hown, hlocks, fx, hw⟩ := Bd
  have hl : lv_has ls 8 [(0, .ref (gad G 31)), (1, .int (nI k))] := hl
  have hin : ∀ w ∈ wsX60, w ∈ wsX6_sum := by decide +kernel
  refine lv_iconst (v := 0) hx hb dX6_sum_0 (by decide) ?_
  refine lv_istore_n (lv' := [(2, .int 0), (0, .ref (gad G 31)), (1, .int (nI k))]) hx hb dX6_sum_1 rfl hl (by decide) rfl (fun ls hl => ?_)
  refine lv_iconst (v := 0) hx hb dX6_sum_2 (by decide) ?_
  refine lv_istore_n (lv' := [(3, .int 0), (2, .int 0), (0, .ref (gad G 31)), (1, .int (nI k))]) hx hb dX6_sum_3 rfl hl (by decide) rfl (fun ls hl => ?_)
  have lab_4 : ∀ (n9 : Nat), ∀ (i : Nat), e9 - i < n9 → i ≤ e9 → ∀ (H : Heap) (locs : List Loc) (ls : Array Slot), Wd G s σ H locs → lv_has ls 8 [(0, .ref (gad G 31)), (1, .int (nI k)), (2, .int (sumA (σ 45) (σ 31 24) k e9 i)), (3, .int (nI i))] → W p l e rmX6_sum s m args below meth c H locs 0 0 (MQ below (va_Qi (fun r σ' => r = sumA (σ 45) (σ 31 24) k e9 e9 ∧ σ' = σ) (BW G) (gA G)) args s 0 0 (gA G)) (F0 m 4 ls []) := by
    intro n9
    induction n9 with
    | zero => intro i hn9; exact absurd hn9 (Nat.not_lt_zero _)
    | succ n9 ih4 =>
      intro i hn9 h4_0 H locs ls hw hl
      refine lv_iload_n hx hb dX6_sum_4 rfl (lv_at hl 3 rfl) ?_
      refine lv_aload_n hx hb dX6_sum_5 rfl (lv_at hl 0 rfl) ?_
      refine rGet (v := .int (σ 31 7)) (C := RX6) (T := TX6) (N := 26) hx hb fx hown hts hin hw 31 (hF.1 31 (by decide)) rfl rfl 7 (by decide) (hts (.fieldLink RX6 138 "LeaguewheelModel" "ended" "I") (by decide +kernel)) (fun _ h9 => h9) rfl dX6_sum_6 ?_
      refine lv_rep0 (x := (σ 31 7)) (y := nI e9) (by exact hme) ?_
      refine lv_icmp_ge (tgt := 114) hx hb dX6_sum_9 (by decide) (fun c_1 => ?_) (fun c_1 => ?_)
      · skip
        have c_1 : e9 ≤ i := (nI_leI (by omega) (by omega)).mp c_1
        refine lv_iload_n hx hb dX6_sum_114 rfl (lv_at hl 2 rfl) ?_
        exact rRetI hx hb hr hw (by exact ⟨by rw [show i = e9 by omega], rfl⟩) hlocks dX6_sum_115
      · skip
        have c_1 : ¬ e9 ≤ i := fun h9 => c_1 ((nI_leI (by omega) (by omega)).mpr h9)
        refine lv_aload_n hx hb dX6_sum_12 rfl (lv_at hl 0 rfl) ?_
        refine rGet (v := .ref (gad G 45)) (C := RX6) (T := TX6) (N := 26) hx hb fx hown hts hin hw 31 (hF.1 31 (by decide)) rfl rfl 23 (by decide) (hts (.fieldLink RX6 54 "LeaguewheelModel" "point" "[I") (by decide +kernel)) (fun _ h9 => h9) rfl dX6_sum_13 ?_
        refine lv_bipush (v := 6) hx hb dX6_sum_16 (by decide) ?_
        refine lv_iload_n hx hb dX6_sum_18 rfl (lv_at hl 3 rfl) ?_
        refine lv_rep1 (x := 6) (y := nI 6) rfl ?_
        refine lv_imul hx hb dX6_sum_19 ?_
        refine lv_rep0 (x := ((nI 6) * (nI i))) (y := nI (6 * i)) (pk_mul _ _) ?_
        refine lv_iload_n hx hb dX6_sum_20 rfl (lv_at hl 1 rfl) ?_
        refine lv_iadd hx hb dX6_sum_21 ?_
        refine lv_rep0 (x := ((nI (6 * i)) + (nI k))) (y := nI ((6 * i) + k)) (nI_add _ _) ?_
        refine lv_rep0 (x := (nI ((6 * i) + k))) (y := nI (i * 6 + k)) (by rw [Nat.mul_comm 6]) ?_
        refine rAld hx hb fx hw 45 (hF.1 45 (by decide)) hF.2.1 (fun _ => rfl) (i * 6 + k) rfl (by omega) (by decide) dX6_sum_22 ?_
        refine lv_istore (lv' := [(4, .int (σ 45 (i * 6 + k))), (0, .ref (gad G 31)), (1, .int (nI k)), (2, .int (sumA (σ 45) (σ 31 24) k e9 i)), (3, .int (nI i))]) hx hb dX6_sum_23 hl (by decide) rfl (fun ls hl => ?_)
        refine lv_iconst (v := 0) hx hb dX6_sum_25 (by decide) ?_
        refine lv_istore (lv' := [(5, .int 0), (4, .int (σ 45 (i * 6 + k))), (0, .ref (gad G 31)), (1, .int (nI k)), (2, .int (sumA (σ 45) (σ 31 24) k e9 i)), (3, .int (nI i))]) hx hb dX6_sum_26 hl (by decide) rfl (fun ls hl => ?_)
        refine lv_iconst (v := 0) hx hb dX6_sum_28 (by decide) ?_
        refine lv_istore (lv' := [(6, .int 0), (5, .int 0), (4, .int (σ 45 (i * 6 + k))), (0, .ref (gad G 31)), (1, .int (nI k)), (2, .int (sumA (σ 45) (σ 31 24) k e9 i)), (3, .int (nI i))]) hx hb dX6_sum_29 hl (by decide) rfl (fun ls hl => ?_)
        have lab_31 : ∀ (n9 : Nat), ∀ (j : Nat), e9 - j < n9 → j ≤ e9 → ∀ (H : Heap) (locs : List Loc) (ls : Array Slot), Wd G s σ H locs → lv_has ls 8 [(0, .ref (gad G 31)), (1, .int (nI k)), (2, .int (sumA (σ 45) (σ 31 24) k e9 i)), (3, .int (nI i)), (4, .int (σ 45 (i * 6 + k))), (5, .int (nI (cntA (wrB (σ 45) k i) j))), (6, .int (nI j))] → W p l e rmX6_sum s m args below meth c H locs 0 0 (MQ below (va_Qi (fun r σ' => r = sumA (σ 45) (σ 31 24) k e9 e9 ∧ σ' = σ) (BW G) (gA G)) args s 0 0 (gA G)) (F0 m 31 ls []) := by
          intro n9
          induction n9 with
          | zero => intro j hn9; exact absurd hn9 (Nat.not_lt_zero _)
          | succ n9 ih31 =>
            intro j hn9 h31_0 H locs ls hw hl
            refine lv_iload hx hb dX6_sum_31 (lv_at hl 6 rfl) ?_
            refine lv_aload_n hx hb dX6_sum_33 rfl (lv_at hl 0 rfl) ?_
            refine rGet (v := .int (σ 31 7)) (C := RX6) (T := TX6) (N := 26) hx hb fx hown hts hin hw 31 (hF.1 31 (by decide)) rfl rfl 7 (by decide) (hts (.fieldLink RX6 138 "LeaguewheelModel" "ended" "I") (by decide +kernel)) (fun _ h9 => h9) rfl dX6_sum_34 ?_
            refine lv_rep0 (x := (σ 31 7)) (y := nI e9) (by exact hme) ?_
            refine lv_icmp_ge (tgt := 90) hx hb dX6_sum_37 (by decide) (fun c_2 => ?_) (fun c_2 => ?_)
            · skip
              have c_2 : e9 ≤ j := (nI_leI (by omega) (by omega)).mp c_2
              have hje : j = e9 := by omega
              refine lv_iload_n hx hb dX6_sum_90 rfl (lv_at hl 2 rfl) ?_
              refine lv_iload hx hb dX6_sum_91 (lv_at hl 5 rfl) ?_
              refine lv_aload_n hx hb dX6_sum_93 rfl (lv_at hl 0 rfl) ?_
              refine rGet (v := .int (σ 31 24)) (C := RX6) (T := TX6) (N := 26) hx hb fx hown hts hin hw 31 (hF.1 31 (by decide)) rfl rfl 24 (by decide) (hts (.fieldLink RX6 144 "LeaguewheelModel" "dropped" "I") (by decide +kernel)) (fun _ h9 => h9) rfl dX6_sum_94 ?_
              refine lv_icmp_lt (tgt := 105) hx hb dX6_sum_97 (by decide) (fun c_3 => ?_) (fun c_3 => ?_)
              · skip
                refine lv_iconst (v := 0) hx hb dX6_sum_105 (by decide) ?_
                refine lv_iadd hx hb dX6_sum_106 ?_
                refine lv_istore_n (lv' := [(2, .int ((sumA (σ 45) (σ 31 24) k e9 i) + 0)), (0, .ref (gad G 31)), (1, .int (nI k)), (3, .int (nI i)), (4, .int (σ 45 (i * 6 + k))), (5, .int (nI (cntA (wrB (σ 45) k i) j))), (6, .int (nI j))]) hx hb dX6_sum_107 rfl hl (by decide) rfl (fun ls hl => ?_)
                refine lv_iinc (v := (nI (i + 1))) (lv' := [(3, .int (nI (i + 1))), (2, .int ((sumA (σ 45) (σ 31 24) k e9 i) + 0)), (0, .ref (gad G 31)), (1, .int (nI k)), (4, .int (σ 45 (i * 6 + k))), (5, .int (nI (cntA (wrB (σ 45) k i) j))), (6, .int (nI j))]) hx hb dX6_sum_108 hl (k := 3) rfl (nI_1 _) (by decide) rfl (fun ls hl => ?_)
                refine lv_goto (tgt := 4) hx hb dX6_sum_111 (by decide) ?_
                have q_4 : ((sumA (σ 45) (σ 31 24) k e9 i) + 0) = (sumA (σ 45) (σ 31 24) k e9 (i + 1)) := by first | rfl | (rw [sumA]; rw [show j = e9 by omega] at c_3; simp [c_3])
                exact ih4 (i + 1) (by omega) (by omega) _ _ _ hw (lv_c (lv_at hl 2 rfl) (lv_c (lv_at hl 3 rfl) (lv_c (lv_atq hl 1 rfl q_4) (lv_c (lv_at hl 0 rfl) (lv_c0 hl)))))
              · skip
                refine lv_iload hx hb dX6_sum_100 (lv_at hl 4 rfl) ?_
                refine lv_goto (tgt := 106) hx hb dX6_sum_102 (by decide) ?_
                refine lv_iadd hx hb dX6_sum_106 ?_
                refine lv_istore_n (lv' := [(2, .int ((sumA (σ 45) (σ 31 24) k e9 i) + (σ 45 (i * 6 + k)))), (0, .ref (gad G 31)), (1, .int (nI k)), (3, .int (nI i)), (4, .int (σ 45 (i * 6 + k))), (5, .int (nI (cntA (wrB (σ 45) k i) j))), (6, .int (nI j))]) hx hb dX6_sum_107 rfl hl (by decide) rfl (fun ls hl => ?_)
                refine lv_iinc (v := (nI (i + 1))) (lv' := [(3, .int (nI (i + 1))), (2, .int ((sumA (σ 45) (σ 31 24) k e9 i) + (σ 45 (i * 6 + k)))), (0, .ref (gad G 31)), (1, .int (nI k)), (4, .int (σ 45 (i * 6 + k))), (5, .int (nI (cntA (wrB (σ 45) k i) j))), (6, .int (nI j))]) hx hb dX6_sum_108 hl (k := 3) rfl (nI_1 _) (by decide) rfl (fun ls hl => ?_)
                refine lv_goto (tgt := 4) hx hb dX6_sum_111 (by decide) ?_
                have q_5 : ((sumA (σ 45) (σ 31 24) k e9 i) + (σ 45 (i * 6 + k))) = (sumA (σ 45) (σ 31 24) k e9 (i + 1)) := by first | rfl | (rw [sumA]; rw [show j = e9 by omega] at c_3; simp [c_3])
                exact ih4 (i + 1) (by omega) (by omega) _ _ _ hw (lv_c (lv_at hl 2 rfl) (lv_c (lv_at hl 3 rfl) (lv_c (lv_atq hl 1 rfl q_5) (lv_c (lv_at hl 0 rfl) (lv_c0 hl)))))
            · skip
              have c_2 : ¬ e9 ≤ j := fun h9 => c_2 ((nI_leI (by omega) (by omega)).mpr h9)
              refine lv_aload_n hx hb dX6_sum_40 rfl (lv_at hl 0 rfl) ?_
              refine rGet (v := .ref (gad G 45)) (C := RX6) (T := TX6) (N := 26) hx hb fx hown hts hin hw 31 (hF.1 31 (by decide)) rfl rfl 23 (by decide) (hts (.fieldLink RX6 54 "LeaguewheelModel" "point" "[I") (by decide +kernel)) (fun _ h9 => h9) rfl dX6_sum_41 ?_
              refine lv_bipush (v := 6) hx hb dX6_sum_44 (by decide) ?_
              refine lv_iload hx hb dX6_sum_46 (lv_at hl 6 rfl) ?_
              refine lv_rep1 (x := 6) (y := nI 6) rfl ?_
              refine lv_imul hx hb dX6_sum_48 ?_
              refine lv_rep0 (x := ((nI 6) * (nI j))) (y := nI (6 * j)) (pk_mul _ _) ?_
              refine lv_iload_n hx hb dX6_sum_49 rfl (lv_at hl 1 rfl) ?_
              refine lv_iadd hx hb dX6_sum_50 ?_
              refine lv_rep0 (x := ((nI (6 * j)) + (nI k))) (y := nI ((6 * j) + k)) (nI_add _ _) ?_
              refine lv_rep0 (x := (nI ((6 * j) + k))) (y := nI (j * 6 + k)) (by rw [Nat.mul_comm 6]) ?_
              refine rAld hx hb fx hw 45 (hF.1 45 (by decide)) hF.2.1 (fun _ => rfl) (j * 6 + k) rfl (by omega) (by decide) dX6_sum_51 ?_
              refine lv_istore (lv' := [(7, .int (σ 45 (j * 6 + k))), (0, .ref (gad G 31)), (1, .int (nI k)), (2, .int (sumA (σ 45) (σ 31 24) k e9 i)), (3, .int (nI i)), (4, .int (σ 45 (i * 6 + k))), (5, .int (nI (cntA (wrB (σ 45) k i) j))), (6, .int (nI j))]) hx hb dX6_sum_52 hl (by decide) rfl (fun ls hl => ?_)
              refine lv_iload hx hb dX6_sum_54 (lv_at hl 6 rfl) ?_
              refine lv_iload hx hb dX6_sum_56 (lv_at hl 0 rfl) ?_
              refine lv_iload hx hb dX6_sum_58 (lv_at hl 5 rfl) ?_
              refine lv_icmp_lt (tgt := 76) hx hb dX6_sum_60 (by decide) (fun c_6 => ?_) (fun c_6 => ?_)
              · skip
                refine lv_iconst (v := 1) hx hb dX6_sum_76 (by decide) ?_
                refine lv_goto (tgt := 81) hx hb dX6_sum_77 (by decide) ?_
                refine lv_rep0 (x := 1) (y := nI 1) rfl ?_
                refine lv_iadd hx hb dX6_sum_81 ?_
                refine lv_rep0 (x := ((nI (cntA (wrB (σ 45) k i) j)) + (nI 1))) (y := nI ((cntA (wrB (σ 45) k i) j) + 1)) (nI_add _ _) ?_
                refine lv_istore (lv' := [(5, .int (nI ((cntA (wrB (σ 45) k i) j) + 1))), (7, .int (σ 45 (j * 6 + k))), (0, .ref (gad G 31)), (1, .int (nI k)), (2, .int (sumA (σ 45) (σ 31 24) k e9 i)), (3, .int (nI i)), (4, .int (σ 45 (i * 6 + k))), (6, .int (nI j))]) hx hb dX6_sum_82 hl (by decide) rfl (fun ls hl => ?_)
                refine lv_iinc (v := (nI (j + 1))) (lv' := [(6, .int (nI (j + 1))), (5, .int (nI ((cntA (wrB (σ 45) k i) j) + 1))), (7, .int (σ 45 (j * 6 + k))), (0, .ref (gad G 31)), (1, .int (nI k)), (2, .int (sumA (σ 45) (σ 31 24) k e9 i)), (3, .int (nI i)), (4, .int (σ 45 (i * 6 + k)))]) hx hb dX6_sum_84 hl (k := 7) rfl (nI_1 _) (by decide) rfl (fun ls hl => ?_)
                refine lv_goto (tgt := 31) hx hb dX6_sum_87 (by decide) ?_
                have q_7 : (nI ((cntA (wrB (σ 45) k i) j) + 1)) = (nI (cntA (wrB (σ 45) k i) (j + 1))) := by first | rfl | (simp [cntA, wrB, c_1, c_2, c_6])
                exact ih31 (j + 1) (by omega) (by omega) _ _ _ hw (lv_c (lv_at hl 3 rfl) (lv_c (lv_at hl 4 rfl) (lv_c (lv_at hl 5 rfl) (lv_c (lv_at hl 6 rfl) (lv_c (lv_at hl 7 rfl) (lv_c (lv_atq hl 1 rfl q_7) (lv_c (lv_at hl 0 rfl) (lv_c0 hl))))))))
              · skip
                refine lv_iload hx hb dX6_sum_63 (lv_at hl 0 rfl) ?_
                refine lv_iload hx hb dX6_sum_65 (lv_at hl 5 rfl) ?_
                refine lv_icmp_ne (tgt := 80) hx hb dX6_sum_67 (by decide) (fun c_8 => ?_) (fun c_8 => ?_)
                · skip
                  refine lv_iconst (v := 0) hx hb dX6_sum_80 (by decide) ?_
                  refine lv_rep0 (x := 0) (y := nI 0) rfl ?_
                  refine lv_iadd hx hb dX6_sum_81 ?_
                  refine lv_rep0 (x := ((nI (cntA (wrB (σ 45) k i) j)) + (nI 0))) (y := nI ((cntA (wrB (σ 45) k i) j) + 0)) (nI_add _ _) ?_
                  refine lv_istore (lv' := [(5, .int (nI ((cntA (wrB (σ 45) k i) j) + 0))), (7, .int (σ 45 (j * 6 + k))), (0, .ref (gad G 31)), (1, .int (nI k)), (2, .int (sumA (σ 45) (σ 31 24) k e9 i)), (3, .int (nI i)), (4, .int (σ 45 (i * 6 + k))), (6, .int (nI j))]) hx hb dX6_sum_82 hl (by decide) rfl (fun ls hl => ?_)
                  refine lv_iinc (v := (nI (j + 1))) (lv' := [(6, .int (nI (j + 1))), (5, .int (nI ((cntA (wrB (σ 45) k i) j) + 0))), (7, .int (σ 45 (j * 6 + k))), (0, .ref (gad G 31)), (1, .int (nI k)), (2, .int (sumA (σ 45) (σ 31 24) k e9 i)), (3, .int (nI i)), (4, .int (σ 45 (i * 6 + k)))]) hx hb dX6_sum_84 hl (k := 7) rfl (nI_1 _) (by decide) rfl (fun ls hl => ?_)
                  refine lv_goto (tgt := 31) hx hb dX6_sum_87 (by decide) ?_
                  have q_9 : (nI ((cntA (wrB (σ 45) k i) j) + 0)) = (nI (cntA (wrB (σ 45) k i) (j + 1))) := by first | rfl | (simp [cntA, wrB, c_1, c_2, c_6, c_8])
                  exact ih31 (j + 1) (by omega) (by omega) _ _ _ hw (lv_c (lv_at hl 3 rfl) (lv_c (lv_at hl 4 rfl) (lv_c (lv_at hl 5 rfl) (lv_c (lv_at hl 6 rfl) (lv_c (lv_at hl 7 rfl) (lv_c (lv_atq hl 1 rfl q_9) (lv_c (lv_at hl 0 rfl) (lv_c0 hl))))))))
                · skip
                  refine lv_iload hx hb dX6_sum_70 (lv_at hl 7 rfl) ?_
                  refine lv_iload_n hx hb dX6_sum_72 rfl (lv_at hl 4 rfl) ?_
                  refine lv_icmp_ge (tgt := 80) hx hb dX6_sum_73 (by decide) (fun c_10 => ?_) (fun c_10 => ?_)
                  · skip
                    have c_10 : i ≤ j := (nI_leI (by omega) (by omega)).mp c_10
                    refine lv_iconst (v := 0) hx hb dX6_sum_80 (by decide) ?_
                    refine lv_rep0 (x := 0) (y := nI 0) rfl ?_
                    refine lv_iadd hx hb dX6_sum_81 ?_
                    refine lv_rep0 (x := ((nI (cntA (wrB (σ 45) k i) j)) + (nI 0))) (y := nI ((cntA (wrB (σ 45) k i) j) + 0)) (nI_add _ _) ?_
                    refine lv_istore (lv' := [(5, .int (nI ((cntA (wrB (σ 45) k i) j) + 0))), (7, .int (σ 45 (j * 6 + k))), (0, .ref (gad G 31)), (1, .int (nI k)), (2, .int (sumA (σ 45) (σ 31 24) k e9 i)), (3, .int (nI i)), (4, .int (σ 45 (i * 6 + k))), (6, .int (nI j))]) hx hb dX6_sum_82 hl (by decide) rfl (fun ls hl => ?_)
                    refine lv_iinc (v := (nI (j + 1))) (lv' := [(6, .int (nI (j + 1))), (5, .int (nI ((cntA (wrB (σ 45) k i) j) + 0))), (7, .int (σ 45 (j * 6 + k))), (0, .ref (gad G 31)), (1, .int (nI k)), (2, .int (sumA (σ 45) (σ 31 24) k e9 i)), (3, .int (nI i)), (4, .int (σ 45 (i * 6 + k)))]) hx hb dX6_sum_84 hl (k := 7) rfl (nI_1 _) (by decide) rfl (fun ls hl => ?_)
                    refine lv_goto (tgt := 31) hx hb dX6_sum_87 (by decide) ?_
                    have q_11 : (nI ((cntA (wrB (σ 45) k i) j) + 0)) = (nI (cntA (wrB (σ 45) k i) (j + 1))) := by first | rfl | (simp [cntA, wrB, c_1, c_2, c_6, c_8, c_10])
                    exact ih31 (j + 1) (by omega) (by omega) _ _ _ hw (lv_c (lv_at hl 3 rfl) (lv_c (lv_at hl 4 rfl) (lv_c (lv_at hl 5 rfl) (lv_c (lv_at hl 6 rfl) (lv_c (lv_at hl 7 rfl) (lv_c (lv_atq hl 1 rfl q_11) (lv_c (lv_at hl 0 rfl) (lv_c0 hl))))))))
                  · skip
                    have c_10 : ¬ i ≤ j := fun h9 => c_10 ((nI_leI (by omega) (by omega)).mpr h9)
                    refine lv_iconst (v := 1) hx hb dX6_sum_76 (by decide) ?_
                    refine lv_goto (tgt := 81) hx hb dX6_sum_77 (by decide) ?_
                    refine lv_rep0 (x := 1) (y := nI 1) rfl ?_
                    refine lv_iadd hx hb dX6_sum_81 ?_
                    refine lv_rep0 (x := ((nI (cntA (wrB (σ 45) k i) j)) + (nI 1))) (y := nI ((cntA (wrB (σ 45) k i) j) + 1)) (nI_add _ _) ?_
                    refine lv_istore (lv' := [(5, .int (nI ((cntA (wrB (σ 45) k i) j) + 1))), (7, .int (σ 45 (j * 6 + k))), (0, .ref (gad G 31)), (1, .int (nI k)), (2, .int (sumA (σ 45) (σ 31 24) k e9 i)), (3, .int (nI i)), (4, .int (σ 45 (i * 6 + k))), (6, .int (nI j))]) hx hb dX6_sum_82 hl (by decide) rfl (fun ls hl => ?_)
                    refine lv_iinc (v := (nI (j + 1))) (lv' := [(6, .int (nI (j + 1))), (5, .int (nI ((cntA (wrB (σ 45) k i) j) + 1))), (7, .int (σ 45 (j * 6 + k))), (0, .ref (gad G 31)), (1, .int (nI k)), (2, .int (sumA (σ 45) (σ 31 24) k e9 i)), (3, .int (nI i)), (4, .int (σ 45 (i * 6 + k)))]) hx hb dX6_sum_84 hl (k := 7) rfl (nI_1 _) (by decide) rfl (fun ls hl => ?_)
                    refine lv_goto (tgt := 31) hx hb dX6_sum_87 (by decide) ?_
                    have q_12 : (nI ((cntA (wrB (σ 45) k i) j) + 1)) = (nI (cntA (wrB (σ 45) k i) (j + 1))) := by first | rfl | (simp [cntA, wrB, c_1, c_2, c_6, c_8, c_10])
                    exact ih31 (j + 1) (by omega) (by omega) _ _ _ hw (lv_c (lv_at hl 3 rfl) (lv_c (lv_at hl 4 rfl) (lv_c (lv_at hl 5 rfl) (lv_c (lv_at hl 6 rfl) (lv_c (lv_at hl 7 rfl) (lv_c (lv_atq hl 1 rfl q_12) (lv_c (lv_at hl 0 rfl) (lv_c0 hl))))))))
        have q_13 : 0 = (nI (cntA (wrB (σ 45) k i) 0)) := by first | rfl | (simp [cntA, wrB, c_1])
        have q_14 : 0 = (nI 0) := by first | rfl | (simp [cntA, wrB, c_1])
        exact lab_31 (e9 - 0 + 1) 0 (by omega) (by omega) _ _ _ hw (lv_c (lv_at hl 3 rfl) (lv_c (lv_at hl 4 rfl) (lv_c (lv_at hl 5 rfl) (lv_c (lv_at hl 6 rfl) (lv_c (lv_at hl 2 rfl) (lv_c (lv_atq hl 1 rfl q_13) (lv_c (lv_atq hl 0 rfl q_14) (lv_c0 hl))))))))
  have q_15 : 0 = (sumA (σ 45) (σ 31 24) k e9 0) := by first | rfl | (rw [sumA]; rw [show j = e9 by omega] at NOPATH; simp [NOPATH])
  have q_16 : 0 = (nI 0) := by first | rfl | (rw [sumA]; rw [show j = e9 by omega] at NOPATH; simp [NOPATH])
  exact lab_4 (e9 - 0 + 1) 0 (by omega) (by omega) _ _ _ hw (lv_c (lv_at hl 2 rfl) (lv_c (lv_at hl 3 rfl) (lv_c (lv_atq hl 1 rfl q_15) (lv_c (lv_atq hl 0 rfl q_16) (lv_c0 hl)))))

def rmX6_times : Room := ({ frames := 0, cells := 0, slots := 0, locals := 0 } : Room)
set_option maxHeartbeats 4000000 in
set_option maxRecDepth 100000 in
theorem kX6_times (l : Launch) (G : Gx) (hG : gOk G) (hF : Full G) (σ : St) (k : Nat) (hk : k < 6) (q : Nat) (e9 : Nat) (hme : σ 31 7 = nI e9) (hme8 : e9 ≤ 8)  : CtI l yX6_times wsX6_times rmX6_times G σ [.ref (gad G 31), .int (nI k), .int (nI q)] (fun r σ' => r = nI (tmA (σ 44) e9 k q) ∧ σ' = σ) := by
  refine bgMet (cc := cX6_times) (maxL := 5) (ret := (some .int)) (own := RX6) (by decide) rfl rfl hG (Nat.le_of_ble_eq_true rfl) rfl ?_
  intro p e s m args below meth c ls Bd hl
  obtain ⟨hx, hb, hr, hml, hts, hown, hlocks, fx, hw⟩ := Bd
  have hl : lv_has ls 5 [(0, .ref (gad G 31)), (1, .int (nI k)), (2, .int (nI q))] := hl
  have hin : ∀ w ∈ wsX60, w ∈ wsX6_times := by decide +kernel
  refine lv_iconst (v := 0) hx hb dX6_times_0 (by decide) ?_
  refine lv_istore_n (lv' := [(3, .int 0), (0, .ref (gad G 31)), (1, .int (nI k)), (2, .int (nI q))]) hx hb dX6_times_1 rfl hl (by decide) rfl (fun ls hl => ?_)
  refine lv_iconst (v := 0) hx hb dX6_times_2 (by decide) ?_
  refine lv_istore (lv' := [(4, .int 0), (3, .int 0), (0, .ref (gad G 31)), (1, .int (nI k)), (2, .int (nI q))]) hx hb dX6_times_3 hl (by decide) rfl (fun ls hl => ?_)
  have lab_5 : ∀ (n9 : Nat), ∀ (i : Nat), e9 - i < n9 → i ≤ e9 → ∀ (H : Heap) (locs : List Loc) (ls : Array Slot), Wd G s σ H locs → lv_has ls 5 [(0, .ref (gad G 31)), (1, .int (nI k)), (2, .int (nI q)), (3, .int (nI (cntA (fun x9 => decide (σ 44 (x9 * 6 + k) = nI q)) i))), (4, .int (nI i))] → W p l e rmX6_times s m args below meth c H locs 0 0 (MQ below (va_Qi (fun r σ' => r = nI (tmA (σ 44) e9 k q) ∧ σ' = σ) (BW G) (gA G)) args s 0 0 (gA G)) (F0 m 5 ls []) := by
    intro n9
    induction n9 with
    | zero => intro i hn9; exact absurd hn9 (Nat.not_lt_zero _)
    | succ n9 ih5 =>
      intro i hn9 h5_0 H locs ls hw hl
      refine lv_iload hx hb dX6_times_5 (lv_at hl 4 rfl) ?_
      refine lv_aload_n hx hb dX6_times_7 rfl (lv_at hl 0 rfl) ?_
      refine rGet (v := .int (σ 31 7)) (C := RX6) (T := TX6) (N := 26) hx hb fx hown hts hin hw 31 (hF.1 31 (by decide)) rfl rfl 7 (by decide) (hts (.fieldLink RX6 138 "LeaguewheelModel" "ended" "I") (by decide +kernel)) (fun _ h9 => h9) rfl dX6_times_8 ?_
      refine lv_rep0 (x := (σ 31 7)) (y := nI e9) (by exact hme) ?_
      refine lv_icmp_ge (tgt := 44) hx hb dX6_times_11 (by decide) (fun c_1 => ?_) (fun c_1 => ?_)
      · skip
        have c_1 : e9 ≤ i := (nI_leI (by omega) (by omega)).mp c_1
        refine lv_iload_n hx hb dX6_times_44 rfl (lv_at hl 3 rfl) ?_
        exact rRetI hx hb hr hw (by exact ⟨by rw [show e9 = i by omega]; rfl, rfl⟩) hlocks dX6_times_45
      · skip
        have c_1 : ¬ e9 ≤ i := fun h9 => c_1 ((nI_leI (by omega) (by omega)).mpr h9)
        refine lv_iload_n hx hb dX6_times_14 rfl (lv_at hl 3 rfl) ?_
        refine lv_aload_n hx hb dX6_times_15 rfl (lv_at hl 0 rfl) ?_
        refine rGet (v := .ref (gad G 44)) (C := RX6) (T := TX6) (N := 26) hx hb fx hown hts hin hw 31 (hF.1 31 (by decide)) rfl rfl 22 (by decide) (hts (.fieldLink RX6 51 "LeaguewheelModel" "place" "[I") (by decide +kernel)) (fun _ h9 => h9) rfl dX6_times_16 ?_
        refine lv_bipush (v := 6) hx hb dX6_times_19 (by decide) ?_
        refine lv_iload hx hb dX6_times_21 (lv_at hl 4 rfl) ?_
        refine lv_rep1 (x := 6) (y := nI 6) rfl ?_
        refine lv_imul hx hb dX6_times_23 ?_
        refine lv_rep0 (x := ((nI 6) * (nI i))) (y := nI (6 * i)) (pk_mul _ _) ?_
        refine lv_iload_n hx hb dX6_times_24 rfl (lv_at hl 1 rfl) ?_
        refine lv_iadd hx hb dX6_times_25 ?_
        refine lv_rep0 (x := ((nI (6 * i)) + (nI k))) (y := nI ((6 * i) + k)) (nI_add _ _) ?_
        refine lv_rep0 (x := (nI ((6 * i) + k))) (y := nI (i * 6 + k)) (by rw [Nat.mul_comm 6]) ?_
        refine rAld hx hb fx hw 44 (hF.1 44 (by decide)) hF.2.1 (fun _ => rfl) (i * 6 + k) rfl (by omega) (by decide) dX6_times_26 ?_
        refine lv_iload_n hx hb dX6_times_27 rfl (lv_at hl 2 rfl) ?_
        refine lv_icmp_ne (tgt := 35) hx hb dX6_times_28 (by decide) (fun c_2 => ?_) (fun c_2 => ?_)
        · skip
          refine lv_iconst (v := 0) hx hb dX6_times_35 (by decide) ?_
          refine lv_rep0 (x := 0) (y := nI 0) rfl ?_
          refine lv_iadd hx hb dX6_times_36 ?_
          refine lv_rep0 (x := ((nI (cntA (fun x9 => decide (σ 44 (x9 * 6 + k) = nI q)) i)) + (nI 0))) (y := nI ((cntA (fun x9 => decide (σ 44 (x9 * 6 + k) = nI q)) i) + 0)) (nI_add _ _) ?_
          refine lv_istore_n (lv' := [(3, .int (nI ((cntA (fun x9 => decide (σ 44 (x9 * 6 + k) = nI q)) i) + 0))), (0, .ref (gad G 31)), (1, .int (nI k)), (2, .int (nI q)), (4, .int (nI i))]) hx hb dX6_times_37 rfl hl (by decide) rfl (fun ls hl => ?_)
          refine lv_iinc (v := (nI (i + 1))) (lv' := [(4, .int (nI (i + 1))), (3, .int (nI ((cntA (fun x9 => decide (σ 44 (x9 * 6 + k) = nI q)) i) + 0))), (0, .ref (gad G 31)), (1, .int (nI k)), (2, .int (nI q))]) hx hb dX6_times_38 hl (k := 4) rfl (nI_1 _) (by decide) rfl (fun ls hl => ?_)
          refine lv_goto (tgt := 5) hx hb dX6_times_41 (by decide) ?_
          have q_3 : (nI ((cntA (fun x9 => decide (σ 44 (x9 * 6 + k) = nI q)) i) + 0)) = (nI (cntA (fun x9 => decide (σ 44 (x9 * 6 + k) = nI q)) (i + 1))) := by first | rfl | (simp [cntA, c_1, c_2])
          exact ih5 (i + 1) (by omega) (by omega) _ _ _ hw (lv_c (lv_at hl 2 rfl) (lv_c (lv_at hl 3 rfl) (lv_c (lv_at hl 4 rfl) (lv_c (lv_atq hl 1 rfl q_3) (lv_c (lv_at hl 0 rfl) (lv_c0 hl))))))
        · skip
          refine lv_iconst (v := 1) hx hb dX6_times_31 (by decide) ?_
          refine lv_goto (tgt := 36) hx hb dX6_times_32 (by decide) ?_
          refine lv_rep0 (x := 1) (y := nI 1) rfl ?_
          refine lv_iadd hx hb dX6_times_36 ?_
          refine lv_rep0 (x := ((nI (cntA (fun x9 => decide (σ 44 (x9 * 6 + k) = nI q)) i)) + (nI 1))) (y := nI ((cntA (fun x9 => decide (σ 44 (x9 * 6 + k) = nI q)) i) + 1)) (nI_add _ _) ?_
          refine lv_istore_n (lv' := [(3, .int (nI ((cntA (fun x9 => decide (σ 44 (x9 * 6 + k) = nI q)) i) + 1))), (0, .ref (gad G 31)), (1, .int (nI k)), (2, .int (nI q)), (4, .int (nI i))]) hx hb dX6_times_37 rfl hl (by decide) rfl (fun ls hl => ?_)
          refine lv_iinc (v := (nI (i + 1))) (lv' := [(4, .int (nI (i + 1))), (3, .int (nI ((cntA (fun x9 => decide (σ 44 (x9 * 6 + k) = nI q)) i) + 1))), (0, .ref (gad G 31)), (1, .int (nI k)), (2, .int (nI q))]) hx hb dX6_times_38 hl (k := 4) rfl (nI_1 _) (by decide) rfl (fun ls hl => ?_)
          refine lv_goto (tgt := 5) hx hb dX6_times_41 (by decide) ?_
          have q_4 : (nI ((cntA (fun x9 => decide (σ 44 (x9 * 6 + k) = nI q)) i) + 1)) = (nI (cntA (fun x9 => decide (σ 44 (x9 * 6 + k) = nI q)) (i + 1))) := by first | rfl | (simp [cntA, c_1, c_2])
          exact ih5 (i + 1) (by omega) (by omega) _ _ _ hw (lv_c (lv_at hl 2 rfl) (lv_c (lv_at hl 3 rfl) (lv_c (lv_at hl 4 rfl) (lv_c (lv_atq hl 1 rfl q_4) (lv_c (lv_at hl 0 rfl) (lv_c0 hl))))))
  have q_5 : 0 = (nI (cntA (fun x9 => decide (σ 44 (x9 * 6 + k) = nI q)) 0)) := by first | rfl | (simp [cntA])
  have q_6 : 0 = (nI 0) := by first | rfl | (simp [cntA])
  exact lab_5 (e9 - 0 + 1) 0 (by omega) (by omega) _ _ _ hw (lv_c (lv_at hl 2 rfl) (lv_c (lv_at hl 3 rfl) (lv_c (lv_at hl 4 rfl) (lv_c (lv_atq hl 1 rfl q_5) (lv_c (lv_atq hl 0 rfl q_6) (lv_c0 hl))))))

def rmX6_stands : Room := ({ frames := 1, cells := 0, slots := 0, locals := 27 } : Room)
set_option maxHeartbeats 4000000 in
set_option maxRecDepth 100000 in
theorem kX6_stands (l : Launch) (G : Gx) (hG : gOk G) (hF : Full G) (σ : St) (i j : Nat) (hi : i < 6) (hj : j < 6) (n : Nat) (hmn : σ 31 4 = nI n) (hmn6 : n ≤ 6) (e9 : Nat) (hme : σ 31 7 = nI e9) (hme8 : e9 ≤ 8)  : CtI l yX6_stands wsX6_stands rmX6_stands G σ [.ref (gad G 31), .int (nI i), .int (nI j)] (fun r σ' => r = bI (stBm (σ 44) (σ 45) (σ 31 24) e9 n i j) ∧ σ' = σ) := by
  refine bgMet (cc := cX6_stands) (maxL := 4) (ret := (some .boolean)) (own := RX6) (by decide) rfl rfl hG (Nat.le_of_ble_eq_true rfl) rfl ?_
  intro p e s m args below meth c ls Bd hl
  obtain ⟨hx, hb, hr, hml, hts, hown, hlocks, fx, hw⟩ := Bd
  have hl : lv_has ls 4 [(0, .ref (gad G 31)), (1, .int (nI i)), (2, .int (nI j))] := hl
  have hin : ∀ w ∈ wsX60, w ∈ wsX6_stands := by decide +kernel
  refine lv_aload_n hx hb dX6_stands_0 rfl (lv_at hl 0 rfl) ?_
  refine lv_iload_n hx hb dX6_stands_1 rfl (lv_at hl 1 rfl) ?_
  refine rCallI (C := RX6) (As := [.int (nI i)]) (rest := []) ⟨hx, hb, hml, hown, hts⟩ fx hw (kX6_sum l G hG hF σ i (by omega) e9 hme (by omega)) (cwV 1 hts gX6_stands_X6_sum rfl rfl rfl (by decide +kernel) ⟨Nat.le_of_ble_eq_true rfl, Nat.le_of_ble_eq_true rfl⟩) (hF.1 31 (by decide)) rfl rfl rfl rfl hl.1 rfl (Nat.le_of_ble_eq_true rfl) dX6_stands_2 ⟨Nat.zero_le _, Nat.zero_le _⟩ ?_
  intro r_2 σ_3 H locs p_1 hw
  obtain ⟨er_2, eσ_3⟩ := p_1
  have er_2 := er_2.symm; subst er_2
  have eσ_3 := eσ_3.symm; subst eσ_3
  refine lv_aload_n hx hb dX6_stands_5 rfl (lv_at hl 0 rfl) ?_
  refine lv_iload_n hx hb dX6_stands_6 rfl (lv_at hl 2 rfl) ?_
  refine rCallI (C := RX6) (As := [.int (nI j)]) (rest := [.int (sumA (σ 45) (σ 31 24) i e9 e9)]) ⟨hx, hb, hml, hown, hts⟩ fx hw (kX6_sum l G hG hF σ j (by omega) e9 hme (by omega)) (cwV 1 hts gX6_stands_X6_sum rfl rfl rfl (by decide +kernel) ⟨Nat.le_of_ble_eq_true rfl, Nat.le_of_ble_eq_true rfl⟩) (hF.1 31 (by decide)) rfl rfl rfl rfl hl.1 rfl (Nat.le_of_ble_eq_true rfl) dX6_stands_7 ⟨Nat.zero_le _, Nat.zero_le _⟩ ?_
  intro r_5 σ_6 H locs p_4 hw
  obtain ⟨er_5, eσ_6⟩ := p_4
  have er_5 := er_5.symm; subst er_5
  have eσ_6 := eσ_6.symm; subst eσ_6
  refine lv_icmp_eq (tgt := 32) hx hb dX6_stands_10 (by decide) (fun c_7 => ?_) (fun c_7 => ?_)
  · skip
    refine lv_iconst (v := 0) hx hb dX6_stands_32 (by decide) ?_
    refine lv_istore_n (lv' := [(3, .int 0), (0, .ref (gad G 31)), (1, .int (nI i)), (2, .int (nI j))]) hx hb dX6_stands_33 rfl hl (by decide) rfl (fun ls hl => ?_)
    have lab_34 : ∀ (n9 : Nat), ∀ (q : Nat), n - q < n9 → q ≤ n → stTm (σ 44) e9 i j n n = stTm (σ 44) e9 i j n (n - q) → ∀ (H : Heap) (locs : List Loc) (ls : Array Slot), Wd G s σ H locs → lv_has ls 4 [(0, .ref (gad G 31)), (1, .int (nI i)), (2, .int (nI j)), (3, .int (nI q))] → W p l e rmX6_stands s m args below meth c H locs 0 0 (MQ below (va_Qi (fun r σ' => r = bI (stBm (σ 44) (σ 45) (σ 31 24) e9 n i j) ∧ σ' = σ) (BW G) (gA G)) args s 0 0 (gA G)) (F0 m 34 ls []) := by
      intro n9
      induction n9 with
      | zero => intro q hn9; exact absurd hn9 (Nat.not_lt_zero _)
      | succ n9 ih34 =>
        intro q hn9 h34_0 h34_1 H locs ls hw hl
        refine lv_iload_n hx hb dX6_stands_34 rfl (lv_at hl 3 rfl) ?_
        refine lv_aload_n hx hb dX6_stands_35 rfl (lv_at hl 0 rfl) ?_
        refine rGet (v := .int (σ 31 4)) (C := RX6) (T := TX6) (N := 26) hx hb fx hown hts hin hw 31 (hF.1 31 (by decide)) rfl rfl 4 (by decide) (hts (.fieldLink RX6 64 "LeaguewheelModel" "karts" "I") (by decide +kernel)) (fun _ h9 => h9) rfl dX6_stands_36 ?_
        refine lv_rep0 (x := (σ 31 4)) (y := nI n) (by exact hmn) ?_
        refine lv_icmp_ge (tgt := 84) hx hb dX6_stands_39 (by decide) (fun c_8 => ?_) (fun c_8 => ?_)
        · skip
          have c_8 : n ≤ q := (nI_leI (by omega) (by omega)).mp c_8
          refine lv_iload_n hx hb dX6_stands_84 rfl (lv_at hl 1 rfl) ?_
          refine lv_iload_n hx hb dX6_stands_85 rfl (lv_at hl 2 rfl) ?_
          refine lv_icmp_ge (tgt := 93) hx hb dX6_stands_86 (by decide) (fun c_9 => ?_) (fun c_9 => ?_)
          · skip
            have c_9 : j ≤ i := (nI_leI (by omega) (by omega)).mp c_9
            refine lv_iconst (v := 0) hx hb dX6_stands_93 (by decide) ?_
            exact rRetZ hx hb hr hw (by decide) (by exact ⟨by rw [stBm, if_pos c_7, h34_1, show n - q = 0 by omega, stTm]; simp [bI, c_9], rfl⟩) hlocks dX6_stands_94
          · skip
            have c_9 : ¬ j ≤ i := fun h9 => c_9 ((nI_leI (by omega) (by omega)).mpr h9)
            refine lv_iconst (v := 1) hx hb dX6_stands_89 (by decide) ?_
            refine lv_goto (tgt := 94) hx hb dX6_stands_90 (by decide) ?_
            exact rRetZ hx hb hr hw (by decide) (by exact ⟨by rw [stBm, if_pos c_7, h34_1, show n - q = 0 by omega, stTm]; simp [bI, c_9], rfl⟩) hlocks dX6_stands_94
        · skip
          have c_8 : ¬ n ≤ q := fun h9 => c_8 ((nI_leI (by omega) (by omega)).mpr h9)
          refine lv_aload_n hx hb dX6_stands_42 rfl (lv_at hl 0 rfl) ?_
          refine lv_iload_n hx hb dX6_stands_43 rfl (lv_at hl 1 rfl) ?_
          refine lv_iload_n hx hb dX6_stands_44 rfl (lv_at hl 3 rfl) ?_
          refine rCallI (C := RX6) (As := [.int (nI i), .int (nI q)]) (rest := []) ⟨hx, hb, hml, hown, hts⟩ fx hw (kX6_times l G hG hF σ i (by omega) q e9 hme (by omega)) (cwV 2 hts gX6_stands_X6_times rfl rfl rfl (by decide +kernel) ⟨Nat.le_of_ble_eq_true rfl, Nat.le_of_ble_eq_true rfl⟩) (hF.1 31 (by decide)) rfl rfl rfl rfl hl.1 rfl (Nat.le_of_ble_eq_true rfl) dX6_stands_45 ⟨Nat.zero_le _, Nat.zero_le _⟩ ?_
          intro r_11 σ_12 H locs p_10 hw
          obtain ⟨er_11, eσ_12⟩ := p_10
          have er_11 := er_11.symm; subst er_11
          have eσ_12 := eσ_12.symm; subst eσ_12
          have ht1 := cntA_le (fun z9 => decide (σ 44 (z9 * 6 + i) = nI q)) e9; change tmA (σ 44) e9 i q ≤ e9 at ht1
          refine lv_aload_n hx hb dX6_stands_48 rfl (lv_at hl 0 rfl) ?_
          refine lv_iload_n hx hb dX6_stands_49 rfl (lv_at hl 2 rfl) ?_
          refine lv_iload_n hx hb dX6_stands_50 rfl (lv_at hl 3 rfl) ?_
          refine rCallI (C := RX6) (As := [.int (nI j), .int (nI q)]) (rest := [.int (nI (tmA (σ 44) e9 i q))]) ⟨hx, hb, hml, hown, hts⟩ fx hw (kX6_times l G hG hF σ j (by omega) q e9 hme (by omega)) (cwV 2 hts gX6_stands_X6_times rfl rfl rfl (by decide +kernel) ⟨Nat.le_of_ble_eq_true rfl, Nat.le_of_ble_eq_true rfl⟩) (hF.1 31 (by decide)) rfl rfl rfl rfl hl.1 rfl (Nat.le_of_ble_eq_true rfl) dX6_stands_51 ⟨Nat.zero_le _, Nat.zero_le _⟩ ?_
          intro r_14 σ_15 H locs p_13 hw
          obtain ⟨er_14, eσ_15⟩ := p_13
          have er_14 := er_14.symm; subst er_14
          have eσ_15 := eσ_15.symm; subst eσ_15
          have ht2 := cntA_le (fun z9 => decide (σ 44 (z9 * 6 + j) = nI q)) e9; change tmA (σ 44) e9 j q ≤ e9 at ht2
          refine lv_icmp_eq (tgt := 78) hx hb dX6_stands_54 (by decide) (fun c_16 => ?_) (fun c_16 => ?_)
          · skip
            have c_16 : (tmA (σ 44) e9 i q) = (tmA (σ 44) e9 j q) := (nI_eq (by omega) (by omega)).mp c_16
            refine lv_iinc (v := (nI (q + 1))) (lv' := [(3, .int (nI (q + 1))), (0, .ref (gad G 31)), (1, .int (nI i)), (2, .int (nI j))]) hx hb dX6_stands_78 hl (k := 3) rfl (nI_1 _) (by decide) rfl (fun ls hl => ?_)
            refine lv_goto (tgt := 34) hx hb dX6_stands_81 (by decide) ?_
            exact ih34 (q + 1) (by omega) (by omega) (by rw [h34_1]; exact stTm_s (by omega) c_16) _ _ _ hw (lv_c (lv_at hl 1 rfl) (lv_c (lv_at hl 2 rfl) (lv_c (lv_at hl 3 rfl) (lv_c (lv_at hl 0 rfl) (lv_c0 hl)))))
          · skip
            have c_16 : ¬ (tmA (σ 44) e9 i q) = (tmA (σ 44) e9 j q) := fun h9 => c_16 ((nI_eq (by omega) (by omega)).mpr h9)
            refine lv_aload_n hx hb dX6_stands_57 rfl (lv_at hl 0 rfl) ?_
            refine lv_iload_n hx hb dX6_stands_58 rfl (lv_at hl 1 rfl) ?_
            refine lv_iload_n hx hb dX6_stands_59 rfl (lv_at hl 3 rfl) ?_
            refine rCallI (C := RX6) (As := [.int (nI i), .int (nI q)]) (rest := []) ⟨hx, hb, hml, hown, hts⟩ fx hw (kX6_times l G hG hF σ i (by omega) q e9 hme (by omega)) (cwV 2 hts gX6_stands_X6_times rfl rfl rfl (by decide +kernel) ⟨Nat.le_of_ble_eq_true rfl, Nat.le_of_ble_eq_true rfl⟩) (hF.1 31 (by decide)) rfl rfl rfl rfl hl.1 rfl (Nat.le_of_ble_eq_true rfl) dX6_stands_60 ⟨Nat.zero_le _, Nat.zero_le _⟩ ?_
            intro r_18 σ_19 H locs p_17 hw
            obtain ⟨er_18, eσ_19⟩ := p_17
            have er_18 := er_18.symm; subst er_18
            have eσ_19 := eσ_19.symm; subst eσ_19
            refine lv_aload_n hx hb dX6_stands_63 rfl (lv_at hl 0 rfl) ?_
            refine lv_iload_n hx hb dX6_stands_64 rfl (lv_at hl 2 rfl) ?_
            refine lv_iload_n hx hb dX6_stands_65 rfl (lv_at hl 3 rfl) ?_
            refine rCallI (C := RX6) (As := [.int (nI j), .int (nI q)]) (rest := [.int (nI (tmA (σ 44) e9 i q))]) ⟨hx, hb, hml, hown, hts⟩ fx hw (kX6_times l G hG hF σ j (by omega) q e9 hme (by omega)) (cwV 2 hts gX6_stands_X6_times rfl rfl rfl (by decide +kernel) ⟨Nat.le_of_ble_eq_true rfl, Nat.le_of_ble_eq_true rfl⟩) (hF.1 31 (by decide)) rfl rfl rfl rfl hl.1 rfl (Nat.le_of_ble_eq_true rfl) dX6_stands_66 ⟨Nat.zero_le _, Nat.zero_le _⟩ ?_
            intro r_21 σ_22 H locs p_20 hw
            obtain ⟨er_21, eσ_22⟩ := p_20
            have er_21 := er_21.symm; subst er_21
            have eσ_22 := eσ_22.symm; subst eσ_22
            refine lv_icmp_le (tgt := 76) hx hb dX6_stands_69 (by decide) (fun c_23 => ?_) (fun c_23 => ?_)
            · skip
              have c_23 : (tmA (σ 44) e9 i q) ≤ (tmA (σ 44) e9 j q) := (nI_leI (by omega) (by omega)).mp c_23
              refine lv_iconst (v := 0) hx hb dX6_stands_76 (by decide) ?_
              exact rRetZ hx hb hr hw (by decide) (by exact ⟨by rw [stBm, if_pos c_7, h34_1, stTm_n (by omega) c_16]; simp [bI, c_23], rfl⟩) hlocks dX6_stands_77
            · skip
              have c_23 : ¬ (tmA (σ 44) e9 i q) ≤ (tmA (σ 44) e9 j q) := fun h9 => c_23 ((nI_leI (by omega) (by omega)).mpr h9)
              refine lv_iconst (v := 1) hx hb dX6_stands_72 (by decide) ?_
              refine lv_goto (tgt := 77) hx hb dX6_stands_73 (by decide) ?_
              exact rRetZ hx hb hr hw (by decide) (by exact ⟨by rw [stBm, if_pos c_7, h34_1, stTm_n (by omega) c_16]; simp [bI, c_23], rfl⟩) hlocks dX6_stands_77
    have q_24 : 0 = (nI 0) := by first | rfl | (simp)
    exact lab_34 (n - 0 + 1) 0 (by omega) (by omega) rfl _ _ _ hw (lv_c (lv_at hl 1 rfl) (lv_c (lv_at hl 2 rfl) (lv_c (lv_at hl 3 rfl) (lv_c (lv_atq hl 0 rfl q_24) (lv_c0 hl)))))
  · skip
    refine lv_aload_n hx hb dX6_stands_13 rfl (lv_at hl 0 rfl) ?_
    refine lv_iload_n hx hb dX6_stands_14 rfl (lv_at hl 1 rfl) ?_
    refine rCallI (C := RX6) (As := [.int (nI i)]) (rest := []) ⟨hx, hb, hml, hown, hts⟩ fx hw (kX6_sum l G hG hF σ i (by omega) e9 hme (by omega)) (cwV 1 hts gX6_stands_X6_sum rfl rfl rfl (by decide +kernel) ⟨Nat.le_of_ble_eq_true rfl, Nat.le_of_ble_eq_true rfl⟩) (hF.1 31 (by decide)) rfl rfl rfl rfl hl.1 rfl (Nat.le_of_ble_eq_true rfl) dX6_stands_15 ⟨Nat.zero_le _, Nat.zero_le _⟩ ?_
    intro r_26 σ_27 H locs p_25 hw
    obtain ⟨er_26, eσ_27⟩ := p_25
    have er_26 := er_26.symm; subst er_26
    have eσ_27 := eσ_27.symm; subst eσ_27
    refine lv_aload_n hx hb dX6_stands_18 rfl (lv_at hl 0 rfl) ?_
    refine lv_iload_n hx hb dX6_stands_19 rfl (lv_at hl 2 rfl) ?_
    refine rCallI (C := RX6) (As := [.int (nI j)]) (rest := [.int (sumA (σ 45) (σ 31 24) i e9 e9)]) ⟨hx, hb, hml, hown, hts⟩ fx hw (kX6_sum l G hG hF σ j (by omega) e9 hme (by omega)) (cwV 1 hts gX6_stands_X6_sum rfl rfl rfl (by decide +kernel) ⟨Nat.le_of_ble_eq_true rfl, Nat.le_of_ble_eq_true rfl⟩) (hF.1 31 (by decide)) rfl rfl rfl rfl hl.1 rfl (Nat.le_of_ble_eq_true rfl) dX6_stands_20 ⟨Nat.zero_le _, Nat.zero_le _⟩ ?_
    intro r_29 σ_30 H locs p_28 hw
    obtain ⟨er_29, eσ_30⟩ := p_28
    have er_29 := er_29.symm; subst er_29
    have eσ_30 := eσ_30.symm; subst eσ_30
    refine lv_icmp_le (tgt := 30) hx hb dX6_stands_23 (by decide) (fun c_31 => ?_) (fun c_31 => ?_)
    · skip
      refine lv_iconst (v := 0) hx hb dX6_stands_30 (by decide) ?_
      exact rRetZ hx hb hr hw (by decide) (by exact ⟨by simp [stBm, bI, c_7, c_31], rfl⟩) hlocks dX6_stands_31
    · skip
      refine lv_iconst (v := 1) hx hb dX6_stands_26 (by decide) ?_
      refine lv_goto (tgt := 31) hx hb dX6_stands_27 (by decide) ?_
      exact rRetZ hx hb hr hw (by decide) (by exact ⟨by simp [stBm, bI, c_7, c_31], rfl⟩) hlocks dX6_stands_31

def rmX6_stand : Room := ({ frames := 2, cells := 0, slots := 0, locals := 50 } : Room)
set_option maxHeartbeats 4000000 in
set_option maxRecDepth 100000 in
theorem kX6_stand (l : Launch) (G : Gx) (hG : gOk G) (hF : Full G) (σ : St) (k : Nat) (hk : k < 6) (n : Nat) (hmn : σ 31 4 = nI n) (hmn6 : n ≤ 6) (e9 : Nat) (hme : σ 31 7 = nI e9) (hme8 : e9 ≤ 8)  : CtI l yX6_stand wsX6_stand rmX6_stand G σ [.ref (gad G 31), .int (nI k)] (fun r σ' => r = nI (snM (σ 44) (σ 45) (σ 31 24) e9 n k) ∧ σ' = σ) := by
  refine bgMet (cc := cX6_stand) (maxL := 4) (ret := (some .int)) (own := RX6) (by decide) rfl rfl hG (Nat.le_of_ble_eq_true rfl) rfl ?_
  intro p e s m args below meth c ls Bd hl
  obtain ⟨hx, hb, hr, hml, hts, hown, hlocks, fx, hw⟩ := Bd
  have hl : lv_has ls 4 [(0, .ref (gad G 31)), (1, .int (nI k))] := hl
  have hin : ∀ w ∈ wsX60, w ∈ wsX6_stand := by decide +kernel
  refine lv_iconst (v := 0) hx hb dX6_stand_0 (by decide) ?_
  refine lv_istore_n (lv' := [(2, .int 0), (0, .ref (gad G 31)), (1, .int (nI k))]) hx hb dX6_stand_1 rfl hl (by decide) rfl (fun ls hl => ?_)
  refine lv_iconst (v := 0) hx hb dX6_stand_2 (by decide) ?_
  refine lv_istore_n (lv' := [(3, .int 0), (2, .int 0), (0, .ref (gad G 31)), (1, .int (nI k))]) hx hb dX6_stand_3 rfl hl (by decide) rfl (fun ls hl => ?_)
  have lab_4 : ∀ (n9 : Nat), ∀ (i : Nat), n - i < n9 → i ≤ n → ∀ (H : Heap) (locs : List Loc) (ls : Array Slot), Wd G s σ H locs → lv_has ls 4 [(0, .ref (gad G 31)), (1, .int (nI k)), (2, .int (nI (cntA (fun a => !decide (a = k) && stBm (σ 44) (σ 45) (σ 31 24) e9 n a k) i))), (3, .int (nI i))] → W p l e rmX6_stand s m args below meth c H locs 0 0 (MQ below (va_Qi (fun r σ' => r = nI (snM (σ 44) (σ 45) (σ 31 24) e9 n k) ∧ σ' = σ) (BW G) (gA G)) args s 0 0 (gA G)) (F0 m 4 ls []) := by
    intro n9
    induction n9 with
    | zero => intro i hn9; exact absurd hn9 (Nat.not_lt_zero _)
    | succ n9 ih4 =>
      intro i hn9 h4_0 H locs ls hw hl
      refine lv_iload_n hx hb dX6_stand_4 rfl (lv_at hl 3 rfl) ?_
      refine lv_aload_n hx hb dX6_stand_5 rfl (lv_at hl 0 rfl) ?_
      refine rGet (v := .int (σ 31 4)) (C := RX6) (T := TX6) (N := 26) hx hb fx hown hts hin hw 31 (hF.1 31 (by decide)) rfl rfl 4 (by decide) (hts (.fieldLink RX6 64 "LeaguewheelModel" "karts" "I") (by decide +kernel)) (fun _ h9 => h9) rfl dX6_stand_6 ?_
      refine lv_rep0 (x := (σ 31 4)) (y := nI n) (by exact hmn) ?_
      refine lv_icmp_ge (tgt := 40) hx hb dX6_stand_9 (by decide) (fun c_1 => ?_) (fun c_1 => ?_)
      · skip
        have c_1 : n ≤ i := (nI_leI (by omega) (by omega)).mp c_1
        refine lv_iload_n hx hb dX6_stand_40 rfl (lv_at hl 2 rfl) ?_
        exact rRetI hx hb hr hw (by exact ⟨by rw [show n = i by omega]; rfl, rfl⟩) hlocks dX6_stand_41
      · skip
        have c_1 : ¬ n ≤ i := fun h9 => c_1 ((nI_leI (by omega) (by omega)).mpr h9)
        refine lv_iload_n hx hb dX6_stand_12 rfl (lv_at hl 2 rfl) ?_
        refine lv_iload_n hx hb dX6_stand_13 rfl (lv_at hl 3 rfl) ?_
        refine lv_iload_n hx hb dX6_stand_14 rfl (lv_at hl 1 rfl) ?_
        refine lv_icmp_eq (tgt := 31) hx hb dX6_stand_15 (by decide) (fun c_2 => ?_) (fun c_2 => ?_)
        · skip
          have c_2 : i = k := (nI_eq (by omega) (by omega)).mp c_2
          refine lv_iconst (v := 0) hx hb dX6_stand_31 (by decide) ?_
          refine lv_rep0 (x := 0) (y := nI 0) rfl ?_
          refine lv_iadd hx hb dX6_stand_32 ?_
          refine lv_rep0 (x := ((nI (cntA (fun a => !decide (a = k) && stBm (σ 44) (σ 45) (σ 31 24) e9 n a k) i)) + (nI 0))) (y := nI ((cntA (fun a => !decide (a = k) && stBm (σ 44) (σ 45) (σ 31 24) e9 n a k) i) + 0)) (nI_add _ _) ?_
          refine lv_istore_n (lv' := [(2, .int (nI ((cntA (fun a => !decide (a = k) && stBm (σ 44) (σ 45) (σ 31 24) e9 n a k) i) + 0))), (0, .ref (gad G 31)), (1, .int (nI k)), (3, .int (nI i))]) hx hb dX6_stand_33 rfl hl (by decide) rfl (fun ls hl => ?_)
          refine lv_iinc (v := (nI (i + 1))) (lv' := [(3, .int (nI (i + 1))), (2, .int (nI ((cntA (fun a => !decide (a = k) && stBm (σ 44) (σ 45) (σ 31 24) e9 n a k) i) + 0))), (0, .ref (gad G 31)), (1, .int (nI k))]) hx hb dX6_stand_34 hl (k := 3) rfl (nI_1 _) (by decide) rfl (fun ls hl => ?_)
          refine lv_goto (tgt := 4) hx hb dX6_stand_37 (by decide) ?_
          have q_3 : (nI ((cntA (fun a => !decide (a = k) && stBm (σ 44) (σ 45) (σ 31 24) e9 n a k) i) + 0)) = (nI (cntA (fun a => !decide (a = k) && stBm (σ 44) (σ 45) (σ 31 24) e9 n a k) (i + 1))) := by first | rfl | (simp [cntA, c_1, c_2])
          exact ih4 (i + 1) (by omega) (by omega) _ _ _ hw (lv_c (lv_at hl 2 rfl) (lv_c (lv_at hl 3 rfl) (lv_c (lv_atq hl 1 rfl q_3) (lv_c (lv_at hl 0 rfl) (lv_c0 hl)))))
        · skip
          have c_2 : ¬ i = k := fun h9 => c_2 ((nI_eq (by omega) (by omega)).mpr h9)
          refine lv_aload_n hx hb dX6_stand_18 rfl (lv_at hl 0 rfl) ?_
          refine lv_iload_n hx hb dX6_stand_19 rfl (lv_at hl 3 rfl) ?_
          refine lv_iload_n hx hb dX6_stand_20 rfl (lv_at hl 1 rfl) ?_
          refine rCallI (C := RX6) (As := [.int (nI i), .int (nI k)]) (rest := [.int (nI (cntA (fun a => !decide (a = k) && stBm (σ 44) (σ 45) (σ 31 24) e9 n a k) i))]) ⟨hx, hb, hml, hown, hts⟩ fx hw (kX6_stands l G hG hF σ i k (by omega) (by omega) n hmn (by omega) e9 hme (by omega)) (cwV 2 hts gX6_stand_X6_stands rfl rfl rfl (by decide +kernel) ⟨Nat.le_of_ble_eq_true rfl, Nat.le_of_ble_eq_true rfl⟩) (hF.1 31 (by decide)) rfl rfl rfl rfl hl.1 rfl (Nat.le_of_ble_eq_true rfl) dX6_stand_21 ⟨Nat.zero_le _, Nat.zero_le _⟩ ?_
          intro r_5 σ_6 H locs p_4 hw
          obtain ⟨er_5, eσ_6⟩ := p_4
          have er_5 := er_5.symm; subst er_5
          have eσ_6 := eσ_6.symm; subst eσ_6
          refine lv_b_eq (tgt := 31) hx hb dX6_stand_24 (by decide) (fun c_7 => ?_) (fun c_7 => ?_)
          · skip
            refine lv_iconst (v := 0) hx hb dX6_stand_31 (by decide) ?_
            refine lv_rep0 (x := 0) (y := nI 0) rfl ?_
            refine lv_iadd hx hb dX6_stand_32 ?_
            refine lv_rep0 (x := ((nI (cntA (fun a => !decide (a = k) && stBm (σ 44) (σ 45) (σ 31 24) e9 n a k) i)) + (nI 0))) (y := nI ((cntA (fun a => !decide (a = k) && stBm (σ 44) (σ 45) (σ 31 24) e9 n a k) i) + 0)) (nI_add _ _) ?_
            refine lv_istore_n (lv' := [(2, .int (nI ((cntA (fun a => !decide (a = k) && stBm (σ 44) (σ 45) (σ 31 24) e9 n a k) i) + 0))), (0, .ref (gad G 31)), (1, .int (nI k)), (3, .int (nI i))]) hx hb dX6_stand_33 rfl hl (by decide) rfl (fun ls hl => ?_)
            refine lv_iinc (v := (nI (i + 1))) (lv' := [(3, .int (nI (i + 1))), (2, .int (nI ((cntA (fun a => !decide (a = k) && stBm (σ 44) (σ 45) (σ 31 24) e9 n a k) i) + 0))), (0, .ref (gad G 31)), (1, .int (nI k))]) hx hb dX6_stand_34 hl (k := 3) rfl (nI_1 _) (by decide) rfl (fun ls hl => ?_)
            refine lv_goto (tgt := 4) hx hb dX6_stand_37 (by decide) ?_
            have q_8 : (nI ((cntA (fun a => !decide (a = k) && stBm (σ 44) (σ 45) (σ 31 24) e9 n a k) i) + 0)) = (nI (cntA (fun a => !decide (a = k) && stBm (σ 44) (σ 45) (σ 31 24) e9 n a k) (i + 1))) := by first | rfl | (simp [cntA, c_1, c_2, c_7])
            exact ih4 (i + 1) (by omega) (by omega) _ _ _ hw (lv_c (lv_at hl 2 rfl) (lv_c (lv_at hl 3 rfl) (lv_c (lv_atq hl 1 rfl q_8) (lv_c (lv_at hl 0 rfl) (lv_c0 hl)))))
          · skip
            refine lv_iconst (v := 1) hx hb dX6_stand_27 (by decide) ?_
            refine lv_goto (tgt := 32) hx hb dX6_stand_28 (by decide) ?_
            refine lv_rep0 (x := 1) (y := nI 1) rfl ?_
            refine lv_iadd hx hb dX6_stand_32 ?_
            refine lv_rep0 (x := ((nI (cntA (fun a => !decide (a = k) && stBm (σ 44) (σ 45) (σ 31 24) e9 n a k) i)) + (nI 1))) (y := nI ((cntA (fun a => !decide (a = k) && stBm (σ 44) (σ 45) (σ 31 24) e9 n a k) i) + 1)) (nI_add _ _) ?_
            refine lv_istore_n (lv' := [(2, .int (nI ((cntA (fun a => !decide (a = k) && stBm (σ 44) (σ 45) (σ 31 24) e9 n a k) i) + 1))), (0, .ref (gad G 31)), (1, .int (nI k)), (3, .int (nI i))]) hx hb dX6_stand_33 rfl hl (by decide) rfl (fun ls hl => ?_)
            refine lv_iinc (v := (nI (i + 1))) (lv' := [(3, .int (nI (i + 1))), (2, .int (nI ((cntA (fun a => !decide (a = k) && stBm (σ 44) (σ 45) (σ 31 24) e9 n a k) i) + 1))), (0, .ref (gad G 31)), (1, .int (nI k))]) hx hb dX6_stand_34 hl (k := 3) rfl (nI_1 _) (by decide) rfl (fun ls hl => ?_)
            refine lv_goto (tgt := 4) hx hb dX6_stand_37 (by decide) ?_
            have q_9 : (nI ((cntA (fun a => !decide (a = k) && stBm (σ 44) (σ 45) (σ 31 24) e9 n a k) i) + 1)) = (nI (cntA (fun a => !decide (a = k) && stBm (σ 44) (σ 45) (σ 31 24) e9 n a k) (i + 1))) := by first | rfl | (simp [cntA, c_1, c_2, c_7])
            exact ih4 (i + 1) (by omega) (by omega) _ _ _ hw (lv_c (lv_at hl 2 rfl) (lv_c (lv_at hl 3 rfl) (lv_c (lv_atq hl 1 rfl q_9) (lv_c (lv_at hl 0 rfl) (lv_c0 hl)))))
  have q_10 : 0 = (nI (cntA (fun a => !decide (a = k) && stBm (σ 44) (σ 45) (σ 31 24) e9 n a k) 0)) := by first | rfl | (simp [cntA])
  have q_11 : 0 = (nI 0) := by first | rfl | (simp [cntA])
  exact lab_4 (n - 0 + 1) 0 (by omega) (by omega) _ _ _ hw (lv_c (lv_at hl 2 rfl) (lv_c (lv_at hl 3 rfl) (lv_c (lv_atq hl 1 rfl q_10) (lv_c (lv_atq hl 0 rfl q_11) (lv_c0 hl)))))
