def rmL_addGate : Room := ({ frames := 8, cells := 1, slots := 6, locals := 123 } : Room)
set_option maxHeartbeats 4000000 in
set_option maxRecDepth 100000 in
theorem kL_addGate (l : Launch) (hlt : l.stackTraces = false) (G : Gx) (hG : gOk G) (hF : Full G) (σ : St) (b9 : Bool) (g n e9 z : Nat) (b : Bool) (hIv9 : CIv σ g n b e9 z)  : Met l yL_addGate wsL_addGate rmL_addGate (va_Pc [.ref (gad G 0), .int (bI b9), .ref (gad G 46)] (PreU G σ)) (va_Qi (fun r9 σ9 => (∃ (v9 : Int32) (τ9 : St), (fun r σ' => r = nI g ∧ σ' = stGate σ b9 g ∧ (nev b e9 && decide (g < 12)) = true) v9 τ9 ∧ r9 = 0 ∧ σ9 = upA τ9 46 (upd (τ9 46) 0 v9)) ∨ ∃ E9 : String, (fun E => E = xISE ∧ (nev b e9 && decide (g < 12)) = false) E9 ∧ r9 = (1 : Int32) ∧ σ9 = σ) (BW G) (gA G)) 1 6 (gA G) := by
  refine bgL (cc := cL_addGate) (maxL := 4) (ret := some .int) (own := RL) (hh := [(0, 9, 12, 13)]) (by decide) rfl rfl hG (Nat.le_of_ble_eq_true rfl) rfl ?_
  intro p e s m args below meth c ls htab Bd hl
  obtain ⟨hx, hb, hr, hml, hts, hown, hlocks, fx, hw⟩ := Bd
  have hl : lv_has ls 4 [(0, .ref (gad G 0)), (1, .int (bI b9)), (2, .ref (gad G 46))] := hl
  refine lv_aload_n hx hb dL_addGate_0 rfl (lv_at hl 2 rfl) ?_
  refine lv_iconst (v := 0) hx hb dL_addGate_1 (by decide) ?_
  refine lv_aload_n hx hb dL_addGate_2 rfl (lv_at hl 0 rfl) ?_
  refine lv_iload_n hx hb dL_addGate_3 rfl (lv_at hl 1 rfl) ?_
  refine rCallXI (C := RX5) (As := [.int (bI b9)]) (rest := [.int 0, .ref (gad G 46)]) ⟨hx, hb, hml, hown, hts⟩ fx hw (kX5_addGate l hlt G hG hF σ b9 g n e9 z b hIv9) (cwV 1 hts gL_addGate_X5_addGate rfl rfl rfl (by decide +kernel) ⟨Nat.le_of_ble_eq_true rfl, Nat.le_of_ble_eq_true rfl⟩) (hF.1 0 (by decide)) rfl rfl rfl rfl hl.1 rfl (Nat.le_of_ble_eq_true rfl) dL_addGate_4 ⟨Nat.le_of_ble_eq_true rfl, Nat.le_of_ble_eq_true rfl⟩ (fun E ce q9 H locs hE hw h1 h2 h3 => ?_) ?_
  · skip
    have hE9 : E = xISE := hE.1
    rcases hE9 with rfl
    · skip
      refine vx_catch (own := RL) (name := "java/lang/IllegalStateException") hown (tableOf []) ⟨0, 9, 12, 13⟩ (tableOf []) htab (fun z hz => absurd hz List.not_mem_nil) rfl (by decide) (hts (.classLink RL 13 "java/lang/IllegalStateException") (by decide +kernel)) (hCast fx hF (by decide)) h1 h2 h3 ?_
      refine lv_astore_n (lv' := (3, .ref q9) :: [(0, .ref (gad G 0)), (1, .int (bI b9)), (2, .ref (gad G 46))]) hx hb dL_addGate_12 rfl hl (by decide) rfl (fun ls hl => ?_)
      refine lv_iconst (v := 1) hx hb dL_addGate_13 (by decide) ?_
      exact rRetL hx hb hr hw (Or.inr ⟨_, hE, rfl, rfl⟩) hlocks dL_addGate_14 (Nat.le_refl _) (Nat.le_refl _)
  intro r9 τ9 H locs hp9 hw
  refine lv_i2l hx hb dL_addGate_7 rfl ?_
  refine rLst (x := r9) hx hb fx hw (hF.1 46 (by decide)) hF.2.2.2.1 dL_addGate_8 (fun H locs hw => ?_)
  obtain ⟨σ_1, eσ_1⟩ : ∃ w9, w9 = upA τ9 46 (upd (τ9 46) 0 r9) := ⟨_, rfl⟩
  rw [← eσ_1] at hw
  refine lv_goto (tgt := 15) hx hb dL_addGate_9 (by decide) ?_
  refine lv_iconst (v := 0) hx hb dL_addGate_15 (by decide) ?_
  subst eσ_1
  exact rRetL hx hb hr hw (Or.inl ⟨_, _, hp9, rfl, rfl⟩) hlocks dL_addGate_16 (Nat.zero_le _) (Nat.zero_le _)

def rmL_addWay : Room := ({ frames := 8, cells := 1, slots := 6, locals := 136 } : Room)
set_option maxHeartbeats 4000000 in
set_option maxRecDepth 100000 in
theorem kL_addWay (l : Launch) (hlt : l.stackTraces = false) (G : Gx) (hG : gOk G) (hF : Full G) (σ : St) (x y w : Int32) (g n e9 z : Nat) (b : Bool) (hIv9 : CIv σ g n b e9 z)  : Met l yL_addWay wsL_addWay rmL_addWay (va_Pc [.ref (gad G 0), .int x, .int y, .int w, .ref (gad G 46)] (PreU G σ)) (va_Qi (fun r9 σ9 => (∃ (v9 : Int32) (τ9 : St), (fun r σ' => r = (if σ 2 (ix x * 12 + ix y) = 0 then -1 else σ 2 (ix x * 12 + ix y)) ∧ σ' = wySt σ g (ix x) (ix y) w ∧ (inB x g && inB y g) = true ∧ rgtB x y w = true ∧ nev b e9 = true) v9 τ9 ∧ r9 = 0 ∧ σ9 = upA τ9 46 (upd (τ9 46) 0 v9)) ∨ ∃ E9 : String, (fun E => (E = xIOB ∧ (inB x g && inB y g) = false) ∨ (E = xIAE ∧ (inB x g && inB y g) = true ∧ rgtB x y w = false) ∨ (E = xISE ∧ (inB x g && inB y g) = true ∧ rgtB x y w = true ∧ nev b e9 = false)) E9 ∧ r9 = ((if E9 = xIOB then 1 else (if E9 = xIAE then 2 else 3)) : Int32) ∧ σ9 = σ) (BW G) (gA G)) 1 6 (gA G) := by
  refine bgL (cc := cL_addWay) (maxL := 6) (ret := some .int) (own := RL) (hh := [(0, 12, 15, 19), (0, 12, 19, 21), (0, 12, 23, 13)]) (by decide) rfl rfl hG (Nat.le_of_ble_eq_true rfl) rfl ?_
  intro p e s m args below meth c ls htab Bd hl
  obtain ⟨hx, hb, hr, hml, hts, hown, hlocks, fx, hw⟩ := Bd
  have hl : lv_has ls 6 [(0, .ref (gad G 0)), (1, .int x), (2, .int y), (3, .int w), (4, .ref (gad G 46))] := hl
  refine lv_aload hx hb dL_addWay_0 (lv_at hl 4 rfl) ?_
  refine lv_iconst (v := 0) hx hb dL_addWay_2 (by decide) ?_
  refine lv_aload_n hx hb dL_addWay_3 rfl (lv_at hl 0 rfl) ?_
  refine lv_iload_n hx hb dL_addWay_4 rfl (lv_at hl 1 rfl) ?_
  refine lv_iload_n hx hb dL_addWay_5 rfl (lv_at hl 2 rfl) ?_
  refine lv_iload_n hx hb dL_addWay_6 rfl (lv_at hl 3 rfl) ?_
  refine rCallXI (C := RX5) (As := [.int x, .int y, .int w]) (rest := [.int 0, .ref (gad G 46)]) ⟨hx, hb, hml, hown, hts⟩ fx hw (kX5_addWay l hlt G hG hF σ x y w g n e9 z b hIv9) (cwV 3 hts gL_addWay_X5_addWay rfl rfl rfl (by decide +kernel) ⟨Nat.le_of_ble_eq_true rfl, Nat.le_of_ble_eq_true rfl⟩) (hF.1 0 (by decide)) rfl rfl rfl rfl hl.1 rfl (Nat.le_of_ble_eq_true rfl) dL_addWay_7 ⟨Nat.le_of_ble_eq_true rfl, Nat.le_of_ble_eq_true rfl⟩ (fun E ce q9 H locs hE hw h1 h2 h3 => ?_) ?_
  · skip
    have hE9 : E = xIOB ∨ E = xIAE ∨ E = xISE := by rcases hE with h9 | h9 | h9 <;> first | exact Or.inl h9.1 | exact Or.inr (Or.inl h9.1) | exact Or.inr (Or.inr (h9.1))
    rcases hE9 with rfl | rfl | rfl
    · skip
      refine vx_catch (own := RL) (name := "java/lang/IndexOutOfBoundsException") hown (tableOf []) ⟨0, 12, 15, 19⟩ (tableOf [(0, 12, 19, 21), (0, 12, 23, 13)]) htab (fun z hz => absurd hz List.not_mem_nil) rfl (by decide) (hts (.classLink RL 19 "java/lang/IndexOutOfBoundsException") (by decide +kernel)) (hCast fx hF (by decide)) h1 h2 h3 ?_
      refine lv_astore (lv' := (5, .ref q9) :: [(0, .ref (gad G 0)), (1, .int x), (2, .int y), (3, .int w), (4, .ref (gad G 46))]) hx hb dL_addWay_15 hl (by decide) rfl (fun ls hl => ?_)
      refine lv_iconst (v := 1) hx hb dL_addWay_17 (by decide) ?_
      exact rRetL hx hb hr hw (Or.inr ⟨_, hE, rfl, rfl⟩) hlocks dL_addWay_18 (Nat.le_refl _) (Nat.le_refl _)
    · skip
      refine vx_catch (own := RL) (name := "java/lang/IllegalArgumentException") hown (tableOf [(0, 12, 15, 19)]) ⟨0, 12, 19, 21⟩ (tableOf [(0, 12, 23, 13)]) htab (fun z hz => by
        rcases List.mem_cons.mp hz with rfl | hz
        · exact Or.inr ⟨by decide, "java/lang/IndexOutOfBoundsException", hts (.classLink RL 19 "java/lang/IndexOutOfBoundsException") (by decide +kernel), hNot fx hF (by decide) (by decide) (by decide)⟩
        exact absurd hz List.not_mem_nil) rfl (by decide) (hts (.classLink RL 21 "java/lang/IllegalArgumentException") (by decide +kernel)) (hCast fx hF (by decide)) h1 h2 h3 ?_
      refine lv_astore (lv' := (5, .ref q9) :: [(0, .ref (gad G 0)), (1, .int x), (2, .int y), (3, .int w), (4, .ref (gad G 46))]) hx hb dL_addWay_19 hl (by decide) rfl (fun ls hl => ?_)
      refine lv_iconst (v := 2) hx hb dL_addWay_21 (by decide) ?_
      exact rRetL hx hb hr hw (Or.inr ⟨_, hE, rfl, rfl⟩) hlocks dL_addWay_22 (Nat.le_refl _) (Nat.le_refl _)
    · skip
      refine vx_catch (own := RL) (name := "java/lang/IllegalStateException") hown (tableOf [(0, 12, 15, 19), (0, 12, 19, 21)]) ⟨0, 12, 23, 13⟩ (tableOf []) htab (fun z hz => by
        rcases List.mem_cons.mp hz with rfl | hz
        · exact Or.inr ⟨by decide, "java/lang/IndexOutOfBoundsException", hts (.classLink RL 19 "java/lang/IndexOutOfBoundsException") (by decide +kernel), hNot fx hF (by decide) (by decide) (by decide)⟩
        rcases List.mem_cons.mp hz with rfl | hz
        · exact Or.inr ⟨by decide, "java/lang/IllegalArgumentException", hts (.classLink RL 21 "java/lang/IllegalArgumentException") (by decide +kernel), hNot fx hF (by decide) (by decide) (by decide)⟩
        exact absurd hz List.not_mem_nil) rfl (by decide) (hts (.classLink RL 13 "java/lang/IllegalStateException") (by decide +kernel)) (hCast fx hF (by decide)) h1 h2 h3 ?_
      refine lv_astore (lv' := (5, .ref q9) :: [(0, .ref (gad G 0)), (1, .int x), (2, .int y), (3, .int w), (4, .ref (gad G 46))]) hx hb dL_addWay_23 hl (by decide) rfl (fun ls hl => ?_)
      refine lv_iconst (v := 3) hx hb dL_addWay_25 (by decide) ?_
      exact rRetL hx hb hr hw (Or.inr ⟨_, hE, rfl, rfl⟩) hlocks dL_addWay_26 (Nat.le_refl _) (Nat.le_refl _)
  intro r9 τ9 H locs hp9 hw
  refine lv_i2l hx hb dL_addWay_10 rfl ?_
  refine rLst (x := r9) hx hb fx hw (hF.1 46 (by decide)) hF.2.2.2.1 dL_addWay_11 (fun H locs hw => ?_)
  obtain ⟨σ_1, eσ_1⟩ : ∃ w9, w9 = upA τ9 46 (upd (τ9 46) 0 r9) := ⟨_, rfl⟩
  rw [← eσ_1] at hw
  refine lv_goto (tgt := 27) hx hb dL_addWay_12 (by decide) ?_
  refine lv_iconst (v := 0) hx hb dL_addWay_27 (by decide) ?_
  subst eσ_1
  exact rRetL hx hb hr hw (Or.inl ⟨_, _, hp9, rfl, rfl⟩) hlocks dL_addWay_28 (Nat.zero_le _) (Nat.zero_le _)

def rmL_addKart : Room := ({ frames := 8, cells := 1, slots := 6, locals := 125 } : Room)
set_option maxHeartbeats 4000000 in
set_option maxRecDepth 100000 in
theorem kL_addKart (l : Launch) (hlt : l.stackTraces = false) (G : Gx) (hG : gOk G) (hF : Full G) (σ : St) (x : Int32) (g n e9 z : Nat) (b : Bool) (hIv9 : CIv σ g n b e9 z)  : Met l yL_addKart wsL_addKart rmL_addKart (va_Pc [.ref (gad G 0), .int x, .ref (gad G 46)] (PreU G σ)) (va_Qi (fun r9 σ9 => (∃ (v9 : Int32) (τ9 : St), (fun r σ' => r = nI n ∧ σ' = ktSt σ n x ∧ inB x 4 = true ∧ (nev b e9 && decide (n < 6)) = true) v9 τ9 ∧ r9 = 0 ∧ σ9 = upA τ9 46 (upd (τ9 46) 0 v9)) ∨ ∃ E9 : String, (fun E => (E = xIOB ∧ inB x 4 = false) ∨ (E = xISE ∧ inB x 4 = true ∧ (nev b e9 && decide (n < 6)) = false)) E9 ∧ r9 = ((if E9 = xIOB then 1 else 2) : Int32) ∧ σ9 = σ) (BW G) (gA G)) 1 6 (gA G) := by
  refine bgL (cc := cL_addKart) (maxL := 4) (ret := some .int) (own := RL) (hh := [(0, 9, 12, 19), (0, 9, 15, 13)]) (by decide) rfl rfl hG (Nat.le_of_ble_eq_true rfl) rfl ?_
  intro p e s m args below meth c ls htab Bd hl
  obtain ⟨hx, hb, hr, hml, hts, hown, hlocks, fx, hw⟩ := Bd
  have hl : lv_has ls 4 [(0, .ref (gad G 0)), (1, .int x), (2, .ref (gad G 46))] := hl
  refine lv_aload_n hx hb dL_addKart_0 rfl (lv_at hl 2 rfl) ?_
  refine lv_iconst (v := 0) hx hb dL_addKart_1 (by decide) ?_
  refine lv_aload_n hx hb dL_addKart_2 rfl (lv_at hl 0 rfl) ?_
  refine lv_iload_n hx hb dL_addKart_3 rfl (lv_at hl 1 rfl) ?_
  refine rCallXI (C := RX5) (As := [.int x]) (rest := [.int 0, .ref (gad G 46)]) ⟨hx, hb, hml, hown, hts⟩ fx hw (kX5_addKart l hlt G hG hF σ x g n e9 z b hIv9) (cwV 1 hts gL_addKart_X5_addKart rfl rfl rfl (by decide +kernel) ⟨Nat.le_of_ble_eq_true rfl, Nat.le_of_ble_eq_true rfl⟩) (hF.1 0 (by decide)) rfl rfl rfl rfl hl.1 rfl (Nat.le_of_ble_eq_true rfl) dL_addKart_4 ⟨Nat.le_of_ble_eq_true rfl, Nat.le_of_ble_eq_true rfl⟩ (fun E ce q9 H locs hE hw h1 h2 h3 => ?_) ?_
  · skip
    have hE9 : E = xIOB ∨ E = xISE := by rcases hE with h9 | h9 <;> first | exact Or.inl h9.1 | exact Or.inr (h9.1)
    rcases hE9 with rfl | rfl
    · skip
      refine vx_catch (own := RL) (name := "java/lang/IndexOutOfBoundsException") hown (tableOf []) ⟨0, 9, 12, 19⟩ (tableOf [(0, 9, 15, 13)]) htab (fun z hz => absurd hz List.not_mem_nil) rfl (by decide) (hts (.classLink RL 19 "java/lang/IndexOutOfBoundsException") (by decide +kernel)) (hCast fx hF (by decide)) h1 h2 h3 ?_
      refine lv_astore_n (lv' := (3, .ref q9) :: [(0, .ref (gad G 0)), (1, .int x), (2, .ref (gad G 46))]) hx hb dL_addKart_12 rfl hl (by decide) rfl (fun ls hl => ?_)
      refine lv_iconst (v := 1) hx hb dL_addKart_13 (by decide) ?_
      exact rRetL hx hb hr hw (Or.inr ⟨_, hE, rfl, rfl⟩) hlocks dL_addKart_14 (Nat.le_refl _) (Nat.le_refl _)
    · skip
      refine vx_catch (own := RL) (name := "java/lang/IllegalStateException") hown (tableOf [(0, 9, 12, 19)]) ⟨0, 9, 15, 13⟩ (tableOf []) htab (fun z hz => by
        rcases List.mem_cons.mp hz with rfl | hz
        · exact Or.inr ⟨by decide, "java/lang/IndexOutOfBoundsException", hts (.classLink RL 19 "java/lang/IndexOutOfBoundsException") (by decide +kernel), hNot fx hF (by decide) (by decide) (by decide)⟩
        exact absurd hz List.not_mem_nil) rfl (by decide) (hts (.classLink RL 13 "java/lang/IllegalStateException") (by decide +kernel)) (hCast fx hF (by decide)) h1 h2 h3 ?_
      refine lv_astore_n (lv' := (3, .ref q9) :: [(0, .ref (gad G 0)), (1, .int x), (2, .ref (gad G 46))]) hx hb dL_addKart_15 rfl hl (by decide) rfl (fun ls hl => ?_)
      refine lv_iconst (v := 2) hx hb dL_addKart_16 (by decide) ?_
      exact rRetL hx hb hr hw (Or.inr ⟨_, hE, rfl, rfl⟩) hlocks dL_addKart_17 (Nat.le_refl _) (Nat.le_refl _)
  intro r9 τ9 H locs hp9 hw
  refine lv_i2l hx hb dL_addKart_7 rfl ?_
  refine rLst (x := r9) hx hb fx hw (hF.1 46 (by decide)) hF.2.2.2.1 dL_addKart_8 (fun H locs hw => ?_)
  obtain ⟨σ_1, eσ_1⟩ : ∃ w9, w9 = upA τ9 46 (upd (τ9 46) 0 r9) := ⟨_, rfl⟩
  rw [← eσ_1] at hw
  refine lv_goto (tgt := 18) hx hb dL_addKart_9 (by decide) ?_
  refine lv_iconst (v := 0) hx hb dL_addKart_18 (by decide) ?_
  subst eσ_1
  exact rRetL hx hb hr hw (Or.inl ⟨_, _, hp9, rfl, rfl⟩) hlocks dL_addKart_19 (Nat.zero_le _) (Nat.zero_le _)

def rmL_rest : Room := ({ frames := 8, cells := 1, slots := 6, locals := 124 } : Room)
set_option maxHeartbeats 4000000 in
set_option maxRecDepth 100000 in
theorem kL_rest (l : Launch) (hlt : l.stackTraces = false) (G : Gx) (hG : gOk G) (hF : Full G) (σ : St) (x : Int32) (g n e9 z : Nat) (b : Bool) (hIv9 : CIv σ g n b e9 z)  : Met l yL_rest wsL_rest rmL_rest (va_Pc [.ref (gad G 0), .int x, .ref (gad G 46)] (PreU G σ)) (va_Qi (fun r9 σ9 => (∃ (v9 : Int32) (τ9 : St), (fun r σ' => r = σ 3 (ix x) ∧ σ' = σ ∧ inB x g = true) v9 τ9 ∧ r9 = 0 ∧ σ9 = upA τ9 46 (upd (τ9 46) 0 v9)) ∨ ∃ E9 : String, (fun E => E = xIOB ∧ inB x g = false) E9 ∧ r9 = (1 : Int32) ∧ σ9 = σ) (BW G) (gA G)) 1 6 (gA G) := by
  refine bgL (cc := cL_rest) (maxL := 4) (ret := some .int) (own := RL) (hh := [(0, 9, 12, 19)]) (by decide) rfl rfl hG (Nat.le_of_ble_eq_true rfl) rfl ?_
  intro p e s m args below meth c ls htab Bd hl
  obtain ⟨hx, hb, hr, hml, hts, hown, hlocks, fx, hw⟩ := Bd
  have hl : lv_has ls 4 [(0, .ref (gad G 0)), (1, .int x), (2, .ref (gad G 46))] := hl
  refine lv_aload_n hx hb dL_rest_0 rfl (lv_at hl 2 rfl) ?_
  refine lv_iconst (v := 0) hx hb dL_rest_1 (by decide) ?_
  refine lv_aload_n hx hb dL_rest_2 rfl (lv_at hl 0 rfl) ?_
  refine lv_iload_n hx hb dL_rest_3 rfl (lv_at hl 1 rfl) ?_
  refine rCallXI (C := RX5) (As := [.int x]) (rest := [.int 0, .ref (gad G 46)]) ⟨hx, hb, hml, hown, hts⟩ fx hw (kX5_rest l hlt G hG hF σ x g n e9 z b hIv9) (cwV 1 hts gL_rest_X5_rest rfl rfl rfl (by decide +kernel) ⟨Nat.le_of_ble_eq_true rfl, Nat.le_of_ble_eq_true rfl⟩) (hF.1 0 (by decide)) rfl rfl rfl rfl hl.1 rfl (Nat.le_of_ble_eq_true rfl) dL_rest_4 ⟨Nat.le_of_ble_eq_true rfl, Nat.le_of_ble_eq_true rfl⟩ (fun E ce q9 H locs hE hw h1 h2 h3 => ?_) ?_
  · skip
    have hE9 : E = xIOB := hE.1
    rcases hE9 with rfl
    · skip
      refine vx_catch (own := RL) (name := "java/lang/IndexOutOfBoundsException") hown (tableOf []) ⟨0, 9, 12, 19⟩ (tableOf []) htab (fun z hz => absurd hz List.not_mem_nil) rfl (by decide) (hts (.classLink RL 19 "java/lang/IndexOutOfBoundsException") (by decide +kernel)) (hCast fx hF (by decide)) h1 h2 h3 ?_
      refine lv_astore_n (lv' := (3, .ref q9) :: [(0, .ref (gad G 0)), (1, .int x), (2, .ref (gad G 46))]) hx hb dL_rest_12 rfl hl (by decide) rfl (fun ls hl => ?_)
      refine lv_iconst (v := 1) hx hb dL_rest_13 (by decide) ?_
      exact rRetL hx hb hr hw (Or.inr ⟨_, hE, rfl, rfl⟩) hlocks dL_rest_14 (Nat.le_refl _) (Nat.le_refl _)
  intro r9 τ9 H locs hp9 hw
  refine lv_i2l hx hb dL_rest_7 rfl ?_
  refine rLst (x := r9) hx hb fx hw (hF.1 46 (by decide)) hF.2.2.2.1 dL_rest_8 (fun H locs hw => ?_)
  obtain ⟨σ_1, eσ_1⟩ : ∃ w9, w9 = upA τ9 46 (upd (τ9 46) 0 r9) := ⟨_, rfl⟩
  rw [← eσ_1] at hw
  refine lv_goto (tgt := 15) hx hb dL_rest_9 (by decide) ?_
  refine lv_iconst (v := 0) hx hb dL_rest_15 (by decide) ?_
  subst eσ_1
  exact rRetL hx hb hr hw (Or.inl ⟨_, _, hp9, rfl, rfl⟩) hlocks dL_rest_16 (Nat.zero_le _) (Nat.zero_le _)

def rmL_start : Room := ({ frames := 7, cells := 1, slots := 6, locals := 108 } : Room)
set_option maxHeartbeats 4000000 in
set_option maxRecDepth 100000 in
theorem kL_start (l : Launch) (hlt : l.stackTraces = false) (G : Gx) (hG : gOk G) (hF : Full G) (σ : St) (x : Int32) (g n e9 z : Nat) (b : Bool) (hIv9 : CIv σ g n b e9 z)  : Met l yL_start wsL_start rmL_start (va_Pc [.ref (gad G 0), .int x, .ref (gad G 46)] (PreU G σ)) (va_Qi (fun r9 σ9 => (∃ (v9 : Int32) (τ9 : St), (fun r σ' => r = nI e9 ∧ σ' = srSt σ n x ∧ inR x 1 9 = true ∧ (!b && decide (e9 < 8) && decide (0 < n) && !deadB (σ 2) g) = true) v9 τ9 ∧ r9 = 0 ∧ σ9 = upA τ9 46 (upd (τ9 46) 0 v9)) ∨ ∃ E9 : String, (fun E => (E = xIAE ∧ inR x 1 9 = false) ∨ (E = xISE ∧ inR x 1 9 = true ∧ (!b && decide (e9 < 8) && decide (0 < n) && !deadB (σ 2) g) = false)) E9 ∧ r9 = ((if E9 = xIAE then 1 else 2) : Int32) ∧ σ9 = σ) (BW G) (gA G)) 1 6 (gA G) := by
  refine bgL (cc := cL_start) (maxL := 4) (ret := some .int) (own := RL) (hh := [(0, 9, 12, 21), (0, 9, 15, 13)]) (by decide) rfl rfl hG (Nat.le_of_ble_eq_true rfl) rfl ?_
  intro p e s m args below meth c ls htab Bd hl
  obtain ⟨hx, hb, hr, hml, hts, hown, hlocks, fx, hw⟩ := Bd
  have hl : lv_has ls 4 [(0, .ref (gad G 0)), (1, .int x), (2, .ref (gad G 46))] := hl
  refine lv_aload_n hx hb dL_start_0 rfl (lv_at hl 2 rfl) ?_
  refine lv_iconst (v := 0) hx hb dL_start_1 (by decide) ?_
  refine lv_aload_n hx hb dL_start_2 rfl (lv_at hl 0 rfl) ?_
  refine lv_iload_n hx hb dL_start_3 rfl (lv_at hl 1 rfl) ?_
  refine rCallXI (C := RX5) (As := [.int x]) (rest := [.int 0, .ref (gad G 46)]) ⟨hx, hb, hml, hown, hts⟩ fx hw (kX5_start l hlt G hG hF σ x g n e9 z b hIv9) (cwV 1 hts gL_start_X5_start rfl rfl rfl (by decide +kernel) ⟨Nat.le_of_ble_eq_true rfl, Nat.le_of_ble_eq_true rfl⟩) (hF.1 0 (by decide)) rfl rfl rfl rfl hl.1 rfl (Nat.le_of_ble_eq_true rfl) dL_start_4 ⟨Nat.le_of_ble_eq_true rfl, Nat.le_of_ble_eq_true rfl⟩ (fun E ce q9 H locs hE hw h1 h2 h3 => ?_) ?_
  · skip
    have hE9 : E = xIAE ∨ E = xISE := by rcases hE with h9 | h9 <;> first | exact Or.inl h9.1 | exact Or.inr (h9.1)
    rcases hE9 with rfl | rfl
    · skip
      refine vx_catch (own := RL) (name := "java/lang/IllegalArgumentException") hown (tableOf []) ⟨0, 9, 12, 21⟩ (tableOf [(0, 9, 15, 13)]) htab (fun z hz => absurd hz List.not_mem_nil) rfl (by decide) (hts (.classLink RL 21 "java/lang/IllegalArgumentException") (by decide +kernel)) (hCast fx hF (by decide)) h1 h2 h3 ?_
      refine lv_astore_n (lv' := (3, .ref q9) :: [(0, .ref (gad G 0)), (1, .int x), (2, .ref (gad G 46))]) hx hb dL_start_12 rfl hl (by decide) rfl (fun ls hl => ?_)
      refine lv_iconst (v := 1) hx hb dL_start_13 (by decide) ?_
      exact rRetL hx hb hr hw (Or.inr ⟨_, hE, rfl, rfl⟩) hlocks dL_start_14 (Nat.le_refl _) (Nat.le_refl _)
    · skip
      refine vx_catch (own := RL) (name := "java/lang/IllegalStateException") hown (tableOf [(0, 9, 12, 21)]) ⟨0, 9, 15, 13⟩ (tableOf []) htab (fun z hz => by
        rcases List.mem_cons.mp hz with rfl | hz
        · exact Or.inr ⟨by decide, "java/lang/IllegalArgumentException", hts (.classLink RL 21 "java/lang/IllegalArgumentException") (by decide +kernel), hNot fx hF (by decide) (by decide) (by decide)⟩
        exact absurd hz List.not_mem_nil) rfl (by decide) (hts (.classLink RL 13 "java/lang/IllegalStateException") (by decide +kernel)) (hCast fx hF (by decide)) h1 h2 h3 ?_
      refine lv_astore_n (lv' := (3, .ref q9) :: [(0, .ref (gad G 0)), (1, .int x), (2, .ref (gad G 46))]) hx hb dL_start_15 rfl hl (by decide) rfl (fun ls hl => ?_)
      refine lv_iconst (v := 2) hx hb dL_start_16 (by decide) ?_
      exact rRetL hx hb hr hw (Or.inr ⟨_, hE, rfl, rfl⟩) hlocks dL_start_17 (Nat.le_refl _) (Nat.le_refl _)
  intro r9 τ9 H locs hp9 hw
  refine lv_i2l hx hb dL_start_7 rfl ?_
  refine rLst (x := r9) hx hb fx hw (hF.1 46 (by decide)) hF.2.2.2.1 dL_start_8 (fun H locs hw => ?_)
  obtain ⟨σ_1, eσ_1⟩ : ∃ w9, w9 = upA τ9 46 (upd (τ9 46) 0 r9) := ⟨_, rfl⟩
  rw [← eσ_1] at hw
  refine lv_goto (tgt := 18) hx hb dL_start_9 (by decide) ?_
  refine lv_iconst (v := 0) hx hb dL_start_18 (by decide) ?_
  subst eσ_1
  exact rRetL hx hb hr hw (Or.inl ⟨_, _, hp9, rfl, rfl⟩) hlocks dL_start_19 (Nat.zero_le _) (Nat.zero_le _)

def rmL_pass : Room := ({ frames := 9, cells := 1, slots := 6, locals := 145 } : Room)
set_option maxHeartbeats 4000000 in
set_option maxRecDepth 100000 in
theorem kL_pass (l : Launch) (hlt : l.stackTraces = false) (G : Gx) (hG : gOk G) (hF : Full G) (σ : St) (x y : Int32) (g n e9 z : Nat) (b : Bool) (hIv9 : CIv σ g n b e9 z)  : Met l yL_pass wsL_pass rmL_pass (va_Pc [.ref (gad G 0), .int x, .int y, .ref (gad G 46)] (PreU G σ)) (va_Qi (fun r9 σ9 => (∃ (v9 : Int32) (τ9 : St), (fun r σ' => r = mvR (noSt σ z (ix x) (ix y)) 4 (ix x) (ix y) ∧ σ' = mvS (noSt σ z (ix x) (ix y)) 4 (ix x) (ix y) ∧ (inB x n && inB y g) = true ∧ canP σ b z (ix x) (ix y) = true) v9 τ9 ∧ r9 = 0 ∧ σ9 = upA τ9 46 (upd (τ9 46) 0 v9)) ∨ ∃ E9 : String, (fun E => (E = xIOB ∧ (inB x n && inB y g) = false) ∨ (E = xISE ∧ (inB x n && inB y g) = true ∧ canP σ b z (ix x) (ix y) = false)) E9 ∧ r9 = ((if E9 = xIOB then 1 else 2) : Int32) ∧ σ9 = σ) (BW G) (gA G)) 1 6 (gA G) := by
  refine bgL (cc := cL_pass) (maxL := 5) (ret := some .int) (own := RL) (hh := [(0, 10, 13, 19), (0, 10, 17, 13)]) (by decide) rfl rfl hG (Nat.le_of_ble_eq_true rfl) rfl ?_
  intro p e s m args below meth c ls htab Bd hl
  obtain ⟨hx, hb, hr, hml, hts, hown, hlocks, fx, hw⟩ := Bd
  have hl : lv_has ls 5 [(0, .ref (gad G 0)), (1, .int x), (2, .int y), (3, .ref (gad G 46))] := hl
  refine lv_aload_n hx hb dL_pass_0 rfl (lv_at hl 3 rfl) ?_
  refine lv_iconst (v := 0) hx hb dL_pass_1 (by decide) ?_
  refine lv_aload_n hx hb dL_pass_2 rfl (lv_at hl 0 rfl) ?_
  refine lv_iload_n hx hb dL_pass_3 rfl (lv_at hl 1 rfl) ?_
  refine lv_iload_n hx hb dL_pass_4 rfl (lv_at hl 2 rfl) ?_
  refine rCallXI (C := RX5) (As := [.int x, .int y]) (rest := [.int 0, .ref (gad G 46)]) ⟨hx, hb, hml, hown, hts⟩ fx hw (kX5_pass l hlt G hG hF σ x y g n e9 z b hIv9) (cwV 2 hts gL_pass_X5_pass rfl rfl rfl (by decide +kernel) ⟨Nat.le_of_ble_eq_true rfl, Nat.le_of_ble_eq_true rfl⟩) (hF.1 0 (by decide)) rfl rfl rfl rfl hl.1 rfl (Nat.le_of_ble_eq_true rfl) dL_pass_5 ⟨Nat.le_of_ble_eq_true rfl, Nat.le_of_ble_eq_true rfl⟩ (fun E ce q9 H locs hE hw h1 h2 h3 => ?_) ?_
  · skip
    have hE9 : E = xIOB ∨ E = xISE := by rcases hE with h9 | h9 <;> first | exact Or.inl h9.1 | exact Or.inr (h9.1)
    rcases hE9 with rfl | rfl
    · skip
      refine vx_catch (own := RL) (name := "java/lang/IndexOutOfBoundsException") hown (tableOf []) ⟨0, 10, 13, 19⟩ (tableOf [(0, 10, 17, 13)]) htab (fun z hz => absurd hz List.not_mem_nil) rfl (by decide) (hts (.classLink RL 19 "java/lang/IndexOutOfBoundsException") (by decide +kernel)) (hCast fx hF (by decide)) h1 h2 h3 ?_
      refine lv_astore (lv' := (4, .ref q9) :: [(0, .ref (gad G 0)), (1, .int x), (2, .int y), (3, .ref (gad G 46))]) hx hb dL_pass_13 hl (by decide) rfl (fun ls hl => ?_)
      refine lv_iconst (v := 1) hx hb dL_pass_15 (by decide) ?_
      exact rRetL hx hb hr hw (Or.inr ⟨_, hE, rfl, rfl⟩) hlocks dL_pass_16 (Nat.le_refl _) (Nat.le_refl _)
    · skip
      refine vx_catch (own := RL) (name := "java/lang/IllegalStateException") hown (tableOf [(0, 10, 13, 19)]) ⟨0, 10, 17, 13⟩ (tableOf []) htab (fun z hz => by
        rcases List.mem_cons.mp hz with rfl | hz
        · exact Or.inr ⟨by decide, "java/lang/IndexOutOfBoundsException", hts (.classLink RL 19 "java/lang/IndexOutOfBoundsException") (by decide +kernel), hNot fx hF (by decide) (by decide) (by decide)⟩
        exact absurd hz List.not_mem_nil) rfl (by decide) (hts (.classLink RL 13 "java/lang/IllegalStateException") (by decide +kernel)) (hCast fx hF (by decide)) h1 h2 h3 ?_
      refine lv_astore (lv' := (4, .ref q9) :: [(0, .ref (gad G 0)), (1, .int x), (2, .int y), (3, .ref (gad G 46))]) hx hb dL_pass_17 hl (by decide) rfl (fun ls hl => ?_)
      refine lv_iconst (v := 2) hx hb dL_pass_19 (by decide) ?_
      exact rRetL hx hb hr hw (Or.inr ⟨_, hE, rfl, rfl⟩) hlocks dL_pass_20 (Nat.le_refl _) (Nat.le_refl _)
  intro r9 τ9 H locs hp9 hw
  refine lv_i2l hx hb dL_pass_8 rfl ?_
  refine rLst (x := r9) hx hb fx hw (hF.1 46 (by decide)) hF.2.2.2.1 dL_pass_9 (fun H locs hw => ?_)
  obtain ⟨σ_1, eσ_1⟩ : ∃ w9, w9 = upA τ9 46 (upd (τ9 46) 0 r9) := ⟨_, rfl⟩
  rw [← eσ_1] at hw
  refine lv_goto (tgt := 21) hx hb dL_pass_10 (by decide) ?_
  refine lv_iconst (v := 0) hx hb dL_pass_21 (by decide) ?_
  subst eσ_1
  exact rRetL hx hb hr hw (Or.inl ⟨_, _, hp9, rfl, rfl⟩) hlocks dL_pass_22 (Nat.zero_le _) (Nat.zero_le _)

def rmL_idle : Room := ({ frames := 7, cells := 1, slots := 6, locals := 103 } : Room)
set_option maxHeartbeats 4000000 in
set_option maxRecDepth 100000 in
theorem kL_idle (l : Launch) (hlt : l.stackTraces = false) (G : Gx) (hG : gOk G) (hF : Full G) (σ : St) (x : Int32) (g n e9 z : Nat) (b : Bool) (hIv9 : CIv σ g n b e9 z)  : Met l yL_idle wsL_idle rmL_idle (va_Pc [.ref (gad G 0), .int x, .ref (gad G 46)] (PreU G σ)) (va_Qi (fun r9 σ9 => (∃ (v9 : Int32) (τ9 : St), (fun r σ' => r = σ 0 9 + x ∧ σ' = upA σ 0 (upd (σ 0) 9 (σ 0 9 + x)) ∧ inR x 1 100 = true) v9 τ9 ∧ r9 = 0 ∧ σ9 = upA τ9 46 (upd (τ9 46) 0 v9)) ∨ ∃ E9 : String, (fun E => E = xIAE ∧ inR x 1 100 = false) E9 ∧ r9 = (1 : Int32) ∧ σ9 = σ) (BW G) (gA G)) 1 6 (gA G) := by
  refine bgL (cc := cL_idle) (maxL := 4) (ret := some .int) (own := RL) (hh := [(0, 9, 12, 21)]) (by decide) rfl rfl hG (Nat.le_of_ble_eq_true rfl) rfl ?_
  intro p e s m args below meth c ls htab Bd hl
  obtain ⟨hx, hb, hr, hml, hts, hown, hlocks, fx, hw⟩ := Bd
  have hl : lv_has ls 4 [(0, .ref (gad G 0)), (1, .int x), (2, .ref (gad G 46))] := hl
  refine lv_aload_n hx hb dL_idle_0 rfl (lv_at hl 2 rfl) ?_
  refine lv_iconst (v := 0) hx hb dL_idle_1 (by decide) ?_
  refine lv_aload_n hx hb dL_idle_2 rfl (lv_at hl 0 rfl) ?_
  refine lv_iload_n hx hb dL_idle_3 rfl (lv_at hl 1 rfl) ?_
  refine rCallXI (C := RX5) (As := [.int x]) (rest := [.int 0, .ref (gad G 46)]) ⟨hx, hb, hml, hown, hts⟩ fx hw (kX5_idle l hlt G hG hF σ x g n e9 z b hIv9) (cwV 1 hts gL_idle_X5_idle rfl rfl rfl (by decide +kernel) ⟨Nat.le_of_ble_eq_true rfl, Nat.le_of_ble_eq_true rfl⟩) (hF.1 0 (by decide)) rfl rfl rfl rfl hl.1 rfl (Nat.le_of_ble_eq_true rfl) dL_idle_4 ⟨Nat.le_of_ble_eq_true rfl, Nat.le_of_ble_eq_true rfl⟩ (fun E ce q9 H locs hE hw h1 h2 h3 => ?_) ?_
  · skip
    have hE9 : E = xIAE := hE.1
    rcases hE9 with rfl
    · skip
      refine vx_catch (own := RL) (name := "java/lang/IllegalArgumentException") hown (tableOf []) ⟨0, 9, 12, 21⟩ (tableOf []) htab (fun z hz => absurd hz List.not_mem_nil) rfl (by decide) (hts (.classLink RL 21 "java/lang/IllegalArgumentException") (by decide +kernel)) (hCast fx hF (by decide)) h1 h2 h3 ?_
      refine lv_astore_n (lv' := (3, .ref q9) :: [(0, .ref (gad G 0)), (1, .int x), (2, .ref (gad G 46))]) hx hb dL_idle_12 rfl hl (by decide) rfl (fun ls hl => ?_)
      refine lv_iconst (v := 1) hx hb dL_idle_13 (by decide) ?_
      exact rRetL hx hb hr hw (Or.inr ⟨_, hE, rfl, rfl⟩) hlocks dL_idle_14 (Nat.le_refl _) (Nat.le_refl _)
  intro r9 τ9 H locs hp9 hw
  refine lv_i2l hx hb dL_idle_7 rfl ?_
  refine rLst (x := r9) hx hb fx hw (hF.1 46 (by decide)) hF.2.2.2.1 dL_idle_8 (fun H locs hw => ?_)
  obtain ⟨σ_1, eσ_1⟩ : ∃ w9, w9 = upA τ9 46 (upd (τ9 46) 0 r9) := ⟨_, rfl⟩
  rw [← eσ_1] at hw
  refine lv_goto (tgt := 15) hx hb dL_idle_9 (by decide) ?_
  refine lv_iconst (v := 0) hx hb dL_idle_15 (by decide) ?_
  subst eσ_1
  exact rRetL hx hb hr hw (Or.inl ⟨_, _, hp9, rfl, rfl⟩) hlocks dL_idle_16 (Nat.zero_le _) (Nat.zero_le _)

def rmL_gateOf : Room := ({ frames := 8, cells := 1, slots := 6, locals := 124 } : Room)
set_option maxHeartbeats 4000000 in
set_option maxRecDepth 100000 in
theorem kL_gateOf (l : Launch) (hlt : l.stackTraces = false) (G : Gx) (hG : gOk G) (hF : Full G) (σ : St) (x : Int32) (g n e9 z : Nat) (b : Bool) (hIv9 : CIv σ g n b e9 z)  : Met l yL_gateOf wsL_gateOf rmL_gateOf (va_Pc [.ref (gad G 0), .int x, .ref (gad G 46)] (PreU G σ)) (va_Qi (fun r9 σ9 => (∃ (v9 : Int32) (τ9 : St), (fun r σ' => r = (σ (4 + 1) (ix x)) ∧ σ' = σ ∧ inB x n = true ∧ b = true) v9 τ9 ∧ r9 = 0 ∧ σ9 = upA τ9 46 (upd (τ9 46) 0 v9)) ∨ ∃ E9 : String, (fun E => (E = xIOB ∧ inB x n = false) ∨ (E = xISE ∧ inB x n = true ∧ b = false)) E9 ∧ r9 = ((if E9 = xIOB then 1 else 2) : Int32) ∧ σ9 = σ) (BW G) (gA G)) 1 6 (gA G) := by
  refine bgL (cc := cL_gateOf) (maxL := 4) (ret := some .int) (own := RL) (hh := [(0, 9, 12, 19), (0, 9, 15, 13)]) (by decide) rfl rfl hG (Nat.le_of_ble_eq_true rfl) rfl ?_
  intro p e s m args below meth c ls htab Bd hl
  obtain ⟨hx, hb, hr, hml, hts, hown, hlocks, fx, hw⟩ := Bd
  have hl : lv_has ls 4 [(0, .ref (gad G 0)), (1, .int x), (2, .ref (gad G 46))] := hl
  refine lv_aload_n hx hb dL_gateOf_0 rfl (lv_at hl 2 rfl) ?_
  refine lv_iconst (v := 0) hx hb dL_gateOf_1 (by decide) ?_
  refine lv_aload_n hx hb dL_gateOf_2 rfl (lv_at hl 0 rfl) ?_
  refine lv_iload_n hx hb dL_gateOf_3 rfl (lv_at hl 1 rfl) ?_
  refine rCallXI (C := RX5) (As := [.int x]) (rest := [.int 0, .ref (gad G 46)]) ⟨hx, hb, hml, hown, hts⟩ fx hw (kX5_gateOf l hlt G hG hF σ x g n e9 z b hIv9) (cwV 1 hts gL_gateOf_X5_gateOf rfl rfl rfl (by decide +kernel) ⟨Nat.le_of_ble_eq_true rfl, Nat.le_of_ble_eq_true rfl⟩) (hF.1 0 (by decide)) rfl rfl rfl rfl hl.1 rfl (Nat.le_of_ble_eq_true rfl) dL_gateOf_4 ⟨Nat.le_of_ble_eq_true rfl, Nat.le_of_ble_eq_true rfl⟩ (fun E ce q9 H locs hE hw h1 h2 h3 => ?_) ?_
  · skip
    have hE9 : E = xIOB ∨ E = xISE := by rcases hE with h9 | h9 <;> first | exact Or.inl h9.1 | exact Or.inr (h9.1)
    rcases hE9 with rfl | rfl
    · skip
      refine vx_catch (own := RL) (name := "java/lang/IndexOutOfBoundsException") hown (tableOf []) ⟨0, 9, 12, 19⟩ (tableOf [(0, 9, 15, 13)]) htab (fun z hz => absurd hz List.not_mem_nil) rfl (by decide) (hts (.classLink RL 19 "java/lang/IndexOutOfBoundsException") (by decide +kernel)) (hCast fx hF (by decide)) h1 h2 h3 ?_
      refine lv_astore_n (lv' := (3, .ref q9) :: [(0, .ref (gad G 0)), (1, .int x), (2, .ref (gad G 46))]) hx hb dL_gateOf_12 rfl hl (by decide) rfl (fun ls hl => ?_)
      refine lv_iconst (v := 1) hx hb dL_gateOf_13 (by decide) ?_
      exact rRetL hx hb hr hw (Or.inr ⟨_, hE, rfl, rfl⟩) hlocks dL_gateOf_14 (Nat.le_refl _) (Nat.le_refl _)
    · skip
      refine vx_catch (own := RL) (name := "java/lang/IllegalStateException") hown (tableOf [(0, 9, 12, 19)]) ⟨0, 9, 15, 13⟩ (tableOf []) htab (fun z hz => by
        rcases List.mem_cons.mp hz with rfl | hz
        · exact Or.inr ⟨by decide, "java/lang/IndexOutOfBoundsException", hts (.classLink RL 19 "java/lang/IndexOutOfBoundsException") (by decide +kernel), hNot fx hF (by decide) (by decide) (by decide)⟩
        exact absurd hz List.not_mem_nil) rfl (by decide) (hts (.classLink RL 13 "java/lang/IllegalStateException") (by decide +kernel)) (hCast fx hF (by decide)) h1 h2 h3 ?_
      refine lv_astore_n (lv' := (3, .ref q9) :: [(0, .ref (gad G 0)), (1, .int x), (2, .ref (gad G 46))]) hx hb dL_gateOf_15 rfl hl (by decide) rfl (fun ls hl => ?_)
      refine lv_iconst (v := 2) hx hb dL_gateOf_16 (by decide) ?_
      exact rRetL hx hb hr hw (Or.inr ⟨_, hE, rfl, rfl⟩) hlocks dL_gateOf_17 (Nat.le_refl _) (Nat.le_refl _)
  intro r9 τ9 H locs hp9 hw
  refine lv_i2l hx hb dL_gateOf_7 rfl ?_
  refine rLst (x := r9) hx hb fx hw (hF.1 46 (by decide)) hF.2.2.2.1 dL_gateOf_8 (fun H locs hw => ?_)
  obtain ⟨σ_1, eσ_1⟩ : ∃ w9, w9 = upA τ9 46 (upd (τ9 46) 0 r9) := ⟨_, rfl⟩
  rw [← eσ_1] at hw
  refine lv_goto (tgt := 18) hx hb dL_gateOf_9 (by decide) ?_
  refine lv_iconst (v := 0) hx hb dL_gateOf_18 (by decide) ?_
  subst eσ_1
  exact rRetL hx hb hr hw (Or.inl ⟨_, _, hp9, rfl, rfl⟩) hlocks dL_gateOf_19 (Nat.zero_le _) (Nat.zero_le _)

def rmL_lapsOf : Room := ({ frames := 8, cells := 1, slots := 6, locals := 124 } : Room)
set_option maxHeartbeats 4000000 in
set_option maxRecDepth 100000 in
theorem kL_lapsOf (l : Launch) (hlt : l.stackTraces = false) (G : Gx) (hG : gOk G) (hF : Full G) (σ : St) (x : Int32) (g n e9 z : Nat) (b : Bool) (hIv9 : CIv σ g n b e9 z)  : Met l yL_lapsOf wsL_lapsOf rmL_lapsOf (va_Pc [.ref (gad G 0), .int x, .ref (gad G 46)] (PreU G σ)) (va_Qi (fun r9 σ9 => (∃ (v9 : Int32) (τ9 : St), (fun r σ' => r = (netA σ 4 (ix x)) ∧ σ' = σ ∧ inB x n = true ∧ b = true) v9 τ9 ∧ r9 = 0 ∧ σ9 = upA τ9 46 (upd (τ9 46) 0 v9)) ∨ ∃ E9 : String, (fun E => (E = xIOB ∧ inB x n = false) ∨ (E = xISE ∧ inB x n = true ∧ b = false)) E9 ∧ r9 = ((if E9 = xIOB then 1 else 2) : Int32) ∧ σ9 = σ) (BW G) (gA G)) 1 6 (gA G) := by
  refine bgL (cc := cL_lapsOf) (maxL := 4) (ret := some .int) (own := RL) (hh := [(0, 9, 12, 19), (0, 9, 15, 13)]) (by decide) rfl rfl hG (Nat.le_of_ble_eq_true rfl) rfl ?_
  intro p e s m args below meth c ls htab Bd hl
  obtain ⟨hx, hb, hr, hml, hts, hown, hlocks, fx, hw⟩ := Bd
  have hl : lv_has ls 4 [(0, .ref (gad G 0)), (1, .int x), (2, .ref (gad G 46))] := hl
  refine lv_aload_n hx hb dL_lapsOf_0 rfl (lv_at hl 2 rfl) ?_
  refine lv_iconst (v := 0) hx hb dL_lapsOf_1 (by decide) ?_
  refine lv_aload_n hx hb dL_lapsOf_2 rfl (lv_at hl 0 rfl) ?_
  refine lv_iload_n hx hb dL_lapsOf_3 rfl (lv_at hl 1 rfl) ?_
  refine rCallXI (C := RX5) (As := [.int x]) (rest := [.int 0, .ref (gad G 46)]) ⟨hx, hb, hml, hown, hts⟩ fx hw (kX5_lapsOf l hlt G hG hF σ x g n e9 z b hIv9) (cwV 1 hts gL_lapsOf_X5_lapsOf rfl rfl rfl (by decide +kernel) ⟨Nat.le_of_ble_eq_true rfl, Nat.le_of_ble_eq_true rfl⟩) (hF.1 0 (by decide)) rfl rfl rfl rfl hl.1 rfl (Nat.le_of_ble_eq_true rfl) dL_lapsOf_4 ⟨Nat.le_of_ble_eq_true rfl, Nat.le_of_ble_eq_true rfl⟩ (fun E ce q9 H locs hE hw h1 h2 h3 => ?_) ?_
  · skip
    have hE9 : E = xIOB ∨ E = xISE := by rcases hE with h9 | h9 <;> first | exact Or.inl h9.1 | exact Or.inr (h9.1)
    rcases hE9 with rfl | rfl
    · skip
      refine vx_catch (own := RL) (name := "java/lang/IndexOutOfBoundsException") hown (tableOf []) ⟨0, 9, 12, 19⟩ (tableOf [(0, 9, 15, 13)]) htab (fun z hz => absurd hz List.not_mem_nil) rfl (by decide) (hts (.classLink RL 19 "java/lang/IndexOutOfBoundsException") (by decide +kernel)) (hCast fx hF (by decide)) h1 h2 h3 ?_
      refine lv_astore_n (lv' := (3, .ref q9) :: [(0, .ref (gad G 0)), (1, .int x), (2, .ref (gad G 46))]) hx hb dL_lapsOf_12 rfl hl (by decide) rfl (fun ls hl => ?_)
      refine lv_iconst (v := 1) hx hb dL_lapsOf_13 (by decide) ?_
      exact rRetL hx hb hr hw (Or.inr ⟨_, hE, rfl, rfl⟩) hlocks dL_lapsOf_14 (Nat.le_refl _) (Nat.le_refl _)
    · skip
      refine vx_catch (own := RL) (name := "java/lang/IllegalStateException") hown (tableOf [(0, 9, 12, 19)]) ⟨0, 9, 15, 13⟩ (tableOf []) htab (fun z hz => by
        rcases List.mem_cons.mp hz with rfl | hz
        · exact Or.inr ⟨by decide, "java/lang/IndexOutOfBoundsException", hts (.classLink RL 19 "java/lang/IndexOutOfBoundsException") (by decide +kernel), hNot fx hF (by decide) (by decide) (by decide)⟩
        exact absurd hz List.not_mem_nil) rfl (by decide) (hts (.classLink RL 13 "java/lang/IllegalStateException") (by decide +kernel)) (hCast fx hF (by decide)) h1 h2 h3 ?_
      refine lv_astore_n (lv' := (3, .ref q9) :: [(0, .ref (gad G 0)), (1, .int x), (2, .ref (gad G 46))]) hx hb dL_lapsOf_15 rfl hl (by decide) rfl (fun ls hl => ?_)
      refine lv_iconst (v := 2) hx hb dL_lapsOf_16 (by decide) ?_
      exact rRetL hx hb hr hw (Or.inr ⟨_, hE, rfl, rfl⟩) hlocks dL_lapsOf_17 (Nat.le_refl _) (Nat.le_refl _)
  intro r9 τ9 H locs hp9 hw
  refine lv_i2l hx hb dL_lapsOf_7 rfl ?_
  refine rLst (x := r9) hx hb fx hw (hF.1 46 (by decide)) hF.2.2.2.1 dL_lapsOf_8 (fun H locs hw => ?_)
  obtain ⟨σ_1, eσ_1⟩ : ∃ w9, w9 = upA τ9 46 (upd (τ9 46) 0 r9) := ⟨_, rfl⟩
  rw [← eσ_1] at hw
  refine lv_goto (tgt := 18) hx hb dL_lapsOf_9 (by decide) ?_
  refine lv_iconst (v := 0) hx hb dL_lapsOf_18 (by decide) ?_
  subst eσ_1
  exact rRetL hx hb hr hw (Or.inl ⟨_, _, hp9, rfl, rfl⟩) hlocks dL_lapsOf_19 (Nat.zero_le _) (Nat.zero_le _)

def rmL_missing : Room := ({ frames := 8, cells := 1, slots := 6, locals := 124 } : Room)
set_option maxHeartbeats 4000000 in
set_option maxRecDepth 100000 in
theorem kL_missing (l : Launch) (hlt : l.stackTraces = false) (G : Gx) (hG : gOk G) (hF : Full G) (σ : St) (x : Int32) (g n e9 z : Nat) (b : Bool) (hIv9 : CIv σ g n b e9 z)  : Met l yL_missing wsL_missing rmL_missing (va_Pc [.ref (gad G 0), .int x, .ref (gad G 46)] (PreU G σ)) (va_Qi (fun r9 σ9 => (∃ (v9 : Int32) (τ9 : St), (fun r σ' => r = (misA σ 4 (ix x)) ∧ σ' = σ ∧ inB x n = true ∧ b = true) v9 τ9 ∧ r9 = 0 ∧ σ9 = upA τ9 46 (upd (τ9 46) 0 v9)) ∨ ∃ E9 : String, (fun E => (E = xIOB ∧ inB x n = false) ∨ (E = xISE ∧ inB x n = true ∧ b = false)) E9 ∧ r9 = ((if E9 = xIOB then 1 else 2) : Int32) ∧ σ9 = σ) (BW G) (gA G)) 1 6 (gA G) := by
  refine bgL (cc := cL_missing) (maxL := 4) (ret := some .int) (own := RL) (hh := [(0, 9, 12, 19), (0, 9, 15, 13)]) (by decide) rfl rfl hG (Nat.le_of_ble_eq_true rfl) rfl ?_
  intro p e s m args below meth c ls htab Bd hl
  obtain ⟨hx, hb, hr, hml, hts, hown, hlocks, fx, hw⟩ := Bd
  have hl : lv_has ls 4 [(0, .ref (gad G 0)), (1, .int x), (2, .ref (gad G 46))] := hl
  refine lv_aload_n hx hb dL_missing_0 rfl (lv_at hl 2 rfl) ?_
  refine lv_iconst (v := 0) hx hb dL_missing_1 (by decide) ?_
  refine lv_aload_n hx hb dL_missing_2 rfl (lv_at hl 0 rfl) ?_
  refine lv_iload_n hx hb dL_missing_3 rfl (lv_at hl 1 rfl) ?_
  refine rCallXI (C := RX5) (As := [.int x]) (rest := [.int 0, .ref (gad G 46)]) ⟨hx, hb, hml, hown, hts⟩ fx hw (kX5_missing l hlt G hG hF σ x g n e9 z b hIv9) (cwV 1 hts gL_missing_X5_missing rfl rfl rfl (by decide +kernel) ⟨Nat.le_of_ble_eq_true rfl, Nat.le_of_ble_eq_true rfl⟩) (hF.1 0 (by decide)) rfl rfl rfl rfl hl.1 rfl (Nat.le_of_ble_eq_true rfl) dL_missing_4 ⟨Nat.le_of_ble_eq_true rfl, Nat.le_of_ble_eq_true rfl⟩ (fun E ce q9 H locs hE hw h1 h2 h3 => ?_) ?_
  · skip
    have hE9 : E = xIOB ∨ E = xISE := by rcases hE with h9 | h9 <;> first | exact Or.inl h9.1 | exact Or.inr (h9.1)
    rcases hE9 with rfl | rfl
    · skip
      refine vx_catch (own := RL) (name := "java/lang/IndexOutOfBoundsException") hown (tableOf []) ⟨0, 9, 12, 19⟩ (tableOf [(0, 9, 15, 13)]) htab (fun z hz => absurd hz List.not_mem_nil) rfl (by decide) (hts (.classLink RL 19 "java/lang/IndexOutOfBoundsException") (by decide +kernel)) (hCast fx hF (by decide)) h1 h2 h3 ?_
      refine lv_astore_n (lv' := (3, .ref q9) :: [(0, .ref (gad G 0)), (1, .int x), (2, .ref (gad G 46))]) hx hb dL_missing_12 rfl hl (by decide) rfl (fun ls hl => ?_)
      refine lv_iconst (v := 1) hx hb dL_missing_13 (by decide) ?_
      exact rRetL hx hb hr hw (Or.inr ⟨_, hE, rfl, rfl⟩) hlocks dL_missing_14 (Nat.le_refl _) (Nat.le_refl _)
    · skip
      refine vx_catch (own := RL) (name := "java/lang/IllegalStateException") hown (tableOf [(0, 9, 12, 19)]) ⟨0, 9, 15, 13⟩ (tableOf []) htab (fun z hz => by
        rcases List.mem_cons.mp hz with rfl | hz
        · exact Or.inr ⟨by decide, "java/lang/IndexOutOfBoundsException", hts (.classLink RL 19 "java/lang/IndexOutOfBoundsException") (by decide +kernel), hNot fx hF (by decide) (by decide) (by decide)⟩
        exact absurd hz List.not_mem_nil) rfl (by decide) (hts (.classLink RL 13 "java/lang/IllegalStateException") (by decide +kernel)) (hCast fx hF (by decide)) h1 h2 h3 ?_
      refine lv_astore_n (lv' := (3, .ref q9) :: [(0, .ref (gad G 0)), (1, .int x), (2, .ref (gad G 46))]) hx hb dL_missing_15 rfl hl (by decide) rfl (fun ls hl => ?_)
      refine lv_iconst (v := 2) hx hb dL_missing_16 (by decide) ?_
      exact rRetL hx hb hr hw (Or.inr ⟨_, hE, rfl, rfl⟩) hlocks dL_missing_17 (Nat.le_refl _) (Nat.le_refl _)
  intro r9 τ9 H locs hp9 hw
  refine lv_i2l hx hb dL_missing_7 rfl ?_
  refine rLst (x := r9) hx hb fx hw (hF.1 46 (by decide)) hF.2.2.2.1 dL_missing_8 (fun H locs hw => ?_)
  obtain ⟨σ_1, eσ_1⟩ : ∃ w9, w9 = upA τ9 46 (upd (τ9 46) 0 r9) := ⟨_, rfl⟩
  rw [← eσ_1] at hw
  refine lv_goto (tgt := 18) hx hb dL_missing_9 (by decide) ?_
  refine lv_iconst (v := 0) hx hb dL_missing_18 (by decide) ?_
  subst eσ_1
  exact rRetL hx hb hr hw (Or.inl ⟨_, _, hp9, rfl, rfl⟩) hlocks dL_missing_19 (Nat.zero_le _) (Nat.zero_le _)

def rmL_rank : Room := ({ frames := 8, cells := 1, slots := 6, locals := 124 } : Room)
set_option maxHeartbeats 4000000 in
set_option maxRecDepth 100000 in
theorem kL_rank (l : Launch) (hlt : l.stackTraces = false) (G : Gx) (hG : gOk G) (hF : Full G) (σ : St) (x : Int32) (g n e9 z : Nat) (b : Bool) (hIv9 : CIv σ g n b e9 z)  : Met l yL_rank wsL_rank rmL_rank (va_Pc [.ref (gad G 0), .int x, .ref (gad G 46)] (PreU G σ)) (va_Qi (fun r9 σ9 => (∃ (v9 : Int32) (τ9 : St), (fun r σ' => r = (nI (rkA σ n (ix x))) ∧ σ' = σ ∧ inB x n = true ∧ b = true) v9 τ9 ∧ r9 = 0 ∧ σ9 = upA τ9 46 (upd (τ9 46) 0 v9)) ∨ ∃ E9 : String, (fun E => (E = xIOB ∧ inB x n = false) ∨ (E = xISE ∧ inB x n = true ∧ b = false)) E9 ∧ r9 = ((if E9 = xIOB then 1 else 2) : Int32) ∧ σ9 = σ) (BW G) (gA G)) 1 6 (gA G) := by
  refine bgL (cc := cL_rank) (maxL := 4) (ret := some .int) (own := RL) (hh := [(0, 9, 12, 19), (0, 9, 15, 13)]) (by decide) rfl rfl hG (Nat.le_of_ble_eq_true rfl) rfl ?_
  intro p e s m args below meth c ls htab Bd hl
  obtain ⟨hx, hb, hr, hml, hts, hown, hlocks, fx, hw⟩ := Bd
  have hl : lv_has ls 4 [(0, .ref (gad G 0)), (1, .int x), (2, .ref (gad G 46))] := hl
  refine lv_aload_n hx hb dL_rank_0 rfl (lv_at hl 2 rfl) ?_
  refine lv_iconst (v := 0) hx hb dL_rank_1 (by decide) ?_
  refine lv_aload_n hx hb dL_rank_2 rfl (lv_at hl 0 rfl) ?_
  refine lv_iload_n hx hb dL_rank_3 rfl (lv_at hl 1 rfl) ?_
  refine rCallXI (C := RX5) (As := [.int x]) (rest := [.int 0, .ref (gad G 46)]) ⟨hx, hb, hml, hown, hts⟩ fx hw (kX5_rank l hlt G hG hF σ x g n e9 z b hIv9) (cwV 1 hts gL_rank_X5_rank rfl rfl rfl (by decide +kernel) ⟨Nat.le_of_ble_eq_true rfl, Nat.le_of_ble_eq_true rfl⟩) (hF.1 0 (by decide)) rfl rfl rfl rfl hl.1 rfl (Nat.le_of_ble_eq_true rfl) dL_rank_4 ⟨Nat.le_of_ble_eq_true rfl, Nat.le_of_ble_eq_true rfl⟩ (fun E ce q9 H locs hE hw h1 h2 h3 => ?_) ?_
  · skip
    have hE9 : E = xIOB ∨ E = xISE := by rcases hE with h9 | h9 <;> first | exact Or.inl h9.1 | exact Or.inr (h9.1)
    rcases hE9 with rfl | rfl
    · skip
      refine vx_catch (own := RL) (name := "java/lang/IndexOutOfBoundsException") hown (tableOf []) ⟨0, 9, 12, 19⟩ (tableOf [(0, 9, 15, 13)]) htab (fun z hz => absurd hz List.not_mem_nil) rfl (by decide) (hts (.classLink RL 19 "java/lang/IndexOutOfBoundsException") (by decide +kernel)) (hCast fx hF (by decide)) h1 h2 h3 ?_
      refine lv_astore_n (lv' := (3, .ref q9) :: [(0, .ref (gad G 0)), (1, .int x), (2, .ref (gad G 46))]) hx hb dL_rank_12 rfl hl (by decide) rfl (fun ls hl => ?_)
      refine lv_iconst (v := 1) hx hb dL_rank_13 (by decide) ?_
      exact rRetL hx hb hr hw (Or.inr ⟨_, hE, rfl, rfl⟩) hlocks dL_rank_14 (Nat.le_refl _) (Nat.le_refl _)
    · skip
      refine vx_catch (own := RL) (name := "java/lang/IllegalStateException") hown (tableOf [(0, 9, 12, 19)]) ⟨0, 9, 15, 13⟩ (tableOf []) htab (fun z hz => by
        rcases List.mem_cons.mp hz with rfl | hz
        · exact Or.inr ⟨by decide, "java/lang/IndexOutOfBoundsException", hts (.classLink RL 19 "java/lang/IndexOutOfBoundsException") (by decide +kernel), hNot fx hF (by decide) (by decide) (by decide)⟩
        exact absurd hz List.not_mem_nil) rfl (by decide) (hts (.classLink RL 13 "java/lang/IllegalStateException") (by decide +kernel)) (hCast fx hF (by decide)) h1 h2 h3 ?_
      refine lv_astore_n (lv' := (3, .ref q9) :: [(0, .ref (gad G 0)), (1, .int x), (2, .ref (gad G 46))]) hx hb dL_rank_15 rfl hl (by decide) rfl (fun ls hl => ?_)
      refine lv_iconst (v := 2) hx hb dL_rank_16 (by decide) ?_
      exact rRetL hx hb hr hw (Or.inr ⟨_, hE, rfl, rfl⟩) hlocks dL_rank_17 (Nat.le_refl _) (Nat.le_refl _)
  intro r9 τ9 H locs hp9 hw
  refine lv_i2l hx hb dL_rank_7 rfl ?_
  refine rLst (x := r9) hx hb fx hw (hF.1 46 (by decide)) hF.2.2.2.1 dL_rank_8 (fun H locs hw => ?_)
  obtain ⟨σ_1, eσ_1⟩ : ∃ w9, w9 = upA τ9 46 (upd (τ9 46) 0 r9) := ⟨_, rfl⟩
  rw [← eσ_1] at hw
  refine lv_goto (tgt := 18) hx hb dL_rank_9 (by decide) ?_
  refine lv_iconst (v := 0) hx hb dL_rank_18 (by decide) ?_
  subst eσ_1
  exact rRetL hx hb hr hw (Or.inl ⟨_, _, hp9, rfl, rfl⟩) hlocks dL_rank_19 (Nat.zero_le _) (Nat.zero_le _)

def rmL_rankByRecord : Room := ({ frames := 8, cells := 1, slots := 6, locals := 125 } : Room)
set_option maxHeartbeats 4000000 in
set_option maxRecDepth 100000 in
theorem kL_rankByRecord (l : Launch) (hlt : l.stackTraces = false) (G : Gx) (hG : gOk G) (hF : Full G) (σ : St) (x : Int32) (g n e9 z : Nat) (b : Bool) (hIv9 : CIv σ g n b e9 z)  : Met l yL_rankByRecord wsL_rankByRecord rmL_rankByRecord (va_Pc [.ref (gad G 0), .int x, .ref (gad G 46)] (PreU G σ)) (va_Qi (fun r9 σ9 => (∃ (v9 : Int32) (τ9 : St), (fun r σ' => r = rrA (ordA (ahB (rbS σ z) 12) (rbS σ z 18) n) (rbS σ z 19) n (ix x) ∧ σ' = (upA (upA (rbS σ z) 18 (ordA (ahB (rbS σ z) 12) (rbS σ z 18) n)) 19 (rrA (ordA (ahB (rbS σ z) 12) (rbS σ z 18) n) (rbS σ z 19) n)) ∧ inB x n = true ∧ b = true) v9 τ9 ∧ r9 = 0 ∧ σ9 = upA τ9 46 (upd (τ9 46) 0 v9)) ∨ ∃ E9 : String, (fun E => (E = xIOB ∧ inB x n = false) ∨ (E = xISE ∧ inB x n = true ∧ b = false)) E9 ∧ r9 = ((if E9 = xIOB then 1 else 2) : Int32) ∧ σ9 = σ) (BW G) (gA G)) 1 6 (gA G) := by
  refine bgL (cc := cL_rankByRecord) (maxL := 4) (ret := some .int) (own := RL) (hh := [(0, 9, 12, 19), (0, 9, 15, 13)]) (by decide) rfl rfl hG (Nat.le_of_ble_eq_true rfl) rfl ?_
  intro p e s m args below meth c ls htab Bd hl
  obtain ⟨hx, hb, hr, hml, hts, hown, hlocks, fx, hw⟩ := Bd
  have hl : lv_has ls 4 [(0, .ref (gad G 0)), (1, .int x), (2, .ref (gad G 46))] := hl
  refine lv_aload_n hx hb dL_rankByRecord_0 rfl (lv_at hl 2 rfl) ?_
  refine lv_iconst (v := 0) hx hb dL_rankByRecord_1 (by decide) ?_
  refine lv_aload_n hx hb dL_rankByRecord_2 rfl (lv_at hl 0 rfl) ?_
  refine lv_iload_n hx hb dL_rankByRecord_3 rfl (lv_at hl 1 rfl) ?_
  refine rCallXI (C := RX5) (As := [.int x]) (rest := [.int 0, .ref (gad G 46)]) ⟨hx, hb, hml, hown, hts⟩ fx hw (kX5_rankByRecord l hlt G hG hF σ x g n e9 z b hIv9) (cwV 1 hts gL_rankByRecord_X5_rankByRecord rfl rfl rfl (by decide +kernel) ⟨Nat.le_of_ble_eq_true rfl, Nat.le_of_ble_eq_true rfl⟩) (hF.1 0 (by decide)) rfl rfl rfl rfl hl.1 rfl (Nat.le_of_ble_eq_true rfl) dL_rankByRecord_4 ⟨Nat.le_of_ble_eq_true rfl, Nat.le_of_ble_eq_true rfl⟩ (fun E ce q9 H locs hE hw h1 h2 h3 => ?_) ?_
  · skip
    have hE9 : E = xIOB ∨ E = xISE := by rcases hE with h9 | h9 <;> first | exact Or.inl h9.1 | exact Or.inr (h9.1)
    rcases hE9 with rfl | rfl
    · skip
      refine vx_catch (own := RL) (name := "java/lang/IndexOutOfBoundsException") hown (tableOf []) ⟨0, 9, 12, 19⟩ (tableOf [(0, 9, 15, 13)]) htab (fun z hz => absurd hz List.not_mem_nil) rfl (by decide) (hts (.classLink RL 19 "java/lang/IndexOutOfBoundsException") (by decide +kernel)) (hCast fx hF (by decide)) h1 h2 h3 ?_
      refine lv_astore_n (lv' := (3, .ref q9) :: [(0, .ref (gad G 0)), (1, .int x), (2, .ref (gad G 46))]) hx hb dL_rankByRecord_12 rfl hl (by decide) rfl (fun ls hl => ?_)
      refine lv_iconst (v := 1) hx hb dL_rankByRecord_13 (by decide) ?_
      exact rRetL hx hb hr hw (Or.inr ⟨_, hE, rfl, rfl⟩) hlocks dL_rankByRecord_14 (Nat.le_refl _) (Nat.le_refl _)
    · skip
      refine vx_catch (own := RL) (name := "java/lang/IllegalStateException") hown (tableOf [(0, 9, 12, 19)]) ⟨0, 9, 15, 13⟩ (tableOf []) htab (fun z hz => by
        rcases List.mem_cons.mp hz with rfl | hz
        · exact Or.inr ⟨by decide, "java/lang/IndexOutOfBoundsException", hts (.classLink RL 19 "java/lang/IndexOutOfBoundsException") (by decide +kernel), hNot fx hF (by decide) (by decide) (by decide)⟩
        exact absurd hz List.not_mem_nil) rfl (by decide) (hts (.classLink RL 13 "java/lang/IllegalStateException") (by decide +kernel)) (hCast fx hF (by decide)) h1 h2 h3 ?_
      refine lv_astore_n (lv' := (3, .ref q9) :: [(0, .ref (gad G 0)), (1, .int x), (2, .ref (gad G 46))]) hx hb dL_rankByRecord_15 rfl hl (by decide) rfl (fun ls hl => ?_)
      refine lv_iconst (v := 2) hx hb dL_rankByRecord_16 (by decide) ?_
      exact rRetL hx hb hr hw (Or.inr ⟨_, hE, rfl, rfl⟩) hlocks dL_rankByRecord_17 (Nat.le_refl _) (Nat.le_refl _)
  intro r9 τ9 H locs hp9 hw
  refine lv_i2l hx hb dL_rankByRecord_7 rfl ?_
  refine rLst (x := r9) hx hb fx hw (hF.1 46 (by decide)) hF.2.2.2.1 dL_rankByRecord_8 (fun H locs hw => ?_)
  obtain ⟨σ_1, eσ_1⟩ : ∃ w9, w9 = upA τ9 46 (upd (τ9 46) 0 r9) := ⟨_, rfl⟩
  rw [← eσ_1] at hw
  refine lv_goto (tgt := 18) hx hb dL_rankByRecord_9 (by decide) ?_
  refine lv_iconst (v := 0) hx hb dL_rankByRecord_18 (by decide) ?_
  subst eσ_1
  exact rRetL hx hb hr hw (Or.inl ⟨_, _, hp9, rfl, rfl⟩) hlocks dL_rankByRecord_19 (Nat.zero_le _) (Nat.zero_le _)

def rmL_catchUp : Room := ({ frames := 8, cells := 1, slots := 6, locals := 124 } : Room)
set_option maxHeartbeats 4000000 in
set_option maxRecDepth 100000 in
theorem kL_catchUp (l : Launch) (hlt : l.stackTraces = false) (G : Gx) (hG : gOk G) (hF : Full G) (σ : St) (x : Int32) (g n e9 z : Nat) (b : Bool) (hIv9 : CIv σ g n b e9 z)  : Met l yL_catchUp wsL_catchUp rmL_catchUp (va_Pc [.ref (gad G 0), .int x, .ref (gad G 46)] (PreU G σ)) (va_Qi (fun r9 σ9 => (∃ (v9 : Int32) (τ9 : St), (fun r σ' => r = (if 25 < (if ldrA σ 4 n (ix x) n < 0 then 0 else ldrA σ 4 n (ix x) n) / 10 then 25 else (if ldrA σ 4 n (ix x) n < 0 then 0 else ldrA σ 4 n (ix x) n) / 10) ∧ σ' = σ ∧ inB x n = true ∧ b = true) v9 τ9 ∧ r9 = 0 ∧ σ9 = upA τ9 46 (upd (τ9 46) 0 v9)) ∨ ∃ E9 : String, (fun E => (E = xIOB ∧ inB x n = false) ∨ (E = xISE ∧ inB x n = true ∧ b = false)) E9 ∧ r9 = ((if E9 = xIOB then 1 else 2) : Int32) ∧ σ9 = σ) (BW G) (gA G)) 1 6 (gA G) := by
  refine bgL (cc := cL_catchUp) (maxL := 4) (ret := some .int) (own := RL) (hh := [(0, 9, 12, 19), (0, 9, 15, 13)]) (by decide) rfl rfl hG (Nat.le_of_ble_eq_true rfl) rfl ?_
  intro p e s m args below meth c ls htab Bd hl
  obtain ⟨hx, hb, hr, hml, hts, hown, hlocks, fx, hw⟩ := Bd
  have hl : lv_has ls 4 [(0, .ref (gad G 0)), (1, .int x), (2, .ref (gad G 46))] := hl
  refine lv_aload_n hx hb dL_catchUp_0 rfl (lv_at hl 2 rfl) ?_
  refine lv_iconst (v := 0) hx hb dL_catchUp_1 (by decide) ?_
  refine lv_aload_n hx hb dL_catchUp_2 rfl (lv_at hl 0 rfl) ?_
  refine lv_iload_n hx hb dL_catchUp_3 rfl (lv_at hl 1 rfl) ?_
  refine rCallXI (C := RX5) (As := [.int x]) (rest := [.int 0, .ref (gad G 46)]) ⟨hx, hb, hml, hown, hts⟩ fx hw (kX5_catchUp l hlt G hG hF σ x g n e9 z b hIv9) (cwV 1 hts gL_catchUp_X5_catchUp rfl rfl rfl (by decide +kernel) ⟨Nat.le_of_ble_eq_true rfl, Nat.le_of_ble_eq_true rfl⟩) (hF.1 0 (by decide)) rfl rfl rfl rfl hl.1 rfl (Nat.le_of_ble_eq_true rfl) dL_catchUp_4 ⟨Nat.le_of_ble_eq_true rfl, Nat.le_of_ble_eq_true rfl⟩ (fun E ce q9 H locs hE hw h1 h2 h3 => ?_) ?_
  · skip
    have hE9 : E = xIOB ∨ E = xISE := by rcases hE with h9 | h9 <;> first | exact Or.inl h9.1 | exact Or.inr (h9.1)
    rcases hE9 with rfl | rfl
    · skip
      refine vx_catch (own := RL) (name := "java/lang/IndexOutOfBoundsException") hown (tableOf []) ⟨0, 9, 12, 19⟩ (tableOf [(0, 9, 15, 13)]) htab (fun z hz => absurd hz List.not_mem_nil) rfl (by decide) (hts (.classLink RL 19 "java/lang/IndexOutOfBoundsException") (by decide +kernel)) (hCast fx hF (by decide)) h1 h2 h3 ?_
      refine lv_astore_n (lv' := (3, .ref q9) :: [(0, .ref (gad G 0)), (1, .int x), (2, .ref (gad G 46))]) hx hb dL_catchUp_12 rfl hl (by decide) rfl (fun ls hl => ?_)
      refine lv_iconst (v := 1) hx hb dL_catchUp_13 (by decide) ?_
      exact rRetL hx hb hr hw (Or.inr ⟨_, hE, rfl, rfl⟩) hlocks dL_catchUp_14 (Nat.le_refl _) (Nat.le_refl _)
    · skip
      refine vx_catch (own := RL) (name := "java/lang/IllegalStateException") hown (tableOf [(0, 9, 12, 19)]) ⟨0, 9, 15, 13⟩ (tableOf []) htab (fun z hz => by
        rcases List.mem_cons.mp hz with rfl | hz
        · exact Or.inr ⟨by decide, "java/lang/IndexOutOfBoundsException", hts (.classLink RL 19 "java/lang/IndexOutOfBoundsException") (by decide +kernel), hNot fx hF (by decide) (by decide) (by decide)⟩
        exact absurd hz List.not_mem_nil) rfl (by decide) (hts (.classLink RL 13 "java/lang/IllegalStateException") (by decide +kernel)) (hCast fx hF (by decide)) h1 h2 h3 ?_
      refine lv_astore_n (lv' := (3, .ref q9) :: [(0, .ref (gad G 0)), (1, .int x), (2, .ref (gad G 46))]) hx hb dL_catchUp_15 rfl hl (by decide) rfl (fun ls hl => ?_)
      refine lv_iconst (v := 2) hx hb dL_catchUp_16 (by decide) ?_
      exact rRetL hx hb hr hw (Or.inr ⟨_, hE, rfl, rfl⟩) hlocks dL_catchUp_17 (Nat.le_refl _) (Nat.le_refl _)
  intro r9 τ9 H locs hp9 hw
  refine lv_i2l hx hb dL_catchUp_7 rfl ?_
  refine rLst (x := r9) hx hb fx hw (hF.1 46 (by decide)) hF.2.2.2.1 dL_catchUp_8 (fun H locs hw => ?_)
  obtain ⟨σ_1, eσ_1⟩ : ∃ w9, w9 = upA τ9 46 (upd (τ9 46) 0 r9) := ⟨_, rfl⟩
  rw [← eσ_1] at hw
  refine lv_goto (tgt := 18) hx hb dL_catchUp_9 (by decide) ?_
  refine lv_iconst (v := 0) hx hb dL_catchUp_18 (by decide) ?_
  subst eσ_1
  exact rRetL hx hb hr hw (Or.inl ⟨_, _, hp9, rfl, rfl⟩) hlocks dL_catchUp_19 (Nat.zero_le _) (Nat.zero_le _)

def rmL_draw : Room := ({ frames := 9, cells := 1, slots := 6, locals := 144 } : Room)
set_option maxHeartbeats 4000000 in
set_option maxRecDepth 100000 in
theorem kL_draw (l : Launch) (hlt : l.stackTraces = false) (G : Gx) (hG : gOk G) (hF : Full G) (σ : St) (x : Int32) (g n e9 z : Nat) (b : Bool) (hIv9 : CIv σ g n b e9 z)  : Met l yL_draw wsL_draw rmL_draw (va_Pc [.ref (gad G 0), .int x, .ref (gad G 46)] (PreU G σ)) (va_Qi (fun r9 σ9 => (∃ (v9 : Int32) (τ9 : St), (fun r σ' => r = (itA (rkA σ n (ix x)) (dD (nxA (σ 23 3)))) ∧ σ' = (upA (upA σ 23 (upd (σ 23) 3 (nxA (σ 23 3)))) 24 (upd (σ 24) (ix x) (itA (rkA σ n (ix x)) (dD (nxA (σ 23 3)))))) ∧ inB x n = true ∧ (b && !finB σ 4 (ix x) && decide (σ 24 (ix x) = -1)) = true) v9 τ9 ∧ r9 = 0 ∧ σ9 = upA τ9 46 (upd (τ9 46) 0 v9)) ∨ ∃ E9 : String, (fun E => (E = xIOB ∧ inB x n = false) ∨ (E = xISE ∧ inB x n = true ∧ (b && !finB σ 4 (ix x) && decide (σ 24 (ix x) = -1)) = false)) E9 ∧ r9 = ((if E9 = xIOB then 1 else 2) : Int32) ∧ σ9 = σ) (BW G) (gA G)) 1 6 (gA G) := by
  refine bgL (cc := cL_draw) (maxL := 4) (ret := some .int) (own := RL) (hh := [(0, 9, 12, 19), (0, 9, 15, 13)]) (by decide) rfl rfl hG (Nat.le_of_ble_eq_true rfl) rfl ?_
  intro p e s m args below meth c ls htab Bd hl
  obtain ⟨hx, hb, hr, hml, hts, hown, hlocks, fx, hw⟩ := Bd
  have hl : lv_has ls 4 [(0, .ref (gad G 0)), (1, .int x), (2, .ref (gad G 46))] := hl
  refine lv_aload_n hx hb dL_draw_0 rfl (lv_at hl 2 rfl) ?_
  refine lv_iconst (v := 0) hx hb dL_draw_1 (by decide) ?_
  refine lv_aload_n hx hb dL_draw_2 rfl (lv_at hl 0 rfl) ?_
  refine lv_iload_n hx hb dL_draw_3 rfl (lv_at hl 1 rfl) ?_
  refine rCallXI (C := RX5) (As := [.int x]) (rest := [.int 0, .ref (gad G 46)]) ⟨hx, hb, hml, hown, hts⟩ fx hw (kX5_draw l hlt G hG hF σ x g n e9 z b hIv9) (cwV 1 hts gL_draw_X5_draw rfl rfl rfl (by decide +kernel) ⟨Nat.le_of_ble_eq_true rfl, Nat.le_of_ble_eq_true rfl⟩) (hF.1 0 (by decide)) rfl rfl rfl rfl hl.1 rfl (Nat.le_of_ble_eq_true rfl) dL_draw_4 ⟨Nat.le_of_ble_eq_true rfl, Nat.le_of_ble_eq_true rfl⟩ (fun E ce q9 H locs hE hw h1 h2 h3 => ?_) ?_
  · skip
    have hE9 : E = xIOB ∨ E = xISE := by rcases hE with h9 | h9 <;> first | exact Or.inl h9.1 | exact Or.inr (h9.1)
    rcases hE9 with rfl | rfl
    · skip
      refine vx_catch (own := RL) (name := "java/lang/IndexOutOfBoundsException") hown (tableOf []) ⟨0, 9, 12, 19⟩ (tableOf [(0, 9, 15, 13)]) htab (fun z hz => absurd hz List.not_mem_nil) rfl (by decide) (hts (.classLink RL 19 "java/lang/IndexOutOfBoundsException") (by decide +kernel)) (hCast fx hF (by decide)) h1 h2 h3 ?_
      refine lv_astore_n (lv' := (3, .ref q9) :: [(0, .ref (gad G 0)), (1, .int x), (2, .ref (gad G 46))]) hx hb dL_draw_12 rfl hl (by decide) rfl (fun ls hl => ?_)
      refine lv_iconst (v := 1) hx hb dL_draw_13 (by decide) ?_
      exact rRetL hx hb hr hw (Or.inr ⟨_, hE, rfl, rfl⟩) hlocks dL_draw_14 (Nat.le_refl _) (Nat.le_refl _)
    · skip
      refine vx_catch (own := RL) (name := "java/lang/IllegalStateException") hown (tableOf [(0, 9, 12, 19)]) ⟨0, 9, 15, 13⟩ (tableOf []) htab (fun z hz => by
        rcases List.mem_cons.mp hz with rfl | hz
        · exact Or.inr ⟨by decide, "java/lang/IndexOutOfBoundsException", hts (.classLink RL 19 "java/lang/IndexOutOfBoundsException") (by decide +kernel), hNot fx hF (by decide) (by decide) (by decide)⟩
        exact absurd hz List.not_mem_nil) rfl (by decide) (hts (.classLink RL 13 "java/lang/IllegalStateException") (by decide +kernel)) (hCast fx hF (by decide)) h1 h2 h3 ?_
      refine lv_astore_n (lv' := (3, .ref q9) :: [(0, .ref (gad G 0)), (1, .int x), (2, .ref (gad G 46))]) hx hb dL_draw_15 rfl hl (by decide) rfl (fun ls hl => ?_)
      refine lv_iconst (v := 2) hx hb dL_draw_16 (by decide) ?_
      exact rRetL hx hb hr hw (Or.inr ⟨_, hE, rfl, rfl⟩) hlocks dL_draw_17 (Nat.le_refl _) (Nat.le_refl _)
  intro r9 τ9 H locs hp9 hw
  refine lv_i2l hx hb dL_draw_7 rfl ?_
  refine rLst (x := r9) hx hb fx hw (hF.1 46 (by decide)) hF.2.2.2.1 dL_draw_8 (fun H locs hw => ?_)
  obtain ⟨σ_1, eσ_1⟩ : ∃ w9, w9 = upA τ9 46 (upd (τ9 46) 0 r9) := ⟨_, rfl⟩
  rw [← eσ_1] at hw
  refine lv_goto (tgt := 18) hx hb dL_draw_9 (by decide) ?_
  refine lv_iconst (v := 0) hx hb dL_draw_18 (by decide) ?_
  subst eσ_1
  exact rRetL hx hb hr hw (Or.inl ⟨_, _, hp9, rfl, rfl⟩) hlocks dL_draw_19 (Nat.zero_le _) (Nat.zero_le _)

def rmL_use : Room := ({ frames := 9, cells := 1, slots := 6, locals := 146 } : Room)
set_option maxHeartbeats 4000000 in
set_option maxRecDepth 100000 in
theorem kL_use (l : Launch) (hlt : l.stackTraces = false) (G : Gx) (hG : gOk G) (hF : Full G) (σ : St) (x : Int32) (g n e9 z : Nat) (b : Bool) (hIv9 : CIv σ g n b e9 z)  : Met l yL_use wsL_use rmL_use (va_Pc [.ref (gad G 0), .int x, .ref (gad G 46)] (PreU G σ)) (va_Qi (fun r9 σ9 => (∃ (v9 : Int32) (τ9 : St), (fun r σ' => r = (if σ 24 (ix x) = 0 then 0 else if σ 24 (ix x) = 2 then 0 else if σ 24 (ix x) = 1 then nI (htN (tkS σ (ix x)) n (nI (rkA σ n (ix x)) - 1) (rkA σ n (ix x)) (σ 0 9 + 5) n) else nI (htN (tkS σ (ix x)) n 0 (rkA σ n (ix x)) (σ 0 9 + 2) n)) ∧ σ' = (if σ 24 (ix x) = 0 then upA (tkS σ (ix x)) 26 (upd (σ 26) (ix x) 0) else if σ 24 (ix x) = 2 then upA (tkS σ (ix x)) 25 (upd (σ 25) (ix x) 1) else if σ 24 (ix x) = 1 then htL (tkS σ (ix x)) n (nI (rkA σ n (ix x)) - 1) (rkA σ n (ix x)) (σ 0 9 + 5) n else htL (tkS σ (ix x)) n 0 (rkA σ n (ix x)) (σ 0 9 + 2) n) ∧ inB x n = true ∧ (b && !finB σ 4 (ix x) && !decide (σ 24 (ix x) = -1)) = true) v9 τ9 ∧ r9 = 0 ∧ σ9 = upA τ9 46 (upd (τ9 46) 0 v9)) ∨ ∃ E9 : String, (fun E => (E = xIOB ∧ inB x n = false) ∨ (E = xISE ∧ inB x n = true ∧ (b && !finB σ 4 (ix x) && !decide (σ 24 (ix x) = -1)) = false)) E9 ∧ r9 = ((if E9 = xIOB then 1 else 2) : Int32) ∧ σ9 = σ) (BW G) (gA G)) 1 6 (gA G) := by
  refine bgL (cc := cL_use) (maxL := 4) (ret := some .int) (own := RL) (hh := [(0, 9, 12, 19), (0, 9, 15, 13)]) (by decide) rfl rfl hG (Nat.le_of_ble_eq_true rfl) rfl ?_
  intro p e s m args below meth c ls htab Bd hl
  obtain ⟨hx, hb, hr, hml, hts, hown, hlocks, fx, hw⟩ := Bd
  have hl : lv_has ls 4 [(0, .ref (gad G 0)), (1, .int x), (2, .ref (gad G 46))] := hl
  refine lv_aload_n hx hb dL_use_0 rfl (lv_at hl 2 rfl) ?_
  refine lv_iconst (v := 0) hx hb dL_use_1 (by decide) ?_
  refine lv_aload_n hx hb dL_use_2 rfl (lv_at hl 0 rfl) ?_
  refine lv_iload_n hx hb dL_use_3 rfl (lv_at hl 1 rfl) ?_
  refine rCallXI (C := RX5) (As := [.int x]) (rest := [.int 0, .ref (gad G 46)]) ⟨hx, hb, hml, hown, hts⟩ fx hw (kX5_use l hlt G hG hF σ x g n e9 z b hIv9) (cwV 1 hts gL_use_X5_use rfl rfl rfl (by decide +kernel) ⟨Nat.le_of_ble_eq_true rfl, Nat.le_of_ble_eq_true rfl⟩) (hF.1 0 (by decide)) rfl rfl rfl rfl hl.1 rfl (Nat.le_of_ble_eq_true rfl) dL_use_4 ⟨Nat.le_of_ble_eq_true rfl, Nat.le_of_ble_eq_true rfl⟩ (fun E ce q9 H locs hE hw h1 h2 h3 => ?_) ?_
  · skip
    have hE9 : E = xIOB ∨ E = xISE := by rcases hE with h9 | h9 <;> first | exact Or.inl h9.1 | exact Or.inr (h9.1)
    rcases hE9 with rfl | rfl
    · skip
      refine vx_catch (own := RL) (name := "java/lang/IndexOutOfBoundsException") hown (tableOf []) ⟨0, 9, 12, 19⟩ (tableOf [(0, 9, 15, 13)]) htab (fun z hz => absurd hz List.not_mem_nil) rfl (by decide) (hts (.classLink RL 19 "java/lang/IndexOutOfBoundsException") (by decide +kernel)) (hCast fx hF (by decide)) h1 h2 h3 ?_
      refine lv_astore_n (lv' := (3, .ref q9) :: [(0, .ref (gad G 0)), (1, .int x), (2, .ref (gad G 46))]) hx hb dL_use_12 rfl hl (by decide) rfl (fun ls hl => ?_)
      refine lv_iconst (v := 1) hx hb dL_use_13 (by decide) ?_
      exact rRetL hx hb hr hw (Or.inr ⟨_, hE, rfl, rfl⟩) hlocks dL_use_14 (Nat.le_refl _) (Nat.le_refl _)
    · skip
      refine vx_catch (own := RL) (name := "java/lang/IllegalStateException") hown (tableOf [(0, 9, 12, 19)]) ⟨0, 9, 15, 13⟩ (tableOf []) htab (fun z hz => by
        rcases List.mem_cons.mp hz with rfl | hz
        · exact Or.inr ⟨by decide, "java/lang/IndexOutOfBoundsException", hts (.classLink RL 19 "java/lang/IndexOutOfBoundsException") (by decide +kernel), hNot fx hF (by decide) (by decide) (by decide)⟩
        exact absurd hz List.not_mem_nil) rfl (by decide) (hts (.classLink RL 13 "java/lang/IllegalStateException") (by decide +kernel)) (hCast fx hF (by decide)) h1 h2 h3 ?_
      refine lv_astore_n (lv' := (3, .ref q9) :: [(0, .ref (gad G 0)), (1, .int x), (2, .ref (gad G 46))]) hx hb dL_use_15 rfl hl (by decide) rfl (fun ls hl => ?_)
      refine lv_iconst (v := 2) hx hb dL_use_16 (by decide) ?_
      exact rRetL hx hb hr hw (Or.inr ⟨_, hE, rfl, rfl⟩) hlocks dL_use_17 (Nat.le_refl _) (Nat.le_refl _)
  intro r9 τ9 H locs hp9 hw
  refine lv_i2l hx hb dL_use_7 rfl ?_
  refine rLst (x := r9) hx hb fx hw (hF.1 46 (by decide)) hF.2.2.2.1 dL_use_8 (fun H locs hw => ?_)
  obtain ⟨σ_1, eσ_1⟩ : ∃ w9, w9 = upA τ9 46 (upd (τ9 46) 0 r9) := ⟨_, rfl⟩
  rw [← eσ_1] at hw
  refine lv_goto (tgt := 18) hx hb dL_use_9 (by decide) ?_
  refine lv_iconst (v := 0) hx hb dL_use_18 (by decide) ?_
  subst eσ_1
  exact rRetL hx hb hr hw (Or.inl ⟨_, _, hp9, rfl, rfl⟩) hlocks dL_use_19 (Nat.zero_le _) (Nat.zero_le _)

def rmL_itemOf : Room := ({ frames := 8, cells := 1, slots := 6, locals := 124 } : Room)
set_option maxHeartbeats 4000000 in
set_option maxRecDepth 100000 in
theorem kL_itemOf (l : Launch) (hlt : l.stackTraces = false) (G : Gx) (hG : gOk G) (hF : Full G) (σ : St) (x : Int32) (g n e9 z : Nat) (b : Bool) (hIv9 : CIv σ g n b e9 z)  : Met l yL_itemOf wsL_itemOf rmL_itemOf (va_Pc [.ref (gad G 0), .int x, .ref (gad G 46)] (PreU G σ)) (va_Qi (fun r9 σ9 => (∃ (v9 : Int32) (τ9 : St), (fun r σ' => r = (if b = true then σ 24 (ix x) else -1) ∧ σ' = σ ∧ inB x n = true) v9 τ9 ∧ r9 = 0 ∧ σ9 = upA τ9 46 (upd (τ9 46) 0 v9)) ∨ ∃ E9 : String, (fun E => E = xIOB ∧ inB x n = false) E9 ∧ r9 = (1 : Int32) ∧ σ9 = σ) (BW G) (gA G)) 1 6 (gA G) := by
  refine bgL (cc := cL_itemOf) (maxL := 4) (ret := some .int) (own := RL) (hh := [(0, 9, 12, 19)]) (by decide) rfl rfl hG (Nat.le_of_ble_eq_true rfl) rfl ?_
  intro p e s m args below meth c ls htab Bd hl
  obtain ⟨hx, hb, hr, hml, hts, hown, hlocks, fx, hw⟩ := Bd
  have hl : lv_has ls 4 [(0, .ref (gad G 0)), (1, .int x), (2, .ref (gad G 46))] := hl
  refine lv_aload_n hx hb dL_itemOf_0 rfl (lv_at hl 2 rfl) ?_
  refine lv_iconst (v := 0) hx hb dL_itemOf_1 (by decide) ?_
  refine lv_aload_n hx hb dL_itemOf_2 rfl (lv_at hl 0 rfl) ?_
  refine lv_iload_n hx hb dL_itemOf_3 rfl (lv_at hl 1 rfl) ?_
  refine rCallXI (C := RX5) (As := [.int x]) (rest := [.int 0, .ref (gad G 46)]) ⟨hx, hb, hml, hown, hts⟩ fx hw (kX5_itemOf l hlt G hG hF σ x g n e9 z b hIv9) (cwV 1 hts gL_itemOf_X5_itemOf rfl rfl rfl (by decide +kernel) ⟨Nat.le_of_ble_eq_true rfl, Nat.le_of_ble_eq_true rfl⟩) (hF.1 0 (by decide)) rfl rfl rfl rfl hl.1 rfl (Nat.le_of_ble_eq_true rfl) dL_itemOf_4 ⟨Nat.le_of_ble_eq_true rfl, Nat.le_of_ble_eq_true rfl⟩ (fun E ce q9 H locs hE hw h1 h2 h3 => ?_) ?_
  · skip
    have hE9 : E = xIOB := hE.1
    rcases hE9 with rfl
    · skip
      refine vx_catch (own := RL) (name := "java/lang/IndexOutOfBoundsException") hown (tableOf []) ⟨0, 9, 12, 19⟩ (tableOf []) htab (fun z hz => absurd hz List.not_mem_nil) rfl (by decide) (hts (.classLink RL 19 "java/lang/IndexOutOfBoundsException") (by decide +kernel)) (hCast fx hF (by decide)) h1 h2 h3 ?_
      refine lv_astore_n (lv' := (3, .ref q9) :: [(0, .ref (gad G 0)), (1, .int x), (2, .ref (gad G 46))]) hx hb dL_itemOf_12 rfl hl (by decide) rfl (fun ls hl => ?_)
      refine lv_iconst (v := 1) hx hb dL_itemOf_13 (by decide) ?_
      exact rRetL hx hb hr hw (Or.inr ⟨_, hE, rfl, rfl⟩) hlocks dL_itemOf_14 (Nat.le_refl _) (Nat.le_refl _)
  intro r9 τ9 H locs hp9 hw
  refine lv_i2l hx hb dL_itemOf_7 rfl ?_
  refine rLst (x := r9) hx hb fx hw (hF.1 46 (by decide)) hF.2.2.2.1 dL_itemOf_8 (fun H locs hw => ?_)
  obtain ⟨σ_1, eσ_1⟩ : ∃ w9, w9 = upA τ9 46 (upd (τ9 46) 0 r9) := ⟨_, rfl⟩
  rw [← eσ_1] at hw
  refine lv_goto (tgt := 15) hx hb dL_itemOf_9 (by decide) ?_
  refine lv_iconst (v := 0) hx hb dL_itemOf_15 (by decide) ?_
  subst eσ_1
  exact rRetL hx hb hr hw (Or.inl ⟨_, _, hp9, rfl, rfl⟩) hlocks dL_itemOf_16 (Nat.zero_le _) (Nat.zero_le _)

def rmL_stunned : Room := ({ frames := 8, cells := 1, slots := 6, locals := 124 } : Room)
set_option maxHeartbeats 4000000 in
set_option maxRecDepth 100000 in
theorem kL_stunned (l : Launch) (hlt : l.stackTraces = false) (G : Gx) (hG : gOk G) (hF : Full G) (σ : St) (x : Int32) (g n e9 z : Nat) (b : Bool) (hIv9 : CIv σ g n b e9 z)  : Met l yL_stunned wsL_stunned rmL_stunned (va_Pc [.ref (gad G 0), .int x, .ref (gad G 46)] (PreU G σ)) (va_Qi (fun r9 σ9 => (∃ (v9 : Int32) (τ9 : St), (fun r σ' => r = (if b = true then stuA σ (ix x) else 0) ∧ σ' = σ ∧ inB x n = true) v9 τ9 ∧ r9 = 0 ∧ σ9 = upA τ9 46 (upd (τ9 46) 0 v9)) ∨ ∃ E9 : String, (fun E => E = xIOB ∧ inB x n = false) E9 ∧ r9 = (1 : Int32) ∧ σ9 = σ) (BW G) (gA G)) 1 6 (gA G) := by
  refine bgL (cc := cL_stunned) (maxL := 4) (ret := some .int) (own := RL) (hh := [(0, 9, 12, 19)]) (by decide) rfl rfl hG (Nat.le_of_ble_eq_true rfl) rfl ?_
  intro p e s m args below meth c ls htab Bd hl
  obtain ⟨hx, hb, hr, hml, hts, hown, hlocks, fx, hw⟩ := Bd
  have hl : lv_has ls 4 [(0, .ref (gad G 0)), (1, .int x), (2, .ref (gad G 46))] := hl
  refine lv_aload_n hx hb dL_stunned_0 rfl (lv_at hl 2 rfl) ?_
  refine lv_iconst (v := 0) hx hb dL_stunned_1 (by decide) ?_
  refine lv_aload_n hx hb dL_stunned_2 rfl (lv_at hl 0 rfl) ?_
  refine lv_iload_n hx hb dL_stunned_3 rfl (lv_at hl 1 rfl) ?_
  refine rCallXI (C := RX5) (As := [.int x]) (rest := [.int 0, .ref (gad G 46)]) ⟨hx, hb, hml, hown, hts⟩ fx hw (kX5_stunned l hlt G hG hF σ x g n e9 z b hIv9) (cwV 1 hts gL_stunned_X5_stunned rfl rfl rfl (by decide +kernel) ⟨Nat.le_of_ble_eq_true rfl, Nat.le_of_ble_eq_true rfl⟩) (hF.1 0 (by decide)) rfl rfl rfl rfl hl.1 rfl (Nat.le_of_ble_eq_true rfl) dL_stunned_4 ⟨Nat.le_of_ble_eq_true rfl, Nat.le_of_ble_eq_true rfl⟩ (fun E ce q9 H locs hE hw h1 h2 h3 => ?_) ?_
  · skip
    have hE9 : E = xIOB := hE.1
    rcases hE9 with rfl
    · skip
      refine vx_catch (own := RL) (name := "java/lang/IndexOutOfBoundsException") hown (tableOf []) ⟨0, 9, 12, 19⟩ (tableOf []) htab (fun z hz => absurd hz List.not_mem_nil) rfl (by decide) (hts (.classLink RL 19 "java/lang/IndexOutOfBoundsException") (by decide +kernel)) (hCast fx hF (by decide)) h1 h2 h3 ?_
      refine lv_astore_n (lv' := (3, .ref q9) :: [(0, .ref (gad G 0)), (1, .int x), (2, .ref (gad G 46))]) hx hb dL_stunned_12 rfl hl (by decide) rfl (fun ls hl => ?_)
      refine lv_iconst (v := 1) hx hb dL_stunned_13 (by decide) ?_
      exact rRetL hx hb hr hw (Or.inr ⟨_, hE, rfl, rfl⟩) hlocks dL_stunned_14 (Nat.le_refl _) (Nat.le_refl _)
  intro r9 τ9 H locs hp9 hw
  refine lv_i2l hx hb dL_stunned_7 rfl ?_
  refine rLst (x := r9) hx hb fx hw (hF.1 46 (by decide)) hF.2.2.2.1 dL_stunned_8 (fun H locs hw => ?_)
  obtain ⟨σ_1, eσ_1⟩ : ∃ w9, w9 = upA τ9 46 (upd (τ9 46) 0 r9) := ⟨_, rfl⟩
  rw [← eσ_1] at hw
  refine lv_goto (tgt := 15) hx hb dL_stunned_9 (by decide) ?_
  refine lv_iconst (v := 0) hx hb dL_stunned_15 (by decide) ?_
  subst eσ_1
  exact rRetL hx hb hr hw (Or.inl ⟨_, _, hp9, rfl, rfl⟩) hlocks dL_stunned_16 (Nat.zero_le _) (Nat.zero_le _)

def rmL_end : Room := ({ frames := 8, cells := 1, slots := 6, locals := 125 } : Room)
set_option maxHeartbeats 4000000 in
set_option maxRecDepth 100000 in
theorem kL_end (l : Launch) (hlt : l.stackTraces = false) (G : Gx) (hG : gOk G) (hF : Full G) (σ : St) (g n e9 z : Nat) (b : Bool) (hIv9 : CIv σ g n b e9 z) (hn0 : b = true → 0 < n)  : Met l yL_end wsL_end rmL_end (va_Pc [.ref (gad G 0), .ref (gad G 46)] (PreU G σ)) (va_Qi (fun r9 σ9 => (∃ (v9 : Int32) (τ9 : St), (fun r σ' => r = nI (wnA σ n n) ∧ σ' = enSt σ n e9 ∧ b = true) v9 τ9 ∧ r9 = 0 ∧ σ9 = upA τ9 46 (upd (τ9 46) 0 v9)) ∨ ∃ E9 : String, (fun E => E = xISE ∧ b = false) E9 ∧ r9 = (1 : Int32) ∧ σ9 = σ) (BW G) (gA G)) 1 6 (gA G) := by
  refine bgL (cc := cL_end) (maxL := 3) (ret := some .int) (own := RL) (hh := [(0, 8, 11, 13)]) (by decide) rfl rfl hG (Nat.le_of_ble_eq_true rfl) rfl ?_
  intro p e s m args below meth c ls htab Bd hl
  obtain ⟨hx, hb, hr, hml, hts, hown, hlocks, fx, hw⟩ := Bd
  have hl : lv_has ls 3 [(0, .ref (gad G 0)), (1, .ref (gad G 46))] := hl
  refine lv_aload_n hx hb dL_end_0 rfl (lv_at hl 1 rfl) ?_
  refine lv_iconst (v := 0) hx hb dL_end_1 (by decide) ?_
  refine lv_aload_n hx hb dL_end_2 rfl (lv_at hl 0 rfl) ?_
  refine rCallXI (C := RX5) (As := []) (rest := [.int 0, .ref (gad G 46)]) ⟨hx, hb, hml, hown, hts⟩ fx hw (kX5_end l hlt G hG hF σ g n e9 z b hIv9 hn0) (cwV 0 hts gL_end_X5_end rfl rfl rfl (by decide +kernel) ⟨Nat.le_of_ble_eq_true rfl, Nat.le_of_ble_eq_true rfl⟩) (hF.1 0 (by decide)) rfl rfl rfl rfl hl.1 rfl (Nat.le_of_ble_eq_true rfl) dL_end_3 ⟨Nat.le_of_ble_eq_true rfl, Nat.le_of_ble_eq_true rfl⟩ (fun E ce q9 H locs hE hw h1 h2 h3 => ?_) ?_
  · skip
    have hE9 : E = xISE := hE.1
    rcases hE9 with rfl
    · skip
      refine vx_catch (own := RL) (name := "java/lang/IllegalStateException") hown (tableOf []) ⟨0, 8, 11, 13⟩ (tableOf []) htab (fun z hz => absurd hz List.not_mem_nil) rfl (by decide) (hts (.classLink RL 13 "java/lang/IllegalStateException") (by decide +kernel)) (hCast fx hF (by decide)) h1 h2 h3 ?_
      refine lv_astore_n (lv' := (2, .ref q9) :: [(0, .ref (gad G 0)), (1, .ref (gad G 46))]) hx hb dL_end_11 rfl hl (by decide) rfl (fun ls hl => ?_)
      refine lv_iconst (v := 1) hx hb dL_end_12 (by decide) ?_
      exact rRetL hx hb hr hw (Or.inr ⟨_, hE, rfl, rfl⟩) hlocks dL_end_13 (Nat.le_refl _) (Nat.le_refl _)
  intro r9 τ9 H locs hp9 hw
  refine lv_i2l hx hb dL_end_6 rfl ?_
  refine rLst (x := r9) hx hb fx hw (hF.1 46 (by decide)) hF.2.2.2.1 dL_end_7 (fun H locs hw => ?_)
  obtain ⟨σ_1, eσ_1⟩ : ∃ w9, w9 = upA τ9 46 (upd (τ9 46) 0 r9) := ⟨_, rfl⟩
  rw [← eσ_1] at hw
  refine lv_goto (tgt := 14) hx hb dL_end_8 (by decide) ?_
  refine lv_iconst (v := 0) hx hb dL_end_14 (by decide) ?_
  subst eσ_1
  exact rRetL hx hb hr hw (Or.inl ⟨_, _, hp9, rfl, rfl⟩) hlocks dL_end_15 (Nat.zero_le _) (Nat.zero_le _)

def rmL_place : Room := ({ frames := 8, cells := 1, slots := 6, locals := 125 } : Room)
set_option maxHeartbeats 4000000 in
set_option maxRecDepth 100000 in
theorem kL_place (l : Launch) (hlt : l.stackTraces = false) (G : Gx) (hG : gOk G) (hF : Full G) (σ : St) (x y : Int32) (g n e9 z : Nat) (b : Bool) (hIv9 : CIv σ g n b e9 z)  : Met l yL_place wsL_place rmL_place (va_Pc [.ref (gad G 0), .int x, .int y, .ref (gad G 46)] (PreU G σ)) (va_Qi (fun r9 σ9 => (∃ (v9 : Int32) (τ9 : St), (fun r σ' => r = σ 28 (ix x * 6 + ix y) ∧ σ' = σ ∧ (inB x e9 && inB y n) = true) v9 τ9 ∧ r9 = 0 ∧ σ9 = upA τ9 46 (upd (τ9 46) 0 v9)) ∨ ∃ E9 : String, (fun E => E = xIOB ∧ (inB x e9 && inB y n) = false) E9 ∧ r9 = (1 : Int32) ∧ σ9 = σ) (BW G) (gA G)) 1 6 (gA G) := by
  refine bgL (cc := cL_place) (maxL := 5) (ret := some .int) (own := RL) (hh := [(0, 10, 13, 19)]) (by decide) rfl rfl hG (Nat.le_of_ble_eq_true rfl) rfl ?_
  intro p e s m args below meth c ls htab Bd hl
  obtain ⟨hx, hb, hr, hml, hts, hown, hlocks, fx, hw⟩ := Bd
  have hl : lv_has ls 5 [(0, .ref (gad G 0)), (1, .int x), (2, .int y), (3, .ref (gad G 46))] := hl
  refine lv_aload_n hx hb dL_place_0 rfl (lv_at hl 3 rfl) ?_
  refine lv_iconst (v := 0) hx hb dL_place_1 (by decide) ?_
  refine lv_aload_n hx hb dL_place_2 rfl (lv_at hl 0 rfl) ?_
  refine lv_iload_n hx hb dL_place_3 rfl (lv_at hl 1 rfl) ?_
  refine lv_iload_n hx hb dL_place_4 rfl (lv_at hl 2 rfl) ?_
  refine rCallXI (C := RX5) (As := [.int x, .int y]) (rest := [.int 0, .ref (gad G 46)]) ⟨hx, hb, hml, hown, hts⟩ fx hw (kX5_place l hlt G hG hF σ x y g n e9 z b hIv9) (cwV 2 hts gL_place_X5_place rfl rfl rfl (by decide +kernel) ⟨Nat.le_of_ble_eq_true rfl, Nat.le_of_ble_eq_true rfl⟩) (hF.1 0 (by decide)) rfl rfl rfl rfl hl.1 rfl (Nat.le_of_ble_eq_true rfl) dL_place_5 ⟨Nat.le_of_ble_eq_true rfl, Nat.le_of_ble_eq_true rfl⟩ (fun E ce q9 H locs hE hw h1 h2 h3 => ?_) ?_
  · skip
    have hE9 : E = xIOB := hE.1
    rcases hE9 with rfl
    · skip
      refine vx_catch (own := RL) (name := "java/lang/IndexOutOfBoundsException") hown (tableOf []) ⟨0, 10, 13, 19⟩ (tableOf []) htab (fun z hz => absurd hz List.not_mem_nil) rfl (by decide) (hts (.classLink RL 19 "java/lang/IndexOutOfBoundsException") (by decide +kernel)) (hCast fx hF (by decide)) h1 h2 h3 ?_
      refine lv_astore (lv' := (4, .ref q9) :: [(0, .ref (gad G 0)), (1, .int x), (2, .int y), (3, .ref (gad G 46))]) hx hb dL_place_13 hl (by decide) rfl (fun ls hl => ?_)
      refine lv_iconst (v := 1) hx hb dL_place_15 (by decide) ?_
      exact rRetL hx hb hr hw (Or.inr ⟨_, hE, rfl, rfl⟩) hlocks dL_place_16 (Nat.le_refl _) (Nat.le_refl _)
  intro r9 τ9 H locs hp9 hw
  refine lv_i2l hx hb dL_place_8 rfl ?_
  refine rLst (x := r9) hx hb fx hw (hF.1 46 (by decide)) hF.2.2.2.1 dL_place_9 (fun H locs hw => ?_)
  obtain ⟨σ_1, eσ_1⟩ : ∃ w9, w9 = upA τ9 46 (upd (τ9 46) 0 r9) := ⟨_, rfl⟩
  rw [← eσ_1] at hw
  refine lv_goto (tgt := 17) hx hb dL_place_10 (by decide) ?_
  refine lv_iconst (v := 0) hx hb dL_place_17 (by decide) ?_
  subst eσ_1
  exact rRetL hx hb hr hw (Or.inl ⟨_, _, hp9, rfl, rfl⟩) hlocks dL_place_18 (Nat.zero_le _) (Nat.zero_le _)

def rmL_setDropped : Room := ({ frames := 7, cells := 1, slots := 6, locals := 103 } : Room)
set_option maxHeartbeats 4000000 in
set_option maxRecDepth 100000 in
theorem kL_setDropped (l : Launch) (hlt : l.stackTraces = false) (G : Gx) (hG : gOk G) (hF : Full G) (σ : St) (x : Int32) (g n e9 z : Nat) (b : Bool) (hIv9 : CIv σ g n b e9 z)  : Met l yL_setDropped wsL_setDropped rmL_setDropped (va_Pc [.ref (gad G 0), .int x, .ref (gad G 46)] (PreU G σ)) (va_Qi (fun r9 σ9 => (∃ (v9 : Int32) (τ9 : St), (fun r σ' => r = σ 27 3 ∧ σ' = upA σ 27 (upd (σ 27) 3 x) ∧ inR x 0 3 = true) v9 τ9 ∧ r9 = 0 ∧ σ9 = upA τ9 46 (upd (τ9 46) 0 v9)) ∨ ∃ E9 : String, (fun E => E = xIAE ∧ inR x 0 3 = false) E9 ∧ r9 = (1 : Int32) ∧ σ9 = σ) (BW G) (gA G)) 1 6 (gA G) := by
  refine bgL (cc := cL_setDropped) (maxL := 4) (ret := some .int) (own := RL) (hh := [(0, 9, 12, 21)]) (by decide) rfl rfl hG (Nat.le_of_ble_eq_true rfl) rfl ?_
  intro p e s m args below meth c ls htab Bd hl
  obtain ⟨hx, hb, hr, hml, hts, hown, hlocks, fx, hw⟩ := Bd
  have hl : lv_has ls 4 [(0, .ref (gad G 0)), (1, .int x), (2, .ref (gad G 46))] := hl
  refine lv_aload_n hx hb dL_setDropped_0 rfl (lv_at hl 2 rfl) ?_
  refine lv_iconst (v := 0) hx hb dL_setDropped_1 (by decide) ?_
  refine lv_aload_n hx hb dL_setDropped_2 rfl (lv_at hl 0 rfl) ?_
  refine lv_iload_n hx hb dL_setDropped_3 rfl (lv_at hl 1 rfl) ?_
  refine rCallXI (C := RX5) (As := [.int x]) (rest := [.int 0, .ref (gad G 46)]) ⟨hx, hb, hml, hown, hts⟩ fx hw (kX5_setDropped l hlt G hG hF σ x g n e9 z b hIv9) (cwV 1 hts gL_setDropped_X5_setDropped rfl rfl rfl (by decide +kernel) ⟨Nat.le_of_ble_eq_true rfl, Nat.le_of_ble_eq_true rfl⟩) (hF.1 0 (by decide)) rfl rfl rfl rfl hl.1 rfl (Nat.le_of_ble_eq_true rfl) dL_setDropped_4 ⟨Nat.le_of_ble_eq_true rfl, Nat.le_of_ble_eq_true rfl⟩ (fun E ce q9 H locs hE hw h1 h2 h3 => ?_) ?_
  · skip
    have hE9 : E = xIAE := hE.1
    rcases hE9 with rfl
    · skip
      refine vx_catch (own := RL) (name := "java/lang/IllegalArgumentException") hown (tableOf []) ⟨0, 9, 12, 21⟩ (tableOf []) htab (fun z hz => absurd hz List.not_mem_nil) rfl (by decide) (hts (.classLink RL 21 "java/lang/IllegalArgumentException") (by decide +kernel)) (hCast fx hF (by decide)) h1 h2 h3 ?_
      refine lv_astore_n (lv' := (3, .ref q9) :: [(0, .ref (gad G 0)), (1, .int x), (2, .ref (gad G 46))]) hx hb dL_setDropped_12 rfl hl (by decide) rfl (fun ls hl => ?_)
      refine lv_iconst (v := 1) hx hb dL_setDropped_13 (by decide) ?_
      exact rRetL hx hb hr hw (Or.inr ⟨_, hE, rfl, rfl⟩) hlocks dL_setDropped_14 (Nat.le_refl _) (Nat.le_refl _)
  intro r9 τ9 H locs hp9 hw
  refine lv_i2l hx hb dL_setDropped_7 rfl ?_
  refine rLst (x := r9) hx hb fx hw (hF.1 46 (by decide)) hF.2.2.2.1 dL_setDropped_8 (fun H locs hw => ?_)
  obtain ⟨σ_1, eσ_1⟩ : ∃ w9, w9 = upA τ9 46 (upd (τ9 46) 0 r9) := ⟨_, rfl⟩
  rw [← eσ_1] at hw
  refine lv_goto (tgt := 15) hx hb dL_setDropped_9 (by decide) ?_
  refine lv_iconst (v := 0) hx hb dL_setDropped_15 (by decide) ?_
  subst eσ_1
  exact rRetL hx hb hr hw (Or.inl ⟨_, _, hp9, rfl, rfl⟩) hlocks dL_setDropped_16 (Nat.zero_le _) (Nat.zero_le _)

def rmL_points : Room := ({ frames := 8, cells := 1, slots := 6, locals := 124 } : Room)
set_option maxHeartbeats 4000000 in
set_option maxRecDepth 100000 in
theorem kL_points (l : Launch) (hlt : l.stackTraces = false) (G : Gx) (hG : gOk G) (hF : Full G) (σ : St) (x : Int32) (g n e9 z : Nat) (b : Bool) (hIv9 : CIv σ g n b e9 z)  : Met l yL_points wsL_points rmL_points (va_Pc [.ref (gad G 0), .int x, .ref (gad G 46)] (PreU G σ)) (va_Qi (fun r9 σ9 => (∃ (v9 : Int32) (τ9 : St), (fun r σ' => r = sumA (σ 29) (σ 27 3) (ix x) e9 e9 ∧ σ' = σ ∧ inB x n = true) v9 τ9 ∧ r9 = 0 ∧ σ9 = upA τ9 46 (upd (τ9 46) 0 v9)) ∨ ∃ E9 : String, (fun E => E = xIOB ∧ inB x n = false) E9 ∧ r9 = (1 : Int32) ∧ σ9 = σ) (BW G) (gA G)) 1 6 (gA G) := by
  refine bgL (cc := cL_points) (maxL := 4) (ret := some .int) (own := RL) (hh := [(0, 9, 12, 19)]) (by decide) rfl rfl hG (Nat.le_of_ble_eq_true rfl) rfl ?_
  intro p e s m args below meth c ls htab Bd hl
  obtain ⟨hx, hb, hr, hml, hts, hown, hlocks, fx, hw⟩ := Bd
  have hl : lv_has ls 4 [(0, .ref (gad G 0)), (1, .int x), (2, .ref (gad G 46))] := hl
  refine lv_aload_n hx hb dL_points_0 rfl (lv_at hl 2 rfl) ?_
  refine lv_iconst (v := 0) hx hb dL_points_1 (by decide) ?_
  refine lv_aload_n hx hb dL_points_2 rfl (lv_at hl 0 rfl) ?_
  refine lv_iload_n hx hb dL_points_3 rfl (lv_at hl 1 rfl) ?_
  refine rCallXI (C := RX5) (As := [.int x]) (rest := [.int 0, .ref (gad G 46)]) ⟨hx, hb, hml, hown, hts⟩ fx hw (kX5_points l hlt G hG hF σ x g n e9 z b hIv9) (cwV 1 hts gL_points_X5_points rfl rfl rfl (by decide +kernel) ⟨Nat.le_of_ble_eq_true rfl, Nat.le_of_ble_eq_true rfl⟩) (hF.1 0 (by decide)) rfl rfl rfl rfl hl.1 rfl (Nat.le_of_ble_eq_true rfl) dL_points_4 ⟨Nat.le_of_ble_eq_true rfl, Nat.le_of_ble_eq_true rfl⟩ (fun E ce q9 H locs hE hw h1 h2 h3 => ?_) ?_
  · skip
    have hE9 : E = xIOB := hE.1
    rcases hE9 with rfl
    · skip
      refine vx_catch (own := RL) (name := "java/lang/IndexOutOfBoundsException") hown (tableOf []) ⟨0, 9, 12, 19⟩ (tableOf []) htab (fun z hz => absurd hz List.not_mem_nil) rfl (by decide) (hts (.classLink RL 19 "java/lang/IndexOutOfBoundsException") (by decide +kernel)) (hCast fx hF (by decide)) h1 h2 h3 ?_
      refine lv_astore_n (lv' := (3, .ref q9) :: [(0, .ref (gad G 0)), (1, .int x), (2, .ref (gad G 46))]) hx hb dL_points_12 rfl hl (by decide) rfl (fun ls hl => ?_)
      refine lv_iconst (v := 1) hx hb dL_points_13 (by decide) ?_
      exact rRetL hx hb hr hw (Or.inr ⟨_, hE, rfl, rfl⟩) hlocks dL_points_14 (Nat.le_refl _) (Nat.le_refl _)
  intro r9 τ9 H locs hp9 hw
  refine lv_i2l hx hb dL_points_7 rfl ?_
  refine rLst (x := r9) hx hb fx hw (hF.1 46 (by decide)) hF.2.2.2.1 dL_points_8 (fun H locs hw => ?_)
  obtain ⟨σ_1, eσ_1⟩ : ∃ w9, w9 = upA τ9 46 (upd (τ9 46) 0 r9) := ⟨_, rfl⟩
  rw [← eσ_1] at hw
  refine lv_goto (tgt := 15) hx hb dL_points_9 (by decide) ?_
  refine lv_iconst (v := 0) hx hb dL_points_15 (by decide) ?_
  subst eσ_1
  exact rRetL hx hb hr hw (Or.inl ⟨_, _, hp9, rfl, rfl⟩) hlocks dL_points_16 (Nat.zero_le _) (Nat.zero_le _)

def rmL_teamPoints : Room := ({ frames := 8, cells := 1, slots := 6, locals := 126 } : Room)
set_option maxHeartbeats 4000000 in
set_option maxRecDepth 100000 in
theorem kL_teamPoints (l : Launch) (hlt : l.stackTraces = false) (G : Gx) (hG : gOk G) (hF : Full G) (σ : St) (x : Int32) (g n e9 z : Nat) (b : Bool) (hIv9 : CIv σ g n b e9 z)  : Met l yL_teamPoints wsL_teamPoints rmL_teamPoints (va_Pc [.ref (gad G 0), .int x, .ref (gad G 46)] (PreU G σ)) (va_Qi (fun r9 σ9 => (∃ (v9 : Int32) (τ9 : St), (fun r σ' => r = tpA σ x e9 n ∧ σ' = σ ∧ inB x 4 = true) v9 τ9 ∧ r9 = 0 ∧ σ9 = upA τ9 46 (upd (τ9 46) 0 v9)) ∨ ∃ E9 : String, (fun E => E = xIOB ∧ inB x 4 = false) E9 ∧ r9 = (1 : Int32) ∧ σ9 = σ) (BW G) (gA G)) 1 6 (gA G) := by
  refine bgL (cc := cL_teamPoints) (maxL := 4) (ret := some .int) (own := RL) (hh := [(0, 9, 12, 19)]) (by decide) rfl rfl hG (Nat.le_of_ble_eq_true rfl) rfl ?_
  intro p e s m args below meth c ls htab Bd hl
  obtain ⟨hx, hb, hr, hml, hts, hown, hlocks, fx, hw⟩ := Bd
  have hl : lv_has ls 4 [(0, .ref (gad G 0)), (1, .int x), (2, .ref (gad G 46))] := hl
  refine lv_aload_n hx hb dL_teamPoints_0 rfl (lv_at hl 2 rfl) ?_
  refine lv_iconst (v := 0) hx hb dL_teamPoints_1 (by decide) ?_
  refine lv_aload_n hx hb dL_teamPoints_2 rfl (lv_at hl 0 rfl) ?_
  refine lv_iload_n hx hb dL_teamPoints_3 rfl (lv_at hl 1 rfl) ?_
  refine rCallXI (C := RX5) (As := [.int x]) (rest := [.int 0, .ref (gad G 46)]) ⟨hx, hb, hml, hown, hts⟩ fx hw (kX5_teamPoints l hlt G hG hF σ x g n e9 z b hIv9) (cwV 1 hts gL_teamPoints_X5_teamPoints rfl rfl rfl (by decide +kernel) ⟨Nat.le_of_ble_eq_true rfl, Nat.le_of_ble_eq_true rfl⟩) (hF.1 0 (by decide)) rfl rfl rfl rfl hl.1 rfl (Nat.le_of_ble_eq_true rfl) dL_teamPoints_4 ⟨Nat.le_of_ble_eq_true rfl, Nat.le_of_ble_eq_true rfl⟩ (fun E ce q9 H locs hE hw h1 h2 h3 => ?_) ?_
  · skip
    have hE9 : E = xIOB := hE.1
    rcases hE9 with rfl
    · skip
      refine vx_catch (own := RL) (name := "java/lang/IndexOutOfBoundsException") hown (tableOf []) ⟨0, 9, 12, 19⟩ (tableOf []) htab (fun z hz => absurd hz List.not_mem_nil) rfl (by decide) (hts (.classLink RL 19 "java/lang/IndexOutOfBoundsException") (by decide +kernel)) (hCast fx hF (by decide)) h1 h2 h3 ?_
      refine lv_astore_n (lv' := (3, .ref q9) :: [(0, .ref (gad G 0)), (1, .int x), (2, .ref (gad G 46))]) hx hb dL_teamPoints_12 rfl hl (by decide) rfl (fun ls hl => ?_)
      refine lv_iconst (v := 1) hx hb dL_teamPoints_13 (by decide) ?_
      exact rRetL hx hb hr hw (Or.inr ⟨_, hE, rfl, rfl⟩) hlocks dL_teamPoints_14 (Nat.le_refl _) (Nat.le_refl _)
  intro r9 τ9 H locs hp9 hw
  refine lv_i2l hx hb dL_teamPoints_7 rfl ?_
  refine rLst (x := r9) hx hb fx hw (hF.1 46 (by decide)) hF.2.2.2.1 dL_teamPoints_8 (fun H locs hw => ?_)
  obtain ⟨σ_1, eσ_1⟩ : ∃ w9, w9 = upA τ9 46 (upd (τ9 46) 0 r9) := ⟨_, rfl⟩
  rw [← eσ_1] at hw
  refine lv_goto (tgt := 15) hx hb dL_teamPoints_9 (by decide) ?_
  refine lv_iconst (v := 0) hx hb dL_teamPoints_15 (by decide) ?_
  subst eσ_1
  exact rRetL hx hb hr hw (Or.inl ⟨_, _, hp9, rfl, rfl⟩) hlocks dL_teamPoints_16 (Nat.zero_le _) (Nat.zero_le _)

def rmL_standing : Room := ({ frames := 8, cells := 1, slots := 6, locals := 124 } : Room)
set_option maxHeartbeats 4000000 in
set_option maxRecDepth 100000 in
theorem kL_standing (l : Launch) (hlt : l.stackTraces = false) (G : Gx) (hG : gOk G) (hF : Full G) (σ : St) (x : Int32) (g n e9 z : Nat) (b : Bool) (hIv9 : CIv σ g n b e9 z)  : Met l yL_standing wsL_standing rmL_standing (va_Pc [.ref (gad G 0), .int x, .ref (gad G 46)] (PreU G σ)) (va_Qi (fun r9 σ9 => (∃ (v9 : Int32) (τ9 : St), (fun r σ' => r = nI (cntA (fun o => stB (σ 28) (σ 29) (σ 27 3) e9 o (ix x)) n) ∧ σ' = σ ∧ inB x n = true) v9 τ9 ∧ r9 = 0 ∧ σ9 = upA τ9 46 (upd (τ9 46) 0 v9)) ∨ ∃ E9 : String, (fun E => E = xIOB ∧ inB x n = false) E9 ∧ r9 = (1 : Int32) ∧ σ9 = σ) (BW G) (gA G)) 1 6 (gA G) := by
  refine bgL (cc := cL_standing) (maxL := 4) (ret := some .int) (own := RL) (hh := [(0, 9, 12, 19)]) (by decide) rfl rfl hG (Nat.le_of_ble_eq_true rfl) rfl ?_
  intro p e s m args below meth c ls htab Bd hl
  obtain ⟨hx, hb, hr, hml, hts, hown, hlocks, fx, hw⟩ := Bd
  have hl : lv_has ls 4 [(0, .ref (gad G 0)), (1, .int x), (2, .ref (gad G 46))] := hl
  refine lv_aload_n hx hb dL_standing_0 rfl (lv_at hl 2 rfl) ?_
  refine lv_iconst (v := 0) hx hb dL_standing_1 (by decide) ?_
  refine lv_aload_n hx hb dL_standing_2 rfl (lv_at hl 0 rfl) ?_
  refine lv_iload_n hx hb dL_standing_3 rfl (lv_at hl 1 rfl) ?_
  refine rCallXI (C := RX5) (As := [.int x]) (rest := [.int 0, .ref (gad G 46)]) ⟨hx, hb, hml, hown, hts⟩ fx hw (kX5_standing l hlt G hG hF σ x g n e9 z b hIv9) (cwV 1 hts gL_standing_X5_standing rfl rfl rfl (by decide +kernel) ⟨Nat.le_of_ble_eq_true rfl, Nat.le_of_ble_eq_true rfl⟩) (hF.1 0 (by decide)) rfl rfl rfl rfl hl.1 rfl (Nat.le_of_ble_eq_true rfl) dL_standing_4 ⟨Nat.le_of_ble_eq_true rfl, Nat.le_of_ble_eq_true rfl⟩ (fun E ce q9 H locs hE hw h1 h2 h3 => ?_) ?_
  · skip
    have hE9 : E = xIOB := hE.1
    rcases hE9 with rfl
    · skip
      refine vx_catch (own := RL) (name := "java/lang/IndexOutOfBoundsException") hown (tableOf []) ⟨0, 9, 12, 19⟩ (tableOf []) htab (fun z hz => absurd hz List.not_mem_nil) rfl (by decide) (hts (.classLink RL 19 "java/lang/IndexOutOfBoundsException") (by decide +kernel)) (hCast fx hF (by decide)) h1 h2 h3 ?_
      refine lv_astore_n (lv' := (3, .ref q9) :: [(0, .ref (gad G 0)), (1, .int x), (2, .ref (gad G 46))]) hx hb dL_standing_12 rfl hl (by decide) rfl (fun ls hl => ?_)
      refine lv_iconst (v := 1) hx hb dL_standing_13 (by decide) ?_
      exact rRetL hx hb hr hw (Or.inr ⟨_, hE, rfl, rfl⟩) hlocks dL_standing_14 (Nat.le_refl _) (Nat.le_refl _)
  intro r9 τ9 H locs hp9 hw
  refine lv_i2l hx hb dL_standing_7 rfl ?_
  refine rLst (x := r9) hx hb fx hw (hF.1 46 (by decide)) hF.2.2.2.1 dL_standing_8 (fun H locs hw => ?_)
  obtain ⟨σ_1, eσ_1⟩ : ∃ w9, w9 = upA τ9 46 (upd (τ9 46) 0 r9) := ⟨_, rfl⟩
  rw [← eσ_1] at hw
  refine lv_goto (tgt := 15) hx hb dL_standing_9 (by decide) ?_
  refine lv_iconst (v := 0) hx hb dL_standing_15 (by decide) ?_
  subst eσ_1
  exact rRetL hx hb hr hw (Or.inl ⟨_, _, hp9, rfl, rfl⟩) hlocks dL_standing_16 (Nat.zero_le _) (Nat.zero_le _)

def rmL_textAt : Room := ({ frames := 7, cells := 1, slots := 6, locals := 145 } : Room)
set_option maxHeartbeats 4000000 in
set_option maxRecDepth 100000 in
theorem kL_textAt (l : Launch) (hlt : l.stackTraces = false) (G : Gx) (hG : gOk G) (hF : Full G) (σ : St) (x : Int32) (g n e9 z : Nat) (b : Bool) (hIv9 : CIv σ g n b e9 z)  : Met l yL_textAt wsL_textAt rmL_textAt (va_Pc [.ref (gad G 0), .int x, .ref (gad G 46)] (PreU G σ)) (va_Qi (fun r9 σ9 => (∃ (v9 : Int32) (τ9 : St), (fun r σ' => r = (if ix x % 2 = 1 then 62 else (Int32.toUInt32 (nI (48 + fsA (fun z9 => cntA (fun o => stB (σ 28) (σ 29) (σ 27 3) e9 o z9) n) (ix x / 2) n)) % 65536).toInt32) ∧ σ' = σ ∧ inT x n = true) v9 τ9 ∧ r9 = 0 ∧ σ9 = upA τ9 46 (upd (τ9 46) 0 v9)) ∨ ∃ E9 : String, (fun E => E = xIOB ∧ inT x n = false) E9 ∧ r9 = (1 : Int32) ∧ σ9 = σ) (BW G) (gA G)) 1 6 (gA G) := by
  refine bgL (cc := cL_textAt) (maxL := 4) (ret := some .int) (own := RL) (hh := [(0, 9, 12, 19)]) (by decide) rfl rfl hG (Nat.le_of_ble_eq_true rfl) rfl ?_
  intro p e s m args below meth c ls htab Bd hl
  obtain ⟨hx, hb, hr, hml, hts, hown, hlocks, fx, hw⟩ := Bd
  have hl : lv_has ls 4 [(0, .ref (gad G 0)), (1, .int x), (2, .ref (gad G 46))] := hl
  refine lv_aload_n hx hb dL_textAt_0 rfl (lv_at hl 2 rfl) ?_
  refine lv_iconst (v := 0) hx hb dL_textAt_1 (by decide) ?_
  refine lv_aload_n hx hb dL_textAt_2 rfl (lv_at hl 0 rfl) ?_
  refine lv_iload_n hx hb dL_textAt_3 rfl (lv_at hl 1 rfl) ?_
  refine rCallXI (C := RX5) (As := [.int x]) (rest := [.int 0, .ref (gad G 46)]) ⟨hx, hb, hml, hown, hts⟩ fx hw (kX5_textAt l hlt G hG hF σ x g n e9 z b hIv9) (cwV 1 hts gL_textAt_X5_textAt rfl rfl rfl (by decide +kernel) ⟨Nat.le_of_ble_eq_true rfl, Nat.le_of_ble_eq_true rfl⟩) (hF.1 0 (by decide)) rfl rfl rfl rfl hl.1 rfl (Nat.le_of_ble_eq_true rfl) dL_textAt_4 ⟨Nat.le_of_ble_eq_true rfl, Nat.le_of_ble_eq_true rfl⟩ (fun E ce q9 H locs hE hw h1 h2 h3 => ?_) ?_
  · skip
    have hE9 : E = xIOB := hE.1
    rcases hE9 with rfl
    · skip
      refine vx_catch (own := RL) (name := "java/lang/IndexOutOfBoundsException") hown (tableOf []) ⟨0, 9, 12, 19⟩ (tableOf []) htab (fun z hz => absurd hz List.not_mem_nil) rfl (by decide) (hts (.classLink RL 19 "java/lang/IndexOutOfBoundsException") (by decide +kernel)) (hCast fx hF (by decide)) h1 h2 h3 ?_
      refine lv_astore_n (lv' := (3, .ref q9) :: [(0, .ref (gad G 0)), (1, .int x), (2, .ref (gad G 46))]) hx hb dL_textAt_12 rfl hl (by decide) rfl (fun ls hl => ?_)
      refine lv_iconst (v := 1) hx hb dL_textAt_13 (by decide) ?_
      exact rRetL hx hb hr hw (Or.inr ⟨_, hE, rfl, rfl⟩) hlocks dL_textAt_14 (Nat.le_refl _) (Nat.le_refl _)
  intro r9 τ9 H locs hp9 hw
  refine lv_i2l hx hb dL_textAt_7 rfl ?_
  refine rLst (x := r9) hx hb fx hw (hF.1 46 (by decide)) hF.2.2.2.1 dL_textAt_8 (fun H locs hw => ?_)
  obtain ⟨σ_1, eσ_1⟩ : ∃ w9, w9 = upA τ9 46 (upd (τ9 46) 0 r9) := ⟨_, rfl⟩
  rw [← eσ_1] at hw
  refine lv_goto (tgt := 15) hx hb dL_textAt_9 (by decide) ?_
  refine lv_iconst (v := 0) hx hb dL_textAt_15 (by decide) ?_
  subst eσ_1
  exact rRetL hx hb hr hw (Or.inl ⟨_, _, hp9, rfl, rfl⟩) hlocks dL_textAt_16 (Nat.zero_le _) (Nat.zero_le _)
