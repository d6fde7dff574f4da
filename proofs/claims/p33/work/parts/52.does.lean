/-! does and asks: what the class throws is turned into a number -/
def cdD (E : String) : Int32 := if E = xIOB then -30 else if E = xIAE then -20 else -10
def cdA (E : String) : Int32 := if E = xIOB then -3000 else -1000
def rmL_does_0_1 : Room := ({ frames := 8, cells := 1, slots := 6, locals := 123 } : Room)
set_option maxHeartbeats 4000000 in
set_option maxRecDepth 100000 in
theorem kL_does_0_1 (l : Launch) (hlt : l.stackTraces = false) (G : Gx) (hG : gOk G) (hF : Full G) (σ : St) (y w : Int32) (g n e9 z : Nat) (b : Bool) (hIv9 : CIv σ g n b e9 z) : CmI l yL_does wsL_does rmL_does_0_1 G σ [.ref (gad G 0), .int 0, .int 1, .int y, .int w] (fun r9 σ9 => (fun r σ' => r = nI g ∧ σ' = stGate σ true g ∧ (nev b e9 && decide (g < 12)) = true) r9 σ9 ∨ ∃ E9 : String, (fun E => E = xISE ∧ (nev b e9 && decide (g < 12)) = false) E9 ∧ r9 = cdD E9 ∧ σ9 = σ) 1 6 := by
  refine bgL (cc := cL_does) (maxL := 6) (ret := some .int) (own := RL) (hh := [(0, 136, 137, 45), (0, 136, 142, 47), (0, 136, 147, 49)]) (by decide) rfl rfl hG (Nat.le_of_ble_eq_true rfl) rfl ?_
  intro p e s m args below meth c ls htab Bd hl
  obtain ⟨hx, hb, hr, hml, hts, hown, hlocks, fx, hw⟩ := Bd
  have hl : lv_has ls 6 [(0, .ref (gad G 0)), (1, .int 0), (2, .int 1), (3, .int y), (4, .int w)] := hl
  refine lv_iload_n hx hb dL_does_0 rfl (lv_at hl 1 rfl) ?_
  refine lv_if_ne (tgt := 21) hx hb dL_does_1 (by decide) (fun c_1 => ?_) (fun c_1 => ?_)
  · skip
    exact absurd c_1 (by decide)
  · skip
    refine lv_aload_n hx hb dL_does_4 rfl (lv_at hl 0 rfl) ?_
    refine lv_iload_n hx hb dL_does_5 rfl (lv_at hl 2 rfl) ?_
    refine lv_iconst (v := 1) hx hb dL_does_6 (by decide) ?_
    refine lv_icmp_ne (tgt := 14) hx hb dL_does_7 (by decide) (fun c_2 => ?_) (fun c_2 => ?_)
    · skip
      exact absurd c_2 (by decide)
    · skip
      refine lv_iconst (v := 1) hx hb dL_does_10 (by decide) ?_
      refine lv_goto (tgt := 15) hx hb dL_does_11 (by decide) ?_
      refine rCallXI (C := RX5) (As := [.int (bI true)]) (rest := []) ⟨hx, hb, hml, hown, hts⟩ fx hw (kX5_addGate l hlt G hG hF σ true g n e9 z b hIv9) (cwV 1 hts gL_does_X5_addGate rfl rfl rfl (by decide +kernel) ⟨Nat.le_of_ble_eq_true rfl, Nat.le_of_ble_eq_true rfl⟩) (hF.1 0 (by decide)) rfl rfl rfl rfl hl.1 rfl (Nat.le_of_ble_eq_true rfl) dL_does_15 ⟨Nat.le_of_ble_eq_true rfl, Nat.le_of_ble_eq_true rfl⟩ (fun E ce q9 H locs hE hw h1 h2 h3 => ?_) ?_
      · skip
        have e9 := hE.1; subst e9
        have hpas : ∀ z ∈ tableOf [(0, 136, 137, 45), (0, 136, 142, 47)], covers z 15 = false ∨ (z.catchType ≠ 0 ∧ ∃ nm : String, (Cond.classLink RL z.catchType nm).before args s = true ∧ va_Nc "java/lang/IllegalStateException" nm s) := by
          intro z hz
          rcases List.mem_cons.mp hz with rfl | hz
          · exact Or.inr ⟨by decide, "java/lang/IndexOutOfBoundsException", hts (.classLink RL 45 "java/lang/IndexOutOfBoundsException") (by decide +kernel), hNot fx hF (by decide) (by decide) (by decide)⟩
          rcases List.mem_cons.mp hz with rfl | hz
          · exact Or.inr ⟨by decide, "java/lang/IllegalArgumentException", hts (.classLink RL 47 "java/lang/IllegalArgumentException") (by decide +kernel), hNot fx hF (by decide) (by decide) (by decide)⟩
          exact absurd hz List.not_mem_nil
        refine vx_catch (own := RL) (name := "java/lang/IllegalStateException") hown (tableOf [(0, 136, 137, 45), (0, 136, 142, 47)]) ⟨0, 136, 147, 49⟩ (tableOf []) htab hpas rfl (by decide) (hts (.classLink RL 49 "java/lang/IllegalStateException") (by decide +kernel)) (hCast fx hF (by decide)) h1 h2 h3 ?_
        refine lv_astore (lv' := (5, .ref q9) :: [(0, .ref (gad G 0)), (1, .int 0), (2, .int 1), (3, .int y), (4, .int w)]) hx hb dL_does_147 hl (by decide) rfl (fun ls hl => ?_)
        refine lv_bipush (v := (-10)) hx hb dL_does_149 (by decide) ?_
        exact rRetIw hx hb hr hw (Or.inr ⟨_, hE, by decide, rfl⟩) hlocks dL_does_151 (Nat.le_refl _) (Nat.le_refl _)
      intro r9 τ9 H locs hp9 hw
      refine lv_goto (tgt := 136) hx hb dL_does_18 (by decide) ?_
      exact rRetIw hx hb hr hw (Or.inl hp9) hlocks dL_does_136 (Nat.zero_le _) (Nat.zero_le _)

def rmL_does_0_0 : Room := ({ frames := 8, cells := 1, slots := 6, locals := 123 } : Room)
set_option maxHeartbeats 4000000 in
set_option maxRecDepth 100000 in
theorem kL_does_0_0 (l : Launch) (hlt : l.stackTraces = false) (G : Gx) (hG : gOk G) (hF : Full G) (σ : St) (y w : Int32) (g n e9 z : Nat) (b : Bool) (hIv9 : CIv σ g n b e9 z) : CmI l yL_does wsL_does rmL_does_0_0 G σ [.ref (gad G 0), .int 0, .int 0, .int y, .int w] (fun r9 σ9 => (fun r σ' => r = nI g ∧ σ' = stGate σ false g ∧ (nev b e9 && decide (g < 12)) = true) r9 σ9 ∨ ∃ E9 : String, (fun E => E = xISE ∧ (nev b e9 && decide (g < 12)) = false) E9 ∧ r9 = cdD E9 ∧ σ9 = σ) 1 6 := by
  refine bgL (cc := cL_does) (maxL := 6) (ret := some .int) (own := RL) (hh := [(0, 136, 137, 45), (0, 136, 142, 47), (0, 136, 147, 49)]) (by decide) rfl rfl hG (Nat.le_of_ble_eq_true rfl) rfl ?_
  intro p e s m args below meth c ls htab Bd hl
  obtain ⟨hx, hb, hr, hml, hts, hown, hlocks, fx, hw⟩ := Bd
  have hl : lv_has ls 6 [(0, .ref (gad G 0)), (1, .int 0), (2, .int 0), (3, .int y), (4, .int w)] := hl
  refine lv_iload_n hx hb dL_does_0 rfl (lv_at hl 1 rfl) ?_
  refine lv_if_ne (tgt := 21) hx hb dL_does_1 (by decide) (fun c_1 => ?_) (fun c_1 => ?_)
  · skip
    exact absurd c_1 (by decide)
  · skip
    refine lv_aload_n hx hb dL_does_4 rfl (lv_at hl 0 rfl) ?_
    refine lv_iload_n hx hb dL_does_5 rfl (lv_at hl 2 rfl) ?_
    refine lv_iconst (v := 1) hx hb dL_does_6 (by decide) ?_
    refine lv_icmp_ne (tgt := 14) hx hb dL_does_7 (by decide) (fun c_2 => ?_) (fun c_2 => ?_)
    · skip
      refine lv_iconst (v := 0) hx hb dL_does_14 (by decide) ?_
      refine rCallXI (C := RX5) (As := [.int (bI false)]) (rest := []) ⟨hx, hb, hml, hown, hts⟩ fx hw (kX5_addGate l hlt G hG hF σ false g n e9 z b hIv9) (cwV 1 hts gL_does_X5_addGate rfl rfl rfl (by decide +kernel) ⟨Nat.le_of_ble_eq_true rfl, Nat.le_of_ble_eq_true rfl⟩) (hF.1 0 (by decide)) rfl rfl rfl rfl hl.1 rfl (Nat.le_of_ble_eq_true rfl) dL_does_15 ⟨Nat.le_of_ble_eq_true rfl, Nat.le_of_ble_eq_true rfl⟩ (fun E ce q9 H locs hE hw h1 h2 h3 => ?_) ?_
      · skip
        have e9 := hE.1; subst e9
        have hpas : ∀ z ∈ tableOf [(0, 136, 137, 45), (0, 136, 142, 47)], covers z 15 = false ∨ (z.catchType ≠ 0 ∧ ∃ nm : String, (Cond.classLink RL z.catchType nm).before args s = true ∧ va_Nc "java/lang/IllegalStateException" nm s) := by
          intro z hz
          rcases List.mem_cons.mp hz with rfl | hz
          · exact Or.inr ⟨by decide, "java/lang/IndexOutOfBoundsException", hts (.classLink RL 45 "java/lang/IndexOutOfBoundsException") (by decide +kernel), hNot fx hF (by decide) (by decide) (by decide)⟩
          rcases List.mem_cons.mp hz with rfl | hz
          · exact Or.inr ⟨by decide, "java/lang/IllegalArgumentException", hts (.classLink RL 47 "java/lang/IllegalArgumentException") (by decide +kernel), hNot fx hF (by decide) (by decide) (by decide)⟩
          exact absurd hz List.not_mem_nil
        refine vx_catch (own := RL) (name := "java/lang/IllegalStateException") hown (tableOf [(0, 136, 137, 45), (0, 136, 142, 47)]) ⟨0, 136, 147, 49⟩ (tableOf []) htab hpas rfl (by decide) (hts (.classLink RL 49 "java/lang/IllegalStateException") (by decide +kernel)) (hCast fx hF (by decide)) h1 h2 h3 ?_
        refine lv_astore (lv' := (5, .ref q9) :: [(0, .ref (gad G 0)), (1, .int 0), (2, .int 0), (3, .int y), (4, .int w)]) hx hb dL_does_147 hl (by decide) rfl (fun ls hl => ?_)
        refine lv_bipush (v := (-10)) hx hb dL_does_149 (by decide) ?_
        exact rRetIw hx hb hr hw (Or.inr ⟨_, hE, by decide, rfl⟩) hlocks dL_does_151 (Nat.le_refl _) (Nat.le_refl _)
      intro r9 τ9 H locs hp9 hw
      refine lv_goto (tgt := 136) hx hb dL_does_18 (by decide) ?_
      exact rRetIw hx hb hr hw (Or.inl hp9) hlocks dL_does_136 (Nat.zero_le _) (Nat.zero_le _)
    · skip
      exact absurd c_2 (by decide)

def rmL_does_1 : Room := ({ frames := 8, cells := 1, slots := 6, locals := 136 } : Room)
set_option maxHeartbeats 4000000 in
set_option maxRecDepth 100000 in
theorem kL_does_1 (l : Launch) (hlt : l.stackTraces = false) (G : Gx) (hG : gOk G) (hF : Full G) (σ : St) (x y w : Int32) (g n e9 z : Nat) (b : Bool) (hIv9 : CIv σ g n b e9 z) : CmI l yL_does wsL_does rmL_does_1 G σ [.ref (gad G 0), .int 1, .int x, .int y, .int w] (fun r9 σ9 => (fun r σ' => r = (if σ 2 (ix x * 12 + ix y) = 0 then -1 else σ 2 (ix x * 12 + ix y)) ∧ σ' = wySt σ g (ix x) (ix y) w ∧ (inB x g && inB y g) = true ∧ rgtB x y w = true ∧ nev b e9 = true) r9 σ9 ∨ ∃ E9 : String, (fun E => (E = xIOB ∧ (inB x g && inB y g) = false) ∨ (E = xIAE ∧ (inB x g && inB y g) = true ∧ rgtB x y w = false) ∨ (E = xISE ∧ (inB x g && inB y g) = true ∧ rgtB x y w = true ∧ nev b e9 = false)) E9 ∧ r9 = cdD E9 ∧ σ9 = σ) 1 6 := by
  refine bgL (cc := cL_does) (maxL := 6) (ret := some .int) (own := RL) (hh := [(0, 136, 137, 45), (0, 136, 142, 47), (0, 136, 147, 49)]) (by decide) rfl rfl hG (Nat.le_of_ble_eq_true rfl) rfl ?_
  intro p e s m args below meth c ls htab Bd hl
  obtain ⟨hx, hb, hr, hml, hts, hown, hlocks, fx, hw⟩ := Bd
  have hl : lv_has ls 6 [(0, .ref (gad G 0)), (1, .int 1), (2, .int x), (3, .int y), (4, .int w)] := hl
  refine lv_iload_n hx hb dL_does_0 rfl (lv_at hl 1 rfl) ?_
  refine lv_if_ne (tgt := 21) hx hb dL_does_1 (by decide) (fun c_1 => ?_) (fun c_1 => ?_)
  · skip
    refine lv_iload_n hx hb dL_does_21 rfl (lv_at hl 1 rfl) ?_
    refine lv_iconst (v := 1) hx hb dL_does_22 (by decide) ?_
    refine lv_icmp_ne (tgt := 37) hx hb dL_does_23 (by decide) (fun c_2 => ?_) (fun c_2 => ?_)
    · skip
      exact absurd c_2 (by decide)
    · skip
      refine lv_aload_n hx hb dL_does_26 rfl (lv_at hl 0 rfl) ?_
      refine lv_iload_n hx hb dL_does_27 rfl (lv_at hl 2 rfl) ?_
      refine lv_iload_n hx hb dL_does_28 rfl (lv_at hl 3 rfl) ?_
      refine lv_iload hx hb dL_does_29 (lv_at hl 4 rfl) ?_
      refine rCallXI (C := RX5) (As := [.int x, .int y, .int w]) (rest := []) ⟨hx, hb, hml, hown, hts⟩ fx hw (kX5_addWay l hlt G hG hF σ x y w g n e9 z b hIv9) (cwV 3 hts gL_does_X5_addWay rfl rfl rfl (by decide +kernel) ⟨Nat.le_of_ble_eq_true rfl, Nat.le_of_ble_eq_true rfl⟩) (hF.1 0 (by decide)) rfl rfl rfl rfl hl.1 rfl (Nat.le_of_ble_eq_true rfl) dL_does_31 ⟨Nat.le_of_ble_eq_true rfl, Nat.le_of_ble_eq_true rfl⟩ (fun E ce q9 H locs hE hw h1 h2 h3 => ?_) ?_
      · skip
        rcases hE with hE | hE | hE
        · skip
          have e9 := hE.1; subst e9
          refine vx_catch (own := RL) (name := "java/lang/IndexOutOfBoundsException") hown (tableOf []) ⟨0, 136, 137, 45⟩ (tableOf [(0, 136, 142, 47), (0, 136, 147, 49)]) htab (fun z hz => absurd hz List.not_mem_nil) rfl (by decide) (hts (.classLink RL 45 "java/lang/IndexOutOfBoundsException") (by decide +kernel)) (hCast fx hF (by decide)) h1 h2 h3 ?_
          refine lv_astore (lv' := (5, .ref q9) :: [(0, .ref (gad G 0)), (1, .int 1), (2, .int x), (3, .int y), (4, .int w)]) hx hb dL_does_137 hl (by decide) rfl (fun ls hl => ?_)
          refine lv_bipush (v := (-30)) hx hb dL_does_139 (by decide) ?_
          exact rRetIw hx hb hr hw (Or.inr ⟨_, Or.inl hE, by decide, rfl⟩) hlocks dL_does_141 (Nat.le_refl _) (Nat.le_refl _)
        · skip
          have e9 := hE.1; subst e9
          have hpas : ∀ z ∈ tableOf [(0, 136, 137, 45)], covers z 31 = false ∨ (z.catchType ≠ 0 ∧ ∃ nm : String, (Cond.classLink RL z.catchType nm).before args s = true ∧ va_Nc "java/lang/IllegalArgumentException" nm s) := by
            intro z hz
            rcases List.mem_cons.mp hz with rfl | hz
            · exact Or.inr ⟨by decide, "java/lang/IndexOutOfBoundsException", hts (.classLink RL 45 "java/lang/IndexOutOfBoundsException") (by decide +kernel), hNot fx hF (by decide) (by decide) (by decide)⟩
            exact absurd hz List.not_mem_nil
          refine vx_catch (own := RL) (name := "java/lang/IllegalArgumentException") hown (tableOf [(0, 136, 137, 45)]) ⟨0, 136, 142, 47⟩ (tableOf [(0, 136, 147, 49)]) htab hpas rfl (by decide) (hts (.classLink RL 47 "java/lang/IllegalArgumentException") (by decide +kernel)) (hCast fx hF (by decide)) h1 h2 h3 ?_
          refine lv_astore (lv' := (5, .ref q9) :: [(0, .ref (gad G 0)), (1, .int 1), (2, .int x), (3, .int y), (4, .int w)]) hx hb dL_does_142 hl (by decide) rfl (fun ls hl => ?_)
          refine lv_bipush (v := (-20)) hx hb dL_does_144 (by decide) ?_
          exact rRetIw hx hb hr hw (Or.inr ⟨_, Or.inr (Or.inl hE), by decide, rfl⟩) hlocks dL_does_146 (Nat.le_refl _) (Nat.le_refl _)
        · skip
          have e9 := hE.1; subst e9
          have hpas : ∀ z ∈ tableOf [(0, 136, 137, 45), (0, 136, 142, 47)], covers z 31 = false ∨ (z.catchType ≠ 0 ∧ ∃ nm : String, (Cond.classLink RL z.catchType nm).before args s = true ∧ va_Nc "java/lang/IllegalStateException" nm s) := by
            intro z hz
            rcases List.mem_cons.mp hz with rfl | hz
            · exact Or.inr ⟨by decide, "java/lang/IndexOutOfBoundsException", hts (.classLink RL 45 "java/lang/IndexOutOfBoundsException") (by decide +kernel), hNot fx hF (by decide) (by decide) (by decide)⟩
            rcases List.mem_cons.mp hz with rfl | hz
            · exact Or.inr ⟨by decide, "java/lang/IllegalArgumentException", hts (.classLink RL 47 "java/lang/IllegalArgumentException") (by decide +kernel), hNot fx hF (by decide) (by decide) (by decide)⟩
            exact absurd hz List.not_mem_nil
          refine vx_catch (own := RL) (name := "java/lang/IllegalStateException") hown (tableOf [(0, 136, 137, 45), (0, 136, 142, 47)]) ⟨0, 136, 147, 49⟩ (tableOf []) htab hpas rfl (by decide) (hts (.classLink RL 49 "java/lang/IllegalStateException") (by decide +kernel)) (hCast fx hF (by decide)) h1 h2 h3 ?_
          refine lv_astore (lv' := (5, .ref q9) :: [(0, .ref (gad G 0)), (1, .int 1), (2, .int x), (3, .int y), (4, .int w)]) hx hb dL_does_147 hl (by decide) rfl (fun ls hl => ?_)
          refine lv_bipush (v := (-10)) hx hb dL_does_149 (by decide) ?_
          exact rRetIw hx hb hr hw (Or.inr ⟨_, Or.inr (Or.inr (hE)), by decide, rfl⟩) hlocks dL_does_151 (Nat.le_refl _) (Nat.le_refl _)
      intro r9 τ9 H locs hp9 hw
      refine lv_goto (tgt := 136) hx hb dL_does_34 (by decide) ?_
      exact rRetIw hx hb hr hw (Or.inl hp9) hlocks dL_does_136 (Nat.zero_le _) (Nat.zero_le _)
  · skip
    exact absurd c_1 (by decide)

def rmL_does_2 : Room := ({ frames := 8, cells := 1, slots := 6, locals := 125 } : Room)
set_option maxHeartbeats 4000000 in
set_option maxRecDepth 100000 in
theorem kL_does_2 (l : Launch) (hlt : l.stackTraces = false) (G : Gx) (hG : gOk G) (hF : Full G) (σ : St) (x y w : Int32) (g n e9 z : Nat) (b : Bool) (hIv9 : CIv σ g n b e9 z) : CmI l yL_does wsL_does rmL_does_2 G σ [.ref (gad G 0), .int 2, .int x, .int y, .int w] (fun r9 σ9 => (fun r σ' => r = nI n ∧ σ' = ktSt σ n x ∧ inB x 4 = true ∧ (nev b e9 && decide (n < 6)) = true) r9 σ9 ∨ ∃ E9 : String, (fun E => (E = xIOB ∧ inB x 4 = false) ∨ (E = xISE ∧ inB x 4 = true ∧ (nev b e9 && decide (n < 6)) = false)) E9 ∧ r9 = cdD E9 ∧ σ9 = σ) 1 6 := by
  refine bgL (cc := cL_does) (maxL := 6) (ret := some .int) (own := RL) (hh := [(0, 136, 137, 45), (0, 136, 142, 47), (0, 136, 147, 49)]) (by decide) rfl rfl hG (Nat.le_of_ble_eq_true rfl) rfl ?_
  intro p e s m args below meth c ls htab Bd hl
  obtain ⟨hx, hb, hr, hml, hts, hown, hlocks, fx, hw⟩ := Bd
  have hl : lv_has ls 6 [(0, .ref (gad G 0)), (1, .int 2), (2, .int x), (3, .int y), (4, .int w)] := hl
  refine lv_iload_n hx hb dL_does_0 rfl (lv_at hl 1 rfl) ?_
  refine lv_if_ne (tgt := 21) hx hb dL_does_1 (by decide) (fun c_1 => ?_) (fun c_1 => ?_)
  · skip
    refine lv_iload_n hx hb dL_does_21 rfl (lv_at hl 1 rfl) ?_
    refine lv_iconst (v := 1) hx hb dL_does_22 (by decide) ?_
    refine lv_icmp_ne (tgt := 37) hx hb dL_does_23 (by decide) (fun c_2 => ?_) (fun c_2 => ?_)
    · skip
      refine lv_iload_n hx hb dL_does_37 rfl (lv_at hl 1 rfl) ?_
      refine lv_iconst (v := 2) hx hb dL_does_38 (by decide) ?_
      refine lv_icmp_ne (tgt := 50) hx hb dL_does_39 (by decide) (fun c_3 => ?_) (fun c_3 => ?_)
      · skip
        exact absurd c_3 (by decide)
      · skip
        refine lv_aload_n hx hb dL_does_42 rfl (lv_at hl 0 rfl) ?_
        refine lv_iload_n hx hb dL_does_43 rfl (lv_at hl 2 rfl) ?_
        refine rCallXI (C := RX5) (As := [.int x]) (rest := []) ⟨hx, hb, hml, hown, hts⟩ fx hw (kX5_addKart l hlt G hG hF σ x g n e9 z b hIv9) (cwV 1 hts gL_does_X5_addKart rfl rfl rfl (by decide +kernel) ⟨Nat.le_of_ble_eq_true rfl, Nat.le_of_ble_eq_true rfl⟩) (hF.1 0 (by decide)) rfl rfl rfl rfl hl.1 rfl (Nat.le_of_ble_eq_true rfl) dL_does_44 ⟨Nat.le_of_ble_eq_true rfl, Nat.le_of_ble_eq_true rfl⟩ (fun E ce q9 H locs hE hw h1 h2 h3 => ?_) ?_
        · skip
          rcases hE with hE | hE
          · skip
            have e9 := hE.1; subst e9
            refine vx_catch (own := RL) (name := "java/lang/IndexOutOfBoundsException") hown (tableOf []) ⟨0, 136, 137, 45⟩ (tableOf [(0, 136, 142, 47), (0, 136, 147, 49)]) htab (fun z hz => absurd hz List.not_mem_nil) rfl (by decide) (hts (.classLink RL 45 "java/lang/IndexOutOfBoundsException") (by decide +kernel)) (hCast fx hF (by decide)) h1 h2 h3 ?_
            refine lv_astore (lv' := (5, .ref q9) :: [(0, .ref (gad G 0)), (1, .int 2), (2, .int x), (3, .int y), (4, .int w)]) hx hb dL_does_137 hl (by decide) rfl (fun ls hl => ?_)
            refine lv_bipush (v := (-30)) hx hb dL_does_139 (by decide) ?_
            exact rRetIw hx hb hr hw (Or.inr ⟨_, Or.inl hE, by decide, rfl⟩) hlocks dL_does_141 (Nat.le_refl _) (Nat.le_refl _)
          · skip
            have e9 := hE.1; subst e9
            have hpas : ∀ z ∈ tableOf [(0, 136, 137, 45), (0, 136, 142, 47)], covers z 44 = false ∨ (z.catchType ≠ 0 ∧ ∃ nm : String, (Cond.classLink RL z.catchType nm).before args s = true ∧ va_Nc "java/lang/IllegalStateException" nm s) := by
              intro z hz
              rcases List.mem_cons.mp hz with rfl | hz
              · exact Or.inr ⟨by decide, "java/lang/IndexOutOfBoundsException", hts (.classLink RL 45 "java/lang/IndexOutOfBoundsException") (by decide +kernel), hNot fx hF (by decide) (by decide) (by decide)⟩
              rcases List.mem_cons.mp hz with rfl | hz
              · exact Or.inr ⟨by decide, "java/lang/IllegalArgumentException", hts (.classLink RL 47 "java/lang/IllegalArgumentException") (by decide +kernel), hNot fx hF (by decide) (by decide) (by decide)⟩
              exact absurd hz List.not_mem_nil
            refine vx_catch (own := RL) (name := "java/lang/IllegalStateException") hown (tableOf [(0, 136, 137, 45), (0, 136, 142, 47)]) ⟨0, 136, 147, 49⟩ (tableOf []) htab hpas rfl (by decide) (hts (.classLink RL 49 "java/lang/IllegalStateException") (by decide +kernel)) (hCast fx hF (by decide)) h1 h2 h3 ?_
            refine lv_astore (lv' := (5, .ref q9) :: [(0, .ref (gad G 0)), (1, .int 2), (2, .int x), (3, .int y), (4, .int w)]) hx hb dL_does_147 hl (by decide) rfl (fun ls hl => ?_)
            refine lv_bipush (v := (-10)) hx hb dL_does_149 (by decide) ?_
            exact rRetIw hx hb hr hw (Or.inr ⟨_, Or.inr (hE), by decide, rfl⟩) hlocks dL_does_151 (Nat.le_refl _) (Nat.le_refl _)
        intro r9 τ9 H locs hp9 hw
        refine lv_goto (tgt := 136) hx hb dL_does_47 (by decide) ?_
        exact rRetIw hx hb hr hw (Or.inl hp9) hlocks dL_does_136 (Nat.zero_le _) (Nat.zero_le _)
    · skip
      exact absurd c_2 (by decide)
  · skip
    exact absurd c_1 (by decide)

def rmL_does_3 : Room := ({ frames := 7, cells := 1, slots := 6, locals := 108 } : Room)
set_option maxHeartbeats 4000000 in
set_option maxRecDepth 100000 in
theorem kL_does_3 (l : Launch) (hlt : l.stackTraces = false) (G : Gx) (hG : gOk G) (hF : Full G) (σ : St) (x y w : Int32) (g n e9 z : Nat) (b : Bool) (hIv9 : CIv σ g n b e9 z) : CmI l yL_does wsL_does rmL_does_3 G σ [.ref (gad G 0), .int 3, .int x, .int y, .int w] (fun r9 σ9 => (fun r σ' => r = nI e9 ∧ σ' = srSt σ n x ∧ inR x 1 9 = true ∧ (!b && decide (e9 < 8) && decide (0 < n) && !deadB (σ 2) g) = true) r9 σ9 ∨ ∃ E9 : String, (fun E => (E = xIAE ∧ inR x 1 9 = false) ∨ (E = xISE ∧ inR x 1 9 = true ∧ (!b && decide (e9 < 8) && decide (0 < n) && !deadB (σ 2) g) = false)) E9 ∧ r9 = cdD E9 ∧ σ9 = σ) 1 6 := by
  refine bgL (cc := cL_does) (maxL := 6) (ret := some .int) (own := RL) (hh := [(0, 136, 137, 45), (0, 136, 142, 47), (0, 136, 147, 49)]) (by decide) rfl rfl hG (Nat.le_of_ble_eq_true rfl) rfl ?_
  intro p e s m args below meth c ls htab Bd hl
  obtain ⟨hx, hb, hr, hml, hts, hown, hlocks, fx, hw⟩ := Bd
  have hl : lv_has ls 6 [(0, .ref (gad G 0)), (1, .int 3), (2, .int x), (3, .int y), (4, .int w)] := hl
  refine lv_iload_n hx hb dL_does_0 rfl (lv_at hl 1 rfl) ?_
  refine lv_if_ne (tgt := 21) hx hb dL_does_1 (by decide) (fun c_1 => ?_) (fun c_1 => ?_)
  · skip
    refine lv_iload_n hx hb dL_does_21 rfl (lv_at hl 1 rfl) ?_
    refine lv_iconst (v := 1) hx hb dL_does_22 (by decide) ?_
    refine lv_icmp_ne (tgt := 37) hx hb dL_does_23 (by decide) (fun c_2 => ?_) (fun c_2 => ?_)
    · skip
      refine lv_iload_n hx hb dL_does_37 rfl (lv_at hl 1 rfl) ?_
      refine lv_iconst (v := 2) hx hb dL_does_38 (by decide) ?_
      refine lv_icmp_ne (tgt := 50) hx hb dL_does_39 (by decide) (fun c_3 => ?_) (fun c_3 => ?_)
      · skip
        refine lv_iload_n hx hb dL_does_50 rfl (lv_at hl 1 rfl) ?_
        refine lv_iconst (v := 3) hx hb dL_does_51 (by decide) ?_
        refine lv_icmp_ne (tgt := 63) hx hb dL_does_52 (by decide) (fun c_4 => ?_) (fun c_4 => ?_)
        · skip
          exact absurd c_4 (by decide)
        · skip
          refine lv_aload_n hx hb dL_does_55 rfl (lv_at hl 0 rfl) ?_
          refine lv_iload_n hx hb dL_does_56 rfl (lv_at hl 2 rfl) ?_
          refine rCallXI (C := RX5) (As := [.int x]) (rest := []) ⟨hx, hb, hml, hown, hts⟩ fx hw (kX5_start l hlt G hG hF σ x g n e9 z b hIv9) (cwV 1 hts gL_does_X5_start rfl rfl rfl (by decide +kernel) ⟨Nat.le_of_ble_eq_true rfl, Nat.le_of_ble_eq_true rfl⟩) (hF.1 0 (by decide)) rfl rfl rfl rfl hl.1 rfl (Nat.le_of_ble_eq_true rfl) dL_does_57 ⟨Nat.le_of_ble_eq_true rfl, Nat.le_of_ble_eq_true rfl⟩ (fun E ce q9 H locs hE hw h1 h2 h3 => ?_) ?_
          · skip
            rcases hE with hE | hE
            · skip
              have e9 := hE.1; subst e9
              have hpas : ∀ z ∈ tableOf [(0, 136, 137, 45)], covers z 57 = false ∨ (z.catchType ≠ 0 ∧ ∃ nm : String, (Cond.classLink RL z.catchType nm).before args s = true ∧ va_Nc "java/lang/IllegalArgumentException" nm s) := by
                intro z hz
                rcases List.mem_cons.mp hz with rfl | hz
                · exact Or.inr ⟨by decide, "java/lang/IndexOutOfBoundsException", hts (.classLink RL 45 "java/lang/IndexOutOfBoundsException") (by decide +kernel), hNot fx hF (by decide) (by decide) (by decide)⟩
                exact absurd hz List.not_mem_nil
              refine vx_catch (own := RL) (name := "java/lang/IllegalArgumentException") hown (tableOf [(0, 136, 137, 45)]) ⟨0, 136, 142, 47⟩ (tableOf [(0, 136, 147, 49)]) htab hpas rfl (by decide) (hts (.classLink RL 47 "java/lang/IllegalArgumentException") (by decide +kernel)) (hCast fx hF (by decide)) h1 h2 h3 ?_
              refine lv_astore (lv' := (5, .ref q9) :: [(0, .ref (gad G 0)), (1, .int 3), (2, .int x), (3, .int y), (4, .int w)]) hx hb dL_does_142 hl (by decide) rfl (fun ls hl => ?_)
              refine lv_bipush (v := (-20)) hx hb dL_does_144 (by decide) ?_
              exact rRetIw hx hb hr hw (Or.inr ⟨_, Or.inl hE, by decide, rfl⟩) hlocks dL_does_146 (Nat.le_refl _) (Nat.le_refl _)
            · skip
              have e9 := hE.1; subst e9
              have hpas : ∀ z ∈ tableOf [(0, 136, 137, 45), (0, 136, 142, 47)], covers z 57 = false ∨ (z.catchType ≠ 0 ∧ ∃ nm : String, (Cond.classLink RL z.catchType nm).before args s = true ∧ va_Nc "java/lang/IllegalStateException" nm s) := by
                intro z hz
                rcases List.mem_cons.mp hz with rfl | hz
                · exact Or.inr ⟨by decide, "java/lang/IndexOutOfBoundsException", hts (.classLink RL 45 "java/lang/IndexOutOfBoundsException") (by decide +kernel), hNot fx hF (by decide) (by decide) (by decide)⟩
                rcases List.mem_cons.mp hz with rfl | hz
                · exact Or.inr ⟨by decide, "java/lang/IllegalArgumentException", hts (.classLink RL 47 "java/lang/IllegalArgumentException") (by decide +kernel), hNot fx hF (by decide) (by decide) (by decide)⟩
                exact absurd hz List.not_mem_nil
              refine vx_catch (own := RL) (name := "java/lang/IllegalStateException") hown (tableOf [(0, 136, 137, 45), (0, 136, 142, 47)]) ⟨0, 136, 147, 49⟩ (tableOf []) htab hpas rfl (by decide) (hts (.classLink RL 49 "java/lang/IllegalStateException") (by decide +kernel)) (hCast fx hF (by decide)) h1 h2 h3 ?_
              refine lv_astore (lv' := (5, .ref q9) :: [(0, .ref (gad G 0)), (1, .int 3), (2, .int x), (3, .int y), (4, .int w)]) hx hb dL_does_147 hl (by decide) rfl (fun ls hl => ?_)
              refine lv_bipush (v := (-10)) hx hb dL_does_149 (by decide) ?_
              exact rRetIw hx hb hr hw (Or.inr ⟨_, Or.inr (hE), by decide, rfl⟩) hlocks dL_does_151 (Nat.le_refl _) (Nat.le_refl _)
          intro r9 τ9 H locs hp9 hw
          refine lv_goto (tgt := 136) hx hb dL_does_60 (by decide) ?_
          exact rRetIw hx hb hr hw (Or.inl hp9) hlocks dL_does_136 (Nat.zero_le _) (Nat.zero_le _)
      · skip
        exact absurd c_3 (by decide)
    · skip
      exact absurd c_2 (by decide)
  · skip
    exact absurd c_1 (by decide)

def rmL_does_4 : Room := ({ frames := 9, cells := 1, slots := 6, locals := 145 } : Room)
set_option maxHeartbeats 4000000 in
set_option maxRecDepth 100000 in
theorem kL_does_4 (l : Launch) (hlt : l.stackTraces = false) (G : Gx) (hG : gOk G) (hF : Full G) (σ : St) (x y w : Int32) (g n e9 z : Nat) (b : Bool) (hIv9 : CIv σ g n b e9 z) : CmI l yL_does wsL_does rmL_does_4 G σ [.ref (gad G 0), .int 4, .int x, .int y, .int w] (fun r9 σ9 => (fun r σ' => r = mvR (noSt σ z (ix x) (ix y)) 4 (ix x) (ix y) ∧ σ' = mvS (noSt σ z (ix x) (ix y)) 4 (ix x) (ix y) ∧ (inB x n && inB y g) = true ∧ canP σ b z (ix x) (ix y) = true) r9 σ9 ∨ ∃ E9 : String, (fun E => (E = xIOB ∧ (inB x n && inB y g) = false) ∨ (E = xISE ∧ (inB x n && inB y g) = true ∧ canP σ b z (ix x) (ix y) = false)) E9 ∧ r9 = cdD E9 ∧ σ9 = σ) 1 6 := by
  refine bgL (cc := cL_does) (maxL := 6) (ret := some .int) (own := RL) (hh := [(0, 136, 137, 45), (0, 136, 142, 47), (0, 136, 147, 49)]) (by decide) rfl rfl hG (Nat.le_of_ble_eq_true rfl) rfl ?_
  intro p e s m args below meth c ls htab Bd hl
  obtain ⟨hx, hb, hr, hml, hts, hown, hlocks, fx, hw⟩ := Bd
  have hl : lv_has ls 6 [(0, .ref (gad G 0)), (1, .int 4), (2, .int x), (3, .int y), (4, .int w)] := hl
  refine lv_iload_n hx hb dL_does_0 rfl (lv_at hl 1 rfl) ?_
  refine lv_if_ne (tgt := 21) hx hb dL_does_1 (by decide) (fun c_1 => ?_) (fun c_1 => ?_)
  · skip
    refine lv_iload_n hx hb dL_does_21 rfl (lv_at hl 1 rfl) ?_
    refine lv_iconst (v := 1) hx hb dL_does_22 (by decide) ?_
    refine lv_icmp_ne (tgt := 37) hx hb dL_does_23 (by decide) (fun c_2 => ?_) (fun c_2 => ?_)
    · skip
      refine lv_iload_n hx hb dL_does_37 rfl (lv_at hl 1 rfl) ?_
      refine lv_iconst (v := 2) hx hb dL_does_38 (by decide) ?_
      refine lv_icmp_ne (tgt := 50) hx hb dL_does_39 (by decide) (fun c_3 => ?_) (fun c_3 => ?_)
      · skip
        refine lv_iload_n hx hb dL_does_50 rfl (lv_at hl 1 rfl) ?_
        refine lv_iconst (v := 3) hx hb dL_does_51 (by decide) ?_
        refine lv_icmp_ne (tgt := 63) hx hb dL_does_52 (by decide) (fun c_4 => ?_) (fun c_4 => ?_)
        · skip
          refine lv_iload_n hx hb dL_does_63 rfl (lv_at hl 1 rfl) ?_
          refine lv_iconst (v := 4) hx hb dL_does_64 (by decide) ?_
          refine lv_icmp_ne (tgt := 77) hx hb dL_does_65 (by decide) (fun c_5 => ?_) (fun c_5 => ?_)
          · skip
            exact absurd c_5 (by decide)
          · skip
            refine lv_aload_n hx hb dL_does_68 rfl (lv_at hl 0 rfl) ?_
            refine lv_iload_n hx hb dL_does_69 rfl (lv_at hl 2 rfl) ?_
            refine lv_iload_n hx hb dL_does_70 rfl (lv_at hl 3 rfl) ?_
            refine rCallXI (C := RX5) (As := [.int x, .int y]) (rest := []) ⟨hx, hb, hml, hown, hts⟩ fx hw (kX5_pass l hlt G hG hF σ x y g n e9 z b hIv9) (cwV 2 hts gL_does_X5_pass rfl rfl rfl (by decide +kernel) ⟨Nat.le_of_ble_eq_true rfl, Nat.le_of_ble_eq_true rfl⟩) (hF.1 0 (by decide)) rfl rfl rfl rfl hl.1 rfl (Nat.le_of_ble_eq_true rfl) dL_does_71 ⟨Nat.le_of_ble_eq_true rfl, Nat.le_of_ble_eq_true rfl⟩ (fun E ce q9 H locs hE hw h1 h2 h3 => ?_) ?_
            · skip
              rcases hE with hE | hE
              · skip
                have e9 := hE.1; subst e9
                refine vx_catch (own := RL) (name := "java/lang/IndexOutOfBoundsException") hown (tableOf []) ⟨0, 136, 137, 45⟩ (tableOf [(0, 136, 142, 47), (0, 136, 147, 49)]) htab (fun z hz => absurd hz List.not_mem_nil) rfl (by decide) (hts (.classLink RL 45 "java/lang/IndexOutOfBoundsException") (by decide +kernel)) (hCast fx hF (by decide)) h1 h2 h3 ?_
                refine lv_astore (lv' := (5, .ref q9) :: [(0, .ref (gad G 0)), (1, .int 4), (2, .int x), (3, .int y), (4, .int w)]) hx hb dL_does_137 hl (by decide) rfl (fun ls hl => ?_)
                refine lv_bipush (v := (-30)) hx hb dL_does_139 (by decide) ?_
                exact rRetIw hx hb hr hw (Or.inr ⟨_, Or.inl hE, by decide, rfl⟩) hlocks dL_does_141 (Nat.le_refl _) (Nat.le_refl _)
              · skip
                have e9 := hE.1; subst e9
                have hpas : ∀ z ∈ tableOf [(0, 136, 137, 45), (0, 136, 142, 47)], covers z 71 = false ∨ (z.catchType ≠ 0 ∧ ∃ nm : String, (Cond.classLink RL z.catchType nm).before args s = true ∧ va_Nc "java/lang/IllegalStateException" nm s) := by
                  intro z hz
                  rcases List.mem_cons.mp hz with rfl | hz
                  · exact Or.inr ⟨by decide, "java/lang/IndexOutOfBoundsException", hts (.classLink RL 45 "java/lang/IndexOutOfBoundsException") (by decide +kernel), hNot fx hF (by decide) (by decide) (by decide)⟩
                  rcases List.mem_cons.mp hz with rfl | hz
                  · exact Or.inr ⟨by decide, "java/lang/IllegalArgumentException", hts (.classLink RL 47 "java/lang/IllegalArgumentException") (by decide +kernel), hNot fx hF (by decide) (by decide) (by decide)⟩
                  exact absurd hz List.not_mem_nil
                refine vx_catch (own := RL) (name := "java/lang/IllegalStateException") hown (tableOf [(0, 136, 137, 45), (0, 136, 142, 47)]) ⟨0, 136, 147, 49⟩ (tableOf []) htab hpas rfl (by decide) (hts (.classLink RL 49 "java/lang/IllegalStateException") (by decide +kernel)) (hCast fx hF (by decide)) h1 h2 h3 ?_
                refine lv_astore (lv' := (5, .ref q9) :: [(0, .ref (gad G 0)), (1, .int 4), (2, .int x), (3, .int y), (4, .int w)]) hx hb dL_does_147 hl (by decide) rfl (fun ls hl => ?_)
                refine lv_bipush (v := (-10)) hx hb dL_does_149 (by decide) ?_
                exact rRetIw hx hb hr hw (Or.inr ⟨_, Or.inr (hE), by decide, rfl⟩) hlocks dL_does_151 (Nat.le_refl _) (Nat.le_refl _)
            intro r9 τ9 H locs hp9 hw
            refine lv_goto (tgt := 136) hx hb dL_does_74 (by decide) ?_
            exact rRetIw hx hb hr hw (Or.inl hp9) hlocks dL_does_136 (Nat.zero_le _) (Nat.zero_le _)
        · skip
          exact absurd c_4 (by decide)
      · skip
        exact absurd c_3 (by decide)
    · skip
      exact absurd c_2 (by decide)
  · skip
    exact absurd c_1 (by decide)

def rmL_does_5 : Room := ({ frames := 7, cells := 1, slots := 6, locals := 103 } : Room)
set_option maxHeartbeats 4000000 in
set_option maxRecDepth 100000 in
theorem kL_does_5 (l : Launch) (hlt : l.stackTraces = false) (G : Gx) (hG : gOk G) (hF : Full G) (σ : St) (x y w : Int32) (g n e9 z : Nat) (b : Bool) (hIv9 : CIv σ g n b e9 z) : CmI l yL_does wsL_does rmL_does_5 G σ [.ref (gad G 0), .int 5, .int x, .int y, .int w] (fun r9 σ9 => (fun r σ' => r = σ 0 9 + x ∧ σ' = upA σ 0 (upd (σ 0) 9 (σ 0 9 + x)) ∧ inR x 1 100 = true) r9 σ9 ∨ ∃ E9 : String, (fun E => E = xIAE ∧ inR x 1 100 = false) E9 ∧ r9 = cdD E9 ∧ σ9 = σ) 1 6 := by
  refine bgL (cc := cL_does) (maxL := 6) (ret := some .int) (own := RL) (hh := [(0, 136, 137, 45), (0, 136, 142, 47), (0, 136, 147, 49)]) (by decide) rfl rfl hG (Nat.le_of_ble_eq_true rfl) rfl ?_
  intro p e s m args below meth c ls htab Bd hl
  obtain ⟨hx, hb, hr, hml, hts, hown, hlocks, fx, hw⟩ := Bd
  have hl : lv_has ls 6 [(0, .ref (gad G 0)), (1, .int 5), (2, .int x), (3, .int y), (4, .int w)] := hl
  refine lv_iload_n hx hb dL_does_0 rfl (lv_at hl 1 rfl) ?_
  refine lv_if_ne (tgt := 21) hx hb dL_does_1 (by decide) (fun c_1 => ?_) (fun c_1 => ?_)
  · skip
    refine lv_iload_n hx hb dL_does_21 rfl (lv_at hl 1 rfl) ?_
    refine lv_iconst (v := 1) hx hb dL_does_22 (by decide) ?_
    refine lv_icmp_ne (tgt := 37) hx hb dL_does_23 (by decide) (fun c_2 => ?_) (fun c_2 => ?_)
    · skip
      refine lv_iload_n hx hb dL_does_37 rfl (lv_at hl 1 rfl) ?_
      refine lv_iconst (v := 2) hx hb dL_does_38 (by decide) ?_
      refine lv_icmp_ne (tgt := 50) hx hb dL_does_39 (by decide) (fun c_3 => ?_) (fun c_3 => ?_)
      · skip
        refine lv_iload_n hx hb dL_does_50 rfl (lv_at hl 1 rfl) ?_
        refine lv_iconst (v := 3) hx hb dL_does_51 (by decide) ?_
        refine lv_icmp_ne (tgt := 63) hx hb dL_does_52 (by decide) (fun c_4 => ?_) (fun c_4 => ?_)
        · skip
          refine lv_iload_n hx hb dL_does_63 rfl (lv_at hl 1 rfl) ?_
          refine lv_iconst (v := 4) hx hb dL_does_64 (by decide) ?_
          refine lv_icmp_ne (tgt := 77) hx hb dL_does_65 (by decide) (fun c_5 => ?_) (fun c_5 => ?_)
          · skip
            refine lv_iload_n hx hb dL_does_77 rfl (lv_at hl 1 rfl) ?_
            refine lv_iconst (v := 5) hx hb dL_does_78 (by decide) ?_
            refine lv_icmp_ne (tgt := 90) hx hb dL_does_79 (by decide) (fun c_6 => ?_) (fun c_6 => ?_)
            · skip
              exact absurd c_6 (by decide)
            · skip
              refine lv_aload_n hx hb dL_does_82 rfl (lv_at hl 0 rfl) ?_
              refine lv_iload_n hx hb dL_does_83 rfl (lv_at hl 2 rfl) ?_
              refine rCallXI (C := RX5) (As := [.int x]) (rest := []) ⟨hx, hb, hml, hown, hts⟩ fx hw (kX5_idle l hlt G hG hF σ x g n e9 z b hIv9) (cwV 1 hts gL_does_X5_idle rfl rfl rfl (by decide +kernel) ⟨Nat.le_of_ble_eq_true rfl, Nat.le_of_ble_eq_true rfl⟩) (hF.1 0 (by decide)) rfl rfl rfl rfl hl.1 rfl (Nat.le_of_ble_eq_true rfl) dL_does_84 ⟨Nat.le_of_ble_eq_true rfl, Nat.le_of_ble_eq_true rfl⟩ (fun E ce q9 H locs hE hw h1 h2 h3 => ?_) ?_
              · skip
                have e9 := hE.1; subst e9
                have hpas : ∀ z ∈ tableOf [(0, 136, 137, 45)], covers z 84 = false ∨ (z.catchType ≠ 0 ∧ ∃ nm : String, (Cond.classLink RL z.catchType nm).before args s = true ∧ va_Nc "java/lang/IllegalArgumentException" nm s) := by
                  intro z hz
                  rcases List.mem_cons.mp hz with rfl | hz
                  · exact Or.inr ⟨by decide, "java/lang/IndexOutOfBoundsException", hts (.classLink RL 45 "java/lang/IndexOutOfBoundsException") (by decide +kernel), hNot fx hF (by decide) (by decide) (by decide)⟩
                  exact absurd hz List.not_mem_nil
                refine vx_catch (own := RL) (name := "java/lang/IllegalArgumentException") hown (tableOf [(0, 136, 137, 45)]) ⟨0, 136, 142, 47⟩ (tableOf [(0, 136, 147, 49)]) htab hpas rfl (by decide) (hts (.classLink RL 47 "java/lang/IllegalArgumentException") (by decide +kernel)) (hCast fx hF (by decide)) h1 h2 h3 ?_
                refine lv_astore (lv' := (5, .ref q9) :: [(0, .ref (gad G 0)), (1, .int 5), (2, .int x), (3, .int y), (4, .int w)]) hx hb dL_does_142 hl (by decide) rfl (fun ls hl => ?_)
                refine lv_bipush (v := (-20)) hx hb dL_does_144 (by decide) ?_
                exact rRetIw hx hb hr hw (Or.inr ⟨_, hE, by decide, rfl⟩) hlocks dL_does_146 (Nat.le_refl _) (Nat.le_refl _)
              intro r9 τ9 H locs hp9 hw
              refine lv_goto (tgt := 136) hx hb dL_does_87 (by decide) ?_
              exact rRetIw hx hb hr hw (Or.inl hp9) hlocks dL_does_136 (Nat.zero_le _) (Nat.zero_le _)
          · skip
            exact absurd c_5 (by decide)
        · skip
          exact absurd c_4 (by decide)
      · skip
        exact absurd c_3 (by decide)
    · skip
      exact absurd c_2 (by decide)
  · skip
    exact absurd c_1 (by decide)

def rmL_does_6 : Room := ({ frames := 9, cells := 1, slots := 6, locals := 144 } : Room)
set_option maxHeartbeats 4000000 in
set_option maxRecDepth 100000 in
theorem kL_does_6 (l : Launch) (hlt : l.stackTraces = false) (G : Gx) (hG : gOk G) (hF : Full G) (σ : St) (x y w : Int32) (g n e9 z : Nat) (b : Bool) (hIv9 : CIv σ g n b e9 z) : CmI l yL_does wsL_does rmL_does_6 G σ [.ref (gad G 0), .int 6, .int x, .int y, .int w] (fun r9 σ9 => (fun r σ' => r = (itA (rkA σ n (ix x)) (dD (nxA (σ 23 3)))) ∧ σ' = (upA (upA σ 23 (upd (σ 23) 3 (nxA (σ 23 3)))) 24 (upd (σ 24) (ix x) (itA (rkA σ n (ix x)) (dD (nxA (σ 23 3)))))) ∧ inB x n = true ∧ (b && !finB σ 4 (ix x) && decide (σ 24 (ix x) = -1)) = true) r9 σ9 ∨ ∃ E9 : String, (fun E => (E = xIOB ∧ inB x n = false) ∨ (E = xISE ∧ inB x n = true ∧ (b && !finB σ 4 (ix x) && decide (σ 24 (ix x) = -1)) = false)) E9 ∧ r9 = cdD E9 ∧ σ9 = σ) 1 6 := by
  refine bgL (cc := cL_does) (maxL := 6) (ret := some .int) (own := RL) (hh := [(0, 136, 137, 45), (0, 136, 142, 47), (0, 136, 147, 49)]) (by decide) rfl rfl hG (Nat.le_of_ble_eq_true rfl) rfl ?_
  intro p e s m args below meth c ls htab Bd hl
  obtain ⟨hx, hb, hr, hml, hts, hown, hlocks, fx, hw⟩ := Bd
  have hl : lv_has ls 6 [(0, .ref (gad G 0)), (1, .int 6), (2, .int x), (3, .int y), (4, .int w)] := hl
  refine lv_iload_n hx hb dL_does_0 rfl (lv_at hl 1 rfl) ?_
  refine lv_if_ne (tgt := 21) hx hb dL_does_1 (by decide) (fun c_1 => ?_) (fun c_1 => ?_)
  · skip
    refine lv_iload_n hx hb dL_does_21 rfl (lv_at hl 1 rfl) ?_
    refine lv_iconst (v := 1) hx hb dL_does_22 (by decide) ?_
    refine lv_icmp_ne (tgt := 37) hx hb dL_does_23 (by decide) (fun c_2 => ?_) (fun c_2 => ?_)
    · skip
      refine lv_iload_n hx hb dL_does_37 rfl (lv_at hl 1 rfl) ?_
      refine lv_iconst (v := 2) hx hb dL_does_38 (by decide) ?_
      refine lv_icmp_ne (tgt := 50) hx hb dL_does_39 (by decide) (fun c_3 => ?_) (fun c_3 => ?_)
      · skip
        refine lv_iload_n hx hb dL_does_50 rfl (lv_at hl 1 rfl) ?_
        refine lv_iconst (v := 3) hx hb dL_does_51 (by decide) ?_
        refine lv_icmp_ne (tgt := 63) hx hb dL_does_52 (by decide) (fun c_4 => ?_) (fun c_4 => ?_)
        · skip
          refine lv_iload_n hx hb dL_does_63 rfl (lv_at hl 1 rfl) ?_
          refine lv_iconst (v := 4) hx hb dL_does_64 (by decide) ?_
          refine lv_icmp_ne (tgt := 77) hx hb dL_does_65 (by decide) (fun c_5 => ?_) (fun c_5 => ?_)
          · skip
            refine lv_iload_n hx hb dL_does_77 rfl (lv_at hl 1 rfl) ?_
            refine lv_iconst (v := 5) hx hb dL_does_78 (by decide) ?_
            refine lv_icmp_ne (tgt := 90) hx hb dL_does_79 (by decide) (fun c_6 => ?_) (fun c_6 => ?_)
            · skip
              refine lv_iload_n hx hb dL_does_90 rfl (lv_at hl 1 rfl) ?_
              refine lv_bipush (v := 6) hx hb dL_does_91 (by decide) ?_
              refine lv_icmp_ne (tgt := 104) hx hb dL_does_93 (by decide) (fun c_7 => ?_) (fun c_7 => ?_)
              · skip
                exact absurd c_7 (by decide)
              · skip
                refine lv_aload_n hx hb dL_does_96 rfl (lv_at hl 0 rfl) ?_
                refine lv_iload_n hx hb dL_does_97 rfl (lv_at hl 2 rfl) ?_
                refine rCallXI (C := RX5) (As := [.int x]) (rest := []) ⟨hx, hb, hml, hown, hts⟩ fx hw (kX5_draw l hlt G hG hF σ x g n e9 z b hIv9) (cwV 1 hts gL_does_X5_draw rfl rfl rfl (by decide +kernel) ⟨Nat.le_of_ble_eq_true rfl, Nat.le_of_ble_eq_true rfl⟩) (hF.1 0 (by decide)) rfl rfl rfl rfl hl.1 rfl (Nat.le_of_ble_eq_true rfl) dL_does_98 ⟨Nat.le_of_ble_eq_true rfl, Nat.le_of_ble_eq_true rfl⟩ (fun E ce q9 H locs hE hw h1 h2 h3 => ?_) ?_
                · skip
                  rcases hE with hE | hE
                  · skip
                    have e9 := hE.1; subst e9
                    refine vx_catch (own := RL) (name := "java/lang/IndexOutOfBoundsException") hown (tableOf []) ⟨0, 136, 137, 45⟩ (tableOf [(0, 136, 142, 47), (0, 136, 147, 49)]) htab (fun z hz => absurd hz List.not_mem_nil) rfl (by decide) (hts (.classLink RL 45 "java/lang/IndexOutOfBoundsException") (by decide +kernel)) (hCast fx hF (by decide)) h1 h2 h3 ?_
                    refine lv_astore (lv' := (5, .ref q9) :: [(0, .ref (gad G 0)), (1, .int 6), (2, .int x), (3, .int y), (4, .int w)]) hx hb dL_does_137 hl (by decide) rfl (fun ls hl => ?_)
                    refine lv_bipush (v := (-30)) hx hb dL_does_139 (by decide) ?_
                    exact rRetIw hx hb hr hw (Or.inr ⟨_, Or.inl hE, by decide, rfl⟩) hlocks dL_does_141 (Nat.le_refl _) (Nat.le_refl _)
                  · skip
                    have e9 := hE.1; subst e9
                    have hpas : ∀ z ∈ tableOf [(0, 136, 137, 45), (0, 136, 142, 47)], covers z 98 = false ∨ (z.catchType ≠ 0 ∧ ∃ nm : String, (Cond.classLink RL z.catchType nm).before args s = true ∧ va_Nc "java/lang/IllegalStateException" nm s) := by
                      intro z hz
                      rcases List.mem_cons.mp hz with rfl | hz
                      · exact Or.inr ⟨by decide, "java/lang/IndexOutOfBoundsException", hts (.classLink RL 45 "java/lang/IndexOutOfBoundsException") (by decide +kernel), hNot fx hF (by decide) (by decide) (by decide)⟩
                      rcases List.mem_cons.mp hz with rfl | hz
                      · exact Or.inr ⟨by decide, "java/lang/IllegalArgumentException", hts (.classLink RL 47 "java/lang/IllegalArgumentException") (by decide +kernel), hNot fx hF (by decide) (by decide) (by decide)⟩
                      exact absurd hz List.not_mem_nil
                    refine vx_catch (own := RL) (name := "java/lang/IllegalStateException") hown (tableOf [(0, 136, 137, 45), (0, 136, 142, 47)]) ⟨0, 136, 147, 49⟩ (tableOf []) htab hpas rfl (by decide) (hts (.classLink RL 49 "java/lang/IllegalStateException") (by decide +kernel)) (hCast fx hF (by decide)) h1 h2 h3 ?_
                    refine lv_astore (lv' := (5, .ref q9) :: [(0, .ref (gad G 0)), (1, .int 6), (2, .int x), (3, .int y), (4, .int w)]) hx hb dL_does_147 hl (by decide) rfl (fun ls hl => ?_)
                    refine lv_bipush (v := (-10)) hx hb dL_does_149 (by decide) ?_
                    exact rRetIw hx hb hr hw (Or.inr ⟨_, Or.inr (hE), by decide, rfl⟩) hlocks dL_does_151 (Nat.le_refl _) (Nat.le_refl _)
                intro r9 τ9 H locs hp9 hw
                refine lv_goto (tgt := 136) hx hb dL_does_101 (by decide) ?_
                exact rRetIw hx hb hr hw (Or.inl hp9) hlocks dL_does_136 (Nat.zero_le _) (Nat.zero_le _)
            · skip
              exact absurd c_6 (by decide)
          · skip
            exact absurd c_5 (by decide)
        · skip
          exact absurd c_4 (by decide)
      · skip
        exact absurd c_3 (by decide)
    · skip
      exact absurd c_2 (by decide)
  · skip
    exact absurd c_1 (by decide)

def rmL_does_7 : Room := ({ frames := 9, cells := 1, slots := 6, locals := 146 } : Room)
set_option maxHeartbeats 4000000 in
set_option maxRecDepth 100000 in
theorem kL_does_7 (l : Launch) (hlt : l.stackTraces = false) (G : Gx) (hG : gOk G) (hF : Full G) (σ : St) (x y w : Int32) (g n e9 z : Nat) (b : Bool) (hIv9 : CIv σ g n b e9 z) : CmI l yL_does wsL_does rmL_does_7 G σ [.ref (gad G 0), .int 7, .int x, .int y, .int w] (fun r9 σ9 => (fun r σ' => r = (if σ 24 (ix x) = 0 then 0 else if σ 24 (ix x) = 2 then 0 else if σ 24 (ix x) = 1 then nI (htN (tkS σ (ix x)) n (nI (rkA σ n (ix x)) - 1) (rkA σ n (ix x)) (σ 0 9 + 5) n) else nI (htN (tkS σ (ix x)) n 0 (rkA σ n (ix x)) (σ 0 9 + 2) n)) ∧ σ' = (if σ 24 (ix x) = 0 then upA (tkS σ (ix x)) 26 (upd (σ 26) (ix x) 0) else if σ 24 (ix x) = 2 then upA (tkS σ (ix x)) 25 (upd (σ 25) (ix x) 1) else if σ 24 (ix x) = 1 then htL (tkS σ (ix x)) n (nI (rkA σ n (ix x)) - 1) (rkA σ n (ix x)) (σ 0 9 + 5) n else htL (tkS σ (ix x)) n 0 (rkA σ n (ix x)) (σ 0 9 + 2) n) ∧ inB x n = true ∧ (b && !finB σ 4 (ix x) && !decide (σ 24 (ix x) = -1)) = true) r9 σ9 ∨ ∃ E9 : String, (fun E => (E = xIOB ∧ inB x n = false) ∨ (E = xISE ∧ inB x n = true ∧ (b && !finB σ 4 (ix x) && !decide (σ 24 (ix x) = -1)) = false)) E9 ∧ r9 = cdD E9 ∧ σ9 = σ) 1 6 := by
  refine bgL (cc := cL_does) (maxL := 6) (ret := some .int) (own := RL) (hh := [(0, 136, 137, 45), (0, 136, 142, 47), (0, 136, 147, 49)]) (by decide) rfl rfl hG (Nat.le_of_ble_eq_true rfl) rfl ?_
  intro p e s m args below meth c ls htab Bd hl
  obtain ⟨hx, hb, hr, hml, hts, hown, hlocks, fx, hw⟩ := Bd
  have hl : lv_has ls 6 [(0, .ref (gad G 0)), (1, .int 7), (2, .int x), (3, .int y), (4, .int w)] := hl
  refine lv_iload_n hx hb dL_does_0 rfl (lv_at hl 1 rfl) ?_
  refine lv_if_ne (tgt := 21) hx hb dL_does_1 (by decide) (fun c_1 => ?_) (fun c_1 => ?_)
  · skip
    refine lv_iload_n hx hb dL_does_21 rfl (lv_at hl 1 rfl) ?_
    refine lv_iconst (v := 1) hx hb dL_does_22 (by decide) ?_
    refine lv_icmp_ne (tgt := 37) hx hb dL_does_23 (by decide) (fun c_2 => ?_) (fun c_2 => ?_)
    · skip
      refine lv_iload_n hx hb dL_does_37 rfl (lv_at hl 1 rfl) ?_
      refine lv_iconst (v := 2) hx hb dL_does_38 (by decide) ?_
      refine lv_icmp_ne (tgt := 50) hx hb dL_does_39 (by decide) (fun c_3 => ?_) (fun c_3 => ?_)
      · skip
        refine lv_iload_n hx hb dL_does_50 rfl (lv_at hl 1 rfl) ?_
        refine lv_iconst (v := 3) hx hb dL_does_51 (by decide) ?_
        refine lv_icmp_ne (tgt := 63) hx hb dL_does_52 (by decide) (fun c_4 => ?_) (fun c_4 => ?_)
        · skip
          refine lv_iload_n hx hb dL_does_63 rfl (lv_at hl 1 rfl) ?_
          refine lv_iconst (v := 4) hx hb dL_does_64 (by decide) ?_
          refine lv_icmp_ne (tgt := 77) hx hb dL_does_65 (by decide) (fun c_5 => ?_) (fun c_5 => ?_)
          · skip
            refine lv_iload_n hx hb dL_does_77 rfl (lv_at hl 1 rfl) ?_
            refine lv_iconst (v := 5) hx hb dL_does_78 (by decide) ?_
            refine lv_icmp_ne (tgt := 90) hx hb dL_does_79 (by decide) (fun c_6 => ?_) (fun c_6 => ?_)
            · skip
              refine lv_iload_n hx hb dL_does_90 rfl (lv_at hl 1 rfl) ?_
              refine lv_bipush (v := 6) hx hb dL_does_91 (by decide) ?_
              refine lv_icmp_ne (tgt := 104) hx hb dL_does_93 (by decide) (fun c_7 => ?_) (fun c_7 => ?_)
              · skip
                refine lv_iload_n hx hb dL_does_104 rfl (lv_at hl 1 rfl) ?_
                refine lv_bipush (v := 7) hx hb dL_does_105 (by decide) ?_
                refine lv_icmp_ne (tgt := 118) hx hb dL_does_107 (by decide) (fun c_8 => ?_) (fun c_8 => ?_)
                · skip
                  exact absurd c_8 (by decide)
                · skip
                  refine lv_aload_n hx hb dL_does_110 rfl (lv_at hl 0 rfl) ?_
                  refine lv_iload_n hx hb dL_does_111 rfl (lv_at hl 2 rfl) ?_
                  refine rCallXI (C := RX5) (As := [.int x]) (rest := []) ⟨hx, hb, hml, hown, hts⟩ fx hw (kX5_use l hlt G hG hF σ x g n e9 z b hIv9) (cwV 1 hts gL_does_X5_use rfl rfl rfl (by decide +kernel) ⟨Nat.le_of_ble_eq_true rfl, Nat.le_of_ble_eq_true rfl⟩) (hF.1 0 (by decide)) rfl rfl rfl rfl hl.1 rfl (Nat.le_of_ble_eq_true rfl) dL_does_112 ⟨Nat.le_of_ble_eq_true rfl, Nat.le_of_ble_eq_true rfl⟩ (fun E ce q9 H locs hE hw h1 h2 h3 => ?_) ?_
                  · skip
                    rcases hE with hE | hE
                    · skip
                      have e9 := hE.1; subst e9
                      refine vx_catch (own := RL) (name := "java/lang/IndexOutOfBoundsException") hown (tableOf []) ⟨0, 136, 137, 45⟩ (tableOf [(0, 136, 142, 47), (0, 136, 147, 49)]) htab (fun z hz => absurd hz List.not_mem_nil) rfl (by decide) (hts (.classLink RL 45 "java/lang/IndexOutOfBoundsException") (by decide +kernel)) (hCast fx hF (by decide)) h1 h2 h3 ?_
                      refine lv_astore (lv' := (5, .ref q9) :: [(0, .ref (gad G 0)), (1, .int 7), (2, .int x), (3, .int y), (4, .int w)]) hx hb dL_does_137 hl (by decide) rfl (fun ls hl => ?_)
                      refine lv_bipush (v := (-30)) hx hb dL_does_139 (by decide) ?_
                      exact rRetIw hx hb hr hw (Or.inr ⟨_, Or.inl hE, by decide, rfl⟩) hlocks dL_does_141 (Nat.le_refl _) (Nat.le_refl _)
                    · skip
                      have e9 := hE.1; subst e9
                      have hpas : ∀ z ∈ tableOf [(0, 136, 137, 45), (0, 136, 142, 47)], covers z 112 = false ∨ (z.catchType ≠ 0 ∧ ∃ nm : String, (Cond.classLink RL z.catchType nm).before args s = true ∧ va_Nc "java/lang/IllegalStateException" nm s) := by
                        intro z hz
                        rcases List.mem_cons.mp hz with rfl | hz
                        · exact Or.inr ⟨by decide, "java/lang/IndexOutOfBoundsException", hts (.classLink RL 45 "java/lang/IndexOutOfBoundsException") (by decide +kernel), hNot fx hF (by decide) (by decide) (by decide)⟩
                        rcases List.mem_cons.mp hz with rfl | hz
                        · exact Or.inr ⟨by decide, "java/lang/IllegalArgumentException", hts (.classLink RL 47 "java/lang/IllegalArgumentException") (by decide +kernel), hNot fx hF (by decide) (by decide) (by decide)⟩
                        exact absurd hz List.not_mem_nil
                      refine vx_catch (own := RL) (name := "java/lang/IllegalStateException") hown (tableOf [(0, 136, 137, 45), (0, 136, 142, 47)]) ⟨0, 136, 147, 49⟩ (tableOf []) htab hpas rfl (by decide) (hts (.classLink RL 49 "java/lang/IllegalStateException") (by decide +kernel)) (hCast fx hF (by decide)) h1 h2 h3 ?_
                      refine lv_astore (lv' := (5, .ref q9) :: [(0, .ref (gad G 0)), (1, .int 7), (2, .int x), (3, .int y), (4, .int w)]) hx hb dL_does_147 hl (by decide) rfl (fun ls hl => ?_)
                      refine lv_bipush (v := (-10)) hx hb dL_does_149 (by decide) ?_
                      exact rRetIw hx hb hr hw (Or.inr ⟨_, Or.inr (hE), by decide, rfl⟩) hlocks dL_does_151 (Nat.le_refl _) (Nat.le_refl _)
                  intro r9 τ9 H locs hp9 hw
                  refine lv_goto (tgt := 136) hx hb dL_does_115 (by decide) ?_
                  exact rRetIw hx hb hr hw (Or.inl hp9) hlocks dL_does_136 (Nat.zero_le _) (Nat.zero_le _)
              · skip
                exact absurd c_7 (by decide)
            · skip
              exact absurd c_6 (by decide)
          · skip
            exact absurd c_5 (by decide)
        · skip
          exact absurd c_4 (by decide)
      · skip
        exact absurd c_3 (by decide)
    · skip
      exact absurd c_2 (by decide)
  · skip
    exact absurd c_1 (by decide)

def rmL_does_8 : Room := ({ frames := 8, cells := 1, slots := 6, locals := 125 } : Room)
set_option maxHeartbeats 4000000 in
set_option maxRecDepth 100000 in
theorem kL_does_8 (l : Launch) (hlt : l.stackTraces = false) (G : Gx) (hG : gOk G) (hF : Full G) (σ : St) (x y w : Int32) (g n e9 z : Nat) (b : Bool) (hIv9 : CIv σ g n b e9 z) (hn0 : b = true → 0 < n) : CmI l yL_does wsL_does rmL_does_8 G σ [.ref (gad G 0), .int 8, .int x, .int y, .int w] (fun r9 σ9 => (fun r σ' => r = nI (wnA σ n n) ∧ σ' = enSt σ n e9 ∧ b = true) r9 σ9 ∨ ∃ E9 : String, (fun E => E = xISE ∧ b = false) E9 ∧ r9 = cdD E9 ∧ σ9 = σ) 1 6 := by
  refine bgL (cc := cL_does) (maxL := 6) (ret := some .int) (own := RL) (hh := [(0, 136, 137, 45), (0, 136, 142, 47), (0, 136, 147, 49)]) (by decide) rfl rfl hG (Nat.le_of_ble_eq_true rfl) rfl ?_
  intro p e s m args below meth c ls htab Bd hl
  obtain ⟨hx, hb, hr, hml, hts, hown, hlocks, fx, hw⟩ := Bd
  have hl : lv_has ls 6 [(0, .ref (gad G 0)), (1, .int 8), (2, .int x), (3, .int y), (4, .int w)] := hl
  refine lv_iload_n hx hb dL_does_0 rfl (lv_at hl 1 rfl) ?_
  refine lv_if_ne (tgt := 21) hx hb dL_does_1 (by decide) (fun c_1 => ?_) (fun c_1 => ?_)
  · skip
    refine lv_iload_n hx hb dL_does_21 rfl (lv_at hl 1 rfl) ?_
    refine lv_iconst (v := 1) hx hb dL_does_22 (by decide) ?_
    refine lv_icmp_ne (tgt := 37) hx hb dL_does_23 (by decide) (fun c_2 => ?_) (fun c_2 => ?_)
    · skip
      refine lv_iload_n hx hb dL_does_37 rfl (lv_at hl 1 rfl) ?_
      refine lv_iconst (v := 2) hx hb dL_does_38 (by decide) ?_
      refine lv_icmp_ne (tgt := 50) hx hb dL_does_39 (by decide) (fun c_3 => ?_) (fun c_3 => ?_)
      · skip
        refine lv_iload_n hx hb dL_does_50 rfl (lv_at hl 1 rfl) ?_
        refine lv_iconst (v := 3) hx hb dL_does_51 (by decide) ?_
        refine lv_icmp_ne (tgt := 63) hx hb dL_does_52 (by decide) (fun c_4 => ?_) (fun c_4 => ?_)
        · skip
          refine lv_iload_n hx hb dL_does_63 rfl (lv_at hl 1 rfl) ?_
          refine lv_iconst (v := 4) hx hb dL_does_64 (by decide) ?_
          refine lv_icmp_ne (tgt := 77) hx hb dL_does_65 (by decide) (fun c_5 => ?_) (fun c_5 => ?_)
          · skip
            refine lv_iload_n hx hb dL_does_77 rfl (lv_at hl 1 rfl) ?_
            refine lv_iconst (v := 5) hx hb dL_does_78 (by decide) ?_
            refine lv_icmp_ne (tgt := 90) hx hb dL_does_79 (by decide) (fun c_6 => ?_) (fun c_6 => ?_)
            · skip
              refine lv_iload_n hx hb dL_does_90 rfl (lv_at hl 1 rfl) ?_
              refine lv_bipush (v := 6) hx hb dL_does_91 (by decide) ?_
              refine lv_icmp_ne (tgt := 104) hx hb dL_does_93 (by decide) (fun c_7 => ?_) (fun c_7 => ?_)
              · skip
                refine lv_iload_n hx hb dL_does_104 rfl (lv_at hl 1 rfl) ?_
                refine lv_bipush (v := 7) hx hb dL_does_105 (by decide) ?_
                refine lv_icmp_ne (tgt := 118) hx hb dL_does_107 (by decide) (fun c_8 => ?_) (fun c_8 => ?_)
                · skip
                  refine lv_iload_n hx hb dL_does_118 rfl (lv_at hl 1 rfl) ?_
                  refine lv_bipush (v := 8) hx hb dL_does_119 (by decide) ?_
                  refine lv_icmp_ne (tgt := 131) hx hb dL_does_121 (by decide) (fun c_9 => ?_) (fun c_9 => ?_)
                  · skip
                    exact absurd c_9 (by decide)
                  · skip
                    refine lv_aload_n hx hb dL_does_124 rfl (lv_at hl 0 rfl) ?_
                    refine rCallXI (C := RX5) (As := []) (rest := []) ⟨hx, hb, hml, hown, hts⟩ fx hw (kX5_end l hlt G hG hF σ g n e9 z b hIv9 hn0) (cwV 0 hts gL_does_X5_end rfl rfl rfl (by decide +kernel) ⟨Nat.le_of_ble_eq_true rfl, Nat.le_of_ble_eq_true rfl⟩) (hF.1 0 (by decide)) rfl rfl rfl rfl hl.1 rfl (Nat.le_of_ble_eq_true rfl) dL_does_125 ⟨Nat.le_of_ble_eq_true rfl, Nat.le_of_ble_eq_true rfl⟩ (fun E ce q9 H locs hE hw h1 h2 h3 => ?_) ?_
                    · skip
                      have e9 := hE.1; subst e9
                      have hpas : ∀ z ∈ tableOf [(0, 136, 137, 45), (0, 136, 142, 47)], covers z 125 = false ∨ (z.catchType ≠ 0 ∧ ∃ nm : String, (Cond.classLink RL z.catchType nm).before args s = true ∧ va_Nc "java/lang/IllegalStateException" nm s) := by
                        intro z hz
                        rcases List.mem_cons.mp hz with rfl | hz
                        · exact Or.inr ⟨by decide, "java/lang/IndexOutOfBoundsException", hts (.classLink RL 45 "java/lang/IndexOutOfBoundsException") (by decide +kernel), hNot fx hF (by decide) (by decide) (by decide)⟩
                        rcases List.mem_cons.mp hz with rfl | hz
                        · exact Or.inr ⟨by decide, "java/lang/IllegalArgumentException", hts (.classLink RL 47 "java/lang/IllegalArgumentException") (by decide +kernel), hNot fx hF (by decide) (by decide) (by decide)⟩
                        exact absurd hz List.not_mem_nil
                      refine vx_catch (own := RL) (name := "java/lang/IllegalStateException") hown (tableOf [(0, 136, 137, 45), (0, 136, 142, 47)]) ⟨0, 136, 147, 49⟩ (tableOf []) htab hpas rfl (by decide) (hts (.classLink RL 49 "java/lang/IllegalStateException") (by decide +kernel)) (hCast fx hF (by decide)) h1 h2 h3 ?_
                      refine lv_astore (lv' := (5, .ref q9) :: [(0, .ref (gad G 0)), (1, .int 8), (2, .int x), (3, .int y), (4, .int w)]) hx hb dL_does_147 hl (by decide) rfl (fun ls hl => ?_)
                      refine lv_bipush (v := (-10)) hx hb dL_does_149 (by decide) ?_
                      exact rRetIw hx hb hr hw (Or.inr ⟨_, hE, by decide, rfl⟩) hlocks dL_does_151 (Nat.le_refl _) (Nat.le_refl _)
                    intro r9 τ9 H locs hp9 hw
                    refine lv_goto (tgt := 136) hx hb dL_does_128 (by decide) ?_
                    exact rRetIw hx hb hr hw (Or.inl hp9) hlocks dL_does_136 (Nat.zero_le _) (Nat.zero_le _)
                · skip
                  exact absurd c_8 (by decide)
              · skip
                exact absurd c_7 (by decide)
            · skip
              exact absurd c_6 (by decide)
          · skip
            exact absurd c_5 (by decide)
        · skip
          exact absurd c_4 (by decide)
      · skip
        exact absurd c_3 (by decide)
    · skip
      exact absurd c_2 (by decide)
  · skip
    exact absurd c_1 (by decide)

def rmL_does_9 : Room := ({ frames := 7, cells := 1, slots := 6, locals := 103 } : Room)
set_option maxHeartbeats 4000000 in
set_option maxRecDepth 100000 in
theorem kL_does_9 (l : Launch) (hlt : l.stackTraces = false) (G : Gx) (hG : gOk G) (hF : Full G) (σ : St) (x y w : Int32) (g n e9 z : Nat) (b : Bool) (hIv9 : CIv σ g n b e9 z) : CmI l yL_does wsL_does rmL_does_9 G σ [.ref (gad G 0), .int 9, .int x, .int y, .int w] (fun r9 σ9 => (fun r σ' => r = σ 27 3 ∧ σ' = upA σ 27 (upd (σ 27) 3 x) ∧ inR x 0 3 = true) r9 σ9 ∨ ∃ E9 : String, (fun E => E = xIAE ∧ inR x 0 3 = false) E9 ∧ r9 = cdD E9 ∧ σ9 = σ) 1 6 := by
  refine bgL (cc := cL_does) (maxL := 6) (ret := some .int) (own := RL) (hh := [(0, 136, 137, 45), (0, 136, 142, 47), (0, 136, 147, 49)]) (by decide) rfl rfl hG (Nat.le_of_ble_eq_true rfl) rfl ?_
  intro p e s m args below meth c ls htab Bd hl
  obtain ⟨hx, hb, hr, hml, hts, hown, hlocks, fx, hw⟩ := Bd
  have hl : lv_has ls 6 [(0, .ref (gad G 0)), (1, .int 9), (2, .int x), (3, .int y), (4, .int w)] := hl
  refine lv_iload_n hx hb dL_does_0 rfl (lv_at hl 1 rfl) ?_
  refine lv_if_ne (tgt := 21) hx hb dL_does_1 (by decide) (fun c_1 => ?_) (fun c_1 => ?_)
  · skip
    refine lv_iload_n hx hb dL_does_21 rfl (lv_at hl 1 rfl) ?_
    refine lv_iconst (v := 1) hx hb dL_does_22 (by decide) ?_
    refine lv_icmp_ne (tgt := 37) hx hb dL_does_23 (by decide) (fun c_2 => ?_) (fun c_2 => ?_)
    · skip
      refine lv_iload_n hx hb dL_does_37 rfl (lv_at hl 1 rfl) ?_
      refine lv_iconst (v := 2) hx hb dL_does_38 (by decide) ?_
      refine lv_icmp_ne (tgt := 50) hx hb dL_does_39 (by decide) (fun c_3 => ?_) (fun c_3 => ?_)
      · skip
        refine lv_iload_n hx hb dL_does_50 rfl (lv_at hl 1 rfl) ?_
        refine lv_iconst (v := 3) hx hb dL_does_51 (by decide) ?_
        refine lv_icmp_ne (tgt := 63) hx hb dL_does_52 (by decide) (fun c_4 => ?_) (fun c_4 => ?_)
        · skip
          refine lv_iload_n hx hb dL_does_63 rfl (lv_at hl 1 rfl) ?_
          refine lv_iconst (v := 4) hx hb dL_does_64 (by decide) ?_
          refine lv_icmp_ne (tgt := 77) hx hb dL_does_65 (by decide) (fun c_5 => ?_) (fun c_5 => ?_)
          · skip
            refine lv_iload_n hx hb dL_does_77 rfl (lv_at hl 1 rfl) ?_
            refine lv_iconst (v := 5) hx hb dL_does_78 (by decide) ?_
            refine lv_icmp_ne (tgt := 90) hx hb dL_does_79 (by decide) (fun c_6 => ?_) (fun c_6 => ?_)
            · skip
              refine lv_iload_n hx hb dL_does_90 rfl (lv_at hl 1 rfl) ?_
              refine lv_bipush (v := 6) hx hb dL_does_91 (by decide) ?_
              refine lv_icmp_ne (tgt := 104) hx hb dL_does_93 (by decide) (fun c_7 => ?_) (fun c_7 => ?_)
              · skip
                refine lv_iload_n hx hb dL_does_104 rfl (lv_at hl 1 rfl) ?_
                refine lv_bipush (v := 7) hx hb dL_does_105 (by decide) ?_
                refine lv_icmp_ne (tgt := 118) hx hb dL_does_107 (by decide) (fun c_8 => ?_) (fun c_8 => ?_)
                · skip
                  refine lv_iload_n hx hb dL_does_118 rfl (lv_at hl 1 rfl) ?_
                  refine lv_bipush (v := 8) hx hb dL_does_119 (by decide) ?_
                  refine lv_icmp_ne (tgt := 131) hx hb dL_does_121 (by decide) (fun c_9 => ?_) (fun c_9 => ?_)
                  · skip
                    refine lv_aload_n hx hb dL_does_131 rfl (lv_at hl 0 rfl) ?_
                    refine lv_iload_n hx hb dL_does_132 rfl (lv_at hl 2 rfl) ?_
                    refine rCallXI (C := RX5) (As := [.int x]) (rest := []) ⟨hx, hb, hml, hown, hts⟩ fx hw (kX5_setDropped l hlt G hG hF σ x g n e9 z b hIv9) (cwV 1 hts gL_does_X5_setDropped rfl rfl rfl (by decide +kernel) ⟨Nat.le_of_ble_eq_true rfl, Nat.le_of_ble_eq_true rfl⟩) (hF.1 0 (by decide)) rfl rfl rfl rfl hl.1 rfl (Nat.le_of_ble_eq_true rfl) dL_does_133 ⟨Nat.le_of_ble_eq_true rfl, Nat.le_of_ble_eq_true rfl⟩ (fun E ce q9 H locs hE hw h1 h2 h3 => ?_) ?_
                    · skip
                      have e9 := hE.1; subst e9
                      have hpas : ∀ z ∈ tableOf [(0, 136, 137, 45)], covers z 133 = false ∨ (z.catchType ≠ 0 ∧ ∃ nm : String, (Cond.classLink RL z.catchType nm).before args s = true ∧ va_Nc "java/lang/IllegalArgumentException" nm s) := by
                        intro z hz
                        rcases List.mem_cons.mp hz with rfl | hz
                        · exact Or.inr ⟨by decide, "java/lang/IndexOutOfBoundsException", hts (.classLink RL 45 "java/lang/IndexOutOfBoundsException") (by decide +kernel), hNot fx hF (by decide) (by decide) (by decide)⟩
                        exact absurd hz List.not_mem_nil
                      refine vx_catch (own := RL) (name := "java/lang/IllegalArgumentException") hown (tableOf [(0, 136, 137, 45)]) ⟨0, 136, 142, 47⟩ (tableOf [(0, 136, 147, 49)]) htab hpas rfl (by decide) (hts (.classLink RL 47 "java/lang/IllegalArgumentException") (by decide +kernel)) (hCast fx hF (by decide)) h1 h2 h3 ?_
                      refine lv_astore (lv' := (5, .ref q9) :: [(0, .ref (gad G 0)), (1, .int 9), (2, .int x), (3, .int y), (4, .int w)]) hx hb dL_does_142 hl (by decide) rfl (fun ls hl => ?_)
                      refine lv_bipush (v := (-20)) hx hb dL_does_144 (by decide) ?_
                      exact rRetIw hx hb hr hw (Or.inr ⟨_, hE, by decide, rfl⟩) hlocks dL_does_146 (Nat.le_refl _) (Nat.le_refl _)
                    intro r9 τ9 H locs hp9 hw
                    exact rRetIw hx hb hr hw (Or.inl hp9) hlocks dL_does_136 (Nat.zero_le _) (Nat.zero_le _)
                  · skip
                    exact absurd c_9 (by decide)
                · skip
                  exact absurd c_8 (by decide)
              · skip
                exact absurd c_7 (by decide)
            · skip
              exact absurd c_6 (by decide)
          · skip
            exact absurd c_5 (by decide)
        · skip
          exact absurd c_4 (by decide)
      · skip
        exact absurd c_3 (by decide)
    · skip
      exact absurd c_2 (by decide)
  · skip
    exact absurd c_1 (by decide)

def rmL_asks_0 : Room := ({ frames := 8, cells := 1, slots := 6, locals := 124 } : Room)
set_option maxHeartbeats 4000000 in
set_option maxRecDepth 100000 in
theorem kL_asks_0 (l : Launch) (hlt : l.stackTraces = false) (G : Gx) (hG : gOk G) (hF : Full G) (σ : St) (x y : Int32) (g n e9 z : Nat) (b : Bool) (hIv9 : CIv σ g n b e9 z) : CmI l yL_asks wsL_asks rmL_asks_0 G σ [.ref (gad G 0), .int 0, .int x, .int y] (fun r9 σ9 => (fun r σ' => r = σ 3 (ix x) ∧ σ' = σ ∧ inB x g = true) r9 σ9 ∨ ∃ E9 : String, (fun E => E = xIOB ∧ inB x g = false) E9 ∧ r9 = cdA E9 ∧ σ9 = σ) 1 6 := by
  refine bgL (cc := cL_asks) (maxL := 5) (ret := some .int) (own := RL) (hh := [(0, 181, 182, 45), (0, 181, 188, 49)]) (by decide) rfl rfl hG (Nat.le_of_ble_eq_true rfl) rfl ?_
  intro p e s m args below meth c ls htab Bd hl
  obtain ⟨hx, hb, hr, hml, hts, hown, hlocks, fx, hw⟩ := Bd
  have hl : lv_has ls 5 [(0, .ref (gad G 0)), (1, .int 0), (2, .int x), (3, .int y)] := hl
  refine lv_iload_n hx hb dL_asks_0 rfl (lv_at hl 1 rfl) ?_
  refine lv_if_ne (tgt := 12) hx hb dL_asks_1 (by decide) (fun c_1 => ?_) (fun c_1 => ?_)
  · skip
    exact absurd c_1 (by decide)
  · skip
    refine lv_aload_n hx hb dL_asks_4 rfl (lv_at hl 0 rfl) ?_
    refine lv_iload_n hx hb dL_asks_5 rfl (lv_at hl 2 rfl) ?_
    refine rCallXI (C := RX5) (As := [.int x]) (rest := []) ⟨hx, hb, hml, hown, hts⟩ fx hw (kX5_rest l hlt G hG hF σ x g n e9 z b hIv9) (cwV 1 hts gL_asks_X5_rest rfl rfl rfl (by decide +kernel) ⟨Nat.le_of_ble_eq_true rfl, Nat.le_of_ble_eq_true rfl⟩) (hF.1 0 (by decide)) rfl rfl rfl rfl hl.1 rfl (Nat.le_of_ble_eq_true rfl) dL_asks_6 ⟨Nat.le_of_ble_eq_true rfl, Nat.le_of_ble_eq_true rfl⟩ (fun E ce q9 H locs hE hw h1 h2 h3 => ?_) ?_
    · skip
      have e9 := hE.1; subst e9
      refine vx_catch (own := RL) (name := "java/lang/IndexOutOfBoundsException") hown (tableOf []) ⟨0, 181, 182, 45⟩ (tableOf [(0, 181, 188, 49)]) htab (fun z hz => absurd hz List.not_mem_nil) rfl (by decide) (hts (.classLink RL 45 "java/lang/IndexOutOfBoundsException") (by decide +kernel)) (hCast fx hF (by decide)) h1 h2 h3 ?_
      refine lv_astore (lv' := (4, .ref q9) :: [(0, .ref (gad G 0)), (1, .int 0), (2, .int x), (3, .int y)]) hx hb dL_asks_182 hl (by decide) rfl (fun ls hl => ?_)
      refine lv_sipush (v := (-3000)) hx hb dL_asks_184 (by decide) ?_
      exact rRetIw hx hb hr hw (Or.inr ⟨_, hE, by decide, rfl⟩) hlocks dL_asks_187 (Nat.le_refl _) (Nat.le_refl _)
    intro r9 τ9 H locs hp9 hw
    refine lv_goto (tgt := 181) hx hb dL_asks_9 (by decide) ?_
    exact rRetIw hx hb hr hw (Or.inl hp9) hlocks dL_asks_181 (Nat.zero_le _) (Nat.zero_le _)

def rmL_asks_1 : Room := ({ frames := 8, cells := 1, slots := 6, locals := 124 } : Room)
set_option maxHeartbeats 4000000 in
set_option maxRecDepth 100000 in
theorem kL_asks_1 (l : Launch) (hlt : l.stackTraces = false) (G : Gx) (hG : gOk G) (hF : Full G) (σ : St) (x y : Int32) (g n e9 z : Nat) (b : Bool) (hIv9 : CIv σ g n b e9 z) : CmI l yL_asks wsL_asks rmL_asks_1 G σ [.ref (gad G 0), .int 1, .int x, .int y] (fun r9 σ9 => (fun r σ' => r = (σ (4 + 1) (ix x)) ∧ σ' = σ ∧ inB x n = true ∧ b = true) r9 σ9 ∨ ∃ E9 : String, (fun E => (E = xIOB ∧ inB x n = false) ∨ (E = xISE ∧ inB x n = true ∧ b = false)) E9 ∧ r9 = cdA E9 ∧ σ9 = σ) 1 6 := by
  refine bgL (cc := cL_asks) (maxL := 5) (ret := some .int) (own := RL) (hh := [(0, 181, 182, 45), (0, 181, 188, 49)]) (by decide) rfl rfl hG (Nat.le_of_ble_eq_true rfl) rfl ?_
  intro p e s m args below meth c ls htab Bd hl
  obtain ⟨hx, hb, hr, hml, hts, hown, hlocks, fx, hw⟩ := Bd
  have hl : lv_has ls 5 [(0, .ref (gad G 0)), (1, .int 1), (2, .int x), (3, .int y)] := hl
  refine lv_iload_n hx hb dL_asks_0 rfl (lv_at hl 1 rfl) ?_
  refine lv_if_ne (tgt := 12) hx hb dL_asks_1 (by decide) (fun c_1 => ?_) (fun c_1 => ?_)
  · skip
    refine lv_iload_n hx hb dL_asks_12 rfl (lv_at hl 1 rfl) ?_
    refine lv_iconst (v := 1) hx hb dL_asks_13 (by decide) ?_
    refine lv_icmp_ne (tgt := 25) hx hb dL_asks_14 (by decide) (fun c_2 => ?_) (fun c_2 => ?_)
    · skip
      exact absurd c_2 (by decide)
    · skip
      refine lv_aload_n hx hb dL_asks_17 rfl (lv_at hl 0 rfl) ?_
      refine lv_iload_n hx hb dL_asks_18 rfl (lv_at hl 2 rfl) ?_
      refine rCallXI (C := RX5) (As := [.int x]) (rest := []) ⟨hx, hb, hml, hown, hts⟩ fx hw (kX5_gateOf l hlt G hG hF σ x g n e9 z b hIv9) (cwV 1 hts gL_asks_X5_gateOf rfl rfl rfl (by decide +kernel) ⟨Nat.le_of_ble_eq_true rfl, Nat.le_of_ble_eq_true rfl⟩) (hF.1 0 (by decide)) rfl rfl rfl rfl hl.1 rfl (Nat.le_of_ble_eq_true rfl) dL_asks_19 ⟨Nat.le_of_ble_eq_true rfl, Nat.le_of_ble_eq_true rfl⟩ (fun E ce q9 H locs hE hw h1 h2 h3 => ?_) ?_
      · skip
        rcases hE with hE | hE
        · skip
          have e9 := hE.1; subst e9
          refine vx_catch (own := RL) (name := "java/lang/IndexOutOfBoundsException") hown (tableOf []) ⟨0, 181, 182, 45⟩ (tableOf [(0, 181, 188, 49)]) htab (fun z hz => absurd hz List.not_mem_nil) rfl (by decide) (hts (.classLink RL 45 "java/lang/IndexOutOfBoundsException") (by decide +kernel)) (hCast fx hF (by decide)) h1 h2 h3 ?_
          refine lv_astore (lv' := (4, .ref q9) :: [(0, .ref (gad G 0)), (1, .int 1), (2, .int x), (3, .int y)]) hx hb dL_asks_182 hl (by decide) rfl (fun ls hl => ?_)
          refine lv_sipush (v := (-3000)) hx hb dL_asks_184 (by decide) ?_
          exact rRetIw hx hb hr hw (Or.inr ⟨_, Or.inl hE, by decide, rfl⟩) hlocks dL_asks_187 (Nat.le_refl _) (Nat.le_refl _)
        · skip
          have e9 := hE.1; subst e9
          have hpas : ∀ z ∈ tableOf [(0, 181, 182, 45)], covers z 19 = false ∨ (z.catchType ≠ 0 ∧ ∃ nm : String, (Cond.classLink RL z.catchType nm).before args s = true ∧ va_Nc "java/lang/IllegalStateException" nm s) := by
            intro z hz
            rcases List.mem_cons.mp hz with rfl | hz
            · exact Or.inr ⟨by decide, "java/lang/IndexOutOfBoundsException", hts (.classLink RL 45 "java/lang/IndexOutOfBoundsException") (by decide +kernel), hNot fx hF (by decide) (by decide) (by decide)⟩
            exact absurd hz List.not_mem_nil
          refine vx_catch (own := RL) (name := "java/lang/IllegalStateException") hown (tableOf [(0, 181, 182, 45)]) ⟨0, 181, 188, 49⟩ (tableOf []) htab hpas rfl (by decide) (hts (.classLink RL 49 "java/lang/IllegalStateException") (by decide +kernel)) (hCast fx hF (by decide)) h1 h2 h3 ?_
          refine lv_astore (lv' := (4, .ref q9) :: [(0, .ref (gad G 0)), (1, .int 1), (2, .int x), (3, .int y)]) hx hb dL_asks_188 hl (by decide) rfl (fun ls hl => ?_)
          refine lv_sipush (v := (-1000)) hx hb dL_asks_190 (by decide) ?_
          exact rRetIw hx hb hr hw (Or.inr ⟨_, Or.inr (hE), by decide, rfl⟩) hlocks dL_asks_193 (Nat.le_refl _) (Nat.le_refl _)
      intro r9 τ9 H locs hp9 hw
      refine lv_goto (tgt := 181) hx hb dL_asks_22 (by decide) ?_
      exact rRetIw hx hb hr hw (Or.inl hp9) hlocks dL_asks_181 (Nat.zero_le _) (Nat.zero_le _)
  · skip
    exact absurd c_1 (by decide)

def rmL_asks_2 : Room := ({ frames := 8, cells := 1, slots := 6, locals := 124 } : Room)
set_option maxHeartbeats 4000000 in
set_option maxRecDepth 100000 in
theorem kL_asks_2 (l : Launch) (hlt : l.stackTraces = false) (G : Gx) (hG : gOk G) (hF : Full G) (σ : St) (x y : Int32) (g n e9 z : Nat) (b : Bool) (hIv9 : CIv σ g n b e9 z) : CmI l yL_asks wsL_asks rmL_asks_2 G σ [.ref (gad G 0), .int 2, .int x, .int y] (fun r9 σ9 => (fun r σ' => r = (netA σ 4 (ix x)) ∧ σ' = σ ∧ inB x n = true ∧ b = true) r9 σ9 ∨ ∃ E9 : String, (fun E => (E = xIOB ∧ inB x n = false) ∨ (E = xISE ∧ inB x n = true ∧ b = false)) E9 ∧ r9 = cdA E9 ∧ σ9 = σ) 1 6 := by
  refine bgL (cc := cL_asks) (maxL := 5) (ret := some .int) (own := RL) (hh := [(0, 181, 182, 45), (0, 181, 188, 49)]) (by decide) rfl rfl hG (Nat.le_of_ble_eq_true rfl) rfl ?_
  intro p e s m args below meth c ls htab Bd hl
  obtain ⟨hx, hb, hr, hml, hts, hown, hlocks, fx, hw⟩ := Bd
  have hl : lv_has ls 5 [(0, .ref (gad G 0)), (1, .int 2), (2, .int x), (3, .int y)] := hl
  refine lv_iload_n hx hb dL_asks_0 rfl (lv_at hl 1 rfl) ?_
  refine lv_if_ne (tgt := 12) hx hb dL_asks_1 (by decide) (fun c_1 => ?_) (fun c_1 => ?_)
  · skip
    refine lv_iload_n hx hb dL_asks_12 rfl (lv_at hl 1 rfl) ?_
    refine lv_iconst (v := 1) hx hb dL_asks_13 (by decide) ?_
    refine lv_icmp_ne (tgt := 25) hx hb dL_asks_14 (by decide) (fun c_2 => ?_) (fun c_2 => ?_)
    · skip
      refine lv_iload_n hx hb dL_asks_25 rfl (lv_at hl 1 rfl) ?_
      refine lv_iconst (v := 2) hx hb dL_asks_26 (by decide) ?_
      refine lv_icmp_ne (tgt := 38) hx hb dL_asks_27 (by decide) (fun c_3 => ?_) (fun c_3 => ?_)
      · skip
        exact absurd c_3 (by decide)
      · skip
        refine lv_aload_n hx hb dL_asks_30 rfl (lv_at hl 0 rfl) ?_
        refine lv_iload_n hx hb dL_asks_31 rfl (lv_at hl 2 rfl) ?_
        refine rCallXI (C := RX5) (As := [.int x]) (rest := []) ⟨hx, hb, hml, hown, hts⟩ fx hw (kX5_lapsOf l hlt G hG hF σ x g n e9 z b hIv9) (cwV 1 hts gL_asks_X5_lapsOf rfl rfl rfl (by decide +kernel) ⟨Nat.le_of_ble_eq_true rfl, Nat.le_of_ble_eq_true rfl⟩) (hF.1 0 (by decide)) rfl rfl rfl rfl hl.1 rfl (Nat.le_of_ble_eq_true rfl) dL_asks_32 ⟨Nat.le_of_ble_eq_true rfl, Nat.le_of_ble_eq_true rfl⟩ (fun E ce q9 H locs hE hw h1 h2 h3 => ?_) ?_
        · skip
          rcases hE with hE | hE
          · skip
            have e9 := hE.1; subst e9
            refine vx_catch (own := RL) (name := "java/lang/IndexOutOfBoundsException") hown (tableOf []) ⟨0, 181, 182, 45⟩ (tableOf [(0, 181, 188, 49)]) htab (fun z hz => absurd hz List.not_mem_nil) rfl (by decide) (hts (.classLink RL 45 "java/lang/IndexOutOfBoundsException") (by decide +kernel)) (hCast fx hF (by decide)) h1 h2 h3 ?_
            refine lv_astore (lv' := (4, .ref q9) :: [(0, .ref (gad G 0)), (1, .int 2), (2, .int x), (3, .int y)]) hx hb dL_asks_182 hl (by decide) rfl (fun ls hl => ?_)
            refine lv_sipush (v := (-3000)) hx hb dL_asks_184 (by decide) ?_
            exact rRetIw hx hb hr hw (Or.inr ⟨_, Or.inl hE, by decide, rfl⟩) hlocks dL_asks_187 (Nat.le_refl _) (Nat.le_refl _)
          · skip
            have e9 := hE.1; subst e9
            have hpas : ∀ z ∈ tableOf [(0, 181, 182, 45)], covers z 32 = false ∨ (z.catchType ≠ 0 ∧ ∃ nm : String, (Cond.classLink RL z.catchType nm).before args s = true ∧ va_Nc "java/lang/IllegalStateException" nm s) := by
              intro z hz
              rcases List.mem_cons.mp hz with rfl | hz
              · exact Or.inr ⟨by decide, "java/lang/IndexOutOfBoundsException", hts (.classLink RL 45 "java/lang/IndexOutOfBoundsException") (by decide +kernel), hNot fx hF (by decide) (by decide) (by decide)⟩
              exact absurd hz List.not_mem_nil
            refine vx_catch (own := RL) (name := "java/lang/IllegalStateException") hown (tableOf [(0, 181, 182, 45)]) ⟨0, 181, 188, 49⟩ (tableOf []) htab hpas rfl (by decide) (hts (.classLink RL 49 "java/lang/IllegalStateException") (by decide +kernel)) (hCast fx hF (by decide)) h1 h2 h3 ?_
            refine lv_astore (lv' := (4, .ref q9) :: [(0, .ref (gad G 0)), (1, .int 2), (2, .int x), (3, .int y)]) hx hb dL_asks_188 hl (by decide) rfl (fun ls hl => ?_)
            refine lv_sipush (v := (-1000)) hx hb dL_asks_190 (by decide) ?_
            exact rRetIw hx hb hr hw (Or.inr ⟨_, Or.inr (hE), by decide, rfl⟩) hlocks dL_asks_193 (Nat.le_refl _) (Nat.le_refl _)
        intro r9 τ9 H locs hp9 hw
        refine lv_goto (tgt := 181) hx hb dL_asks_35 (by decide) ?_
        exact rRetIw hx hb hr hw (Or.inl hp9) hlocks dL_asks_181 (Nat.zero_le _) (Nat.zero_le _)
    · skip
      exact absurd c_2 (by decide)
  · skip
    exact absurd c_1 (by decide)

def rmL_asks_3 : Room := ({ frames := 8, cells := 1, slots := 6, locals := 124 } : Room)
set_option maxHeartbeats 4000000 in
set_option maxRecDepth 100000 in
theorem kL_asks_3 (l : Launch) (hlt : l.stackTraces = false) (G : Gx) (hG : gOk G) (hF : Full G) (σ : St) (x y : Int32) (g n e9 z : Nat) (b : Bool) (hIv9 : CIv σ g n b e9 z) : CmI l yL_asks wsL_asks rmL_asks_3 G σ [.ref (gad G 0), .int 3, .int x, .int y] (fun r9 σ9 => (fun r σ' => r = (misA σ 4 (ix x)) ∧ σ' = σ ∧ inB x n = true ∧ b = true) r9 σ9 ∨ ∃ E9 : String, (fun E => (E = xIOB ∧ inB x n = false) ∨ (E = xISE ∧ inB x n = true ∧ b = false)) E9 ∧ r9 = cdA E9 ∧ σ9 = σ) 1 6 := by
  refine bgL (cc := cL_asks) (maxL := 5) (ret := some .int) (own := RL) (hh := [(0, 181, 182, 45), (0, 181, 188, 49)]) (by decide) rfl rfl hG (Nat.le_of_ble_eq_true rfl) rfl ?_
  intro p e s m args below meth c ls htab Bd hl
  obtain ⟨hx, hb, hr, hml, hts, hown, hlocks, fx, hw⟩ := Bd
  have hl : lv_has ls 5 [(0, .ref (gad G 0)), (1, .int 3), (2, .int x), (3, .int y)] := hl
  refine lv_iload_n hx hb dL_asks_0 rfl (lv_at hl 1 rfl) ?_
  refine lv_if_ne (tgt := 12) hx hb dL_asks_1 (by decide) (fun c_1 => ?_) (fun c_1 => ?_)
  · skip
    refine lv_iload_n hx hb dL_asks_12 rfl (lv_at hl 1 rfl) ?_
    refine lv_iconst (v := 1) hx hb dL_asks_13 (by decide) ?_
    refine lv_icmp_ne (tgt := 25) hx hb dL_asks_14 (by decide) (fun c_2 => ?_) (fun c_2 => ?_)
    · skip
      refine lv_iload_n hx hb dL_asks_25 rfl (lv_at hl 1 rfl) ?_
      refine lv_iconst (v := 2) hx hb dL_asks_26 (by decide) ?_
      refine lv_icmp_ne (tgt := 38) hx hb dL_asks_27 (by decide) (fun c_3 => ?_) (fun c_3 => ?_)
      · skip
        refine lv_iload_n hx hb dL_asks_38 rfl (lv_at hl 1 rfl) ?_
        refine lv_iconst (v := 3) hx hb dL_asks_39 (by decide) ?_
        refine lv_icmp_ne (tgt := 51) hx hb dL_asks_40 (by decide) (fun c_4 => ?_) (fun c_4 => ?_)
        · skip
          exact absurd c_4 (by decide)
        · skip
          refine lv_aload_n hx hb dL_asks_43 rfl (lv_at hl 0 rfl) ?_
          refine lv_iload_n hx hb dL_asks_44 rfl (lv_at hl 2 rfl) ?_
          refine rCallXI (C := RX5) (As := [.int x]) (rest := []) ⟨hx, hb, hml, hown, hts⟩ fx hw (kX5_missing l hlt G hG hF σ x g n e9 z b hIv9) (cwV 1 hts gL_asks_X5_missing rfl rfl rfl (by decide +kernel) ⟨Nat.le_of_ble_eq_true rfl, Nat.le_of_ble_eq_true rfl⟩) (hF.1 0 (by decide)) rfl rfl rfl rfl hl.1 rfl (Nat.le_of_ble_eq_true rfl) dL_asks_45 ⟨Nat.le_of_ble_eq_true rfl, Nat.le_of_ble_eq_true rfl⟩ (fun E ce q9 H locs hE hw h1 h2 h3 => ?_) ?_
          · skip
            rcases hE with hE | hE
            · skip
              have e9 := hE.1; subst e9
              refine vx_catch (own := RL) (name := "java/lang/IndexOutOfBoundsException") hown (tableOf []) ⟨0, 181, 182, 45⟩ (tableOf [(0, 181, 188, 49)]) htab (fun z hz => absurd hz List.not_mem_nil) rfl (by decide) (hts (.classLink RL 45 "java/lang/IndexOutOfBoundsException") (by decide +kernel)) (hCast fx hF (by decide)) h1 h2 h3 ?_
              refine lv_astore (lv' := (4, .ref q9) :: [(0, .ref (gad G 0)), (1, .int 3), (2, .int x), (3, .int y)]) hx hb dL_asks_182 hl (by decide) rfl (fun ls hl => ?_)
              refine lv_sipush (v := (-3000)) hx hb dL_asks_184 (by decide) ?_
              exact rRetIw hx hb hr hw (Or.inr ⟨_, Or.inl hE, by decide, rfl⟩) hlocks dL_asks_187 (Nat.le_refl _) (Nat.le_refl _)
            · skip
              have e9 := hE.1; subst e9
              have hpas : ∀ z ∈ tableOf [(0, 181, 182, 45)], covers z 45 = false ∨ (z.catchType ≠ 0 ∧ ∃ nm : String, (Cond.classLink RL z.catchType nm).before args s = true ∧ va_Nc "java/lang/IllegalStateException" nm s) := by
                intro z hz
                rcases List.mem_cons.mp hz with rfl | hz
                · exact Or.inr ⟨by decide, "java/lang/IndexOutOfBoundsException", hts (.classLink RL 45 "java/lang/IndexOutOfBoundsException") (by decide +kernel), hNot fx hF (by decide) (by decide) (by decide)⟩
                exact absurd hz List.not_mem_nil
              refine vx_catch (own := RL) (name := "java/lang/IllegalStateException") hown (tableOf [(0, 181, 182, 45)]) ⟨0, 181, 188, 49⟩ (tableOf []) htab hpas rfl (by decide) (hts (.classLink RL 49 "java/lang/IllegalStateException") (by decide +kernel)) (hCast fx hF (by decide)) h1 h2 h3 ?_
              refine lv_astore (lv' := (4, .ref q9) :: [(0, .ref (gad G 0)), (1, .int 3), (2, .int x), (3, .int y)]) hx hb dL_asks_188 hl (by decide) rfl (fun ls hl => ?_)
              refine lv_sipush (v := (-1000)) hx hb dL_asks_190 (by decide) ?_
              exact rRetIw hx hb hr hw (Or.inr ⟨_, Or.inr (hE), by decide, rfl⟩) hlocks dL_asks_193 (Nat.le_refl _) (Nat.le_refl _)
          intro r9 τ9 H locs hp9 hw
          refine lv_goto (tgt := 181) hx hb dL_asks_48 (by decide) ?_
          exact rRetIw hx hb hr hw (Or.inl hp9) hlocks dL_asks_181 (Nat.zero_le _) (Nat.zero_le _)
      · skip
        exact absurd c_3 (by decide)
    · skip
      exact absurd c_2 (by decide)
  · skip
    exact absurd c_1 (by decide)

def rmL_asks_4 : Room := ({ frames := 8, cells := 1, slots := 6, locals := 124 } : Room)
set_option maxHeartbeats 4000000 in
set_option maxRecDepth 100000 in
theorem kL_asks_4 (l : Launch) (hlt : l.stackTraces = false) (G : Gx) (hG : gOk G) (hF : Full G) (σ : St) (x y : Int32) (g n e9 z : Nat) (b : Bool) (hIv9 : CIv σ g n b e9 z) : CmI l yL_asks wsL_asks rmL_asks_4 G σ [.ref (gad G 0), .int 4, .int x, .int y] (fun r9 σ9 => (fun r σ' => r = (nI (rkA σ n (ix x))) ∧ σ' = σ ∧ inB x n = true ∧ b = true) r9 σ9 ∨ ∃ E9 : String, (fun E => (E = xIOB ∧ inB x n = false) ∨ (E = xISE ∧ inB x n = true ∧ b = false)) E9 ∧ r9 = cdA E9 ∧ σ9 = σ) 1 6 := by
  refine bgL (cc := cL_asks) (maxL := 5) (ret := some .int) (own := RL) (hh := [(0, 181, 182, 45), (0, 181, 188, 49)]) (by decide) rfl rfl hG (Nat.le_of_ble_eq_true rfl) rfl ?_
  intro p e s m args below meth c ls htab Bd hl
  obtain ⟨hx, hb, hr, hml, hts, hown, hlocks, fx, hw⟩ := Bd
  have hl : lv_has ls 5 [(0, .ref (gad G 0)), (1, .int 4), (2, .int x), (3, .int y)] := hl
  refine lv_iload_n hx hb dL_asks_0 rfl (lv_at hl 1 rfl) ?_
  refine lv_if_ne (tgt := 12) hx hb dL_asks_1 (by decide) (fun c_1 => ?_) (fun c_1 => ?_)
  · skip
    refine lv_iload_n hx hb dL_asks_12 rfl (lv_at hl 1 rfl) ?_
    refine lv_iconst (v := 1) hx hb dL_asks_13 (by decide) ?_
    refine lv_icmp_ne (tgt := 25) hx hb dL_asks_14 (by decide) (fun c_2 => ?_) (fun c_2 => ?_)
    · skip
      refine lv_iload_n hx hb dL_asks_25 rfl (lv_at hl 1 rfl) ?_
      refine lv_iconst (v := 2) hx hb dL_asks_26 (by decide) ?_
      refine lv_icmp_ne (tgt := 38) hx hb dL_asks_27 (by decide) (fun c_3 => ?_) (fun c_3 => ?_)
      · skip
        refine lv_iload_n hx hb dL_asks_38 rfl (lv_at hl 1 rfl) ?_
        refine lv_iconst (v := 3) hx hb dL_asks_39 (by decide) ?_
        refine lv_icmp_ne (tgt := 51) hx hb dL_asks_40 (by decide) (fun c_4 => ?_) (fun c_4 => ?_)
        · skip
          refine lv_iload_n hx hb dL_asks_51 rfl (lv_at hl 1 rfl) ?_
          refine lv_iconst (v := 4) hx hb dL_asks_52 (by decide) ?_
          refine lv_icmp_ne (tgt := 64) hx hb dL_asks_53 (by decide) (fun c_5 => ?_) (fun c_5 => ?_)
          · skip
            exact absurd c_5 (by decide)
          · skip
            refine lv_aload_n hx hb dL_asks_56 rfl (lv_at hl 0 rfl) ?_
            refine lv_iload_n hx hb dL_asks_57 rfl (lv_at hl 2 rfl) ?_
            refine rCallXI (C := RX5) (As := [.int x]) (rest := []) ⟨hx, hb, hml, hown, hts⟩ fx hw (kX5_rank l hlt G hG hF σ x g n e9 z b hIv9) (cwV 1 hts gL_asks_X5_rank rfl rfl rfl (by decide +kernel) ⟨Nat.le_of_ble_eq_true rfl, Nat.le_of_ble_eq_true rfl⟩) (hF.1 0 (by decide)) rfl rfl rfl rfl hl.1 rfl (Nat.le_of_ble_eq_true rfl) dL_asks_58 ⟨Nat.le_of_ble_eq_true rfl, Nat.le_of_ble_eq_true rfl⟩ (fun E ce q9 H locs hE hw h1 h2 h3 => ?_) ?_
            · skip
              rcases hE with hE | hE
              · skip
                have e9 := hE.1; subst e9
                refine vx_catch (own := RL) (name := "java/lang/IndexOutOfBoundsException") hown (tableOf []) ⟨0, 181, 182, 45⟩ (tableOf [(0, 181, 188, 49)]) htab (fun z hz => absurd hz List.not_mem_nil) rfl (by decide) (hts (.classLink RL 45 "java/lang/IndexOutOfBoundsException") (by decide +kernel)) (hCast fx hF (by decide)) h1 h2 h3 ?_
                refine lv_astore (lv' := (4, .ref q9) :: [(0, .ref (gad G 0)), (1, .int 4), (2, .int x), (3, .int y)]) hx hb dL_asks_182 hl (by decide) rfl (fun ls hl => ?_)
                refine lv_sipush (v := (-3000)) hx hb dL_asks_184 (by decide) ?_
                exact rRetIw hx hb hr hw (Or.inr ⟨_, Or.inl hE, by decide, rfl⟩) hlocks dL_asks_187 (Nat.le_refl _) (Nat.le_refl _)
              · skip
                have e9 := hE.1; subst e9
                have hpas : ∀ z ∈ tableOf [(0, 181, 182, 45)], covers z 58 = false ∨ (z.catchType ≠ 0 ∧ ∃ nm : String, (Cond.classLink RL z.catchType nm).before args s = true ∧ va_Nc "java/lang/IllegalStateException" nm s) := by
                  intro z hz
                  rcases List.mem_cons.mp hz with rfl | hz
                  · exact Or.inr ⟨by decide, "java/lang/IndexOutOfBoundsException", hts (.classLink RL 45 "java/lang/IndexOutOfBoundsException") (by decide +kernel), hNot fx hF (by decide) (by decide) (by decide)⟩
                  exact absurd hz List.not_mem_nil
                refine vx_catch (own := RL) (name := "java/lang/IllegalStateException") hown (tableOf [(0, 181, 182, 45)]) ⟨0, 181, 188, 49⟩ (tableOf []) htab hpas rfl (by decide) (hts (.classLink RL 49 "java/lang/IllegalStateException") (by decide +kernel)) (hCast fx hF (by decide)) h1 h2 h3 ?_
                refine lv_astore (lv' := (4, .ref q9) :: [(0, .ref (gad G 0)), (1, .int 4), (2, .int x), (3, .int y)]) hx hb dL_asks_188 hl (by decide) rfl (fun ls hl => ?_)
                refine lv_sipush (v := (-1000)) hx hb dL_asks_190 (by decide) ?_
                exact rRetIw hx hb hr hw (Or.inr ⟨_, Or.inr (hE), by decide, rfl⟩) hlocks dL_asks_193 (Nat.le_refl _) (Nat.le_refl _)
            intro r9 τ9 H locs hp9 hw
            refine lv_goto (tgt := 181) hx hb dL_asks_61 (by decide) ?_
            exact rRetIw hx hb hr hw (Or.inl hp9) hlocks dL_asks_181 (Nat.zero_le _) (Nat.zero_le _)
        · skip
          exact absurd c_4 (by decide)
      · skip
        exact absurd c_3 (by decide)
    · skip
      exact absurd c_2 (by decide)
  · skip
    exact absurd c_1 (by decide)

def rmL_asks_5 : Room := ({ frames := 8, cells := 1, slots := 6, locals := 125 } : Room)
set_option maxHeartbeats 4000000 in
set_option maxRecDepth 100000 in
theorem kL_asks_5 (l : Launch) (hlt : l.stackTraces = false) (G : Gx) (hG : gOk G) (hF : Full G) (σ : St) (x y : Int32) (g n e9 z : Nat) (b : Bool) (hIv9 : CIv σ g n b e9 z) : CmI l yL_asks wsL_asks rmL_asks_5 G σ [.ref (gad G 0), .int 5, .int x, .int y] (fun r9 σ9 => (fun r σ' => r = rrA (ordA (ahB (rbS σ z) 12) (rbS σ z 18) n) (rbS σ z 19) n (ix x) ∧ σ' = (upA (upA (rbS σ z) 18 (ordA (ahB (rbS σ z) 12) (rbS σ z 18) n)) 19 (rrA (ordA (ahB (rbS σ z) 12) (rbS σ z 18) n) (rbS σ z 19) n)) ∧ inB x n = true ∧ b = true) r9 σ9 ∨ ∃ E9 : String, (fun E => (E = xIOB ∧ inB x n = false) ∨ (E = xISE ∧ inB x n = true ∧ b = false)) E9 ∧ r9 = cdA E9 ∧ σ9 = σ) 1 6 := by
  refine bgL (cc := cL_asks) (maxL := 5) (ret := some .int) (own := RL) (hh := [(0, 181, 182, 45), (0, 181, 188, 49)]) (by decide) rfl rfl hG (Nat.le_of_ble_eq_true rfl) rfl ?_
  intro p e s m args below meth c ls htab Bd hl
  obtain ⟨hx, hb, hr, hml, hts, hown, hlocks, fx, hw⟩ := Bd
  have hl : lv_has ls 5 [(0, .ref (gad G 0)), (1, .int 5), (2, .int x), (3, .int y)] := hl
  refine lv_iload_n hx hb dL_asks_0 rfl (lv_at hl 1 rfl) ?_
  refine lv_if_ne (tgt := 12) hx hb dL_asks_1 (by decide) (fun c_1 => ?_) (fun c_1 => ?_)
  · skip
    refine lv_iload_n hx hb dL_asks_12 rfl (lv_at hl 1 rfl) ?_
    refine lv_iconst (v := 1) hx hb dL_asks_13 (by decide) ?_
    refine lv_icmp_ne (tgt := 25) hx hb dL_asks_14 (by decide) (fun c_2 => ?_) (fun c_2 => ?_)
    · skip
      refine lv_iload_n hx hb dL_asks_25 rfl (lv_at hl 1 rfl) ?_
      refine lv_iconst (v := 2) hx hb dL_asks_26 (by decide) ?_
      refine lv_icmp_ne (tgt := 38) hx hb dL_asks_27 (by decide) (fun c_3 => ?_) (fun c_3 => ?_)
      · skip
        refine lv_iload_n hx hb dL_asks_38 rfl (lv_at hl 1 rfl) ?_
        refine lv_iconst (v := 3) hx hb dL_asks_39 (by decide) ?_
        refine lv_icmp_ne (tgt := 51) hx hb dL_asks_40 (by decide) (fun c_4 => ?_) (fun c_4 => ?_)
        · skip
          refine lv_iload_n hx hb dL_asks_51 rfl (lv_at hl 1 rfl) ?_
          refine lv_iconst (v := 4) hx hb dL_asks_52 (by decide) ?_
          refine lv_icmp_ne (tgt := 64) hx hb dL_asks_53 (by decide) (fun c_5 => ?_) (fun c_5 => ?_)
          · skip
            refine lv_iload_n hx hb dL_asks_64 rfl (lv_at hl 1 rfl) ?_
            refine lv_iconst (v := 5) hx hb dL_asks_65 (by decide) ?_
            refine lv_icmp_ne (tgt := 77) hx hb dL_asks_66 (by decide) (fun c_6 => ?_) (fun c_6 => ?_)
            · skip
              exact absurd c_6 (by decide)
            · skip
              refine lv_aload_n hx hb dL_asks_69 rfl (lv_at hl 0 rfl) ?_
              refine lv_iload_n hx hb dL_asks_70 rfl (lv_at hl 2 rfl) ?_
              refine rCallXI (C := RX5) (As := [.int x]) (rest := []) ⟨hx, hb, hml, hown, hts⟩ fx hw (kX5_rankByRecord l hlt G hG hF σ x g n e9 z b hIv9) (cwV 1 hts gL_asks_X5_rankByRecord rfl rfl rfl (by decide +kernel) ⟨Nat.le_of_ble_eq_true rfl, Nat.le_of_ble_eq_true rfl⟩) (hF.1 0 (by decide)) rfl rfl rfl rfl hl.1 rfl (Nat.le_of_ble_eq_true rfl) dL_asks_71 ⟨Nat.le_of_ble_eq_true rfl, Nat.le_of_ble_eq_true rfl⟩ (fun E ce q9 H locs hE hw h1 h2 h3 => ?_) ?_
              · skip
                rcases hE with hE | hE
                · skip
                  have e9 := hE.1; subst e9
                  refine vx_catch (own := RL) (name := "java/lang/IndexOutOfBoundsException") hown (tableOf []) ⟨0, 181, 182, 45⟩ (tableOf [(0, 181, 188, 49)]) htab (fun z hz => absurd hz List.not_mem_nil) rfl (by decide) (hts (.classLink RL 45 "java/lang/IndexOutOfBoundsException") (by decide +kernel)) (hCast fx hF (by decide)) h1 h2 h3 ?_
                  refine lv_astore (lv' := (4, .ref q9) :: [(0, .ref (gad G 0)), (1, .int 5), (2, .int x), (3, .int y)]) hx hb dL_asks_182 hl (by decide) rfl (fun ls hl => ?_)
                  refine lv_sipush (v := (-3000)) hx hb dL_asks_184 (by decide) ?_
                  exact rRetIw hx hb hr hw (Or.inr ⟨_, Or.inl hE, by decide, rfl⟩) hlocks dL_asks_187 (Nat.le_refl _) (Nat.le_refl _)
                · skip
                  have e9 := hE.1; subst e9
                  have hpas : ∀ z ∈ tableOf [(0, 181, 182, 45)], covers z 71 = false ∨ (z.catchType ≠ 0 ∧ ∃ nm : String, (Cond.classLink RL z.catchType nm).before args s = true ∧ va_Nc "java/lang/IllegalStateException" nm s) := by
                    intro z hz
                    rcases List.mem_cons.mp hz with rfl | hz
                    · exact Or.inr ⟨by decide, "java/lang/IndexOutOfBoundsException", hts (.classLink RL 45 "java/lang/IndexOutOfBoundsException") (by decide +kernel), hNot fx hF (by decide) (by decide) (by decide)⟩
                    exact absurd hz List.not_mem_nil
                  refine vx_catch (own := RL) (name := "java/lang/IllegalStateException") hown (tableOf [(0, 181, 182, 45)]) ⟨0, 181, 188, 49⟩ (tableOf []) htab hpas rfl (by decide) (hts (.classLink RL 49 "java/lang/IllegalStateException") (by decide +kernel)) (hCast fx hF (by decide)) h1 h2 h3 ?_
                  refine lv_astore (lv' := (4, .ref q9) :: [(0, .ref (gad G 0)), (1, .int 5), (2, .int x), (3, .int y)]) hx hb dL_asks_188 hl (by decide) rfl (fun ls hl => ?_)
                  refine lv_sipush (v := (-1000)) hx hb dL_asks_190 (by decide) ?_
                  exact rRetIw hx hb hr hw (Or.inr ⟨_, Or.inr (hE), by decide, rfl⟩) hlocks dL_asks_193 (Nat.le_refl _) (Nat.le_refl _)
              intro r9 τ9 H locs hp9 hw
              refine lv_goto (tgt := 181) hx hb dL_asks_74 (by decide) ?_
              exact rRetIw hx hb hr hw (Or.inl hp9) hlocks dL_asks_181 (Nat.zero_le _) (Nat.zero_le _)
          · skip
            exact absurd c_5 (by decide)
        · skip
          exact absurd c_4 (by decide)
      · skip
        exact absurd c_3 (by decide)
    · skip
      exact absurd c_2 (by decide)
  · skip
    exact absurd c_1 (by decide)

def rmL_asks_6 : Room := ({ frames := 8, cells := 1, slots := 6, locals := 124 } : Room)
set_option maxHeartbeats 4000000 in
set_option maxRecDepth 100000 in
theorem kL_asks_6 (l : Launch) (hlt : l.stackTraces = false) (G : Gx) (hG : gOk G) (hF : Full G) (σ : St) (x y : Int32) (g n e9 z : Nat) (b : Bool) (hIv9 : CIv σ g n b e9 z) : CmI l yL_asks wsL_asks rmL_asks_6 G σ [.ref (gad G 0), .int 6, .int x, .int y] (fun r9 σ9 => (fun r σ' => r = (if 25 < (if ldrA σ 4 n (ix x) n < 0 then 0 else ldrA σ 4 n (ix x) n) / 10 then 25 else (if ldrA σ 4 n (ix x) n < 0 then 0 else ldrA σ 4 n (ix x) n) / 10) ∧ σ' = σ ∧ inB x n = true ∧ b = true) r9 σ9 ∨ ∃ E9 : String, (fun E => (E = xIOB ∧ inB x n = false) ∨ (E = xISE ∧ inB x n = true ∧ b = false)) E9 ∧ r9 = cdA E9 ∧ σ9 = σ) 1 6 := by
  refine bgL (cc := cL_asks) (maxL := 5) (ret := some .int) (own := RL) (hh := [(0, 181, 182, 45), (0, 181, 188, 49)]) (by decide) rfl rfl hG (Nat.le_of_ble_eq_true rfl) rfl ?_
  intro p e s m args below meth c ls htab Bd hl
  obtain ⟨hx, hb, hr, hml, hts, hown, hlocks, fx, hw⟩ := Bd
  have hl : lv_has ls 5 [(0, .ref (gad G 0)), (1, .int 6), (2, .int x), (3, .int y)] := hl
  refine lv_iload_n hx hb dL_asks_0 rfl (lv_at hl 1 rfl) ?_
  refine lv_if_ne (tgt := 12) hx hb dL_asks_1 (by decide) (fun c_1 => ?_) (fun c_1 => ?_)
  · skip
    refine lv_iload_n hx hb dL_asks_12 rfl (lv_at hl 1 rfl) ?_
    refine lv_iconst (v := 1) hx hb dL_asks_13 (by decide) ?_
    refine lv_icmp_ne (tgt := 25) hx hb dL_asks_14 (by decide) (fun c_2 => ?_) (fun c_2 => ?_)
    · skip
      refine lv_iload_n hx hb dL_asks_25 rfl (lv_at hl 1 rfl) ?_
      refine lv_iconst (v := 2) hx hb dL_asks_26 (by decide) ?_
      refine lv_icmp_ne (tgt := 38) hx hb dL_asks_27 (by decide) (fun c_3 => ?_) (fun c_3 => ?_)
      · skip
        refine lv_iload_n hx hb dL_asks_38 rfl (lv_at hl 1 rfl) ?_
        refine lv_iconst (v := 3) hx hb dL_asks_39 (by decide) ?_
        refine lv_icmp_ne (tgt := 51) hx hb dL_asks_40 (by decide) (fun c_4 => ?_) (fun c_4 => ?_)
        · skip
          refine lv_iload_n hx hb dL_asks_51 rfl (lv_at hl 1 rfl) ?_
          refine lv_iconst (v := 4) hx hb dL_asks_52 (by decide) ?_
          refine lv_icmp_ne (tgt := 64) hx hb dL_asks_53 (by decide) (fun c_5 => ?_) (fun c_5 => ?_)
          · skip
            refine lv_iload_n hx hb dL_asks_64 rfl (lv_at hl 1 rfl) ?_
            refine lv_iconst (v := 5) hx hb dL_asks_65 (by decide) ?_
            refine lv_icmp_ne (tgt := 77) hx hb dL_asks_66 (by decide) (fun c_6 => ?_) (fun c_6 => ?_)
            · skip
              refine lv_iload_n hx hb dL_asks_77 rfl (lv_at hl 1 rfl) ?_
              refine lv_bipush (v := 6) hx hb dL_asks_78 (by decide) ?_
              refine lv_icmp_ne (tgt := 91) hx hb dL_asks_80 (by decide) (fun c_7 => ?_) (fun c_7 => ?_)
              · skip
                exact absurd c_7 (by decide)
              · skip
                refine lv_aload_n hx hb dL_asks_83 rfl (lv_at hl 0 rfl) ?_
                refine lv_iload_n hx hb dL_asks_84 rfl (lv_at hl 2 rfl) ?_
                refine rCallXI (C := RX5) (As := [.int x]) (rest := []) ⟨hx, hb, hml, hown, hts⟩ fx hw (kX5_catchUp l hlt G hG hF σ x g n e9 z b hIv9) (cwV 1 hts gL_asks_X5_catchUp rfl rfl rfl (by decide +kernel) ⟨Nat.le_of_ble_eq_true rfl, Nat.le_of_ble_eq_true rfl⟩) (hF.1 0 (by decide)) rfl rfl rfl rfl hl.1 rfl (Nat.le_of_ble_eq_true rfl) dL_asks_85 ⟨Nat.le_of_ble_eq_true rfl, Nat.le_of_ble_eq_true rfl⟩ (fun E ce q9 H locs hE hw h1 h2 h3 => ?_) ?_
                · skip
                  rcases hE with hE | hE
                  · skip
                    have e9 := hE.1; subst e9
                    refine vx_catch (own := RL) (name := "java/lang/IndexOutOfBoundsException") hown (tableOf []) ⟨0, 181, 182, 45⟩ (tableOf [(0, 181, 188, 49)]) htab (fun z hz => absurd hz List.not_mem_nil) rfl (by decide) (hts (.classLink RL 45 "java/lang/IndexOutOfBoundsException") (by decide +kernel)) (hCast fx hF (by decide)) h1 h2 h3 ?_
                    refine lv_astore (lv' := (4, .ref q9) :: [(0, .ref (gad G 0)), (1, .int 6), (2, .int x), (3, .int y)]) hx hb dL_asks_182 hl (by decide) rfl (fun ls hl => ?_)
                    refine lv_sipush (v := (-3000)) hx hb dL_asks_184 (by decide) ?_
                    exact rRetIw hx hb hr hw (Or.inr ⟨_, Or.inl hE, by decide, rfl⟩) hlocks dL_asks_187 (Nat.le_refl _) (Nat.le_refl _)
                  · skip
                    have e9 := hE.1; subst e9
                    have hpas : ∀ z ∈ tableOf [(0, 181, 182, 45)], covers z 85 = false ∨ (z.catchType ≠ 0 ∧ ∃ nm : String, (Cond.classLink RL z.catchType nm).before args s = true ∧ va_Nc "java/lang/IllegalStateException" nm s) := by
                      intro z hz
                      rcases List.mem_cons.mp hz with rfl | hz
                      · exact Or.inr ⟨by decide, "java/lang/IndexOutOfBoundsException", hts (.classLink RL 45 "java/lang/IndexOutOfBoundsException") (by decide +kernel), hNot fx hF (by decide) (by decide) (by decide)⟩
                      exact absurd hz List.not_mem_nil
                    refine vx_catch (own := RL) (name := "java/lang/IllegalStateException") hown (tableOf [(0, 181, 182, 45)]) ⟨0, 181, 188, 49⟩ (tableOf []) htab hpas rfl (by decide) (hts (.classLink RL 49 "java/lang/IllegalStateException") (by decide +kernel)) (hCast fx hF (by decide)) h1 h2 h3 ?_
                    refine lv_astore (lv' := (4, .ref q9) :: [(0, .ref (gad G 0)), (1, .int 6), (2, .int x), (3, .int y)]) hx hb dL_asks_188 hl (by decide) rfl (fun ls hl => ?_)
                    refine lv_sipush (v := (-1000)) hx hb dL_asks_190 (by decide) ?_
                    exact rRetIw hx hb hr hw (Or.inr ⟨_, Or.inr (hE), by decide, rfl⟩) hlocks dL_asks_193 (Nat.le_refl _) (Nat.le_refl _)
                intro r9 τ9 H locs hp9 hw
                refine lv_goto (tgt := 181) hx hb dL_asks_88 (by decide) ?_
                exact rRetIw hx hb hr hw (Or.inl hp9) hlocks dL_asks_181 (Nat.zero_le _) (Nat.zero_le _)
            · skip
              exact absurd c_6 (by decide)
          · skip
            exact absurd c_5 (by decide)
        · skip
          exact absurd c_4 (by decide)
      · skip
        exact absurd c_3 (by decide)
    · skip
      exact absurd c_2 (by decide)
  · skip
    exact absurd c_1 (by decide)

def rmL_asks_7 : Room := ({ frames := 8, cells := 1, slots := 6, locals := 124 } : Room)
set_option maxHeartbeats 4000000 in
set_option maxRecDepth 100000 in
theorem kL_asks_7 (l : Launch) (hlt : l.stackTraces = false) (G : Gx) (hG : gOk G) (hF : Full G) (σ : St) (x y : Int32) (g n e9 z : Nat) (b : Bool) (hIv9 : CIv σ g n b e9 z) : CmI l yL_asks wsL_asks rmL_asks_7 G σ [.ref (gad G 0), .int 7, .int x, .int y] (fun r9 σ9 => (fun r σ' => r = (if b = true then σ 24 (ix x) else -1) ∧ σ' = σ ∧ inB x n = true) r9 σ9 ∨ ∃ E9 : String, (fun E => E = xIOB ∧ inB x n = false) E9 ∧ r9 = cdA E9 ∧ σ9 = σ) 1 6 := by
  refine bgL (cc := cL_asks) (maxL := 5) (ret := some .int) (own := RL) (hh := [(0, 181, 182, 45), (0, 181, 188, 49)]) (by decide) rfl rfl hG (Nat.le_of_ble_eq_true rfl) rfl ?_
  intro p e s m args below meth c ls htab Bd hl
  obtain ⟨hx, hb, hr, hml, hts, hown, hlocks, fx, hw⟩ := Bd
  have hl : lv_has ls 5 [(0, .ref (gad G 0)), (1, .int 7), (2, .int x), (3, .int y)] := hl
  refine lv_iload_n hx hb dL_asks_0 rfl (lv_at hl 1 rfl) ?_
  refine lv_if_ne (tgt := 12) hx hb dL_asks_1 (by decide) (fun c_1 => ?_) (fun c_1 => ?_)
  · skip
    refine lv_iload_n hx hb dL_asks_12 rfl (lv_at hl 1 rfl) ?_
    refine lv_iconst (v := 1) hx hb dL_asks_13 (by decide) ?_
    refine lv_icmp_ne (tgt := 25) hx hb dL_asks_14 (by decide) (fun c_2 => ?_) (fun c_2 => ?_)
    · skip
      refine lv_iload_n hx hb dL_asks_25 rfl (lv_at hl 1 rfl) ?_
      refine lv_iconst (v := 2) hx hb dL_asks_26 (by decide) ?_
      refine lv_icmp_ne (tgt := 38) hx hb dL_asks_27 (by decide) (fun c_3 => ?_) (fun c_3 => ?_)
      · skip
        refine lv_iload_n hx hb dL_asks_38 rfl (lv_at hl 1 rfl) ?_
        refine lv_iconst (v := 3) hx hb dL_asks_39 (by decide) ?_
        refine lv_icmp_ne (tgt := 51) hx hb dL_asks_40 (by decide) (fun c_4 => ?_) (fun c_4 => ?_)
        · skip
          refine lv_iload_n hx hb dL_asks_51 rfl (lv_at hl 1 rfl) ?_
          refine lv_iconst (v := 4) hx hb dL_asks_52 (by decide) ?_
          refine lv_icmp_ne (tgt := 64) hx hb dL_asks_53 (by decide) (fun c_5 => ?_) (fun c_5 => ?_)
          · skip
            refine lv_iload_n hx hb dL_asks_64 rfl (lv_at hl 1 rfl) ?_
            refine lv_iconst (v := 5) hx hb dL_asks_65 (by decide) ?_
            refine lv_icmp_ne (tgt := 77) hx hb dL_asks_66 (by decide) (fun c_6 => ?_) (fun c_6 => ?_)
            · skip
              refine lv_iload_n hx hb dL_asks_77 rfl (lv_at hl 1 rfl) ?_
              refine lv_bipush (v := 6) hx hb dL_asks_78 (by decide) ?_
              refine lv_icmp_ne (tgt := 91) hx hb dL_asks_80 (by decide) (fun c_7 => ?_) (fun c_7 => ?_)
              · skip
                refine lv_iload_n hx hb dL_asks_91 rfl (lv_at hl 1 rfl) ?_
                refine lv_bipush (v := 7) hx hb dL_asks_92 (by decide) ?_
                refine lv_icmp_ne (tgt := 105) hx hb dL_asks_94 (by decide) (fun c_8 => ?_) (fun c_8 => ?_)
                · skip
                  exact absurd c_8 (by decide)
                · skip
                  refine lv_aload_n hx hb dL_asks_97 rfl (lv_at hl 0 rfl) ?_
                  refine lv_iload_n hx hb dL_asks_98 rfl (lv_at hl 2 rfl) ?_
                  refine rCallXI (C := RX5) (As := [.int x]) (rest := []) ⟨hx, hb, hml, hown, hts⟩ fx hw (kX5_itemOf l hlt G hG hF σ x g n e9 z b hIv9) (cwV 1 hts gL_asks_X5_itemOf rfl rfl rfl (by decide +kernel) ⟨Nat.le_of_ble_eq_true rfl, Nat.le_of_ble_eq_true rfl⟩) (hF.1 0 (by decide)) rfl rfl rfl rfl hl.1 rfl (Nat.le_of_ble_eq_true rfl) dL_asks_99 ⟨Nat.le_of_ble_eq_true rfl, Nat.le_of_ble_eq_true rfl⟩ (fun E ce q9 H locs hE hw h1 h2 h3 => ?_) ?_
                  · skip
                    have e9 := hE.1; subst e9
                    refine vx_catch (own := RL) (name := "java/lang/IndexOutOfBoundsException") hown (tableOf []) ⟨0, 181, 182, 45⟩ (tableOf [(0, 181, 188, 49)]) htab (fun z hz => absurd hz List.not_mem_nil) rfl (by decide) (hts (.classLink RL 45 "java/lang/IndexOutOfBoundsException") (by decide +kernel)) (hCast fx hF (by decide)) h1 h2 h3 ?_
                    refine lv_astore (lv' := (4, .ref q9) :: [(0, .ref (gad G 0)), (1, .int 7), (2, .int x), (3, .int y)]) hx hb dL_asks_182 hl (by decide) rfl (fun ls hl => ?_)
                    refine lv_sipush (v := (-3000)) hx hb dL_asks_184 (by decide) ?_
                    exact rRetIw hx hb hr hw (Or.inr ⟨_, hE, by decide, rfl⟩) hlocks dL_asks_187 (Nat.le_refl _) (Nat.le_refl _)
                  intro r9 τ9 H locs hp9 hw
                  refine lv_goto (tgt := 181) hx hb dL_asks_102 (by decide) ?_
                  exact rRetIw hx hb hr hw (Or.inl hp9) hlocks dL_asks_181 (Nat.zero_le _) (Nat.zero_le _)
              · skip
                exact absurd c_7 (by decide)
            · skip
              exact absurd c_6 (by decide)
          · skip
            exact absurd c_5 (by decide)
        · skip
          exact absurd c_4 (by decide)
      · skip
        exact absurd c_3 (by decide)
    · skip
      exact absurd c_2 (by decide)
  · skip
    exact absurd c_1 (by decide)

def rmL_asks_8 : Room := ({ frames := 8, cells := 1, slots := 6, locals := 124 } : Room)
set_option maxHeartbeats 4000000 in
set_option maxRecDepth 100000 in
theorem kL_asks_8 (l : Launch) (hlt : l.stackTraces = false) (G : Gx) (hG : gOk G) (hF : Full G) (σ : St) (x y : Int32) (g n e9 z : Nat) (b : Bool) (hIv9 : CIv σ g n b e9 z) : CmI l yL_asks wsL_asks rmL_asks_8 G σ [.ref (gad G 0), .int 8, .int x, .int y] (fun r9 σ9 => (fun r σ' => r = (if b = true then stuA σ (ix x) else 0) ∧ σ' = σ ∧ inB x n = true) r9 σ9 ∨ ∃ E9 : String, (fun E => E = xIOB ∧ inB x n = false) E9 ∧ r9 = cdA E9 ∧ σ9 = σ) 1 6 := by
  refine bgL (cc := cL_asks) (maxL := 5) (ret := some .int) (own := RL) (hh := [(0, 181, 182, 45), (0, 181, 188, 49)]) (by decide) rfl rfl hG (Nat.le_of_ble_eq_true rfl) rfl ?_
  intro p e s m args below meth c ls htab Bd hl
  obtain ⟨hx, hb, hr, hml, hts, hown, hlocks, fx, hw⟩ := Bd
  have hl : lv_has ls 5 [(0, .ref (gad G 0)), (1, .int 8), (2, .int x), (3, .int y)] := hl
  refine lv_iload_n hx hb dL_asks_0 rfl (lv_at hl 1 rfl) ?_
  refine lv_if_ne (tgt := 12) hx hb dL_asks_1 (by decide) (fun c_1 => ?_) (fun c_1 => ?_)
  · skip
    refine lv_iload_n hx hb dL_asks_12 rfl (lv_at hl 1 rfl) ?_
    refine lv_iconst (v := 1) hx hb dL_asks_13 (by decide) ?_
    refine lv_icmp_ne (tgt := 25) hx hb dL_asks_14 (by decide) (fun c_2 => ?_) (fun c_2 => ?_)
    · skip
      refine lv_iload_n hx hb dL_asks_25 rfl (lv_at hl 1 rfl) ?_
      refine lv_iconst (v := 2) hx hb dL_asks_26 (by decide) ?_
      refine lv_icmp_ne (tgt := 38) hx hb dL_asks_27 (by decide) (fun c_3 => ?_) (fun c_3 => ?_)
      · skip
        refine lv_iload_n hx hb dL_asks_38 rfl (lv_at hl 1 rfl) ?_
        refine lv_iconst (v := 3) hx hb dL_asks_39 (by decide) ?_
        refine lv_icmp_ne (tgt := 51) hx hb dL_asks_40 (by decide) (fun c_4 => ?_) (fun c_4 => ?_)
        · skip
          refine lv_iload_n hx hb dL_asks_51 rfl (lv_at hl 1 rfl) ?_
          refine lv_iconst (v := 4) hx hb dL_asks_52 (by decide) ?_
          refine lv_icmp_ne (tgt := 64) hx hb dL_asks_53 (by decide) (fun c_5 => ?_) (fun c_5 => ?_)
          · skip
            refine lv_iload_n hx hb dL_asks_64 rfl (lv_at hl 1 rfl) ?_
            refine lv_iconst (v := 5) hx hb dL_asks_65 (by decide) ?_
            refine lv_icmp_ne (tgt := 77) hx hb dL_asks_66 (by decide) (fun c_6 => ?_) (fun c_6 => ?_)
            · skip
              refine lv_iload_n hx hb dL_asks_77 rfl (lv_at hl 1 rfl) ?_
              refine lv_bipush (v := 6) hx hb dL_asks_78 (by decide) ?_
              refine lv_icmp_ne (tgt := 91) hx hb dL_asks_80 (by decide) (fun c_7 => ?_) (fun c_7 => ?_)
              · skip
                refine lv_iload_n hx hb dL_asks_91 rfl (lv_at hl 1 rfl) ?_
                refine lv_bipush (v := 7) hx hb dL_asks_92 (by decide) ?_
                refine lv_icmp_ne (tgt := 105) hx hb dL_asks_94 (by decide) (fun c_8 => ?_) (fun c_8 => ?_)
                · skip
                  refine lv_iload_n hx hb dL_asks_105 rfl (lv_at hl 1 rfl) ?_
                  refine lv_bipush (v := 8) hx hb dL_asks_106 (by decide) ?_
                  refine lv_icmp_ne (tgt := 119) hx hb dL_asks_108 (by decide) (fun c_9 => ?_) (fun c_9 => ?_)
                  · skip
                    exact absurd c_9 (by decide)
                  · skip
                    refine lv_aload_n hx hb dL_asks_111 rfl (lv_at hl 0 rfl) ?_
                    refine lv_iload_n hx hb dL_asks_112 rfl (lv_at hl 2 rfl) ?_
                    refine rCallXI (C := RX5) (As := [.int x]) (rest := []) ⟨hx, hb, hml, hown, hts⟩ fx hw (kX5_stunned l hlt G hG hF σ x g n e9 z b hIv9) (cwV 1 hts gL_asks_X5_stunned rfl rfl rfl (by decide +kernel) ⟨Nat.le_of_ble_eq_true rfl, Nat.le_of_ble_eq_true rfl⟩) (hF.1 0 (by decide)) rfl rfl rfl rfl hl.1 rfl (Nat.le_of_ble_eq_true rfl) dL_asks_113 ⟨Nat.le_of_ble_eq_true rfl, Nat.le_of_ble_eq_true rfl⟩ (fun E ce q9 H locs hE hw h1 h2 h3 => ?_) ?_
                    · skip
                      have e9 := hE.1; subst e9
                      refine vx_catch (own := RL) (name := "java/lang/IndexOutOfBoundsException") hown (tableOf []) ⟨0, 181, 182, 45⟩ (tableOf [(0, 181, 188, 49)]) htab (fun z hz => absurd hz List.not_mem_nil) rfl (by decide) (hts (.classLink RL 45 "java/lang/IndexOutOfBoundsException") (by decide +kernel)) (hCast fx hF (by decide)) h1 h2 h3 ?_
                      refine lv_astore (lv' := (4, .ref q9) :: [(0, .ref (gad G 0)), (1, .int 8), (2, .int x), (3, .int y)]) hx hb dL_asks_182 hl (by decide) rfl (fun ls hl => ?_)
                      refine lv_sipush (v := (-3000)) hx hb dL_asks_184 (by decide) ?_
                      exact rRetIw hx hb hr hw (Or.inr ⟨_, hE, by decide, rfl⟩) hlocks dL_asks_187 (Nat.le_refl _) (Nat.le_refl _)
                    intro r9 τ9 H locs hp9 hw
                    refine lv_goto (tgt := 181) hx hb dL_asks_116 (by decide) ?_
                    exact rRetIw hx hb hr hw (Or.inl hp9) hlocks dL_asks_181 (Nat.zero_le _) (Nat.zero_le _)
                · skip
                  exact absurd c_8 (by decide)
              · skip
                exact absurd c_7 (by decide)
            · skip
              exact absurd c_6 (by decide)
          · skip
            exact absurd c_5 (by decide)
        · skip
          exact absurd c_4 (by decide)
      · skip
        exact absurd c_3 (by decide)
    · skip
      exact absurd c_2 (by decide)
  · skip
    exact absurd c_1 (by decide)

def rmL_asks_9 : Room := ({ frames := 8, cells := 1, slots := 6, locals := 125 } : Room)
set_option maxHeartbeats 4000000 in
set_option maxRecDepth 100000 in
theorem kL_asks_9 (l : Launch) (hlt : l.stackTraces = false) (G : Gx) (hG : gOk G) (hF : Full G) (σ : St) (x y : Int32) (g n e9 z : Nat) (b : Bool) (hIv9 : CIv σ g n b e9 z) : CmI l yL_asks wsL_asks rmL_asks_9 G σ [.ref (gad G 0), .int 9, .int x, .int y] (fun r9 σ9 => (fun r σ' => r = σ 28 (ix x * 6 + ix y) ∧ σ' = σ ∧ (inB x e9 && inB y n) = true) r9 σ9 ∨ ∃ E9 : String, (fun E => E = xIOB ∧ (inB x e9 && inB y n) = false) E9 ∧ r9 = cdA E9 ∧ σ9 = σ) 1 6 := by
  refine bgL (cc := cL_asks) (maxL := 5) (ret := some .int) (own := RL) (hh := [(0, 181, 182, 45), (0, 181, 188, 49)]) (by decide) rfl rfl hG (Nat.le_of_ble_eq_true rfl) rfl ?_
  intro p e s m args below meth c ls htab Bd hl
  obtain ⟨hx, hb, hr, hml, hts, hown, hlocks, fx, hw⟩ := Bd
  have hl : lv_has ls 5 [(0, .ref (gad G 0)), (1, .int 9), (2, .int x), (3, .int y)] := hl
  refine lv_iload_n hx hb dL_asks_0 rfl (lv_at hl 1 rfl) ?_
  refine lv_if_ne (tgt := 12) hx hb dL_asks_1 (by decide) (fun c_1 => ?_) (fun c_1 => ?_)
  · skip
    refine lv_iload_n hx hb dL_asks_12 rfl (lv_at hl 1 rfl) ?_
    refine lv_iconst (v := 1) hx hb dL_asks_13 (by decide) ?_
    refine lv_icmp_ne (tgt := 25) hx hb dL_asks_14 (by decide) (fun c_2 => ?_) (fun c_2 => ?_)
    · skip
      refine lv_iload_n hx hb dL_asks_25 rfl (lv_at hl 1 rfl) ?_
      refine lv_iconst (v := 2) hx hb dL_asks_26 (by decide) ?_
      refine lv_icmp_ne (tgt := 38) hx hb dL_asks_27 (by decide) (fun c_3 => ?_) (fun c_3 => ?_)
      · skip
        refine lv_iload_n hx hb dL_asks_38 rfl (lv_at hl 1 rfl) ?_
        refine lv_iconst (v := 3) hx hb dL_asks_39 (by decide) ?_
        refine lv_icmp_ne (tgt := 51) hx hb dL_asks_40 (by decide) (fun c_4 => ?_) (fun c_4 => ?_)
        · skip
          refine lv_iload_n hx hb dL_asks_51 rfl (lv_at hl 1 rfl) ?_
          refine lv_iconst (v := 4) hx hb dL_asks_52 (by decide) ?_
          refine lv_icmp_ne (tgt := 64) hx hb dL_asks_53 (by decide) (fun c_5 => ?_) (fun c_5 => ?_)
          · skip
            refine lv_iload_n hx hb dL_asks_64 rfl (lv_at hl 1 rfl) ?_
            refine lv_iconst (v := 5) hx hb dL_asks_65 (by decide) ?_
            refine lv_icmp_ne (tgt := 77) hx hb dL_asks_66 (by decide) (fun c_6 => ?_) (fun c_6 => ?_)
            · skip
              refine lv_iload_n hx hb dL_asks_77 rfl (lv_at hl 1 rfl) ?_
              refine lv_bipush (v := 6) hx hb dL_asks_78 (by decide) ?_
              refine lv_icmp_ne (tgt := 91) hx hb dL_asks_80 (by decide) (fun c_7 => ?_) (fun c_7 => ?_)
              · skip
                refine lv_iload_n hx hb dL_asks_91 rfl (lv_at hl 1 rfl) ?_
                refine lv_bipush (v := 7) hx hb dL_asks_92 (by decide) ?_
                refine lv_icmp_ne (tgt := 105) hx hb dL_asks_94 (by decide) (fun c_8 => ?_) (fun c_8 => ?_)
                · skip
                  refine lv_iload_n hx hb dL_asks_105 rfl (lv_at hl 1 rfl) ?_
                  refine lv_bipush (v := 8) hx hb dL_asks_106 (by decide) ?_
                  refine lv_icmp_ne (tgt := 119) hx hb dL_asks_108 (by decide) (fun c_9 => ?_) (fun c_9 => ?_)
                  · skip
                    refine lv_iload_n hx hb dL_asks_119 rfl (lv_at hl 1 rfl) ?_
                    refine lv_bipush (v := 9) hx hb dL_asks_120 (by decide) ?_
                    refine lv_icmp_ne (tgt := 134) hx hb dL_asks_122 (by decide) (fun c_10 => ?_) (fun c_10 => ?_)
                    · skip
                      exact absurd c_10 (by decide)
                    · skip
                      refine lv_aload_n hx hb dL_asks_125 rfl (lv_at hl 0 rfl) ?_
                      refine lv_iload_n hx hb dL_asks_126 rfl (lv_at hl 2 rfl) ?_
                      refine lv_iload_n hx hb dL_asks_127 rfl (lv_at hl 3 rfl) ?_
                      refine rCallXI (C := RX5) (As := [.int x, .int y]) (rest := []) ⟨hx, hb, hml, hown, hts⟩ fx hw (kX5_place l hlt G hG hF σ x y g n e9 z b hIv9) (cwV 2 hts gL_asks_X5_place rfl rfl rfl (by decide +kernel) ⟨Nat.le_of_ble_eq_true rfl, Nat.le_of_ble_eq_true rfl⟩) (hF.1 0 (by decide)) rfl rfl rfl rfl hl.1 rfl (Nat.le_of_ble_eq_true rfl) dL_asks_128 ⟨Nat.le_of_ble_eq_true rfl, Nat.le_of_ble_eq_true rfl⟩ (fun E ce q9 H locs hE hw h1 h2 h3 => ?_) ?_
                      · skip
                        have e9 := hE.1; subst e9
                        refine vx_catch (own := RL) (name := "java/lang/IndexOutOfBoundsException") hown (tableOf []) ⟨0, 181, 182, 45⟩ (tableOf [(0, 181, 188, 49)]) htab (fun z hz => absurd hz List.not_mem_nil) rfl (by decide) (hts (.classLink RL 45 "java/lang/IndexOutOfBoundsException") (by decide +kernel)) (hCast fx hF (by decide)) h1 h2 h3 ?_
                        refine lv_astore (lv' := (4, .ref q9) :: [(0, .ref (gad G 0)), (1, .int 9), (2, .int x), (3, .int y)]) hx hb dL_asks_182 hl (by decide) rfl (fun ls hl => ?_)
                        refine lv_sipush (v := (-3000)) hx hb dL_asks_184 (by decide) ?_
                        exact rRetIw hx hb hr hw (Or.inr ⟨_, hE, by decide, rfl⟩) hlocks dL_asks_187 (Nat.le_refl _) (Nat.le_refl _)
                      intro r9 τ9 H locs hp9 hw
                      refine lv_goto (tgt := 181) hx hb dL_asks_131 (by decide) ?_
                      exact rRetIw hx hb hr hw (Or.inl hp9) hlocks dL_asks_181 (Nat.zero_le _) (Nat.zero_le _)
                  · skip
                    exact absurd c_9 (by decide)
                · skip
                  exact absurd c_8 (by decide)
              · skip
                exact absurd c_7 (by decide)
            · skip
              exact absurd c_6 (by decide)
          · skip
            exact absurd c_5 (by decide)
        · skip
          exact absurd c_4 (by decide)
      · skip
        exact absurd c_3 (by decide)
    · skip
      exact absurd c_2 (by decide)
  · skip
    exact absurd c_1 (by decide)

def rmL_asks_10 : Room := ({ frames := 8, cells := 1, slots := 6, locals := 124 } : Room)
set_option maxHeartbeats 4000000 in
set_option maxRecDepth 100000 in
theorem kL_asks_10 (l : Launch) (hlt : l.stackTraces = false) (G : Gx) (hG : gOk G) (hF : Full G) (σ : St) (x y : Int32) (g n e9 z : Nat) (b : Bool) (hIv9 : CIv σ g n b e9 z) : CmI l yL_asks wsL_asks rmL_asks_10 G σ [.ref (gad G 0), .int 10, .int x, .int y] (fun r9 σ9 => (fun r σ' => r = sumA (σ 29) (σ 27 3) (ix x) e9 e9 ∧ σ' = σ ∧ inB x n = true) r9 σ9 ∨ ∃ E9 : String, (fun E => E = xIOB ∧ inB x n = false) E9 ∧ r9 = cdA E9 ∧ σ9 = σ) 1 6 := by
  refine bgL (cc := cL_asks) (maxL := 5) (ret := some .int) (own := RL) (hh := [(0, 181, 182, 45), (0, 181, 188, 49)]) (by decide) rfl rfl hG (Nat.le_of_ble_eq_true rfl) rfl ?_
  intro p e s m args below meth c ls htab Bd hl
  obtain ⟨hx, hb, hr, hml, hts, hown, hlocks, fx, hw⟩ := Bd
  have hl : lv_has ls 5 [(0, .ref (gad G 0)), (1, .int 10), (2, .int x), (3, .int y)] := hl
  refine lv_iload_n hx hb dL_asks_0 rfl (lv_at hl 1 rfl) ?_
  refine lv_if_ne (tgt := 12) hx hb dL_asks_1 (by decide) (fun c_1 => ?_) (fun c_1 => ?_)
  · skip
    refine lv_iload_n hx hb dL_asks_12 rfl (lv_at hl 1 rfl) ?_
    refine lv_iconst (v := 1) hx hb dL_asks_13 (by decide) ?_
    refine lv_icmp_ne (tgt := 25) hx hb dL_asks_14 (by decide) (fun c_2 => ?_) (fun c_2 => ?_)
    · skip
      refine lv_iload_n hx hb dL_asks_25 rfl (lv_at hl 1 rfl) ?_
      refine lv_iconst (v := 2) hx hb dL_asks_26 (by decide) ?_
      refine lv_icmp_ne (tgt := 38) hx hb dL_asks_27 (by decide) (fun c_3 => ?_) (fun c_3 => ?_)
      · skip
        refine lv_iload_n hx hb dL_asks_38 rfl (lv_at hl 1 rfl) ?_
        refine lv_iconst (v := 3) hx hb dL_asks_39 (by decide) ?_
        refine lv_icmp_ne (tgt := 51) hx hb dL_asks_40 (by decide) (fun c_4 => ?_) (fun c_4 => ?_)
        · skip
          refine lv_iload_n hx hb dL_asks_51 rfl (lv_at hl 1 rfl) ?_
          refine lv_iconst (v := 4) hx hb dL_asks_52 (by decide) ?_
          refine lv_icmp_ne (tgt := 64) hx hb dL_asks_53 (by decide) (fun c_5 => ?_) (fun c_5 => ?_)
          · skip
            refine lv_iload_n hx hb dL_asks_64 rfl (lv_at hl 1 rfl) ?_
            refine lv_iconst (v := 5) hx hb dL_asks_65 (by decide) ?_
            refine lv_icmp_ne (tgt := 77) hx hb dL_asks_66 (by decide) (fun c_6 => ?_) (fun c_6 => ?_)
            · skip
              refine lv_iload_n hx hb dL_asks_77 rfl (lv_at hl 1 rfl) ?_
              refine lv_bipush (v := 6) hx hb dL_asks_78 (by decide) ?_
              refine lv_icmp_ne (tgt := 91) hx hb dL_asks_80 (by decide) (fun c_7 => ?_) (fun c_7 => ?_)
              · skip
                refine lv_iload_n hx hb dL_asks_91 rfl (lv_at hl 1 rfl) ?_
                refine lv_bipush (v := 7) hx hb dL_asks_92 (by decide) ?_
                refine lv_icmp_ne (tgt := 105) hx hb dL_asks_94 (by decide) (fun c_8 => ?_) (fun c_8 => ?_)
                · skip
                  refine lv_iload_n hx hb dL_asks_105 rfl (lv_at hl 1 rfl) ?_
                  refine lv_bipush (v := 8) hx hb dL_asks_106 (by decide) ?_
                  refine lv_icmp_ne (tgt := 119) hx hb dL_asks_108 (by decide) (fun c_9 => ?_) (fun c_9 => ?_)
                  · skip
                    refine lv_iload_n hx hb dL_asks_119 rfl (lv_at hl 1 rfl) ?_
                    refine lv_bipush (v := 9) hx hb dL_asks_120 (by decide) ?_
                    refine lv_icmp_ne (tgt := 134) hx hb dL_asks_122 (by decide) (fun c_10 => ?_) (fun c_10 => ?_)
                    · skip
                      refine lv_iload_n hx hb dL_asks_134 rfl (lv_at hl 1 rfl) ?_
                      refine lv_bipush (v := 10) hx hb dL_asks_135 (by decide) ?_
                      refine lv_icmp_ne (tgt := 148) hx hb dL_asks_137 (by decide) (fun c_11 => ?_) (fun c_11 => ?_)
                      · skip
                        exact absurd c_11 (by decide)
                      · skip
                        refine lv_aload_n hx hb dL_asks_140 rfl (lv_at hl 0 rfl) ?_
                        refine lv_iload_n hx hb dL_asks_141 rfl (lv_at hl 2 rfl) ?_
                        refine rCallXI (C := RX5) (As := [.int x]) (rest := []) ⟨hx, hb, hml, hown, hts⟩ fx hw (kX5_points l hlt G hG hF σ x g n e9 z b hIv9) (cwV 1 hts gL_asks_X5_points rfl rfl rfl (by decide +kernel) ⟨Nat.le_of_ble_eq_true rfl, Nat.le_of_ble_eq_true rfl⟩) (hF.1 0 (by decide)) rfl rfl rfl rfl hl.1 rfl (Nat.le_of_ble_eq_true rfl) dL_asks_142 ⟨Nat.le_of_ble_eq_true rfl, Nat.le_of_ble_eq_true rfl⟩ (fun E ce q9 H locs hE hw h1 h2 h3 => ?_) ?_
                        · skip
                          have e9 := hE.1; subst e9
                          refine vx_catch (own := RL) (name := "java/lang/IndexOutOfBoundsException") hown (tableOf []) ⟨0, 181, 182, 45⟩ (tableOf [(0, 181, 188, 49)]) htab (fun z hz => absurd hz List.not_mem_nil) rfl (by decide) (hts (.classLink RL 45 "java/lang/IndexOutOfBoundsException") (by decide +kernel)) (hCast fx hF (by decide)) h1 h2 h3 ?_
                          refine lv_astore (lv' := (4, .ref q9) :: [(0, .ref (gad G 0)), (1, .int 10), (2, .int x), (3, .int y)]) hx hb dL_asks_182 hl (by decide) rfl (fun ls hl => ?_)
                          refine lv_sipush (v := (-3000)) hx hb dL_asks_184 (by decide) ?_
                          exact rRetIw hx hb hr hw (Or.inr ⟨_, hE, by decide, rfl⟩) hlocks dL_asks_187 (Nat.le_refl _) (Nat.le_refl _)
                        intro r9 τ9 H locs hp9 hw
                        refine lv_goto (tgt := 181) hx hb dL_asks_145 (by decide) ?_
                        exact rRetIw hx hb hr hw (Or.inl hp9) hlocks dL_asks_181 (Nat.zero_le _) (Nat.zero_le _)
                    · skip
                      exact absurd c_10 (by decide)
                  · skip
                    exact absurd c_9 (by decide)
                · skip
                  exact absurd c_8 (by decide)
              · skip
                exact absurd c_7 (by decide)
            · skip
              exact absurd c_6 (by decide)
          · skip
            exact absurd c_5 (by decide)
        · skip
          exact absurd c_4 (by decide)
      · skip
        exact absurd c_3 (by decide)
    · skip
      exact absurd c_2 (by decide)
  · skip
    exact absurd c_1 (by decide)

def rmL_asks_11 : Room := ({ frames := 8, cells := 1, slots := 6, locals := 126 } : Room)
set_option maxHeartbeats 4000000 in
set_option maxRecDepth 100000 in
theorem kL_asks_11 (l : Launch) (hlt : l.stackTraces = false) (G : Gx) (hG : gOk G) (hF : Full G) (σ : St) (x y : Int32) (g n e9 z : Nat) (b : Bool) (hIv9 : CIv σ g n b e9 z) : CmI l yL_asks wsL_asks rmL_asks_11 G σ [.ref (gad G 0), .int 11, .int x, .int y] (fun r9 σ9 => (fun r σ' => r = tpA σ x e9 n ∧ σ' = σ ∧ inB x 4 = true) r9 σ9 ∨ ∃ E9 : String, (fun E => E = xIOB ∧ inB x 4 = false) E9 ∧ r9 = cdA E9 ∧ σ9 = σ) 1 6 := by
  refine bgL (cc := cL_asks) (maxL := 5) (ret := some .int) (own := RL) (hh := [(0, 181, 182, 45), (0, 181, 188, 49)]) (by decide) rfl rfl hG (Nat.le_of_ble_eq_true rfl) rfl ?_
  intro p e s m args below meth c ls htab Bd hl
  obtain ⟨hx, hb, hr, hml, hts, hown, hlocks, fx, hw⟩ := Bd
  have hl : lv_has ls 5 [(0, .ref (gad G 0)), (1, .int 11), (2, .int x), (3, .int y)] := hl
  refine lv_iload_n hx hb dL_asks_0 rfl (lv_at hl 1 rfl) ?_
  refine lv_if_ne (tgt := 12) hx hb dL_asks_1 (by decide) (fun c_1 => ?_) (fun c_1 => ?_)
  · skip
    refine lv_iload_n hx hb dL_asks_12 rfl (lv_at hl 1 rfl) ?_
    refine lv_iconst (v := 1) hx hb dL_asks_13 (by decide) ?_
    refine lv_icmp_ne (tgt := 25) hx hb dL_asks_14 (by decide) (fun c_2 => ?_) (fun c_2 => ?_)
    · skip
      refine lv_iload_n hx hb dL_asks_25 rfl (lv_at hl 1 rfl) ?_
      refine lv_iconst (v := 2) hx hb dL_asks_26 (by decide) ?_
      refine lv_icmp_ne (tgt := 38) hx hb dL_asks_27 (by decide) (fun c_3 => ?_) (fun c_3 => ?_)
      · skip
        refine lv_iload_n hx hb dL_asks_38 rfl (lv_at hl 1 rfl) ?_
        refine lv_iconst (v := 3) hx hb dL_asks_39 (by decide) ?_
        refine lv_icmp_ne (tgt := 51) hx hb dL_asks_40 (by decide) (fun c_4 => ?_) (fun c_4 => ?_)
        · skip
          refine lv_iload_n hx hb dL_asks_51 rfl (lv_at hl 1 rfl) ?_
          refine lv_iconst (v := 4) hx hb dL_asks_52 (by decide) ?_
          refine lv_icmp_ne (tgt := 64) hx hb dL_asks_53 (by decide) (fun c_5 => ?_) (fun c_5 => ?_)
          · skip
            refine lv_iload_n hx hb dL_asks_64 rfl (lv_at hl 1 rfl) ?_
            refine lv_iconst (v := 5) hx hb dL_asks_65 (by decide) ?_
            refine lv_icmp_ne (tgt := 77) hx hb dL_asks_66 (by decide) (fun c_6 => ?_) (fun c_6 => ?_)
            · skip
              refine lv_iload_n hx hb dL_asks_77 rfl (lv_at hl 1 rfl) ?_
              refine lv_bipush (v := 6) hx hb dL_asks_78 (by decide) ?_
              refine lv_icmp_ne (tgt := 91) hx hb dL_asks_80 (by decide) (fun c_7 => ?_) (fun c_7 => ?_)
              · skip
                refine lv_iload_n hx hb dL_asks_91 rfl (lv_at hl 1 rfl) ?_
                refine lv_bipush (v := 7) hx hb dL_asks_92 (by decide) ?_
                refine lv_icmp_ne (tgt := 105) hx hb dL_asks_94 (by decide) (fun c_8 => ?_) (fun c_8 => ?_)
                · skip
                  refine lv_iload_n hx hb dL_asks_105 rfl (lv_at hl 1 rfl) ?_
                  refine lv_bipush (v := 8) hx hb dL_asks_106 (by decide) ?_
                  refine lv_icmp_ne (tgt := 119) hx hb dL_asks_108 (by decide) (fun c_9 => ?_) (fun c_9 => ?_)
                  · skip
                    refine lv_iload_n hx hb dL_asks_119 rfl (lv_at hl 1 rfl) ?_
                    refine lv_bipush (v := 9) hx hb dL_asks_120 (by decide) ?_
                    refine lv_icmp_ne (tgt := 134) hx hb dL_asks_122 (by decide) (fun c_10 => ?_) (fun c_10 => ?_)
                    · skip
                      refine lv_iload_n hx hb dL_asks_134 rfl (lv_at hl 1 rfl) ?_
                      refine lv_bipush (v := 10) hx hb dL_asks_135 (by decide) ?_
                      refine lv_icmp_ne (tgt := 148) hx hb dL_asks_137 (by decide) (fun c_11 => ?_) (fun c_11 => ?_)
                      · skip
                        refine lv_iload_n hx hb dL_asks_148 rfl (lv_at hl 1 rfl) ?_
                        refine lv_bipush (v := 11) hx hb dL_asks_149 (by decide) ?_
                        refine lv_icmp_ne (tgt := 162) hx hb dL_asks_151 (by decide) (fun c_12 => ?_) (fun c_12 => ?_)
                        · skip
                          exact absurd c_12 (by decide)
                        · skip
                          refine lv_aload_n hx hb dL_asks_154 rfl (lv_at hl 0 rfl) ?_
                          refine lv_iload_n hx hb dL_asks_155 rfl (lv_at hl 2 rfl) ?_
                          refine rCallXI (C := RX5) (As := [.int x]) (rest := []) ⟨hx, hb, hml, hown, hts⟩ fx hw (kX5_teamPoints l hlt G hG hF σ x g n e9 z b hIv9) (cwV 1 hts gL_asks_X5_teamPoints rfl rfl rfl (by decide +kernel) ⟨Nat.le_of_ble_eq_true rfl, Nat.le_of_ble_eq_true rfl⟩) (hF.1 0 (by decide)) rfl rfl rfl rfl hl.1 rfl (Nat.le_of_ble_eq_true rfl) dL_asks_156 ⟨Nat.le_of_ble_eq_true rfl, Nat.le_of_ble_eq_true rfl⟩ (fun E ce q9 H locs hE hw h1 h2 h3 => ?_) ?_
                          · skip
                            have e9 := hE.1; subst e9
                            refine vx_catch (own := RL) (name := "java/lang/IndexOutOfBoundsException") hown (tableOf []) ⟨0, 181, 182, 45⟩ (tableOf [(0, 181, 188, 49)]) htab (fun z hz => absurd hz List.not_mem_nil) rfl (by decide) (hts (.classLink RL 45 "java/lang/IndexOutOfBoundsException") (by decide +kernel)) (hCast fx hF (by decide)) h1 h2 h3 ?_
                            refine lv_astore (lv' := (4, .ref q9) :: [(0, .ref (gad G 0)), (1, .int 11), (2, .int x), (3, .int y)]) hx hb dL_asks_182 hl (by decide) rfl (fun ls hl => ?_)
                            refine lv_sipush (v := (-3000)) hx hb dL_asks_184 (by decide) ?_
                            exact rRetIw hx hb hr hw (Or.inr ⟨_, hE, by decide, rfl⟩) hlocks dL_asks_187 (Nat.le_refl _) (Nat.le_refl _)
                          intro r9 τ9 H locs hp9 hw
                          refine lv_goto (tgt := 181) hx hb dL_asks_159 (by decide) ?_
                          exact rRetIw hx hb hr hw (Or.inl hp9) hlocks dL_asks_181 (Nat.zero_le _) (Nat.zero_le _)
                      · skip
                        exact absurd c_11 (by decide)
                    · skip
                      exact absurd c_10 (by decide)
                  · skip
                    exact absurd c_9 (by decide)
                · skip
                  exact absurd c_8 (by decide)
              · skip
                exact absurd c_7 (by decide)
            · skip
              exact absurd c_6 (by decide)
          · skip
            exact absurd c_5 (by decide)
        · skip
          exact absurd c_4 (by decide)
      · skip
        exact absurd c_3 (by decide)
    · skip
      exact absurd c_2 (by decide)
  · skip
    exact absurd c_1 (by decide)

def rmL_asks_12 : Room := ({ frames := 8, cells := 1, slots := 6, locals := 124 } : Room)
set_option maxHeartbeats 4000000 in
set_option maxRecDepth 100000 in
theorem kL_asks_12 (l : Launch) (hlt : l.stackTraces = false) (G : Gx) (hG : gOk G) (hF : Full G) (σ : St) (x y : Int32) (g n e9 z : Nat) (b : Bool) (hIv9 : CIv σ g n b e9 z) : CmI l yL_asks wsL_asks rmL_asks_12 G σ [.ref (gad G 0), .int 12, .int x, .int y] (fun r9 σ9 => (fun r σ' => r = nI (cntA (fun o => stB (σ 28) (σ 29) (σ 27 3) e9 o (ix x)) n) ∧ σ' = σ ∧ inB x n = true) r9 σ9 ∨ ∃ E9 : String, (fun E => E = xIOB ∧ inB x n = false) E9 ∧ r9 = cdA E9 ∧ σ9 = σ) 1 6 := by
  refine bgL (cc := cL_asks) (maxL := 5) (ret := some .int) (own := RL) (hh := [(0, 181, 182, 45), (0, 181, 188, 49)]) (by decide) rfl rfl hG (Nat.le_of_ble_eq_true rfl) rfl ?_
  intro p e s m args below meth c ls htab Bd hl
  obtain ⟨hx, hb, hr, hml, hts, hown, hlocks, fx, hw⟩ := Bd
  have hl : lv_has ls 5 [(0, .ref (gad G 0)), (1, .int 12), (2, .int x), (3, .int y)] := hl
  refine lv_iload_n hx hb dL_asks_0 rfl (lv_at hl 1 rfl) ?_
  refine lv_if_ne (tgt := 12) hx hb dL_asks_1 (by decide) (fun c_1 => ?_) (fun c_1 => ?_)
  · skip
    refine lv_iload_n hx hb dL_asks_12 rfl (lv_at hl 1 rfl) ?_
    refine lv_iconst (v := 1) hx hb dL_asks_13 (by decide) ?_
    refine lv_icmp_ne (tgt := 25) hx hb dL_asks_14 (by decide) (fun c_2 => ?_) (fun c_2 => ?_)
    · skip
      refine lv_iload_n hx hb dL_asks_25 rfl (lv_at hl 1 rfl) ?_
      refine lv_iconst (v := 2) hx hb dL_asks_26 (by decide) ?_
      refine lv_icmp_ne (tgt := 38) hx hb dL_asks_27 (by decide) (fun c_3 => ?_) (fun c_3 => ?_)
      · skip
        refine lv_iload_n hx hb dL_asks_38 rfl (lv_at hl 1 rfl) ?_
        refine lv_iconst (v := 3) hx hb dL_asks_39 (by decide) ?_
        refine lv_icmp_ne (tgt := 51) hx hb dL_asks_40 (by decide) (fun c_4 => ?_) (fun c_4 => ?_)
        · skip
          refine lv_iload_n hx hb dL_asks_51 rfl (lv_at hl 1 rfl) ?_
          refine lv_iconst (v := 4) hx hb dL_asks_52 (by decide) ?_
          refine lv_icmp_ne (tgt := 64) hx hb dL_asks_53 (by decide) (fun c_5 => ?_) (fun c_5 => ?_)
          · skip
            refine lv_iload_n hx hb dL_asks_64 rfl (lv_at hl 1 rfl) ?_
            refine lv_iconst (v := 5) hx hb dL_asks_65 (by decide) ?_
            refine lv_icmp_ne (tgt := 77) hx hb dL_asks_66 (by decide) (fun c_6 => ?_) (fun c_6 => ?_)
            · skip
              refine lv_iload_n hx hb dL_asks_77 rfl (lv_at hl 1 rfl) ?_
              refine lv_bipush (v := 6) hx hb dL_asks_78 (by decide) ?_
              refine lv_icmp_ne (tgt := 91) hx hb dL_asks_80 (by decide) (fun c_7 => ?_) (fun c_7 => ?_)
              · skip
                refine lv_iload_n hx hb dL_asks_91 rfl (lv_at hl 1 rfl) ?_
                refine lv_bipush (v := 7) hx hb dL_asks_92 (by decide) ?_
                refine lv_icmp_ne (tgt := 105) hx hb dL_asks_94 (by decide) (fun c_8 => ?_) (fun c_8 => ?_)
                · skip
                  refine lv_iload_n hx hb dL_asks_105 rfl (lv_at hl 1 rfl) ?_
                  refine lv_bipush (v := 8) hx hb dL_asks_106 (by decide) ?_
                  refine lv_icmp_ne (tgt := 119) hx hb dL_asks_108 (by decide) (fun c_9 => ?_) (fun c_9 => ?_)
                  · skip
                    refine lv_iload_n hx hb dL_asks_119 rfl (lv_at hl 1 rfl) ?_
                    refine lv_bipush (v := 9) hx hb dL_asks_120 (by decide) ?_
                    refine lv_icmp_ne (tgt := 134) hx hb dL_asks_122 (by decide) (fun c_10 => ?_) (fun c_10 => ?_)
                    · skip
                      refine lv_iload_n hx hb dL_asks_134 rfl (lv_at hl 1 rfl) ?_
                      refine lv_bipush (v := 10) hx hb dL_asks_135 (by decide) ?_
                      refine lv_icmp_ne (tgt := 148) hx hb dL_asks_137 (by decide) (fun c_11 => ?_) (fun c_11 => ?_)
                      · skip
                        refine lv_iload_n hx hb dL_asks_148 rfl (lv_at hl 1 rfl) ?_
                        refine lv_bipush (v := 11) hx hb dL_asks_149 (by decide) ?_
                        refine lv_icmp_ne (tgt := 162) hx hb dL_asks_151 (by decide) (fun c_12 => ?_) (fun c_12 => ?_)
                        · skip
                          refine lv_iload_n hx hb dL_asks_162 rfl (lv_at hl 1 rfl) ?_
                          refine lv_bipush (v := 12) hx hb dL_asks_163 (by decide) ?_
                          refine lv_icmp_ne (tgt := 176) hx hb dL_asks_165 (by decide) (fun c_13 => ?_) (fun c_13 => ?_)
                          · skip
                            exact absurd c_13 (by decide)
                          · skip
                            refine lv_aload_n hx hb dL_asks_168 rfl (lv_at hl 0 rfl) ?_
                            refine lv_iload_n hx hb dL_asks_169 rfl (lv_at hl 2 rfl) ?_
                            refine rCallXI (C := RX5) (As := [.int x]) (rest := []) ⟨hx, hb, hml, hown, hts⟩ fx hw (kX5_standing l hlt G hG hF σ x g n e9 z b hIv9) (cwV 1 hts gL_asks_X5_standing rfl rfl rfl (by decide +kernel) ⟨Nat.le_of_ble_eq_true rfl, Nat.le_of_ble_eq_true rfl⟩) (hF.1 0 (by decide)) rfl rfl rfl rfl hl.1 rfl (Nat.le_of_ble_eq_true rfl) dL_asks_170 ⟨Nat.le_of_ble_eq_true rfl, Nat.le_of_ble_eq_true rfl⟩ (fun E ce q9 H locs hE hw h1 h2 h3 => ?_) ?_
                            · skip
                              have e9 := hE.1; subst e9
                              refine vx_catch (own := RL) (name := "java/lang/IndexOutOfBoundsException") hown (tableOf []) ⟨0, 181, 182, 45⟩ (tableOf [(0, 181, 188, 49)]) htab (fun z hz => absurd hz List.not_mem_nil) rfl (by decide) (hts (.classLink RL 45 "java/lang/IndexOutOfBoundsException") (by decide +kernel)) (hCast fx hF (by decide)) h1 h2 h3 ?_
                              refine lv_astore (lv' := (4, .ref q9) :: [(0, .ref (gad G 0)), (1, .int 12), (2, .int x), (3, .int y)]) hx hb dL_asks_182 hl (by decide) rfl (fun ls hl => ?_)
                              refine lv_sipush (v := (-3000)) hx hb dL_asks_184 (by decide) ?_
                              exact rRetIw hx hb hr hw (Or.inr ⟨_, hE, by decide, rfl⟩) hlocks dL_asks_187 (Nat.le_refl _) (Nat.le_refl _)
                            intro r9 τ9 H locs hp9 hw
                            refine lv_goto (tgt := 181) hx hb dL_asks_173 (by decide) ?_
                            exact rRetIw hx hb hr hw (Or.inl hp9) hlocks dL_asks_181 (Nat.zero_le _) (Nat.zero_le _)
                        · skip
                          exact absurd c_12 (by decide)
                      · skip
                        exact absurd c_11 (by decide)
                    · skip
                      exact absurd c_10 (by decide)
                  · skip
                    exact absurd c_9 (by decide)
                · skip
                  exact absurd c_8 (by decide)
              · skip
                exact absurd c_7 (by decide)
            · skip
              exact absurd c_6 (by decide)
          · skip
            exact absurd c_5 (by decide)
        · skip
          exact absurd c_4 (by decide)
      · skip
        exact absurd c_3 (by decide)
    · skip
      exact absurd c_2 (by decide)
  · skip
    exact absurd c_1 (by decide)

def rmL_asks_13 : Room := ({ frames := 7, cells := 1, slots := 6, locals := 145 } : Room)
set_option maxHeartbeats 4000000 in
set_option maxRecDepth 100000 in
theorem kL_asks_13 (l : Launch) (hlt : l.stackTraces = false) (G : Gx) (hG : gOk G) (hF : Full G) (σ : St) (x y : Int32) (g n e9 z : Nat) (b : Bool) (hIv9 : CIv σ g n b e9 z) : CmI l yL_asks wsL_asks rmL_asks_13 G σ [.ref (gad G 0), .int 13, .int x, .int y] (fun r9 σ9 => (fun r σ' => r = (if ix x % 2 = 1 then 62 else (Int32.toUInt32 (nI (48 + fsA (fun z9 => cntA (fun o => stB (σ 28) (σ 29) (σ 27 3) e9 o z9) n) (ix x / 2) n)) % 65536).toInt32) ∧ σ' = σ ∧ inT x n = true) r9 σ9 ∨ ∃ E9 : String, (fun E => E = xIOB ∧ inT x n = false) E9 ∧ r9 = cdA E9 ∧ σ9 = σ) 1 6 := by
  refine bgL (cc := cL_asks) (maxL := 5) (ret := some .int) (own := RL) (hh := [(0, 181, 182, 45), (0, 181, 188, 49)]) (by decide) rfl rfl hG (Nat.le_of_ble_eq_true rfl) rfl ?_
  intro p e s m args below meth c ls htab Bd hl
  obtain ⟨hx, hb, hr, hml, hts, hown, hlocks, fx, hw⟩ := Bd
  have hl : lv_has ls 5 [(0, .ref (gad G 0)), (1, .int 13), (2, .int x), (3, .int y)] := hl
  refine lv_iload_n hx hb dL_asks_0 rfl (lv_at hl 1 rfl) ?_
  refine lv_if_ne (tgt := 12) hx hb dL_asks_1 (by decide) (fun c_1 => ?_) (fun c_1 => ?_)
  · skip
    refine lv_iload_n hx hb dL_asks_12 rfl (lv_at hl 1 rfl) ?_
    refine lv_iconst (v := 1) hx hb dL_asks_13 (by decide) ?_
    refine lv_icmp_ne (tgt := 25) hx hb dL_asks_14 (by decide) (fun c_2 => ?_) (fun c_2 => ?_)
    · skip
      refine lv_iload_n hx hb dL_asks_25 rfl (lv_at hl 1 rfl) ?_
      refine lv_iconst (v := 2) hx hb dL_asks_26 (by decide) ?_
      refine lv_icmp_ne (tgt := 38) hx hb dL_asks_27 (by decide) (fun c_3 => ?_) (fun c_3 => ?_)
      · skip
        refine lv_iload_n hx hb dL_asks_38 rfl (lv_at hl 1 rfl) ?_
        refine lv_iconst (v := 3) hx hb dL_asks_39 (by decide) ?_
        refine lv_icmp_ne (tgt := 51) hx hb dL_asks_40 (by decide) (fun c_4 => ?_) (fun c_4 => ?_)
        · skip
          refine lv_iload_n hx hb dL_asks_51 rfl (lv_at hl 1 rfl) ?_
          refine lv_iconst (v := 4) hx hb dL_asks_52 (by decide) ?_
          refine lv_icmp_ne (tgt := 64) hx hb dL_asks_53 (by decide) (fun c_5 => ?_) (fun c_5 => ?_)
          · skip
            refine lv_iload_n hx hb dL_asks_64 rfl (lv_at hl 1 rfl) ?_
            refine lv_iconst (v := 5) hx hb dL_asks_65 (by decide) ?_
            refine lv_icmp_ne (tgt := 77) hx hb dL_asks_66 (by decide) (fun c_6 => ?_) (fun c_6 => ?_)
            · skip
              refine lv_iload_n hx hb dL_asks_77 rfl (lv_at hl 1 rfl) ?_
              refine lv_bipush (v := 6) hx hb dL_asks_78 (by decide) ?_
              refine lv_icmp_ne (tgt := 91) hx hb dL_asks_80 (by decide) (fun c_7 => ?_) (fun c_7 => ?_)
              · skip
                refine lv_iload_n hx hb dL_asks_91 rfl (lv_at hl 1 rfl) ?_
                refine lv_bipush (v := 7) hx hb dL_asks_92 (by decide) ?_
                refine lv_icmp_ne (tgt := 105) hx hb dL_asks_94 (by decide) (fun c_8 => ?_) (fun c_8 => ?_)
                · skip
                  refine lv_iload_n hx hb dL_asks_105 rfl (lv_at hl 1 rfl) ?_
                  refine lv_bipush (v := 8) hx hb dL_asks_106 (by decide) ?_
                  refine lv_icmp_ne (tgt := 119) hx hb dL_asks_108 (by decide) (fun c_9 => ?_) (fun c_9 => ?_)
                  · skip
                    refine lv_iload_n hx hb dL_asks_119 rfl (lv_at hl 1 rfl) ?_
                    refine lv_bipush (v := 9) hx hb dL_asks_120 (by decide) ?_
                    refine lv_icmp_ne (tgt := 134) hx hb dL_asks_122 (by decide) (fun c_10 => ?_) (fun c_10 => ?_)
                    · skip
                      refine lv_iload_n hx hb dL_asks_134 rfl (lv_at hl 1 rfl) ?_
                      refine lv_bipush (v := 10) hx hb dL_asks_135 (by decide) ?_
                      refine lv_icmp_ne (tgt := 148) hx hb dL_asks_137 (by decide) (fun c_11 => ?_) (fun c_11 => ?_)
                      · skip
                        refine lv_iload_n hx hb dL_asks_148 rfl (lv_at hl 1 rfl) ?_
                        refine lv_bipush (v := 11) hx hb dL_asks_149 (by decide) ?_
                        refine lv_icmp_ne (tgt := 162) hx hb dL_asks_151 (by decide) (fun c_12 => ?_) (fun c_12 => ?_)
                        · skip
                          refine lv_iload_n hx hb dL_asks_162 rfl (lv_at hl 1 rfl) ?_
                          refine lv_bipush (v := 12) hx hb dL_asks_163 (by decide) ?_
                          refine lv_icmp_ne (tgt := 176) hx hb dL_asks_165 (by decide) (fun c_13 => ?_) (fun c_13 => ?_)
                          · skip
                            refine lv_aload_n hx hb dL_asks_176 rfl (lv_at hl 0 rfl) ?_
                            refine lv_iload_n hx hb dL_asks_177 rfl (lv_at hl 2 rfl) ?_
                            refine rCallXI (C := RX5) (As := [.int x]) (rest := []) ⟨hx, hb, hml, hown, hts⟩ fx hw (kX5_textAt l hlt G hG hF σ x g n e9 z b hIv9) (cwV 1 hts gL_asks_X5_textAt rfl rfl rfl (by decide +kernel) ⟨Nat.le_of_ble_eq_true rfl, Nat.le_of_ble_eq_true rfl⟩) (hF.1 0 (by decide)) rfl rfl rfl rfl hl.1 rfl (Nat.le_of_ble_eq_true rfl) dL_asks_178 ⟨Nat.le_of_ble_eq_true rfl, Nat.le_of_ble_eq_true rfl⟩ (fun E ce q9 H locs hE hw h1 h2 h3 => ?_) ?_
                            · skip
                              have e9 := hE.1; subst e9
                              refine vx_catch (own := RL) (name := "java/lang/IndexOutOfBoundsException") hown (tableOf []) ⟨0, 181, 182, 45⟩ (tableOf [(0, 181, 188, 49)]) htab (fun z hz => absurd hz List.not_mem_nil) rfl (by decide) (hts (.classLink RL 45 "java/lang/IndexOutOfBoundsException") (by decide +kernel)) (hCast fx hF (by decide)) h1 h2 h3 ?_
                              refine lv_astore (lv' := (4, .ref q9) :: [(0, .ref (gad G 0)), (1, .int 13), (2, .int x), (3, .int y)]) hx hb dL_asks_182 hl (by decide) rfl (fun ls hl => ?_)
                              refine lv_sipush (v := (-3000)) hx hb dL_asks_184 (by decide) ?_
                              exact rRetIw hx hb hr hw (Or.inr ⟨_, hE, by decide, rfl⟩) hlocks dL_asks_187 (Nat.le_refl _) (Nat.le_refl _)
                            intro r9 τ9 H locs hp9 hw
                            exact rRetIw hx hb hr hw (Or.inl hp9) hlocks dL_asks_181 (Nat.zero_le _) (Nat.zero_le _)
                          · skip
                            exact absurd c_13 (by decide)
                        · skip
                          exact absurd c_12 (by decide)
                      · skip
                        exact absurd c_11 (by decide)
                    · skip
                      exact absurd c_10 (by decide)
                  · skip
                    exact absurd c_9 (by decide)
                · skip
                  exact absurd c_8 (by decide)
              · skip
                exact absurd c_7 (by decide)
            · skip
              exact absurd c_6 (by decide)
          · skip
            exact absurd c_5 (by decide)
        · skip
          exact absurd c_4 (by decide)
      · skip
        exact absurd c_3 (by decide)
    · skip
      exact absurd c_2 (by decide)
  · skip
    exact absurd c_1 (by decide)
