/-! of whole's texts, what speaks of the class alone -/
def RMom (σ : St) : Prop := ∀ i j, i < 6 → j < 6 → i ≠ j → σ 9 i = σ 9 j → σ 9 i = 0
noncomputable def fbS (σ : St) (n z : Nat) : St := upA (upA (rbS σ z) 18 (ordA (ahB (rbS σ z) 12) (rbS σ z 18) n)) 19 (rrA (ordA (ahB (rbS σ z) 12) (rbS σ z 18) n) (rbS σ z 19) n)
theorem ah_rc {τ σ : St} (h : rcEq τ 12 σ 4) (h3 : τ 3 = σ 3) {i j : Nat} (hi : i < 6) (hj : j < 6) : ahB τ 12 i j = ahB σ 4 i j := by
  have F : ∀ k, k < 6 → finB τ 12 k = finB σ 4 k := fun k hk => by unfold finB; rw [h.1 2 (by decide) (by decide) k hk, h.2.2.1]
  have N : ∀ k, k < 6 → netA τ 12 k = netA σ 4 k := fun k hk => by unfold netA; rw [h.1 2 (by decide) (by decide) k hk, h.1 3 (by decide) (by decide) k hk]
  have S : ∀ k, k < 6 → rstA τ 12 k = rstA σ 4 k := fun k hk => by unfold rstA gN; rw [h.1 1 (by decide) (by decide) k hk, h3]
  have M : ∀ k, k < 6 → τ (12 + 5) k = σ (4 + 5) k := fun k hk => h.1 5 (by decide) (by decide) k hk
  unfold ahB
  rw [F i hi, F j hj, N i hi, N j hj, S i hi, S j hj, M i hi, M j hj]
theorem stO_cong {a a' : Nat → Nat → Bool} {n : Nat} (h : ∀ i j, i < n → j < n → a i j = a' i j) (hs : stO a' n) : stO a n :=
  ⟨fun i hi => by rw [h i i hi hi]; exact hs.1 i hi, fun i j hi hj hne => by rw [h i j hi hj, h j i hj hi]; exact hs.2.1 i j hi hj hne, fun i j k hi hj hk => by rw [h i j hi hj, h j k hj hk, h i k hi hk]; exact hs.2.2 i j k hi hj hk⟩
theorem fb_o {σ : St} {n z c : Nat} (h : c < 12 ∨ 19 < c) : fbS σ n z c = σ c := by
  unfold fbS
  rw [upA_n (by omega), upA_n (by omega), rbS_o (by omega)]
theorem cntA_0 {P : Nat → Bool} : ∀ i, (∀ a, a < i → P a = false) → cntA P i = 0
  | 0, _ => rfl
  | i + 1, h => by rw [cntA, cntA_0 i (fun a ha => h a (by omega)), h i (by omega)]; rfl
theorem stT_irr (pl : Nat → Int32) (e i : Nat) : ∀ z, stT pl e i i z = false
  | 0 => by rw [stT, decide_eq_true (Nat.le_refl _)]; rfl
  | z + 1 => by rw [stT, if_pos rfl]; exact stT_irr pl e i z
theorem rc_keep {τ σ : St} {z : Nat} (h0 : τ 0 7 = σ 0 7) (h4 : τ 4 = σ 4) (h2 : τ 2 = σ 2) (hn : τ 1 3 = σ 1 3) (h21 : τ 21 = σ 21) (h22 : τ 22 = σ 22) (h5 : τ 5 = σ 5) (h6 : τ 6 = σ 6) (h7 : τ 7 = σ 7) (h8 : τ 8 = σ 8) (h9 : τ 9 = σ 9) (hrec : ∀ i, i < z → ix (σ 21 i) < 6) (h : rcEq (rbS σ z) 12 σ 4) : rcEq (rbS τ z) 12 τ 4 := by
  have q1 : rcEq (rbS τ z) 12 (rbS σ z) 12 := rb_cong h0 (by rw [h4]) h2 hn z (fun i hi => ⟨by rw [h21], by rw [h22], hrec i hi⟩)
  refine rcEq_t q1 (rcEq_t h ⟨fun c q1 q2 k hk => ?_, by rw [h4], by rw [h4], by rw [h4]⟩)
  have : c = 1 ∨ c = 2 ∨ c = 3 ∨ c = 4 ∨ c = 5 := by omega
  rcases this with rfl | rfl | rfl | rfl | rfl
  · exact (congrFun h5 k).symm
  · exact (congrFun h6 k).symm
  · exact (congrFun h7 k).symm
  · exact (congrFun h8 k).symm
  · exact (congrFun h9 k).symm
theorem inR_nI {x : Int32} {m : Nat} (hm : m < 2 ^ 30) (h : inR x 1 (nI m) = true) : ∃ v : Nat, x = nI v ∧ 1 ≤ v ∧ v ≤ m := by
  unfold inR at h
  simp only [Bool.and_eq_true, Bool.not_eq_true', decide_eq_false_iff_not, decide_eq_true_eq] at h
  obtain ⟨h1, h2⟩ := h
  have a1 : ¬ x < 0 := fun q => h1 (Int32.lt_trans q (by decide))
  have a2 : x < nI (m + 1) := by
    rw [Int32.lt_iff_toInt_lt, nI_toInt (by omega)]
    rw [Int32.le_iff_toInt_le, nI_toInt (by omega)] at h2
    omega
  obtain ⟨e1, e2⟩ := inB_ix (n := m + 1) (by omega) (inB_t a1 a2)
  refine ⟨ix x, e1, ?_, by omega⟩
  rcases Nat.eq_zero_or_pos (ix x) with q | q
  · rw [q] at e1
    exact absurd (by rw [e1]; decide) h1
  · exact q
theorem wOk_u {len : Nat → Int32} {g X Y v : Nat} (hw : wOk len g) (hX : X < g) (hY : Y < g) (hg : g ≤ 12) (hv : v ≤ 100) (hd : X < Y ∨ (Y = 0 ∧ 0 < X)) : wOk (upd len (X * 12 + Y) (nI v)) g := by
  intro x y hx hy
  by_cases e : x * 12 + y = X * 12 + Y
  · have e1 : x = X := by omega
    have e2 : y = Y := by omega
    subst e1 e2
    exact ⟨v, pk_us, hv, fun _ => ⟨hd, hX, hY⟩⟩
  · obtain ⟨w, h1, h2, h3⟩ := hw x y hx hy
    exact ⟨w, (if_neg e : upd len (X * 12 + Y) (nI v) (x * 12 + y) = len (x * 12 + y)).trans h1, h2, h3⟩
theorem stun_eq {aw t : Nat} (h1 : aw < 2 ^ 30) (h2 : t < 2 ^ 30) : (if nI aw - nI t < 0 then 0 else nI aw - nI t) = (if nI aw ≤ nI t then 0 else nI aw - nI t) := by
  have h3 : (nI aw - nI t).toInt = (aw : Int) - t := pk_sub_toInt h1 h2
  have h4 := nI_leI (a := aw) (b := t) (by omega) (by omega)
  by_cases e : aw ≤ t
  · rw [if_pos (h4.mpr e)]
    by_cases e2 : aw = t
    · subst e2
      rw [if_neg (by rw [Int32.lt_iff_toInt_lt, h3, show (0 : Int32).toInt = 0 from by decide]; omega)]
      apply Int32.toInt_inj.mp
      rw [h3, show (0 : Int32).toInt = 0 from by decide]; omega
    · rw [if_pos (by rw [Int32.lt_iff_toInt_lt, h3, show (0 : Int32).toInt = 0 from by decide]; omega)]
  · rw [if_neg (fun q => e (h4.mp q)), if_neg (by rw [Int32.lt_iff_toInt_lt, h3, show (0 : Int32).toInt = 0 from by decide]; omega)]
theorem ix6 {x : Int32} {n : Nat} (hn : n ≤ 6) (h : inB x n = true) : ix x < 6 := by have := (inB_ix (by omega) h).2; omega
theorem en_lo {σ : St} {n e x : Nat} (hx : x < e * 6) : ∀ i, enS σ n e i 28 x = σ 28 x
  | 0 => rfl
  | i + 1 => by
    rw [enS, upA_n (show (28 : Nat) ≠ 29 by decide), upA_s, pk_un (by omega)]
    exact en_lo hx i
theorem en_at {σ : St} {n e k : Nat} : ∀ i, k < i → enS σ n e i 28 (e * 6 + k) = nI (rkA σ n k)
  | 0, h => absurd h (by omega)
  | i + 1, h => by
    rw [enS, upA_n (show (28 : Nat) ≠ 29 by decide), upA_s]
    by_cases c : k = i
    · subst c; exact pk_us
    · rw [pk_un (by omega)]
      exact en_at i (by omega)
theorem clrK_lt {f : Nat → Int32} {v : Int32} {i j : Nat} (h : j < i) : clrK f v i j = v := if_pos h
theorem noSt_o {σ : St} {z k t c : Nat} (h : c ≠ 20) (h1 : c ≠ 21) (h2 : c ≠ 22) : noSt σ z k t c = σ c := by
  unfold noSt
  rw [upA_n h, upA_n h2, upA_n h1]
theorem mvS_B {σ : St} {B k t : Nat} : mvS σ B k t B = upd (σ B) 10 (σ B 10 + 1) := by
  have h0 : mv0 σ B k t B = upd (σ B) 10 (σ B 10 + 1) := by
    unfold mv0
    rw [upA_n (by omega), upA_n (by omega), upA_s]
  unfold mvS
  split
  · split
    · unfold crS
      split
      · split
        · rw [upA_n (by omega), upA_n (by omega), h0]
        · rw [upA_n (by omega), h0]
      · rw [upA_n (by omega), upA_n (by omega), h0]
    · unfold rgS
      split
      · rw [upA_n (by omega), h0]
      · exact h0
  · unfold bkS
    split
    · rw [upA_n (by omega), h0]
    · rw [upA_n (by omega), h0]
theorem rc_next {σ τ : St} {z k t : Nat} (hrc : rcEq (rbS σ z) 12 σ 4) (hτ : ∀ c, c < 31 → τ c = mvS (noSt σ z k t) 4 k t c) (hk : k < 6) (ht : t < 12) (hrec : ∀ i, i < z → ix (σ 21 i) < 6) : rcEq (rbS τ (z + 1)) 12 τ 4 := by
  have hN : ∀ c, c < 4 ∨ 9 < c → c < 31 → τ c = noSt σ z k t c := fun c h1 h2 => (hτ c h2).trans (mvS_o (by omega))
  have h21 : τ 21 = upd (σ 21) z (nI k) := by rw [hN 21 (by decide) (by decide)]; unfold noSt; rw [upA_n (by decide), upA_n (by decide), upA_s]
  have h22 : τ 22 = upd (σ 22) z (nI t) := by rw [hN 22 (by decide) (by decide)]; unfold noSt; rw [upA_n (by decide), upA_s]
  have h0 : τ 0 = σ 0 := (hN 0 (by decide) (by decide)).trans (noSt_o (by decide) (by decide) (by decide))
  have h1 : τ 1 = σ 1 := (hN 1 (by decide) (by decide)).trans (noSt_o (by decide) (by decide) (by decide))
  have h2 : τ 2 = σ 2 := (hN 2 (by decide) (by decide)).trans (noSt_o (by decide) (by decide) (by decide))
  have h4 : τ 4 9 = σ 4 9 := by
    rw [hτ 4 (by decide), mvS_B, pk_un (by decide), noSt_o (by decide) (by decide) (by decide)]
  have q1 : rcEq (rbS τ z) 12 (rbS σ z) 12 := rb_cong (by rw [h0]) h4 h2 (by rw [h1]) z (fun i hi => ⟨by rw [h21, pk_un (by omega)], by rw [h22, pk_un (by omega)], hrec i hi⟩)
  have q2 : rcEq σ 4 (noSt σ z k t) 4 := ⟨fun c a1 a2 a _ => by rw [noSt_o (by omega) (by omega) (by omega)], by rw [noSt_o (by decide) (by decide) (by decide)], by rw [noSt_o (by decide) (by decide) (by decide)], by rw [noSt_o (by decide) (by decide) (by decide)]⟩
  have q3 : rcEq (rbS τ z) 12 (noSt σ z k t) 4 := rcEq_t q1 (rcEq_t hrc q2)
  have q4 := (rc_mv (Or.inr rfl) (Or.inl rfl) q3 (by rw [rbS_o (by decide), h2, noSt_o (by decide) (by decide) (by decide)]) (by rw [rbS_o (by decide), h1, noSt_o (by decide) (by decide) (by decide)]) t hk).1
  have q5 : rcEq (mvS (noSt σ z k t) 4 k t) 4 τ 4 := ⟨fun c a1 a2 a _ => by rw [hτ (4 + c) (by omega)], by rw [hτ 4 (by decide)], by rw [hτ 4 (by decide)], by rw [hτ 4 (by decide)]⟩
  rw [rbS, h21, h22, pk_us, pk_us, show ix (nI k) = k from nI_clamp (by omega), show ix (nI t) = t from nI_clamp (by omega)]
  exact rcEq_t q4 q5
theorem stu_le {aw t : Nat} (h1 : aw < 2 ^ 30) (h2 : t < 2 ^ 30) : decide ((if nI aw - nI t < 0 then 0 else nI aw - nI t) ≤ 0) = decide (nI aw ≤ nI t) := by
  rw [stun_eq h1 h2]
  have h3 : (nI aw - nI t).toInt = (aw : Int) - t := pk_sub_toInt h1 h2
  have h4 := nI_leI (a := aw) (b := t) (by omega) (by omega)
  apply decide_eq_decide.mpr
  by_cases e : aw ≤ t
  · rw [if_pos (h4.mpr e)]
    exact ⟨fun _ => h4.mpr e, fun _ => Int32.le_refl 0⟩
  · rw [if_neg (fun q => e (h4.mp q)), Int32.le_iff_toInt_le, h3, show (0 : Int32).toInt = 0 from by decide]
    exact ⟨fun q => absurd q (by omega), fun q => absurd (h4.mp q) e⟩
theorem upd_v {f : Nat → Int32} {k : Nat} {v : Int32} (h : f k = v) : f = upd f k v := by
  rw [← h]
  exact (upd_self f k).symm
