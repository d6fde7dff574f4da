/-! what holds between the law's steps: the class's numbers and the law's own (cells 31: ways, 32: karts, 33: numbers) -/
def PKart (σ : St) (g z t G9 k : Nat) : Prop := ∃ lp db mo aw ga : Nat, (σ 6 k = nI lp ∧ lp ≤ G9) ∧ (σ 7 k = nI db ∧ db ≤ z) ∧ (σ 9 k = nI mo ∧ mo ≤ z) ∧ (σ 26 k = nI aw ∧ aw ≤ t + 5) ∧ (σ 5 k = nI ga ∧ ga < g) ∧ (lp = G9 → 0 < mo) ∧ (σ 24 k = -1 ∨ ∃ q : Nat, q < 4 ∧ σ 24 k = nI q) ∧ σ 32 (6 * k + 1) = nI ga ∧ σ 32 (6 * k + 2) = nI lp ∧ σ 32 (6 * k + 3) = nI db ∧ (σ 1 3 &&& (σ 32 (6 * k + 4) ^^^ (-1)) = misA σ 4 k ∧ σ 32 (6 * k + 4) &&& 1 = 0) ∧ σ 32 (6 * k + 5) = nI (if lp = G9 then 1 else 0)
def PRace (σ : St) (g z t : Nat) : Prop := ∃ G9 : Nat, (1 ≤ G9 ∧ G9 ≤ 9 ∧ σ 4 9 = nI G9 ∧ σ 33 4 = nI G9 ∧ σ 4 10 = nI z) ∧ (∀ k, k < 6 → PKart σ g z t G9 k) ∧ RMom σ ∧ rcEq (rbS σ z) 12 σ 4
def PTrk (σ : St) (g : Nat) : Prop := wOk (σ 2) g ∧ FX (σ 2) (σ 3) g ∧ ∀ i, i < 60 → σ 31 i = σ 2 i
def PCup (σ : St) (n e : Nat) : Prop := ∀ i, i < e → (∀ k, k < n → ∃ p : Nat, p < n ∧ σ 28 (i * 6 + k) = nI p ∧ (σ 29 (i * 6 + k) = 0 ∨ σ 29 (i * 6 + k) = tPts p)) ∧ ∀ p, p < n → ∃ k, k < n ∧ σ 28 (i * 6 + k) = nI p
def PTeam (σ : St) (n : Nat) : Prop := ∀ k, k < n → ∃ q : Nat, q < 4 ∧ σ 30 k = nI q
def PNum (σ : St) (g n : Nat) (b : Bool) (e d t : Nat) : Prop := σ 33 0 = nI g ∧ σ 33 1 = σ 1 3 ∧ σ 33 2 = nI n ∧ σ 33 3 = bI b ∧ σ 33 5 = nI (e + (if b = true then 1 else 0)) ∧ σ 33 6 = nI e ∧ (σ 33 7 = nI d ∧ σ 27 3 = nI d ∧ d ≤ 3) ∧ (σ 33 8 = nI t ∧ σ 0 9 = nI t) ∧ g ≤ 5 ∧ (b = true → 0 < n)
def PAll (σ : St) (g n e z d t : Nat) (b : Bool) (j : Nat) : Prop := CIv σ g n b e z ∧ PNum σ g n b e d t ∧ PTrk σ g ∧ PCup σ n e ∧ PTeam σ n ∧ (b = true → PRace σ g z t) ∧ t ≤ 100 * j ∧ z ≤ j
def PInv (σ : St) (j : Nat) : Prop := ∃ (g n e z d t : Nat) (b : Bool), PAll σ g n e z d t b j
theorem ix_nI {a : Nat} (h : a < 2 ^ 31) : ix (nI a) = a := nI_clamp h
theorem inB_nI {a n : Nat} (ha : a < 2 ^ 31) (hn : n < 2 ^ 31) : inB (nI a) n = decide (a < n) := by
  by_cases h : a < n
  · rw [decide_eq_true h]; exact inB_t (nI_pos ha) ((nI_ltI ha hn).mpr h)
  · rw [decide_eq_false h]; exact inB_f2 (fun q => h ((nI_ltI ha hn).mp q))
theorem inB_y {a n : Nat} (h : a < n) (hn : n < 2 ^ 31) : inB (nI a) n = true := by rw [inB_nI (by omega) hn, decide_eq_true h]
theorem inB_no {a n : Nat} (h : n ≤ a) (ha : a < 2 ^ 31) : inB (nI a) n = false := by rw [inB_nI ha (by omega), decide_eq_false (by omega)]
section PF
variable {σ τ : St} {g n e z d t j k : Nat} {b : Bool}
theorem pcv (h : PAll σ g n e z d t b j) : CIv σ g n b e z := h.1
theorem pg (h : PAll σ g n e z d t b j) : σ 33 0 = nI g ∧ g ≤ 5 ∧ 1 ≤ g := ⟨h.2.1.1, h.2.1.2.2.2.2.2.2.2.2.1, h.1.1.2.1⟩
theorem pn (h : PAll σ g n e z d t b j) : σ 33 2 = nI n ∧ n ≤ 6 := ⟨h.2.1.2.2.1, h.1.2.1.2⟩
theorem pon (h : PAll σ g n e z d t b j) : σ 33 3 = bI b := h.2.1.2.2.2.1
theorem pst (h : PAll σ g n e z d t b j) : σ 33 5 = nI (e + (if b = true then 1 else 0)) := h.2.1.2.2.2.2.1
theorem pe (h : PAll σ g n e z d t b j) : σ 33 6 = nI e ∧ e ≤ 8 := ⟨h.2.1.2.2.2.2.2.1, h.1.2.2.2.1.2⟩
theorem pdr (h : PAll σ g n e z d t b j) : σ 33 7 = nI d ∧ σ 27 3 = nI d ∧ d ≤ 3 := h.2.1.2.2.2.2.2.2.1
theorem pti (h : PAll σ g n e z d t b j) : σ 33 8 = nI t ∧ σ 0 9 = nI t := h.2.1.2.2.2.2.2.2.2.1
theorem pn0 (h : PAll σ g n e z d t b j) (hb : b = true) : 0 < n := h.2.1.2.2.2.2.2.2.2.2.2 hb
theorem pe8 (h : PAll σ g n e z d t b j) (hb : b = true) : e < 8 := (h.1.2.2.2.2.2.2.1 hb).2
theorem prace (h : PAll σ g n e z d t b j) (hb : b = true) : PRace σ g z t := h.2.2.2.2.2.1 hb
theorem prec (h : PAll σ g n e z d t b j) : ∀ i, i < z → ix (σ 21 i) < 6 := fun i hi => (h.1.2.2.2.2.2.2.2 i hi).1.2
theorem pz (h : PAll σ g n e z d t b j) : z ≤ 512 := h.1.2.2.2.2.1.2
theorem PK_fin {G9 : Nat} (h9 : σ 4 9 = nI G9) (hG : G9 ≤ 9) (h : PKart σ g z t G9 k) : σ 32 (6 * k + 5) = bI (finB σ 4 k) ∧ (finB σ 4 k = true → ¬ σ 9 k = 0 ∨ 512 < z) := by
  obtain ⟨lp, db, mo, aw, ga, ⟨h1, h2⟩, -, ⟨h3, h4⟩, -, -, h5, -, -, -, -, -, h6⟩ := h
  have hf : finB σ 4 k = decide (lp = G9) := by
    unfold finB
    rw [show σ (4 + 2) k = nI lp from h1, h9, decide_eq_decide.mpr (nI_ltI (a := lp) (b := G9) (by omega) (by omega))]
    by_cases e : lp = G9
    · rw [decide_eq_true e, decide_eq_false (by omega)]; rfl
    · rw [decide_eq_false e, decide_eq_true (by omega)]; rfl
  rw [hf, h6]
  by_cases e : lp = G9
  · rw [if_pos e, decide_eq_true e]
    refine ⟨rfl, fun _ => ?_⟩
    have h7 := h5 e
    rcases Nat.lt_or_ge 512 z with q | q
    · exact Or.inr q
    · refine Or.inl (fun q2 => ?_)
      rw [h3] at q2
      have := (nI_eq (b := 0) (by omega) (by decide)).mp (q2.trans nI_0.symm)
      omega
  · rw [if_neg e, decide_eq_false e]
    exact ⟨rfl, fun q => absurd q (by decide)⟩
theorem pfin (h : PAll σ g n e z d t b j) (hb : b = true) (hk : k < 6) : σ 32 (6 * k + 5) = bI (finB σ 4 k) := by
  obtain ⟨G9, ⟨h1, h2, h3, h4, h5⟩, h6, h7, h8⟩ := prace h hb
  exact (PK_fin h3 h2 (h6 k hk)).1
theorem pstO (h : PAll σ g n e z d t b j) (hb : b = true) : stO (ahB σ 4) n := by
  obtain ⟨G9, ⟨h1, h2, h3, h4, h5⟩, h6, h7, h8⟩ := prace h hb
  have hz := pz h
  have hn := (pn h).2
  refine ahX_stO (f := finB σ 4) (nt := netA σ 4) (rs := rstA σ 4) (mo := σ 9) (fun i k hi hk hne q1 q2 q => ?_)
  rcases (PK_fin h3 h2 (h6 i (by omega))).2 q1 with q3 | q3
  · exact q3 (h7 i k (by omega) (by omega) hne (Int32.toInt_inj.mp q))
  · omega
theorem prk_lt (hk : k < n) : rkA σ n k < n := rkA_lt hk
theorem prk_inj (h : PAll σ g n e z d t b j) (hb : b = true) {i : Nat} (hi : i < n) (hk : k < n) (q : rkA σ n i = rkA σ n k) : i = k := cnt_inj (pstO h hb) hi hk q
theorem pmask (h : PAll σ g n e z d t b j) (hb : b = true) : mskA (rkA σ n) n = ((1 : Int32) <<< (nI n &&& 31)) - 1 := by
  have hn := (pn h).2
  exact mskA_all hn (fun k hk => prk_lt hk) (fun p hp => cnt_surj (pstO h hb) (by omega) p hp)
/-- the record told again ranks the same -/
theorem prec_rk (h : PAll σ g n e z d t b j) (hb : b = true) (hk : k < n) : rrA (ordA (ahB (rbS σ z) 12) (rbS σ z 18) n) (rbS σ z 19) n k = nI (rkA σ n k) := by
  obtain ⟨G9, ⟨h1, h2, h3, h4, h5⟩, h6, h7, h8⟩ := prace h hb
  have hn := (pn h).2
  have e1 : ∀ i k, i < n → k < n → ahB (rbS σ z) 12 i k = ahB σ 4 i k := fun i k hi hk => ah_rc h8 (rbS_o (by decide) z) (by omega) (by omega)
  have hs := stO_cong e1 (pstO h hb)
  rw [rr_is hs (by omega) _ _ hk]
  unfold rkA
  rw [cntA_cong n (fun a ha => e1 a k ha hk)]
/-- the lead over the first is 0 -/
theorem plead (h : PAll σ g n e z d t b j) (hb : b = true) (hk : k < n) (h0 : rkA σ n k = 0) : ∀ i, i ≤ n → (i ≤ k ∧ ldrA σ 4 n k i = 0) ∨ (k < i ∧ ldrA σ 4 n k i = wayA σ 4 k - wayA σ 4 k)
  | 0, _ => Or.inl ⟨Nat.zero_le _, rfl⟩
  | i + 1, hi => by
    have ih := plead h hb hk h0 i (by omega)
    rw [ldrA]
    by_cases q : rkA σ n i = 0
    · have e9 : i = k := prk_inj h hb (by omega) hk (q.trans h0.symm)
      subst e9
      exact Or.inr ⟨by omega, if_pos q⟩
    · rw [if_neg (show ¬ cntA (fun a => ahB σ 4 a i) n = 0 from q)]
      rcases ih with ⟨a, c⟩ | ⟨a, c⟩
      · have : i ≠ k := fun e9 => by subst e9; exact q h0
        exact Or.inl ⟨by omega, c⟩
      · exact Or.inr ⟨by omega, c⟩
/-- what is not read: the cells 12 .. 19 -/
def AgP (τ σ : St) : Prop := ∀ c, c < 12 ∨ 19 < c → τ c = σ c
theorem CIv_of (h : AgP τ σ) (hC : CIv σ g n b e z) : CIv τ g n b e z := by
  obtain ⟨h1, h2, h3, h4, h5, h6, h7, h8⟩ := hC
  refine ⟨?_, ?_, ?_, ?_, ?_, rOk_of (h (4 + 1) (by omega)) h6, ?_, ?_⟩
  · rw [h 1 (by omega)]; exact h1
  · rw [h 0 (by omega)]; exact h2
  · rw [h 0 (by omega)]; exact h3
  · rw [h 27 (by omega)]; exact h4
  · rw [h 20 (by omega)]; exact h5
  · rw [h 4 (by omega)]; exact h7
  · rw [h 21 (by omega), h 22 (by omega)]; exact h8
/-- a race goes on where its cells are the same -/
theorem PRace_of {t' : Nat} (ht : t ≤ t') (h0 : τ 0 7 = σ 0 7) (h1 : τ 1 3 = σ 1 3) (h2 : τ 2 = σ 2) (h4 : τ 4 = σ 4) (h5 : τ 5 = σ 5) (h6 : τ 6 = σ 6) (h7 : τ 7 = σ 7) (h8 : τ 8 = σ 8) (h9 : τ 9 = σ 9) (h21 : τ 21 = σ 21) (h22 : τ 22 = σ 22) (h24 : ∀ k, k < 6 → τ 24 k = -1 ∨ ∃ q : Nat, q < 4 ∧ τ 24 k = nI q) (h26 : ∀ k, k < 6 → ∃ aw : Nat, τ 26 k = nI aw ∧ aw ≤ t' + 5) (h32 : τ 32 = σ 32) (h33 : τ 33 4 = σ 33 4) (hrec : ∀ i, i < z → ix (σ 21 i) < 6) (h : PRace σ g z t) : PRace τ g z t' := by
  obtain ⟨G9, ⟨q1, q2, q3, q4, q5⟩, q6, q7, q8⟩ := h
  refine ⟨G9, ⟨q1, q2, by rw [h4]; exact q3, by rw [h33]; exact q4, by rw [h4]; exact q5⟩, fun k hk => ?_, ?_, rc_keep h0 h4 h2 h1 h21 h22 h5 h6 h7 h8 h9 hrec q8⟩
  · obtain ⟨lp, db, mo, aw, ga, a1, a2, a3, a4, a5, a6, a7, a8, a9, a10, a11, a12⟩ := q6 k hk
    obtain ⟨aw', b1, b2⟩ := h26 k hk
    have em : misA τ 4 k = misA σ 4 k := by unfold misA; rw [h1, show τ (4 + 4) = σ (4 + 4) from h8]
    refine ⟨lp, db, mo, aw', ga, by rw [h6]; exact a1, by rw [h7]; exact a2, by rw [h9]; exact a3, ⟨b1, b2⟩, by rw [h5]; exact a5, a6, h24 k hk, by rw [h32]; exact a8, by rw [h32]; exact a9, by rw [h32]; exact a10, by rw [h32, h1, em]; exact a11, by rw [h32]; exact a12⟩
  · unfold RMom
    rw [h9]
    exact q7
theorem P24 (h : PRace σ g z t) : ∀ k, k < 6 → σ 24 k = -1 ∨ ∃ q : Nat, q < 4 ∧ σ 24 k = nI q := fun k hk => by
  obtain ⟨G9, -, q6, -⟩ := h
  obtain ⟨lp, db, mo, aw, ga, a1, a2, a3, a4, a5, a6, a7, -⟩ := q6 k hk
  exact a7
theorem P26 {t' : Nat} (ht : t ≤ t') (h : PRace σ g z t) : ∀ k, k < 6 → ∃ aw : Nat, σ 26 k = nI aw ∧ aw ≤ t' + 5 := fun k hk => by
  obtain ⟨G9, -, q6, -⟩ := h
  obtain ⟨lp, db, mo, aw, ga, a1, a2, a3, a4, -⟩ := q6 k hk
  exact ⟨aw, a4.1, by omega⟩
/-- nothing of all this lies in the cells 12 .. 19 -/
theorem PAll_of (h : AgP τ σ) (hA : PAll σ g n e z d t b j) : PAll τ g n e z d t b j := by
  obtain ⟨h1, h2, h3, h4, h5, h6, h7, h8⟩ := id hA
  refine ⟨CIv_of h h1, ?_, ?_, ?_, ?_, fun hb => ?_, h7, h8⟩
  · unfold PNum
    rw [h 33 (by omega), h 1 (by omega), h 27 (by omega), h 0 (by omega)]
    exact h2
  · unfold PTrk
    rw [h 2 (by omega), h 3 (by omega), h 31 (by omega)]
    exact h3
  · unfold PCup
    rw [h 28 (by omega), h 29 (by omega)]
    exact h4
  · unfold PTeam
    rw [h 30 (by omega)]
    exact h5
  · have hr := h6 hb
    refine PRace_of (Nat.le_refl t) (by rw [h 0 (by omega)]) (by rw [h 1 (by omega)]) (h 2 (by omega)) (h 4 (by omega)) (h 5 (by omega)) (h 6 (by omega)) (h 7 (by omega)) (h 8 (by omega)) (h 9 (by omega)) (h 21 (by omega)) (h 22 (by omega)) ?_ ?_ (h 32 (by omega)) (by rw [h 33 (by omega)]) (prec hA) hr
    · rw [h 24 (by omega)]; exact P24 hr
    · rw [h 26 (by omega)]; exact P26 (Nat.le_refl t) hr
theorem PAll_s (hA : PAll σ g n e z d t b j) : PAll σ g n e z d t b (j + 1) := by
  obtain ⟨h1, h2, h3, h4, h5, h6, h7, h8⟩ := hA
  exact ⟨h1, h2, h3, h4, h5, h6, by omega, by omega⟩
theorem AgP_fb (σ : St) (n z : Nat) : AgP (fbS σ n z) σ := fun c hc => fb_o (by omega)
end PF
