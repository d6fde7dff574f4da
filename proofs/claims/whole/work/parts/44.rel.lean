/-! what ties the class's numbers (cells 0 .. 30) to the model's (31 .. 45) -/
def rcEq (τ : St) (B' : Nat) (σ : St) (B : Nat) : Prop := (∀ c, 1 ≤ c → c ≤ 5 → ∀ k, k < 6 → τ (B' + c) k = σ (B + c) k) ∧ τ B' 8 = σ B 8 ∧ τ B' 9 = σ B 9 ∧ τ B' 10 = σ B 10
/-- one kart in a race: laps, debt, moment, wake, gate -/
def RKart (σ : St) (g z t G9 k : Nat) : Prop := ∃ lp db mo aw ga : Nat, (σ 6 k = nI lp ∧ lp ≤ G9) ∧ (σ 7 k = nI db ∧ db ≤ z) ∧ (σ 9 k = nI mo ∧ mo ≤ z) ∧ (σ 26 k = nI aw ∧ aw ≤ t + 5) ∧ (σ 5 k = nI ga ∧ ga < g) ∧ σ 40 k = nI (if lp = G9 then mo else 0) ∧ (lp = G9 → 0 < mo) ∧ (σ 8 k &&& 1) = 0
/-- the model's rows of a race are the class's -/
def RRow (σ : St) : Prop := ∀ k, k < 6 → (σ 35 k = σ 5 k ∧ σ 36 k = σ 6 k ∧ σ 37 k = σ 7 k ∧ σ 38 k = σ 8 k ∧ σ 39 k = σ 9 k) ∧ σ 41 k = σ 24 k ∧ σ 42 k = σ 25 k ∧ σ 43 k = σ 26 k
def RMom (σ : St) : Prop := ∀ i j, i < 6 → j < 6 → i ≠ j → σ 9 i = σ 9 j → σ 9 i = 0
def RRace (σ : St) (g z t : Nat) : Prop := ∃ G9 : Nat, (1 ≤ G9 ∧ G9 ≤ 9 ∧ σ 4 9 = nI G9 ∧ σ 31 9 = nI G9 ∧ σ 4 10 = nI z ∧ ¬ σ 4 8 = 0) ∧ RRow σ ∧ (∀ k, k < 6 → RKart σ g z t G9 k) ∧ RMom σ ∧ (∀ a, a < g → σ 33 a = σ 3 a) ∧ rcEq (rbS σ z) 12 σ 4
def RTrk (σ : St) (g : Nat) : Prop := σ 32 = σ 2 ∧ wOk (σ 2) g ∧ σ 31 1 = σ 1 3 ∧ FX (σ 2) (σ 3) g
def RCup (σ : St) (n e : Nat) : Prop := σ 44 = σ 28 ∧ σ 45 = σ 29 ∧ σ 34 = σ 30 ∧ σ 31 24 = σ 27 3 ∧ ∀ i k, i < e → k < n → ∃ p : Nat, p < n ∧ σ 28 (i * 6 + k) = nI p
def RTim (σ : St) (t : Nat) : Prop := σ 0 9 = nI t ∧ σ 31 10 = nI t ∧ σ 31 12 = σ 23 3
def Rel (σ : St) (g n sd : Nat) (b : Bool) (e z t : Nat) : Prop := sd = e + (if b = true then 1 else 0) ∧ RTrk σ g ∧ RCup σ n e ∧ RTim σ t ∧ (b = true → RRace σ g z t)
def Inv (σ : St) (j : Nat) : Prop := ∃ (g n sd e z t : Nat) (b : Bool), CIv σ g n b e z ∧ MIv σ g n sd b e z ∧ Rel σ g n sd b e z t ∧ t ≤ 100 * j ∧ z ≤ j
section KART
variable {σ : St} {g z t G9 k : Nat}
theorem RK_f (h9 : σ 4 9 = nI G9) (hG : G9 ≤ 9) (h : RKart σ g z t G9 k) (hz : z ≤ 512) : decide (σ 40 k ≤ 0) = !finB σ 4 k ∧ decide (σ 40 k = 0) = !finB σ 4 k ∧ (finB σ 4 k = true → σ 40 k = σ 9 k ∧ ¬ σ 9 k = 0) := by
  obtain ⟨lp, db, mo, aw, ga, ⟨h1, h2⟩, -, ⟨h3, h4⟩, -, -, h5, h6, -⟩ := h
  have hf : finB σ 4 k = decide (lp = G9) := by
    unfold finB
    rw [show σ (4 + 2) k = nI lp from h1, h9, decide_eq_decide.mpr (nI_ltI (a := lp) (b := G9) (by omega) (by omega))]
    by_cases e : lp = G9
    · rw [decide_eq_true e, decide_eq_false (by omega)]; rfl
    · rw [decide_eq_false e, decide_eq_true (by omega)]; rfl
  rw [hf]
  by_cases e : lp = G9
  · rw [if_pos e] at h5
    have h7 := h6 e
    rw [decide_eq_true e, h5, h3]
    refine ⟨decide_eq_false (fun q => ?_), decide_eq_false (fun q => ?_), fun _ => ⟨rfl, fun q => ?_⟩⟩
    · have := (nI_leI (b := 0) (by omega) (by decide)).mp q; omega
    · have := (nI_eq (b := 0) (by omega) (by decide)).mp (q.trans nI_0.symm); omega
    · have := (nI_eq (b := 0) (by omega) (by decide)).mp (q.trans nI_0.symm); omega
  · rw [if_neg e] at h5
    rw [decide_eq_false e, h5]
    exact ⟨rfl, rfl, fun q => absurd q (by decide)⟩
theorem RK_g (h : RKart σ g z t G9 k) (hg : g ≤ 12) : gN σ 4 k < g ∧ gN σ 4 k = ix (σ 5 k) := by
  obtain ⟨lp, db, mo, aw, ga, -, -, -, -, ⟨h1, h2⟩, -⟩ := h
  refine ⟨?_, rfl⟩
  show (σ 5 k).toNatClampNeg < g
  rw [h1, nI_clamp (by omega)]
  exact h2
end KART
section RACE
variable {σ : St} {g n z t : Nat}
theorem ma_ah (hr : RRace σ g z t) (hg : g ≤ 12) (hz : z ≤ 512) {i j : Nat} (hi : i < 6) (hj : j < 6) : maB σ i j = ahB σ 4 i j := by
  obtain ⟨G9, ⟨hG1, hG9, h9, -, -⟩, hrow, hk, -, hrs, -⟩ := hr
  obtain ⟨a1, a2, a3⟩ := RK_f h9 hG9 (hk i hi) hz
  obtain ⟨b1, b2, b3⟩ := RK_f h9 hG9 (hk j hj) hz
  obtain ⟨⟨r5, r6, r7, r8, r9⟩, -⟩ := hrow i hi
  obtain ⟨⟨s5, s6, s7, s8, s9⟩, -⟩ := hrow j hj
  have gi := RK_g (hk i hi) hg
  have gj := RK_g (hk j hj) hg
  have ei : σ 33 (ix (σ 35 i)) = rstA σ 4 i := by rw [r5, ← gi.2, hrs _ gi.1]; rfl
  have ej : σ 33 (ix (σ 35 j)) = rstA σ 4 j := by rw [s5, ← gj.2, hrs _ gj.1]; rfl
  have ni : σ 36 i - σ 37 i = netA σ 4 i := by rw [r6, r7]; rfl
  have nj : σ 36 j - σ 37 j = netA σ 4 j := by rw [s6, s7]; rfl
  rw [ahB_X]
  unfold maB ahX
  rw [ei, ej, ni, nj, r9, s9]
  cases fi : finB σ 4 i <;> cases fj : finB σ 4 j <;> rw [fi] at a1 a2 a3 <;> rw [fj] at b1 b2 b3
  · have x1 := of_decide_eq_true a1
    have x2 := of_decide_eq_true b1
    rw [if_neg (fun q => q.elim (fun q => q x1) (fun q => q x2)), if_neg (show ¬ (false = true ∨ false = true) by decide)]
    by_cases e : σ 9 i = σ 9 j
    · rw [if_neg (not_not_intro e), decide_eq_true e, e, decide_eq_true (Int32.le_refl _), Bool.not_true, Bool.false_or, Bool.true_and]
    · rw [if_pos e, decide_eq_false e, Bool.false_and, Bool.or_false]
  · have x2 := of_decide_eq_false b1
    rw [if_pos (Or.inr x2), if_pos (Or.inr rfl), a1, Bool.not_false, Bool.not_true, Bool.false_and, Bool.false_and]
  · have x2 := of_decide_eq_false a1
    rw [if_pos (Or.inl x2), if_pos (Or.inl rfl), a1, b2, Bool.not_true, Bool.not_false, Bool.true_and, Bool.true_or, Bool.true_or, Bool.true_and]
  · have x2 := of_decide_eq_false a1
    rw [if_pos (Or.inl x2), if_pos (Or.inl rfl), a1, b2, (a3 rfl).1, (b3 rfl).1, Bool.not_true, Bool.not_false, Bool.true_and]
theorem ah_stO (hr : RRace σ g z t) (hz : z ≤ 512) (hn : n ≤ 6) : stO (ahB σ 4) n := by
  obtain ⟨G9, ⟨hG1, hG9, h9, -, -⟩, -, hk, hm, -, -⟩ := hr
  refine ahX_stO (f := finB σ 4) (nt := netA σ 4) (rs := rstA σ 4) (mo := σ 9) (fun i j hi hj hne h1 h2 q => ?_)
  have := (RK_f h9 hG9 (hk i (by omega)) hz).2.2 h1
  exact this.2 (hm i j (by omega) (by omega) hne (Int32.toInt_inj.mp q))
theorem rk_eq (hr : RRace σ g z t) (hg : g ≤ 12) (hz : z ≤ 512) (hn : n ≤ 6) {k : Nat} (hk : k < 6) : rkM σ n k = rkA σ n k := by
  unfold rkM rkA
  refine cntA_cong n (fun a ha => ?_)
  rw [ma_ah hr hg hz (by omega) hk]
  by_cases e : a = k
  · subst e
    rw [ahB_irr, Bool.and_false]
  · rw [decide_eq_false e]; rfl
theorem md_eq (hr : RRace σ g z t) (hg : g ≤ 12) (hg1 : 1 ≤ g) {k : Nat} (hk6 : k < 6) : mdA σ k = wayA σ 4 k := by
  obtain ⟨G9, -, hrow, hk, -, hrs, -⟩ := hr
  obtain ⟨⟨r5, r6, r7, r8, r9⟩, -⟩ := hrow k hk6
  have gi := RK_g (hk k hk6) hg
  unfold mdA wayA
  rw [r5, ← gi.2, r6, r7, hrs _ gi.1, hrs 0 (by omega)]
  rfl
theorem mg_eq (hr : RRace σ g z t) (hz : z ≤ 512) {k : Nat} (hk6 : k < 6) : mgB σ k = wrtB σ k := by
  obtain ⟨G9, ⟨hG1, hG9, h9, -, -⟩, hrow, hk, -, -, -⟩ := hr
  obtain ⟨a1, a2, a3⟩ := RK_f h9 hG9 (hk k hk6) hz
  obtain ⟨⟨r5, r6, r7, r8, r9⟩, -⟩ := hrow k hk6
  obtain ⟨lp, db, mo, aw, ga, ⟨h1, h2⟩, ⟨h3, h4⟩, -⟩ := hk k hk6
  unfold mgB wrtB netA
  rw [a1, Bool.not_not, r6, r7]
  congr 2
  show decide (σ 6 k ≤ σ 7 k) = decide (σ 6 k - σ 7 k ≤ 0)
  rw [h1, h3]
  apply decide_eq_decide.mpr
  rw [Int32.le_iff_toInt_le, Int32.le_iff_toInt_le, pk_sub_toInt (by omega) (by omega), nI_toInt (by omega), nI_toInt (by omega), show (0 : Int32).toInt = 0 from by decide]
  omega
end RACE
