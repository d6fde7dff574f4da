abbrev xISE : String := "java/lang/IllegalStateException"
abbrev xIAE : String := "java/lang/IllegalArgumentException"
abbrev xIOB : String := "java/lang/IndexOutOfBoundsException"
def ix (x : Int32) : Nat := x.toNatClampNeg
def inB (x : Int32) (n : Nat) : Bool := !decide (x < 0) && decide (x < nI n)
def inR (x a b : Int32) : Bool := !decide (x < a) && decide (x ≤ b)
theorem inB_ix {x : Int32} {n : Nat} (hn : n < 2 ^ 31) (h : inB x n = true) : x = nI (ix x) ∧ ix x < n := by
  unfold inB at h
  simp only [Bool.and_eq_true, Bool.not_eq_true', decide_eq_false_iff_not, decide_eq_true_eq] at h
  rcases pk_ix x hn with q | q | ⟨j, hj, rfl⟩
  · exact absurd q h.1
  · exact absurd h.2 (Int32.not_lt.mpr q)
  · unfold ix
    rw [nI_clamp (by omega)]
    exact ⟨rfl, hj⟩
theorem inB_t {x : Int32} {n : Nat} (h1 : ¬ x < 0) (h2 : x < nI n) : inB x n = true := by simp [inB, h1, h2]
theorem inB_f1 {x : Int32} {n : Nat} (h1 : x < 0) : inB x n = false := by simp [inB, h1]
theorem inB_f2 {x : Int32} {n : Nat} (h2 : ¬ x < nI n) : inB x n = false := by simp [inB, h2]
theorem inR_t {x a b : Int32} (h1 : ¬ x < a) (h2 : x ≤ b) : inR x a b = true := by simp [inR, h1, h2]
theorem inR_f1 {x a b : Int32} (h1 : x < a) : inR x a b = false := by simp [inR, h1]
theorem inR_f2 {x a b : Int32} (h2 : ¬ x ≤ b) : inR x a b = false := by simp [inR, h2]
def nev (b : Bool) (e : Nat) : Bool := !b && decide (e = 0)
/-- what holds of the numbers between the calls: gates, karts, whether a race is on, ended races, passings -/
def CIv (σ : St) (g n : Nat) (b : Bool) (e z : Nat) : Prop :=
  (σ 1 2 = nI g ∧ 1 ≤ g ∧ g ≤ 12) ∧ (σ 0 7 = nI n ∧ n ≤ 6) ∧ σ 0 8 = bI b ∧ (σ 27 2 = nI e ∧ e ≤ 8) ∧ (σ 20 2 = nI z ∧ z ≤ 512) ∧ rOk σ 4 ∧ (b = true → σ 4 8 = nI n ∧ e < 8) ∧ ∀ i, i < z → (σ 21 i = nI (ix (σ 21 i)) ∧ ix (σ 21 i) < 6) ∧ σ 22 i = nI (ix (σ 22 i)) ∧ ix (σ 22 i) < 12
theorem ahB_irr (σ : St) (B k : Nat) : ahB σ B k k = false := by
  unfold ahB
  cases finB σ B k <;> simp
theorem cntA_lt {P : Nat → Bool} {n k : Nat} (hk : k < n) (h : P k = false) : cntA P n < n := by
  induction n with
  | zero => omega
  | succ n ih =>
    rw [cntA]
    by_cases e : k = n
    · subst e
      rw [if_neg (by rw [h]; decide)]
      have := cntA_le P k
      omega
    · have := ih (by omega)
      split <;> omega
/-- the rank -/
def rkA (σ : St) (n k : Nat) : Nat := cntA (fun a => ahB σ 4 a k) n
theorem rkA_lt {σ : St} {n k : Nat} (hk : k < n) : rkA σ n k < n := cntA_lt hk (ahB_irr σ 4 k)
def stuA (σ : St) (k : Nat) : Int32 := if σ 26 k - σ 0 9 < 0 then 0 else σ 26 k - σ 0 9
def wayB (σ : St) (f t : Nat) : Bool := ldB (σ 2) f t || ldB (σ 2) t f
def rgtB (x y w : Int32) : Bool := (decide (ix x < ix y) || (decide (ix y = 0) && decide (0 < ix x))) && inR w 1 100
def wySt (σ : St) (g f t : Nat) (w : Int32) : St := upA (upA σ 2 (upd (σ 2) (f * 12 + t) w)) 3 (mrA (upd (σ 2) (f * 12 + t) w) (σ 3) g g)
def ktSt (σ : St) (n : Nat) (x : Int32) : St := upA (upA σ 30 (upd (σ 30) n x)) 0 (upd (σ 0) 7 (nI (n + 1)))
def srS0 (σ : St) (n : Nat) (laps : Int32) : St := upA (bgS σ 4 (nI n) laps 6) 20 (upd (bgS σ 4 (nI n) laps 6 20) 2 0)
def srSt (σ : St) (n : Nat) (laps : Int32) : St := upA (clS (srS0 σ n laps) 6) 0 (upd (clS (srS0 σ n laps) 6 0) 8 1)
def noSt (σ : St) (z k t : Nat) : St := upA (upA (upA σ 21 (upd (σ 21) z (nI k))) 22 (upd (σ 22) z (nI t))) 20 (upd (σ 20) 2 (nI (z + 1)))
def canP (σ : St) (b : Bool) (z k t : Nat) : Bool := b && !finB σ 4 k && decide (stuA σ k ≤ 0) && wayB σ (gN σ 4 k) t && decide (z < 512)
/-- hits: of the karts whose ranks lie between -/
def hitB (σ : St) (n : Nat) (f : Int32) (w i : Nat) : Bool := !decide (nI (rkA σ n i) < f) && decide (rkA σ n i < w) && !finB σ 4 i
def htL (σ : St) (n : Nat) (f : Int32) (w : Nat) (u : Int32) : Nat → St
  | 0 => σ
  | i + 1 => if hitB σ n f w i = true then htS (htL σ n f w u i) i u else htL σ n f w u i
def htN (σ : St) (n : Nat) (f : Int32) (w : Nat) (u : Int32) : Nat → Nat
  | 0 => 0
  | i + 1 => if hitB σ n f w i = true ∧ htL σ n f w u i 25 i = 0 then htN σ n f w u i + 1 else htN σ n f w u i
theorem htS_o {σ : St} {k c : Nat} {u : Int32} (h : c ≠ 25) (h2 : c ≠ 26) : htS σ k u c = σ c := by
  unfold htS
  split
  · exact upA_n h2
  · exact upA_n h
theorem htL_o {σ : St} {n : Nat} {f : Int32} {w : Nat} {u : Int32} {c : Nat} (h : c ≠ 25) (h2 : c ≠ 26) : ∀ i, htL σ n f w u i c = σ c
  | 0 => rfl
  | i + 1 => by
    rw [htL]
    split
    · rw [htS_o h h2]; exact htL_o h h2 i
    · exact htL_o h h2 i
theorem htN_le {σ : St} {n : Nat} {f : Int32} {w : Nat} {u : Int32} : ∀ i, htN σ n f w u i ≤ i
  | 0 => Nat.le_refl _
  | i + 1 => by
    have := htN_le (σ := σ) (n := n) (f := f) (w := w) (u := u) i
    rw [htN]
    split <;> omega
/-- ends: the results noted -/
def wrtB (σ : St) (k : Nat) : Bool := finB σ 4 k || !decide (netA σ 4 k ≤ 0)
def enS (σ : St) (n e : Nat) : Nat → St
  | 0 => σ
  | i + 1 => upA (upA (enS σ n e i) 28 (upd (enS σ n e i 28) (e * 6 + i) (nI (rkA σ n i)))) 29 (upd (enS σ n e i 29) (e * 6 + i) (if wrtB σ i = true then tPts (rkA σ n i) else 0))
def wnA (σ : St) (n : Nat) : Nat → Nat
  | 0 => 0
  | i + 1 => if rkA σ n i = 0 then i else wnA σ n i
theorem enS_o {σ : St} {n e c : Nat} (h : c ≠ 28) (h2 : c ≠ 29) : ∀ i, enS σ n e i c = σ c
  | 0 => rfl
  | i + 1 => by rw [enS, upA_n h2, upA_n h]; exact enS_o h h2 i
theorem wnA_lt {σ : St} {n m : Nat} : ∀ i, i ≤ m → 0 < m → wnA σ n i < m
  | 0, _, h => h
  | i + 1, h1, h => by
    rw [wnA]
    split
    · omega
    · exact wnA_lt i (by omega) h
def enSt (σ : St) (n e : Nat) : St := upA (upA (enS σ n e n) 27 (upd (σ 27) 2 (nI (e + 1)))) 0 (upd (σ 0) 8 0)
def tpA (σ : St) (x : Int32) (e : Nat) : Nat → Int32
  | 0 => 0
  | i + 1 => if σ 30 i = x then tpA σ x e i + sumA (σ 29) (σ 27 3) i e e else tpA σ x e i
theorem ahB_of {τ σ : St} (h : ∀ c, c ≠ 25 → c ≠ 26 → c ≠ 28 → c ≠ 29 → τ c = σ c) (i j : Nat) : ahB τ 4 i j = ahB σ 4 i j :=
  ahB_cong (h 4 (by decide) (by decide) (by decide) (by decide)) (h 5 (by decide) (by decide) (by decide) (by decide)) (h 6 (by decide) (by decide) (by decide) (by decide)) (h 7 (by decide) (by decide) (by decide) (by decide)) (h 9 (by decide) (by decide) (by decide) (by decide)) (h 3 (by decide) (by decide) (by decide) (by decide)) i j
theorem rOk_of {τ σ : St} {B : Nat} (h : τ (B + 1) = σ (B + 1)) (hr : rOk σ B) : rOk τ B := by
  intro k hk
  have h1 := hr k hk
  unfold gN at h1 ⊢
  rw [h]
  exact h1
/-- the record told again -/
noncomputable def rbS (σ : St) : Nat → St
  | 0 => bgS σ 12 (σ 0 7) (σ 4 9) 6
  | i + 1 => mvS (rbS σ i) 12 (ix (σ 21 i)) (ix (σ 22 i))
theorem mv0_o {σ : St} {B k t c : Nat} (h : c < B ∨ B + 5 < c) : mv0 σ B k t c = σ c := by
  unfold mv0
  rw [upA_n (by omega), upA_n (by omega), upA_n (by omega)]
theorem mvS_o {σ : St} {B k t c : Nat} (h : c < B ∨ B + 5 < c) : mvS σ B k t c = σ c := by
  unfold mvS
  split
  · split
    · unfold crS
      split
      · split
        · rw [upA_n (by omega), upA_n (by omega), mv0_o h]
        · rw [upA_n (by omega), mv0_o h]
      · rw [upA_n (by omega), upA_n (by omega), mv0_o h]
    · unfold rgS
      split
      · rw [upA_n (by omega), mv0_o h]
      · exact mv0_o h
  · unfold bkS
    split
    · rw [upA_n (by omega), mv0_o h]
    · rw [upA_n (by omega), mv0_o h]
theorem mvS_g {σ : St} {B k t : Nat} : mvS σ B k t (B + 1) = upd (σ (B + 1)) k (nI t) := by
  have h0 : mv0 σ B k t (B + 1) = upd (σ (B + 1)) k (nI t) := by unfold mv0; exact upA_s _ _ _
  unfold mvS
  split
  · split
    · unfold crS
      split
      · split
        · rw [upA_n (by omega), upA_n (by omega), h0]
        · rw [upA_n (by omega), h0]
      · rw [upA_n (by omega), upA_n (by omega), h0]
    · unfold rgS
      split
      · rw [upA_n (by omega), h0]
      · exact h0
  · unfold bkS
    split
    · rw [upA_n (by omega), h0]
    · rw [upA_n (by omega), h0]
theorem rOk_mv {σ : St} {B k t : Nat} (hr : rOk σ B) (ht : t < 12) : rOk (mvS σ B k t) B := by
  intro j hj
  have h1 := hr j hj
  unfold gN at h1 ⊢
  rw [mvS_g]
  unfold upd
  split
  · rw [nI_clamp (by omega)]; exact ⟨rfl, ht⟩
  · exact h1
theorem rOk_bg {σ : St} {B : Nat} {n laps : Int32} : rOk (bgS σ B n laps 6) B := by
  intro j hj
  unfold gN
  rw [bgS_k _ _ _ _ _ 1 (by omega) (by omega)]
  unfold clrK
  rw [if_pos hj]
  exact ⟨rfl, by decide⟩
theorem bgS_o {σ : St} {B c i : Nat} {n laps : Int32} (h : c < B ∨ B + 5 < c) : bgS σ B n laps i c = σ c := by
  unfold bgS
  rw [if_neg (by omega), if_neg (by omega)]
theorem rbS_o {σ : St} {c : Nat} (h : c < 12 ∨ 17 < c) : ∀ i, rbS σ i c = σ c
  | 0 => bgS_o (by omega)
  | i + 1 => by rw [rbS, mvS_o (by omega)]; exact rbS_o h i
theorem rOk_rb {σ : St} : ∀ i, (∀ j, j < i → ix (σ 22 j) < 12) → rOk (rbS σ i) 12
  | 0, _ => rOk_bg
  | i + 1, h => rOk_mv (rOk_rb i (fun j hj => h j (by omega))) (h i (by omega))
theorem rbS_B {σ : St} : ∀ i, rbS σ i 12 8 = σ 0 7
  | 0 => by
    show bgS σ 12 (σ 0 7) (σ 4 9) 6 12 8 = _
    rw [bgS_B]
    rfl
  | i + 1 => by
    have h0 : ∀ k t, mvS (rbS σ i) 12 k t 12 8 = rbS σ i 12 8 := by
      intro k t
      have h1 : mv0 (rbS σ i) 12 k t 12 8 = rbS σ i 12 8 := by
        unfold mv0
        rw [upA_n (by decide), upA_n (by decide), upA_s]
        rfl
      unfold mvS
      split
      · split
        · unfold crS
          split
          · split
            · rw [upA_n (by decide), upA_n (by decide), h1]
            · rw [upA_n (by decide), h1]
          · rw [upA_n (by decide), upA_n (by decide), h1]
        · unfold rgS
          split
          · rw [upA_n (by decide), h1]
          · exact h1
      · unfold bkS
        split
        · rw [upA_n (by decide), h1]
        · rw [upA_n (by decide), h1]
    rw [rbS, h0]
    exact rbS_B i
/-- the item taken -/
def tkS (σ : St) (k : Nat) : St := upA σ 24 (upd (σ 24) k (-1))
theorem ahB_24 (σ : St) (f : Nat → Int32) (i j : Nat) : ahB (upA σ 24 f) 4 i j = ahB σ 4 i j :=
  ahB_cong (upA_n (by decide)) (upA_n (by decide)) (upA_n (by decide)) (upA_n (by decide)) (upA_n (by decide)) (upA_n (by decide)) i j
theorem CIv_24 {σ : St} {g n : Nat} {b : Bool} {e z : Nat} (h : CIv σ g n b e z) (f : Nat → Int32) : CIv (upA σ 24 f) g n b e z := by
  obtain ⟨h1, h2, h3, h4, h5, h6, h7, h8⟩ := h
  refine ⟨?_, ?_, ?_, ?_, ?_, rOk_of (upA_n (by decide)) h6, ?_, ?_⟩
  · rw [upA_n (by decide)]; exact h1
  · rw [upA_n (by decide)]; exact h2
  · rw [upA_n (by decide)]; exact h3
  · rw [upA_n (by decide)]; exact h4
  · rw [upA_n (by decide)]; exact h5
  · rw [upA_n (by decide)]; exact h7
  · rw [upA_n (by decide), upA_n (by decide)]; exact h8
theorem tbl3 {x : Int32} (h0 : ¬ x = 0) (h1 : ¬ x = 1) (h2 : ¬ x = 2) : x.toInt < 0 ∨ 2 < x.toInt := by
  have e0 : x.toInt ≠ 0 := fun h => h0 (Int32.toInt_inj.mp h)
  have e1 : x.toInt ≠ 1 := fun h => h1 (Int32.toInt_inj.mp h)
  have e2 : x.toInt ≠ 2 := fun h => h2 (Int32.toInt_inj.mp h)
  omega
def inT (x : Int32) (n : Nat) : Bool := !decide (x < 0) && decide (x < nI (2 * n) - nI 1)
theorem inT_t {x : Int32} {n : Nat} (h1 : ¬ x < 0) (h2 : x < nI (2 * n) - nI 1) : inT x n = true := by simp [inT, h1, h2]
theorem inT_f1 {x : Int32} {n : Nat} (h1 : x < 0) : inT x n = false := by simp [inT, h1]
theorem inT_f2 {x : Int32} {n : Nat} (h2 : ¬ x < nI (2 * n) - nI 1) : inT x n = false := by simp [inT, h2]
theorem inT_ix {x : Int32} {n : Nat} (hn : n ≤ 6) (h : inT x n = true) : x = nI (ix x) ∧ ix x < 2 * n - 1 := by
  unfold inT at h
  simp only [Bool.and_eq_true, Bool.not_eq_true', decide_eq_false_iff_not, decide_eq_true_eq] at h
  rcases Nat.eq_zero_or_pos n with e | e
  · subst e
    exfalso
    have h1 := h.1
    have h2 : x < nI 0 - nI 1 := h.2
    rw [Int32.lt_iff_toInt_lt] at h1 h2
    have e1 : (nI 0 - nI 1).toInt = -1 := by decide
    have e2 : (0 : Int32).toInt = 0 := by decide
    omega
  · rw [pk_sub (by omega)] at h
    exact inB_ix (by omega) (inB_t h.1 h.2)
section HIT
variable {σ : St} {n : Nat} {f : Int32} {w : Nat} {u : Int32} {i : Nat}
theorem hitB_t (h1 : ¬ nI (rkA σ n i) < f) (h2 : ¬ w ≤ rkA σ n i) (h3 : finB σ 4 i = false) : hitB σ n f w i = true := by
  unfold hitB
  rw [decide_eq_false h1, decide_eq_true (Nat.lt_of_not_le h2), h3]
  rfl
theorem hitB_f1 (h1 : nI (rkA σ n i) < f) : hitB σ n f w i = false := by
  unfold hitB
  rw [decide_eq_true h1]
  rfl
theorem hitB_f2 (h2 : w ≤ rkA σ n i) : hitB σ n f w i = false := by
  unfold hitB
  rw [decide_eq_false (Nat.not_lt.mpr h2), Bool.and_false]
  rfl
theorem hitB_f3 (h3 : finB σ 4 i = true) : hitB σ n f w i = false := by
  unfold hitB
  rw [h3]
  exact Bool.and_false _
theorem htL_t (h : hitB σ n f w i = true) : htL σ n f w u (i + 1) = htS (htL σ n f w u i) i u := by rw [htL, if_pos h]
theorem htL_f (h : hitB σ n f w i = false) : htL σ n f w u (i + 1) = htL σ n f w u i := by rw [htL, if_neg (by rw [h]; decide)]
theorem htN_t (h : hitB σ n f w i = true) (h2 : htL σ n f w u i 25 i = 0) : htN σ n f w u (i + 1) = htN σ n f w u i + 1 := by rw [htN, if_pos ⟨h, h2⟩]
theorem htN_f (h : hitB σ n f w i = false) : htN σ n f w u (i + 1) = htN σ n f w u i := by rw [htN, if_neg (fun q => absurd (q.1.symm.trans h) (by decide))]
theorem htN_2 (h : ¬ htL σ n f w u i 25 i = 0) : htN σ n f w u (i + 1) = htN σ n f w u i := by rw [htN, if_neg (fun q => h q.2)]
end HIT
