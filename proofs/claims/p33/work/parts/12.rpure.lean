/-! a race: its cells B .. B+7 -/
def gN (σ : St) (B k : Nat) : Nat := (σ (B + 1) k).toNatClampNeg
def rOk (σ : St) (B : Nat) : Prop := ∀ k, k < 6 → σ (B + 1) k = nI (gN σ B k) ∧ gN σ B k < 12
def cntA (P : Nat → Bool) : Nat → Nat
  | 0 => 0
  | i + 1 => cntA P i + (if P i = true then 1 else 0)
theorem cntA_le (P : Nat → Bool) : ∀ i, cntA P i ≤ i
  | 0 => Nat.le_refl _
  | i + 1 => by
    have := cntA_le P i
    unfold cntA
    split <;> omega
def clrK (f : Nat → Int32) (v : Int32) (i : Nat) : Nat → Int32 := fun j => if j < i then v else f j
theorem clrK_0 (f : Nat → Int32) (v : Int32) : clrK f v 0 = f := rfl
theorem clrK_s (f : Nat → Int32) (v : Int32) (i : Nat) : upd (clrK f v i) i v = clrK f v (i + 1) := by
  funext j
  unfold upd clrK
  by_cases h : j = i
  · subst h; simp
  · rw [if_neg h]
    by_cases h2 : j < i
    · rw [if_pos h2, if_pos (by omega)]
    · rw [if_neg h2, if_neg (by omega)]
def finB (σ : St) (B k : Nat) : Bool := !decide (σ (B + 2) k < σ B 9)
def netA (σ : St) (B k : Nat) : Int32 := σ (B + 2) k - σ (B + 3) k
def rstA (σ : St) (B k : Nat) : Int32 := σ 3 (gN σ B k)
def misA (σ : St) (B k : Nat) : Int32 := σ 1 3 &&& (σ (B + 4) k ^^^ (-1))
def ahB (σ : St) (B i j : Nat) : Bool :=
  if finB σ B i = true ∨ finB σ B j = true then finB σ B i && (!finB σ B j || !decide (σ (B + 5) j ≤ σ (B + 5) i))
  else if ¬ netA σ B i = netA σ B j then !decide (netA σ B i ≤ netA σ B j)
  else if ¬ rstA σ B i = rstA σ B j then !decide (rstA σ B j ≤ rstA σ B i)
  else if ¬ σ (B + 5) i = σ (B + 5) j then !decide (σ (B + 5) j ≤ σ (B + 5) i)
  else !decide (j ≤ i)
def wayA (σ : St) (B k : Nat) : Int32 := if gN σ B k = 0 then netA σ B k * σ 3 0 else netA σ B k * σ 3 0 + (σ 3 0 - rstA σ B k)
def ldrA (σ : St) (B n k : Nat) : Nat → Int32
  | 0 => 0
  | i + 1 => if cntA (fun a => ahB σ B a i) n = 0 then wayA σ B i - wayA σ B k else ldrA σ B n k i
def bgS (σ : St) (B : Nat) (n laps : Int32) (i : Nat) : St := fun a => if a = B then upd (upd (upd (σ B) 8 n) 9 laps) 10 0 else if B + 1 ≤ a ∧ a ≤ B + 5 then clrK (σ a) 0 i else σ a
theorem bgS_0 (σ : St) (B : Nat) (n laps : Int32) : upA σ B (upd (upd (upd (σ B) 8 n) 9 laps) 10 0) = bgS σ B n laps 0 := by
  funext a
  unfold bgS upA
  by_cases h : a = B
  · rw [if_pos h, if_pos h]
  · rw [if_neg h, if_neg h]
    split <;> rfl
theorem bgS_B (σ : St) (B : Nat) (n laps : Int32) (i : Nat) : bgS σ B n laps i B = upd (upd (upd (σ B) 8 n) 9 laps) 10 0 := if_pos rfl
theorem bgS_k (σ : St) (B : Nat) (n laps : Int32) (i k : Nat) (h1 : 1 ≤ k) (h2 : k ≤ 5) : bgS σ B n laps i (B + k) = clrK (σ (B + k)) 0 i := by
  unfold bgS
  rw [if_neg (by omega), if_pos (by omega)]
theorem bgS_s (σ : St) (B : Nat) (n laps : Int32) (i : Nat) (τ1 τ2 τ3 τ4 τ5 : St) (h1 : τ1 = upA (bgS σ B n laps i) (B + 1) (upd (bgS σ B n laps i (B + 1)) i 0)) (h2 : τ2 = upA τ1 (B + 2) (upd (τ1 (B + 2)) i 0)) (h3 : τ3 = upA τ2 (B + 3) (upd (τ2 (B + 3)) i 0)) (h4 : τ4 = upA τ3 (B + 4) (upd (τ3 (B + 4)) i 0)) (h5 : τ5 = upA τ4 (B + 5) (upd (τ4 (B + 5)) i 0)) : τ5 = bgS σ B n laps (i + 1) := by
  have e2 : τ1 (B + 2) = bgS σ B n laps i (B + 2) := by rw [h1, upA_n (by omega)]
  have e3 : τ2 (B + 3) = bgS σ B n laps i (B + 3) := by rw [h2, upA_n (by omega), h1, upA_n (by omega)]
  have e4 : τ3 (B + 4) = bgS σ B n laps i (B + 4) := by rw [h3, upA_n (by omega), h2, upA_n (by omega), h1, upA_n (by omega)]
  have e5 : τ4 (B + 5) = bgS σ B n laps i (B + 5) := by rw [h4, upA_n (by omega), h3, upA_n (by omega), h2, upA_n (by omega), h1, upA_n (by omega)]
  rw [e2, bgS_k _ _ _ _ _ 2 (by omega) (by omega), clrK_s] at h2
  rw [e3, bgS_k _ _ _ _ _ 3 (by omega) (by omega), clrK_s] at h3
  rw [e4, bgS_k _ _ _ _ _ 4 (by omega) (by omega), clrK_s] at h4
  rw [e5, bgS_k _ _ _ _ _ 5 (by omega) (by omega), clrK_s] at h5
  rw [bgS_k _ _ _ _ _ 1 (by omega) (by omega), clrK_s] at h1
  subst h1 h2 h3 h4 h5
  funext a
  unfold upA
  by_cases c5 : a = B + 5
  · subst c5; rw [if_pos rfl, bgS_k _ _ _ _ _ 5 (by omega) (by omega)]
  rw [if_neg c5]
  by_cases c4 : a = B + 4
  · subst c4; rw [if_pos rfl, bgS_k _ _ _ _ _ 4 (by omega) (by omega)]
  rw [if_neg c4]
  by_cases c3 : a = B + 3
  · subst c3; rw [if_pos rfl, bgS_k _ _ _ _ _ 3 (by omega) (by omega)]
  rw [if_neg c3]
  by_cases c2 : a = B + 2
  · subst c2; rw [if_pos rfl, bgS_k _ _ _ _ _ 2 (by omega) (by omega)]
  rw [if_neg c2]
  by_cases c1 : a = B + 1
  · subst c1; rw [if_pos rfl, bgS_k _ _ _ _ _ 1 (by omega) (by omega)]
  rw [if_neg c1]
  unfold bgS
  by_cases c0 : a = B
  · rw [if_pos c0, if_pos c0]
  · rw [if_neg c0, if_neg c0, if_neg (by omega), if_neg (by omega)]
def bkS (σ : St) (B k f : Nat) : St := if f = 0 then upA σ (B + 3) (upd (σ (B + 3)) k (σ (B + 3) k + 1)) else upA σ (B + 4) (upd (σ (B + 4)) k (σ (B + 4) k &&& (((1 : Int32) <<< (nI f &&& 31)) ^^^ (-1))))
def rgC (σ : St) (B k t : Nat) : Prop := ¬ (σ 1 3 &&& ((1 : Int32) <<< (nI t &&& 31))) = 0 ∧ σ (B + 3) k = 0
noncomputable def rgS (σ : St) (B k t : Nat) : St := @ite _ (rgC σ B k t) (Classical.propDecidable _) (upA σ (B + 4) (upd (σ (B + 4)) k (σ (B + 4) k ||| ((1 : Int32) <<< (nI t &&& 31))))) σ
theorem rgS_t {σ : St} {B k t : Nat} (h1 : ¬ (σ 1 3 &&& ((1 : Int32) <<< (nI t &&& 31))) = 0) (h2 : σ (B + 3) k = 0) : upA σ (B + 4) (upd (σ (B + 4)) k (σ (B + 4) k ||| ((1 : Int32) <<< (nI t &&& 31)))) = rgS σ B k t := (if_pos ⟨h1, h2⟩).symm
theorem rgS_f {σ : St} {B k t : Nat} (h : ¬ rgC σ B k t) : σ = rgS σ B k t := (if_neg h).symm
def crS (σ : St) (B k : Nat) : St :=
  if σ (B + 3) k ≤ 0 then (if misA σ B k = 0 then upA (upA σ (B + 4) (upd (σ (B + 4)) k 0)) (B + 2) (upd (σ (B + 2)) k (σ (B + 2) k + 1)) else upA σ (B + 4) (upd (σ (B + 4)) k 0))
  else upA (upA σ (B + 4) (upd (σ (B + 4)) k 0)) (B + 3) (upd (σ (B + 3)) k (σ (B + 3) k - 1))
def crR (σ : St) (B k : Nat) : Int32 :=
  if σ (B + 3) k ≤ 0 then (if misA σ B k = 0 then (if σ (B + 2) k + 1 < σ B 9 then 1 else 5) else 2) else 4
/-- a passing noted: the moment, the gate -/
def mv0 (σ : St) (B k t : Nat) : St := upA (upA (upA σ B (upd (σ B) 10 (σ B 10 + 1))) (B + 5) (upd (σ (B + 5)) k (σ B 10 + 1))) (B + 1) (upd (σ (B + 1)) k (nI t))
noncomputable def mvS (σ : St) (B k t : Nat) : St :=
  if ldB (σ 2) (gN σ B k) t = true then (if t = 0 then crS (mv0 σ B k t) B k else rgS (mv0 σ B k t) B k t) else bkS (mv0 σ B k t) B k (gN σ B k)
def mvR (σ : St) (B k t : Nat) : Int32 :=
  if ldB (σ 2) (gN σ B k) t = true then (if t = 0 then crR (mv0 σ B k t) B k else 0) else 3
/-- where kart k comes to stand among the k first of ord -/
def insP (ah : Nat → Nat → Bool) (ord : Nat → Int32) (k : Nat) : Nat → Nat
  | 0 => 0
  | p + 1 => if ah k (ord p).toNatClampNeg = true then insP ah ord k p else p + 1
def shfA (ord : Nat → Int32) (k p : Nat) : Nat → Int32 := fun x => if p < x ∧ x ≤ k then ord (x - 1) else ord x
def insA (ah : Nat → Nat → Bool) (ord : Nat → Int32) (k : Nat) : Nat → Int32 := upd (shfA ord k (insP ah ord k k)) (insP ah ord k k) (nI k)
def ordA (ah : Nat → Nat → Bool) (ord : Nat → Int32) : Nat → (Nat → Int32)
  | 0 => ord
  | i + 1 => insA ah (ordA ah ord i) i
def rrA (ord rr : Nat → Int32) : Nat → (Nat → Int32)
  | 0 => rr
  | i + 1 => upd (rrA ord rr i) (ord i).toNatClampNeg (nI i)
theorem shfA_0 (ord : Nat → Int32) (k : Nat) : shfA ord k k = ord := by
  funext x
  unfold shfA
  rw [if_neg (by omega)]
theorem shfA_s (ord : Nat → Int32) (k p : Nat) (h : p + 1 ≤ k) : upd (shfA ord k (p + 1)) (p + 1) (ord p) = shfA ord k p := by
  funext x
  unfold upd shfA
  by_cases e : x = p + 1
  · subst e
    rw [if_pos rfl, if_pos (by omega)]
    rfl
  · rw [if_neg e]
    by_cases e2 : p + 1 < x ∧ x ≤ k
    · rw [if_pos e2, if_pos (by omega)]
    · rw [if_neg e2, if_neg (by omega)]
theorem shfA_lo {ord : Nat → Int32} {k p x : Nat} (h : x ≤ p) : shfA ord k p x = ord x := by
  unfold shfA
  rw [if_neg (by omega)]
theorem ahB_cong {τ σ : St} {B : Nat} (h0 : τ B = σ B) (h1 : τ (B + 1) = σ (B + 1)) (h2 : τ (B + 2) = σ (B + 2)) (h3 : τ (B + 3) = σ (B + 3)) (h5 : τ (B + 5) = σ (B + 5)) (r : τ 3 = σ 3) (i j : Nat) : ahB τ B i j = ahB σ B i j := by
  unfold ahB finB netA rstA gN
  rw [h0, h1, h2, h3, h5, r]
theorem ahB_hi {B k : Nat} (hB : rB B) (h6 : 6 ≤ k) (h7 : k ≤ 7) (σ : St) (f : Nat → Int32) (i j : Nat) : ahB (upA σ (B + k) f) B i j = ahB σ B i j :=
  ahB_cong (upA_n (by omega)) (upA_n (by omega)) (upA_n (by omega)) (upA_n (by omega)) (upA_n (by omega)) (upA_n (by rcases hB with rfl | rfl <;> omega)) i j
theorem ahB_6 {B : Nat} (hB : rB B) (σ : St) (f : Nat → Int32) (i j : Nat) : ahB (upA σ (B + 6) f) B i j = ahB σ B i j := ahB_hi hB (by omega) (by omega) σ f i j
theorem ahB_7 {B : Nat} (hB : rB B) (σ : St) (f : Nat → Int32) (i j : Nat) : ahB (upA σ (B + 7) f) B i j = ahB σ B i j := ahB_hi hB (by omega) (by omega) σ f i j
theorem rOk_6 {B : Nat} {σ : St} (h : rOk σ B) (f : Nat → Int32) : rOk (upA σ (B + 6) f) B := by
  intro k hk
  have h1 : upA σ (B + 6) f (B + 1) = σ (B + 1) := upA_n (by omega)
  unfold gN
  rw [h1]
  exact h k hk
theorem insP_t {ah : Nat → Nat → Bool} {ord : Nat → Int32} {k j : Nat} (h : 0 < j) (h2 : ah k (ord (j - 1)).toNatClampNeg = true) : insP ah ord k j = insP ah ord k (j - 1) := by
  obtain ⟨z, rfl⟩ : ∃ z, j = z + 1 := ⟨j - 1, by omega⟩
  have h3 : ah k (ord z).toNatClampNeg = true := h2
  rw [insP, if_pos h3]
  rfl
theorem insP_f {ah : Nat → Nat → Bool} {ord : Nat → Int32} {k j : Nat} (h : 0 < j) (h2 : ah k (ord (j - 1)).toNatClampNeg = false) : insP ah ord k j = j := by
  obtain ⟨z, rfl⟩ : ∃ z, j = z + 1 := ⟨j - 1, by omega⟩
  have h3 : ah k (ord z).toNatClampNeg = false := h2
  rw [insP, h3]
  rfl
theorem insP_0 {ah : Nat → Nat → Bool} {ord : Nat → Int32} {k j : Nat} (h : j = 0) : insP ah ord k j = j := by subst h; rfl
/-- what stands in the order's first i places is a number below i -/
theorem insA_ok (ah : Nat → Nat → Bool) (ord : Nat → Int32) (k : Nat) (hk : k < 2 ^ 30) (h : ∀ x, x < k → ord x = nI (ord x).toNatClampNeg ∧ (ord x).toNatClampNeg < k) : ∀ x, x < k + 1 → insA ah ord k x = nI (insA ah ord k x).toNatClampNeg ∧ (insA ah ord k x).toNatClampNeg < k + 1 := by
  intro x hx
  have hP : insP ah ord k k ≤ k := by
    have : ∀ j, insP ah ord k j ≤ j := by
      intro j
      induction j with
      | zero => exact Nat.le_refl _
      | succ j ih => rw [insP]; split <;> omega
    exact this k
  unfold insA
  generalize insP ah ord k k = P at hP ⊢
  unfold upd
  by_cases e : x = P
  · rw [if_pos e, nI_clamp (by omega)]
    exact ⟨rfl, by omega⟩
  · rw [if_neg e]
    unfold shfA
    split
    · rename_i q
      have h1 := h (x - 1) (by omega)
      exact ⟨h1.1, by omega⟩
    · have h1 := h x (by omega)
      exact ⟨h1.1, by omega⟩
theorem ordA_ok (ah : Nat → Nat → Bool) (ord : Nat → Int32) (n : Nat) (hn : n ≤ 6) : ∀ i, i ≤ n → ∀ x, x < i → ordA ah ord i x = nI (ordA ah ord i x).toNatClampNeg ∧ (ordA ah ord i x).toNatClampNeg < i := by
  intro i
  induction i with
  | zero => intro _ x hx; omega
  | succ i ih => intro hi; exact insA_ok ah (ordA ah ord i) i (by omega) (ih (by omega))
