/-! the model: its object is cell 31, its rows 32 .. 45 -/
def thr (σ : St) (w : Nat) : St := upA σ 31 (upd (σ 31) 25 (nI w))
theorem thr_o {σ : St} {w c : Nat} (h : c ≠ 31) : thr σ w c = σ c := upA_n h
theorem inR_inB {x : Int32} {n : Nat} (hn : n < 2 ^ 30) : inR x 0 (nI n - 1) = inB x n := by
  have h1 : (x ≤ nI n - 1) ↔ x < nI n := by
    rw [Int32.le_iff_toInt_le, Int32.lt_iff_toInt_lt, show (nI n - 1).toInt = (n : Int) - 1 from pk_sub_toInt (b := 1) hn (by decide), nI_toInt (by omega)]
    omega
  unfold inR inB
  rw [decide_eq_decide.mpr h1]
def mgOk (σ : St) : Prop := ∀ k, k < 6 → σ 35 k = nI (ix (σ 35 k)) ∧ ix (σ 35 k) < 12
def MIv (σ : St) (g n sd : Nat) (b : Bool) (e z : Nat) : Prop :=
  (σ 31 0 = nI g ∧ 1 ≤ g ∧ g ≤ 12) ∧ (σ 31 4 = nI n ∧ n ≤ 6) ∧ (σ 31 6 = nI sd ∧ sd ≤ 8) ∧ (σ 31 7 = nI e ∧ e ≤ 8) ∧ σ 31 8 = bI b ∧ (σ 31 11 = nI z ∧ z ≤ 512) ∧ mgOk σ ∧ (b = true → e < 8)
theorem MIv_thr {σ : St} {g n sd : Nat} {b : Bool} {e z : Nat} (w : Nat) (h : MIv σ g n sd b e z) : MIv (thr σ w) g n sd b e z := h
/-- what way j out of k gives; -1: nothing -/
def itsA (len rst : Nat → Int32) (k j : Nat) : Int32 := if len (k * 12 + j) = 0 ∨ (0 < j ∧ rst j = -1) then -1 else if 0 < j then len (k * 12 + j) + rst j else len (k * 12 + j)
/-- the least over the gates 0 .. j-1, as the model finds it -/
def frA (len rst : Nat → Int32) (k : Nat) : Nat → Int32
  | 0 => -1
  | j + 1 => if itsA len rst k j = -1 then frA len rst k j else if frA len rst k j = -1 ∨ itsA len rst k j < frA len rst k j then itsA len rst k j else frA len rst k j
def moA (len rst : Nat → Int32) (g : Nat) : Nat → (Nat → Int32)
  | 0 => rst
  | k + 1 => upd (moA len rst g k) (g - 1 - k) (frA len (moA len rst g k) (g - 1 - k) g)
def isA (rst : Nat → Int32) : Nat → Bool
  | 0 => true
  | i + 1 => isA rst i && !decide (rst i = -1)
/-- a race begun: the rows cleared up to i -/
def mbS (σ : St) (i : Nat) : St := fun a => if 35 ≤ a ∧ a ≤ 43 then clrK (σ a) (if a = 41 then -1 else 0) i else σ a
theorem mbS_0 (σ : St) : mbS σ 0 = σ := by
  funext a
  unfold mbS
  split
  · rfl
  · rfl
theorem mbS_k (σ : St) (i c : Nat) (h1 : 35 ≤ c) (h2 : c ≤ 43) : mbS σ i c = clrK (σ c) (if c = 41 then -1 else 0) i := if_pos ⟨h1, h2⟩
theorem mbS_o {σ : St} {i c : Nat} (h : c < 35 ∨ 43 < c) : mbS σ i c = σ c := if_neg (by omega)
/-- rows written one after the other at the place i -/
def wrS (σ : St) (i : Nat) : Nat → St
  | 0 => σ
  | j + 1 => upA (wrS σ i j) (35 + j) (upd (wrS σ i j (35 + j)) i (if 35 + j = 41 then -1 else 0))
theorem wrS_at (σ : St) (i : Nat) : ∀ j, j ≤ 9 → ∀ c, wrS (mbS σ i) i j c = if 35 ≤ c ∧ c < 35 + j then clrK (σ c) (if c = 41 then -1 else 0) (i + 1) else mbS σ i c
  | 0, _, c => by rw [wrS, if_neg (by omega)]
  | j + 1, h9, c => by
    rw [wrS]
    by_cases h : c = 35 + j
    · subst h
      rw [upA_s, wrS_at σ i j (by omega), if_neg (show ¬ (35 ≤ 35 + j ∧ 35 + j < 35 + j) by omega), if_pos (show 35 ≤ 35 + j ∧ 35 + j < 35 + (j + 1) by omega), mbS_k _ _ _ (by omega) (by omega), clrK_s]
    · rw [upA_n h, wrS_at σ i j (by omega)]
      by_cases h2 : 35 ≤ c ∧ c < 35 + j
      · rw [if_pos h2, if_pos (show 35 ≤ c ∧ c < 35 + (j + 1) by omega)]
      · rw [if_neg h2, if_neg (show ¬ (35 ≤ c ∧ c < 35 + (j + 1)) by omega)]
theorem mbS_s (σ : St) (i : Nat) : wrS (mbS σ i) i 9 = mbS σ (i + 1) := by
  funext c
  rw [wrS_at σ i 9 (by omega)]
  by_cases h : 35 ≤ c ∧ c < 44
  · rw [if_pos (show 35 ≤ c ∧ c < 35 + 9 by omega), mbS_k _ _ _ h.1 (by omega)]
  · rw [if_neg (show ¬ (35 ≤ c ∧ c < 35 + 9) by omega), mbS_o (by omega), mbS_o (by omega)]
/-- the race's start: the object's fields, then the rows -/
def msS0 (σ : St) (sd : Nat) (laps : Int32) : St := upA σ 31 (upd (upd (upd (upd (σ 31) 9 laps) 8 1) 6 (nI (sd + 1))) 11 0)
/-- after the track was looked at -/
def mtS (σ : St) (g n sd : Nat) (b : Bool) : St := if (!b && decide (sd < 8) && decide (0 < n)) = true then upA σ 33 (moA (σ 32) (σ 33) g g) else σ
def trkB (σ : St) (g : Nat) : Bool := isA (moA (σ 32) (σ 33) g g) g
def mgS (σ : St) (b9 : Bool) (g : Nat) : St := upA σ 31 (upd (upd (σ 31) 1 (σ 31 1 ||| (if b9 = true then (1 : Int32) <<< (nI g &&& 31) else 0))) 0 (nI (g + 1)))
def fulB (σ : St) (k : Nat) : Bool := decide ((σ 38 k &&& σ 31 1) = σ 31 1)
def mcS (σ : St) (k : Nat) : St :=
  if σ 37 k ≤ 0 then (if fulB σ k = true then (if σ 36 k + 1 = σ 31 9 then upA (upA (upA σ 38 (upd (σ 38) k 0)) 36 (upd (σ 36) k (σ 36 k + 1))) 40 (upd (σ 40) k (σ 31 11)) else upA (upA σ 38 (upd (σ 38) k 0)) 36 (upd (σ 36) k (σ 36 k + 1))) else upA σ 38 (upd (σ 38) k 0))
  else upA (upA σ 38 (upd (σ 38) k 0)) 37 (upd (σ 37) k (σ 37 k - 1))
def mcR (σ : St) (k : Nat) : Int32 :=
  if σ 37 k ≤ 0 then (if fulB σ k = true then (if σ 36 k + 1 = σ 31 9 then 5 else 1) else 2) else 4
def mp0 (σ : St) (z k t : Nat) : St := upA (upA (upA σ 31 (upd (σ 31) 11 (nI (z + 1)))) 39 (upd (σ 39) k (nI (z + 1)))) 35 (upd (σ 35) k (nI t))
def mbk (σ : St) (k f : Nat) : St := upA (upA σ 37 (upd (σ 37) k (σ 37 k + (if f = 0 then 1 else 0)))) 38 (upd (σ 38) k (σ 38 k &&& (((1 : Int32) <<< (nI f &&& 31)) ^^^ (-1))))
def nedB (σ : St) (t : Nat) : Bool := decide (((σ 31 1 >>> (nI t &&& 31)) &&& 1) = 1)
def mrg (σ : St) (k t : Nat) : St := upA σ 38 (upd (σ 38) k (σ 38 k ||| (if σ 37 k = 0 ∧ nedB σ t = true then (1 : Int32) <<< (nI t &&& 31) else 0)))
def mpS (σ : St) (z k t : Nat) : St :=
  if ldB (σ 32) (ix (σ 35 k)) t = true then (if t = 0 then mcS (mp0 σ z k t) k else mrg (mp0 σ z k t) k t) else mbk (mp0 σ z k t) k (ix (σ 35 k))
def mpR (σ : St) (z k t : Nat) : Int32 :=
  if ldB (σ 32) (ix (σ 35 k)) t = true then (if t = 0 then mcR (mp0 σ z k t) k else 0) else 3
def mcan (σ : St) (b : Bool) (k t : Nat) : Bool := b && decide (σ 40 k = 0) && decide (σ 43 k ≤ σ 31 10) && (ldB (σ 32) (ix (σ 35 k)) t || ldB (σ 32) t (ix (σ 35 k)))
def maB (σ : St) (i j : Nat) : Bool :=
  if ¬ σ 40 i ≤ 0 ∨ ¬ σ 40 j ≤ 0 then !decide (σ 40 i ≤ 0) && (decide (σ 40 j = 0) || !decide (σ 40 j ≤ σ 40 i))
  else if ¬ σ 36 i - σ 37 i = σ 36 j - σ 37 j then !decide (σ 36 i - σ 37 i ≤ σ 36 j - σ 37 j)
  else if ¬ σ 33 (ix (σ 35 i)) = σ 33 (ix (σ 35 j)) then !decide (σ 33 (ix (σ 35 j)) ≤ σ 33 (ix (σ 35 i)))
  else !decide (σ 39 j ≤ σ 39 i) || (decide (σ 39 i = σ 39 j) && !decide (j ≤ i))
def rkM (σ : St) (n k : Nat) : Nat := cntA (fun a => !decide (a = k) && maB σ a k) n
theorem rkM_lt {σ : St} {n k : Nat} (hk : k < n) : rkM σ n k < n := cntA_lt hk (by simp)
def mdA (σ : St) (k : Nat) : Int32 := if ix (σ 35 k) = 0 then (σ 36 k - σ 37 k) * σ 33 0 else (σ 36 k - σ 37 k) * σ 33 0 + (σ 33 0 - σ 33 (ix (σ 35 k)))
def mkA (σ : St) (n q : Nat) : Nat → Int32
  | 0 => -1
  | i + 1 => if rkM σ n i = q then nI i else mkA σ n q i
def mcu (x : Int32) : Int32 := if 0 ≤ x then (if x / 10 ≤ 25 then x / 10 else 25) else 0
theorem drem (x : Int32) : (x.toUInt32 >>> (Int32.toUInt32 16 &&& Int32.toUInt32 31)).toInt32 - (x.toUInt32 >>> (Int32.toUInt32 16 &&& Int32.toUInt32 31)).toInt32 / 4 * 4 = nI (dD x) := by
  have h1 := pk_ushr x 16 16 (by decide)
  unfold dD
  generalize (x.toUInt32 >>> (Int32.toUInt32 16 &&& Int32.toUInt32 31)).toInt32 = X at h1 ⊢
  have h2 : x.toBitVec.toNat < 2 ^ 32 := x.toBitVec.isLt
  have hX : X.toBitVec.toNat < 2 ^ 16 := by rw [h1]; omega
  have hX2 : X = nI X.toBitVec.toNat := by
    apply Int32.toBitVec_inj.mp
    apply BitVec.eq_of_toNat_eq
    rw [pk_tn (by omega)]
  generalize X.toBitVec.toNat = k at hX hX2 ⊢
  subst hX2
  exact pk_rem (d := 4) (by omega) (by decide) (by decide)
def mhS (σ : St) (k : Nat) (u : Int32) : St := if ¬ σ 40 k ≤ 0 then σ else if σ 42 k = 0 then upA σ 43 (upd (σ 43) k (if σ 43 k ≤ σ 31 10 + u then σ 31 10 + u else σ 43 k)) else upA σ 42 (upd (σ 42) k 0)
def mhR (σ : St) (k : Nat) : Nat := if ¬ σ 40 k ≤ 0 then 0 else if σ 42 k = 0 then 1 else 0
theorem mhS_o {σ : St} {k c : Nat} {u : Int32} (h : c ≠ 42) (h2 : c ≠ 43) : mhS σ k u c = σ c := by
  unfold mhS
  split
  · rfl
  · split
    · exact upA_n h2
    · exact upA_n h
/-- which karts are hit: its = 1 the one whose rank is 1 less, else all with a lesser rank -/
def muB (σ : St) (n : Nat) (its : Int32) (w i : Nat) : Bool := if its = 1 then decide (nI (rkM σ n i) = nI w - 1) else decide (rkM σ n i < w)
def muU (its : Int32) : Int32 := if its = 1 then 5 else 2
def muL (σ : St) (n : Nat) (its : Int32) (w : Nat) : Nat → St
  | 0 => σ
  | i + 1 => if muB σ n its w i = true then mhS (muL σ n its w i) i (muU its) else muL σ n its w i
def muN (σ : St) (n : Nat) (its : Int32) (w : Nat) : Nat → Nat
  | 0 => 0
  | i + 1 => if muB σ n its w i = true then muN σ n its w i + mhR (muL σ n its w i) i else muN σ n its w i
theorem muL_o {σ : St} {n : Nat} {its : Int32} {w c : Nat} (h : c ≠ 42) (h2 : c ≠ 43) : ∀ i, muL σ n its w i c = σ c
  | 0 => rfl
  | i + 1 => by
    rw [muL]
    split
    · rw [mhS_o h h2]; exact muL_o h h2 i
    · exact muL_o h h2 i
theorem mhR_le {σ : St} {k : Nat} : mhR σ k ≤ 1 := by
  unfold mhR
  split
  · omega
  · split <;> omega
theorem muN_le {σ : St} {n : Nat} {its : Int32} {w : Nat} : ∀ i, muN σ n its w i ≤ i
  | 0 => Nat.le_refl _
  | i + 1 => by
    have h1 := muN_le (σ := σ) (n := n) (its := its) (w := w) i
    have h2 := mhR_le (σ := muL σ n its w i) (k := i)
    rw [muN]
    split <;> omega
theorem maB_cong {τ σ : St} (h3 : τ 33 = σ 33) (h5 : τ 35 = σ 35) (h6 : τ 36 = σ 36) (h7 : τ 37 = σ 37) (h9 : τ 39 = σ 39) (h0 : τ 40 = σ 40) (i j : Nat) : maB τ i j = maB σ i j := by
  unfold maB
  rw [h3, h5, h6, h7, h9, h0]
theorem rkM_cong {τ σ : St} (h3 : τ 33 = σ 33) (h5 : τ 35 = σ 35) (h6 : τ 36 = σ 36) (h7 : τ 37 = σ 37) (h9 : τ 39 = σ 39) (h0 : τ 40 = σ 40) (n k : Nat) : rkM τ n k = rkM σ n k := by
  unfold rkM
  rw [show (fun a => !decide (a = k) && maB τ a k) = (fun a => !decide (a = k) && maB σ a k) from funext fun a => by rw [maB_cong h3 h5 h6 h7 h9 h0]]
def mgB (σ : St) (k : Nat) : Bool := !decide (σ 40 k ≤ 0) || !decide (σ 36 k ≤ σ 37 k)
def meS (σ : St) (n e : Nat) : Nat → St
  | 0 => σ
  | i + 1 => upA (upA (meS σ n e i) 44 (upd (meS σ n e i 44) (e * 6 + i) (nI (rkM σ n i)))) 45 (upd (meS σ n e i 45) (e * 6 + i) (if mgB σ i = true then tPts (rkM σ n i) else 0))
theorem meS_o {σ : St} {n e c : Nat} (h : c ≠ 44) (h2 : c ≠ 45) : ∀ i, meS σ n e i c = σ c
  | 0 => rfl
  | i + 1 => by rw [meS, upA_n h2, upA_n h]; exact meS_o h h2 i
def meF (σ : St) (n e : Nat) : St := upA (meS σ n e n) 31 (upd (upd (σ 31) 7 (nI (e + 1))) 8 0)
def stTm (pl : Nat → Int32) (e i j N : Nat) : Nat → Bool
  | 0 => !decide (j ≤ i)
  | z + 1 => if tmA pl e i (N - (z + 1)) = tmA pl e j (N - (z + 1)) then stTm pl e i j N z else !decide (tmA pl e i (N - (z + 1)) ≤ tmA pl e j (N - (z + 1)))
theorem stTm_s {pl : Nat → Int32} {e i j N q : Nat} (hq : q < N) (h : tmA pl e i q = tmA pl e j q) : stTm pl e i j N (N - q) = stTm pl e i j N (N - (q + 1)) := by
  obtain ⟨z, hz⟩ : ∃ z, N - q = z + 1 := ⟨N - q - 1, by omega⟩
  rw [hz, stTm, show N - (z + 1) = q by omega, if_pos h, show N - (q + 1) = z by omega]
theorem stTm_n {pl : Nat → Int32} {e i j N q : Nat} (hq : q < N) (h : ¬ tmA pl e i q = tmA pl e j q) : stTm pl e i j N (N - q) = !decide (tmA pl e i q ≤ tmA pl e j q) := by
  obtain ⟨z, hz⟩ : ∃ z, N - q = z + 1 := ⟨N - q - 1, by omega⟩
  rw [hz, stTm, show N - (z + 1) = q by omega, if_neg h]
def stBm (pl pt : Nat → Int32) (dr : Int32) (e n i j : Nat) : Bool := if sumA pt dr i e e = sumA pt dr j e e then stTm pl e i j n n else !decide (sumA pt dr i e e ≤ sumA pt dr j e e)
def snM (pl pt : Nat → Int32) (dr : Int32) (e n k : Nat) : Nat := cntA (fun a => !decide (a = k) && stBm pl pt dr e n a k) n
def fsM (c : Nat → Nat) (q : Nat) : Nat → Nat
  | 0 => 0
  | i + 1 => if 2 * c i = q then i else fsM c q i
theorem fsM_lt (c : Nat → Nat) (q n : Nat) : ∀ i, i ≤ n → 0 < n → fsM c q i < n
  | 0, _, h => h
  | i + 1, h1, h => by
    rw [fsM]
    split
    · omega
    · exact fsM_lt c q n i (by omega) h
def tpM (tm pt : Nat → Int32) (dr x : Int32) (e : Nat) : Nat → Int32
  | 0 => 0
  | i + 1 => if tm i = x then tpM tm pt dr x e i + sumA pt dr i e e else tpM tm pt dr x e i
theorem pts_3 {q : Nat} (h3 : ¬ q = 0) (h1 : ¬ q = 1) (h2 : ¬ q = 2) (h : q < 6) : nI (8 - q) = tPts q := by
  have : q = 3 ∨ q = 4 ∨ q = 5 := by omega
  rcases this with rfl | rfl | rfl <;> rfl
def cd2 (a b : Bool) : Nat := if a = true then (if b = true then 0 else 2) else 1
theorem cd2_0 {a b : Bool} (h : cd2 a b = 0) : a = true ∧ b = true := by cases a <;> cases b <;> simp [cd2] at h ⊢
theorem cd2_n {a b : Bool} (h : ¬ cd2 a b = 0) : (a && b) = false := by cases a <;> cases b <;> simp [cd2] at h ⊢
theorem cd2_lt (a b : Bool) : cd2 a b < 3 := by cases a <;> cases b <;> decide
theorem mkA_cong {τ σ : St} {n q : Nat} (h : ∀ i, rkM τ n i = rkM σ n i) : ∀ j, mkA τ n q j = mkA σ n q j
  | 0 => rfl
  | j + 1 => by rw [mkA, mkA, h j, mkA_cong h j]
theorem rkM_thr {σ : St} {w n : Nat} (i : Nat) : rkM (thr σ w) n i = rkM σ n i := rkM_cong (thr_o (by decide)) (thr_o (by decide)) (thr_o (by decide)) (thr_o (by decide)) (thr_o (by decide)) (thr_o (by decide)) n i
section MPS
variable {σ : St} {z k t : Nat}
theorem mpS_b (h : ldB (σ 32) (ix (σ 35 k)) t = false) : mpS (thr σ 0) z k t = mbk (mp0 (thr σ 0) z k t) k (ix (σ 35 k)) := if_neg (fun q => absurd (q.symm.trans h) (by decide))
theorem mpR_b (h : ldB (σ 32) (ix (σ 35 k)) t = false) : mpR (thr σ 0) z k t = 3 := if_neg (fun q => absurd (q.symm.trans h) (by decide))
theorem mpS_c (h : ldB (σ 32) (ix (σ 35 k)) t = true) (h0 : t = 0) : mpS (thr σ 0) z k t = mcS (mp0 (thr σ 0) z k t) k := (if_pos h).trans (if_pos h0)
theorem mpR_c (h : ldB (σ 32) (ix (σ 35 k)) t = true) (h0 : t = 0) : mpR (thr σ 0) z k t = mcR (mp0 (thr σ 0) z k t) k := (if_pos h).trans (if_pos h0)
theorem mpS_r (h : ldB (σ 32) (ix (σ 35 k)) t = true) (h0 : ¬ t = 0) : mpS (thr σ 0) z k t = mrg (mp0 (thr σ 0) z k t) k t := (if_pos h).trans (if_neg h0)
theorem mpR_r (h : ldB (σ 32) (ix (σ 35 k)) t = true) (h0 : ¬ t = 0) : mpR (thr σ 0) z k t = 0 := (if_pos h).trans (if_neg h0)
end MPS
section MTS
variable {σ : St} {g n sd : Nat} {b : Bool}
theorem mtS_b (h : b = true) : mtS σ g n sd b = σ := by subst h; exact if_neg (by simp)
theorem mtS_8 (h : 8 ≤ sd) : mtS σ g n sd b = σ := if_neg (fun q => absurd (of_decide_eq_true ((Bool.and_eq_true _ _).mp ((Bool.and_eq_true _ _).mp q).1).2) (by omega))
theorem mtS_0 (h : n = 0) : mtS σ g n sd b = σ := if_neg (fun q => absurd (of_decide_eq_true ((Bool.and_eq_true _ _).mp q).2) (by omega))
theorem mtS_t (h : b = false) (h2 : sd < 8) (h3 : 0 < n) : mtS σ g n sd b = upA σ 33 (moA (σ 32) (σ 33) g g) := if_pos (by subst h; simp [h2, h3])
end MTS
section MUL
variable {σ : St} {n : Nat} {its : Int32} {w i : Nat}
theorem muL_5 (h : muB σ n its w i = true) (h1 : its = 1) : mhS (muL σ n its w i) i 5 = muL σ n its w (i + 1) := by rw [muL, if_pos h, muU, if_pos h1]
theorem muL_2 (h : muB σ n its w i = true) (h1 : ¬ its = 1) : mhS (muL σ n its w i) i 2 = muL σ n its w (i + 1) := by rw [muL, if_pos h, muU, if_neg h1]
theorem muL_f (h : muB σ n its w i = false) : muL σ n its w i = muL σ n its w (i + 1) := by rw [muL, if_neg (by rw [h]; decide)]
theorem muN_t (h : muB σ n its w i = true) : muN σ n its w (i + 1) = muN σ n its w i + mhR (muL σ n its w i) i := by rw [muN, if_pos h]
theorem muN_f (h : muB σ n its w i = false) : muN σ n its w (i + 1) = muN σ n its w i := by rw [muN, if_neg (by rw [h]; decide)]
end MUL
theorem inT_m {x : Int32} {n : Nat} (h1 : 0 ≤ x) (h2 : ¬ nI (2 * n) - nI 1 ≤ x) : inT x n = true := inT_t (Int32.not_lt.mpr h1) (Int32.not_le.mp h2)
theorem inT_mf1 {x : Int32} {n : Nat} (h1 : ¬ 0 ≤ x) : inT x n = false := inT_f1 (Int32.not_le.mp h1)
theorem inT_mf2 {x : Int32} {n : Nat} (h2 : nI (2 * n) - nI 1 ≤ x) : inT x n = false := inT_f2 (Int32.not_lt.mpr h2)
