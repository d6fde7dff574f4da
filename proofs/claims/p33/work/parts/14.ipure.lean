theorem ItG_of {G : Gx} (hF : Full G) : ItG G := ⟨fun c h => hF.1 c (by omega), hF.2.1, hF.2.2.1, trivial⟩
/-! the cup: places and points at race * 6 + kart -/
def wrB (pt : Nat → Int32) (k nr o : Nat) : Bool := decide (pt (o * 6 + k) < pt (nr * 6 + k)) || (decide (pt (o * 6 + k) = pt (nr * 6 + k)) && !decide (nr ≤ o))
def sumA (pt : Nat → Int32) (dr : Int32) (k e : Nat) : Nat → Int32
  | 0 => 0
  | i + 1 => if nI (cntA (wrB pt k i) e) < dr then sumA pt dr k e i else sumA pt dr k e i + pt (i * 6 + k)
def tmA (pl : Nat → Int32) (e k q : Nat) : Nat := cntA (fun i => decide (pl (i * 6 + k) = nI q)) e
/-- from the place 6 - z on -/
def stT (pl : Nat → Int32) (e i j : Nat) : Nat → Bool
  | 0 => !decide (j ≤ i)
  | z + 1 => if tmA pl e i (6 - (z + 1)) = tmA pl e j (6 - (z + 1)) then stT pl e i j z else !decide (tmA pl e i (6 - (z + 1)) ≤ tmA pl e j (6 - (z + 1)))
def stB (pl pt : Nat → Int32) (dr : Int32) (e i j : Nat) : Bool := if sumA pt dr i e e = sumA pt dr j e e then stT pl e i j 6 else !decide (sumA pt dr i e e ≤ sumA pt dr j e e)
def fsA (c : Nat → Nat) (q : Nat) : Nat → Nat
  | 0 => 0
  | i + 1 => if c i = q then i else fsA c q i
theorem fsA_lt (c : Nat → Nat) (q n : Nat) : ∀ i, i ≤ n → 0 < n → fsA c q i < n
  | 0, _, h => h
  | i + 1, h1, h => by
    rw [fsA]
    split
    · omega
    · exact fsA_lt c q n i (by omega) h
theorem stT_s {pl : Nat → Int32} {e i j q : Nat} (hq : q < 6) (h : tmA pl e i q = tmA pl e j q) : stT pl e i j (6 - q) = stT pl e i j (6 - (q + 1)) := by
  obtain ⟨z, hz⟩ : ∃ z, 6 - q = z + 1 := ⟨5 - q, by omega⟩
  rw [hz, stT, show 6 - (z + 1) = q by omega, if_pos h, show 6 - (q + 1) = z by omega]
theorem stT_n {pl : Nat → Int32} {e i j q : Nat} (hq : q < 6) (h : ¬ tmA pl e i q = tmA pl e j q) : stT pl e i j (6 - q) = !decide (tmA pl e i q ≤ tmA pl e j q) := by
  obtain ⟨z, hz⟩ : ∃ z, 6 - q = z + 1 := ⟨5 - q, by omega⟩
  rw [hz, stT, show 6 - (z + 1) = q by omega, if_neg h]
/-! items -/
def clS (σ : St) (i : Nat) : St := upA (upA (upA σ 24 (clrK (σ 24) (-1) i)) 25 (clrK (σ 25) 0 i)) 26 (clrK (σ 26) 0 i)
theorem clS_s (σ : St) (i : Nat) (τ1 τ2 τ3 : St) (h1 : τ1 = upA (clS σ i) 24 (upd (clS σ i 24) i (-1))) (h2 : τ2 = upA τ1 25 (upd (τ1 25) i 0)) (h3 : τ3 = upA τ2 26 (upd (τ2 26) i 0)) : τ3 = clS σ (i + 1) := by
  subst h1 h2 h3
  have e24 : clS σ i 24 = clrK (σ 24) (-1) i := by unfold clS; rw [upA_n (by decide), upA_n (by decide), upA_s]
  have e25 : clS σ i 25 = clrK (σ 25) 0 i := by unfold clS; rw [upA_n (by decide), upA_s]
  have e26 : clS σ i 26 = clrK (σ 26) 0 i := by unfold clS; rw [upA_s]
  rw [upA_n (show 26 ≠ 25 by decide), upA_n (show 26 ≠ 24 by decide), upA_n (show 25 ≠ 24 by decide), e24, e25, e26, clrK_s, clrK_s, clrK_s]
  funext a
  unfold clS upA
  split
  · rfl
  · split
    · rfl
    · split <;> rfl
def dD (x : Int32) : Nat := ((x.toUInt32 >>> (Int32.toUInt32 16 &&& Int32.toUInt32 31)).toInt32).toBitVec.toNat % 2 ^ 2
theorem dD_lt (x : Int32) : dD x < 4 := Nat.mod_lt _ (by decide)
def itA (m d : Nat) : Int32 := if m = 0 then tFirst d else if m ≤ 2 then tMid d else tOth d
def nxA (x : Int32) : Int32 := x * 1103515245 + 12345
def htS (σ : St) (k : Nat) (u : Int32) : St := if σ 25 k = 0 then upA σ 26 (upd (σ 26) k (if σ 26 k < u then u else σ 26 k)) else upA σ 25 (upd (σ 25) k 0)
theorem clS_o {σ : St} {i c : Nat} (h1 : c ≠ 24) (h2 : c ≠ 25) (h3 : c ≠ 26) : clS σ i c = σ c := by unfold clS; rw [upA_n h3, upA_n h2, upA_n h1]
