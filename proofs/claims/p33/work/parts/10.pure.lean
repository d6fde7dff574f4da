theorem upA_self (σ : St) (c : Nat) : upA σ c (σ c) = σ := by
  funext a
  unfold upA
  split
  · rename_i h; rw [h]
  · rfl
theorem upA_upA (σ : St) (c : Nat) (f g : Nat → Int32) : upA (upA σ c f) c g = upA σ c g := by
  funext a
  unfold upA
  split <;> rfl
theorem upd_self (f : Nat → Int32) (k : Nat) : upd f k (f k) = f := by
  funext j
  unfold upd
  split
  · rename_i h; rw [h]
  · rfl
theorem upd_upd (f : Nat → Int32) (k : Nat) (v w : Int32) : upd (upd f k v) k w = upd f k w := by
  funext j
  unfold upd
  split <;> rfl
/-! the track: len f*12+t the length of the way, 0 where none -/
def ldB (len : Nat → Int32) (f t : Nat) : Bool := !decide (len (f * 12 + t) ≤ 0)
def ldOn (len : Nat → Int32) (g a : Nat) : Bool := (List.range g).any (fun t => ldB len a t)
def deadB (len : Nat → Int32) (g : Nat) : Bool := (List.range g).any (fun a => !ldOn len g a)
/-- the least of the ways out of a over the line and the gates a+1 .. a+k -/
def lrA (len rst : Nat → Int32) (a : Nat) : Nat → Int32
  | 0 => if ldB len a 0 = true then len (a * 12 + 0) else -1
  | k + 1 => if ldB len a (a + 1 + k) = true ∧ ¬ rst (a + 1 + k) = -1 then
      (if lrA len rst a k = -1 then len (a * 12 + (a + 1 + k)) + rst (a + 1 + k) else if len (a * 12 + (a + 1 + k)) + rst (a + 1 + k) < lrA len rst a k then len (a * 12 + (a + 1 + k)) + rst (a + 1 + k) else lrA len rst a k)
    else lrA len rst a k
/-- the rests when the k gates g-1, g-2 .. are measured -/
def mrA (len rst : Nat → Int32) (g : Nat) : Nat → (Nat → Int32)
  | 0 => rst
  | k + 1 => upd (mrA len rst g k) (g - 1 - k) (lrA len (mrA len rst g k) (g - 1 - k) k)
def stGate (σ : St) (b : Bool) (g : Nat) : St :=
  upA (upA σ 3 (upd (σ 3) g (-1))) 1 (upd (upd (σ 1) 3 (if b = true then σ 1 3 ||| ((1 : Int32) <<< (nI g &&& 31)) else σ 1 3)) 2 (nI (g + 1)))
theorem ldOn_f {len : Nat → Int32} {g a : Nat} (h : ∀ t, t < g → ldB len a t = false) : ldOn len g a = false := by
  unfold ldOn
  rw [List.any_eq_false]
  intro t ht
  rw [h t (List.mem_range.mp ht)]
  decide
theorem ldOn_t {len : Nat → Int32} {g a t : Nat} (ht : t < g) (h : ldB len a t = true) : ldOn len g a = true := List.any_eq_true.mpr ⟨t, List.mem_range.mpr ht, h⟩
theorem deadB_f {len : Nat → Int32} {g : Nat} (h : ∀ t, t < g → ldOn len g t = true) : deadB len g = false := by
  unfold deadB
  rw [List.any_eq_false]
  intro t ht
  rw [h t (List.mem_range.mp ht)]
  decide
theorem deadB_t {len : Nat → Int32} {g t : Nat} (ht : t < g) (h : ldOn len g t = false) : deadB len g = true := List.any_eq_true.mpr ⟨t, List.mem_range.mpr ht, by rw [h]; rfl⟩
