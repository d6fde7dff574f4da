/-! which numbers are there, as the bits of a number -/
def mskN (f : Nat → Nat) : Nat → Nat
  | 0 => 0
  | i + 1 => mskN f i ||| 2 ^ f i
def mskA (f : Nat → Nat) (i : Nat) : Int32 := nI (mskN f i)
theorem bm_or1 : ∀ a, a < 64 → ∀ r, r < 6 → (nI a ||| ((1 : Int32) <<< (nI r &&& 31))) = nI (a ||| 2 ^ r) := by decide +kernel
theorem bm_or2 : ∀ a, a < 64 → ∀ r, r < 6 → a ||| 2 ^ r < 64 := by decide +kernel
theorem mskN_lt {f : Nat → Nat} : ∀ i, (∀ k, k < i → f k < 6) → mskN f i < 64
  | 0, _ => show (0 : Nat) < 64 by decide
  | i + 1, h => bm_or2 _ (mskN_lt i (fun k hk => h k (by omega))) _ (h i (by omega))
theorem mskA_s {f : Nat → Nat} {i : Nat} (h : ∀ k, k < i + 1 → f k < 6) : (mskA f i ||| ((1 : Int32) <<< (nI (f i) &&& 31))) = mskA f (i + 1) :=
  bm_or1 _ (mskN_lt i (fun k hk => h k (by omega))) _ (h i (by omega))
theorem mskN_bit {f : Nat → Nat} (p : Nat) : ∀ i, (mskN f i).testBit p = true ↔ ∃ k, k < i ∧ f k = p
  | 0 => by
    rw [mskN, Nat.zero_testBit]
    exact ⟨fun h => absurd h (by decide), fun ⟨k, hk, _⟩ => absurd hk (by omega)⟩
  | i + 1 => by
    rw [mskN, Nat.testBit_or, Bool.or_eq_true, mskN_bit p i, Nat.testBit_two_pow, decide_eq_true_eq]
    constructor
    · rintro (⟨k, h1, h2⟩ | h)
      · exact ⟨k, by omega, h2⟩
      · exact ⟨i, by omega, h⟩
    · rintro ⟨k, h1, h2⟩
      by_cases e : k = i
      · subst e; exact Or.inr h2
      · exact Or.inl ⟨k, by omega, h2⟩
theorem mskN_all {f : Nat → Nat} {n : Nat} (h1 : ∀ k, k < n → f k < n) (h2 : ∀ p, p < n → ∃ k, k < n ∧ f k = p) : mskN f n = 2 ^ n - 1 := by
  apply Nat.eq_of_testBit_eq
  intro p
  rw [Nat.testBit_two_pow_sub_one]
  by_cases e : p < n
  · rw [decide_eq_true e]
    exact (mskN_bit p n).mpr (h2 p e)
  · rw [decide_eq_false e]
    cases q : (mskN f n).testBit p
    · rfl
    · obtain ⟨k, a, b⟩ := (mskN_bit p n).mp q
      have := h1 k a
      omega
theorem bm_full : ∀ n, n < 7 → ((1 : Int32) <<< (nI n &&& 31)) - 1 = nI (2 ^ n - 1) := by decide +kernel
theorem mskA_all {f : Nat → Nat} {n : Nat} (hn : n ≤ 6) (h1 : ∀ k, k < n → f k < n) (h2 : ∀ p, p < n → ∃ k, k < n ∧ f k = p) : mskA f n = ((1 : Int32) <<< (nI n &&& 31)) - 1 := by
  rw [bm_full n (by omega)]
  unfold mskA
  rw [mskN_all h1 h2]
/-- ranks by a strict total order are all unlike -/
theorem cnt_surj {ah : Nat → Nat → Bool} {n : Nat} (h : stO ah n) (hn : n < 2 ^ 30) : ∀ p, p < n → ∃ k, k < n ∧ cntA (fun a => ah a k) n = p := fun p hp => by
  obtain ⟨k, hk, -, e⟩ := (srt_all h hn (fun _ => 0) n (Nat.le_refl n)).1 p hp
  exact ⟨k, hk, e⟩
theorem cnt_inj {ah : Nat → Nat → Bool} {n i k : Nat} (h : stO ah n) (hi : i < n) (hk : k < n) (e : cntA (fun a => ah a i) n = cntA (fun a => ah a k) n) : i = k := by
  by_cases q : i = k
  · exact q
  · rcases h.2.1 i k hi hk q with r | r
    · have := cnt_lt h (Nat.le_refl n) hi hk r; omega
    · have := cnt_lt h (Nat.le_refl n) hk hi r; omega
theorem cnt_less {ah : Nat → Nat → Bool} {n k : Nat} (h : stO ah n) (hk : k < n) : cntA (fun a => ah a k) n < n := cntA_lt hk (h.1 k hk)
/-- how many have a rank in a span, no more than the span -/
theorem cnt_span {f : Nat → Nat} {n : Nat} (hf : ∀ i k, i < n → k < n → f i = f k → i = k) (lo : Nat) : ∀ hi, lo ≤ hi → cntA (fun i => decide (lo ≤ f i) && decide (f i < hi)) n ≤ hi - lo := by
  intro hi
  induction hi with
  | zero =>
    intro _
    rw [cntA_0 n (fun a _ => by rw [decide_eq_false (show ¬ f a < 0 by omega), Bool.and_false])]
    omega
  | succ hi ih =>
    intro hle
    by_cases e : lo = hi + 1
    · rw [cntA_0 n (fun a _ => by
        cases q : (decide (lo ≤ f a) && decide (f a < hi + 1))
        · rfl
        · simp only [Bool.and_eq_true, decide_eq_true_eq] at q; omega)]
      omega
    · have h1 := ih (by omega)
      have h2 : ∀ m, m ≤ n → cntA (fun i => decide (lo ≤ f i) && decide (f i < hi + 1)) m ≤ cntA (fun i => decide (lo ≤ f i) && decide (f i < hi)) m + (if ∃ k, k < m ∧ f k = hi then 1 else 0) := by
        intro m
        induction m with
        | zero => intro _; simp [cntA]
        | succ m ih2 =>
          intro hm
          have h3 := ih2 (by omega)
          rw [cntA, cntA]
          by_cases q : f m = hi
          · have q2 : ¬ ∃ k, k < m ∧ f k = hi := fun ⟨k, a, b⟩ => by have := hf k m (by omega) (by omega) (by omega); omega
            have q3 : ∃ k, k < m + 1 ∧ f k = hi := ⟨m, by omega, q⟩
            rw [if_neg q2] at h3
            rw [if_pos q3]
            split <;> split <;> omega
          · have q4 : (decide (lo ≤ f m) && decide (f m < hi + 1)) = (decide (lo ≤ f m) && decide (f m < hi)) := by
              rw [show decide (f m < hi + 1) = decide (f m < hi) from decide_eq_decide.mpr (by omega)]
            rw [q4]
            by_cases q5 : ∃ k, k < m ∧ f k = hi
            · have q6 : ∃ k, k < m + 1 ∧ f k = hi := by obtain ⟨k, a, b⟩ := q5; exact ⟨k, by omega, b⟩
              rw [if_pos q5] at h3
              rw [if_pos q6]
              omega
            · have q6 : ¬ ∃ k, k < m + 1 ∧ f k = hi := fun ⟨k, a, b⟩ => by
                by_cases e9 : k = m
                · subst e9; exact q b
                · exact q5 ⟨k, by omega, b⟩
              rw [if_neg q5] at h3
              rw [if_neg q6]
              omega
      have h4 := h2 n (Nat.le_refl n)
      split at h4 <;> omega
/-! the bits that a kart still lacks -/
section MIS
theorem mi_or {N x y c : Int32} (h : N &&& (x ^^^ (-1)) = N &&& (y ^^^ (-1))) : N &&& ((x ||| c) ^^^ (-1)) = N &&& ((y ||| c) ^^^ (-1)) := by
  rw [← Int32.toBitVec_inj, Int32.toBitVec_and, Int32.toBitVec_xor, Int32.toBitVec_and, Int32.toBitVec_xor, show (-1 : Int32).toBitVec = BitVec.allOnes 32 from by decide] at h
  rw [← Int32.toBitVec_inj, Int32.toBitVec_and, Int32.toBitVec_xor, Int32.toBitVec_or, Int32.toBitVec_and, Int32.toBitVec_xor, Int32.toBitVec_or, show (-1 : Int32).toBitVec = BitVec.allOnes 32 from by decide]
  generalize N.toBitVec = n at h ⊢
  generalize x.toBitVec = x at h ⊢
  generalize y.toBitVec = y at h ⊢
  generalize c.toBitVec = c at h ⊢
  apply BitVec.eq_of_getLsbD_eq
  intro i hi
  have h1 := congrArg (fun v => v.getLsbD i) h
  simp only [BitVec.getLsbD_and, BitVec.getLsbD_xor, BitVec.getLsbD_or, BitVec.getLsbD_allOnes, decide_eq_true hi] at h1 ⊢
  clear h
  generalize n.getLsbD i = A at h1 ⊢
  generalize x.getLsbD i = B at h1 ⊢
  generalize y.getLsbD i = C at h1 ⊢
  generalize c.getLsbD i = D
  revert h1
  cases A <;> cases B <;> cases C <;> cases D <;> decide
theorem mi_or0 {N x c : Int32} (h : N &&& c = 0) : N &&& ((x ||| c) ^^^ (-1)) = N &&& (x ^^^ (-1)) := by
  rw [← Int32.toBitVec_inj, Int32.toBitVec_and, show (0 : Int32).toBitVec = 0#32 from rfl] at h
  rw [← Int32.toBitVec_inj, Int32.toBitVec_and, Int32.toBitVec_xor, Int32.toBitVec_or, Int32.toBitVec_and, Int32.toBitVec_xor, show (-1 : Int32).toBitVec = BitVec.allOnes 32 from by decide]
  generalize N.toBitVec = n at h ⊢
  generalize x.toBitVec = x at h ⊢
  generalize c.toBitVec = c at h ⊢
  apply BitVec.eq_of_getLsbD_eq
  intro i hi
  have h1 := congrArg (fun v => v.getLsbD i) h
  simp only [BitVec.getLsbD_and, BitVec.getLsbD_xor, BitVec.getLsbD_or, BitVec.getLsbD_allOnes, decide_eq_true hi, BitVec.getLsbD_zero] at h1 ⊢
  clear h
  generalize n.getLsbD i = A at h1 ⊢
  generalize x.getLsbD i = B at h1 ⊢
  generalize c.getLsbD i = D at h1 ⊢
  revert h1
  cases A <;> cases B <;> cases D <;> decide
theorem mi_an {N x y c : Int32} (h : N &&& (x ^^^ (-1)) = N &&& (y ^^^ (-1))) : N &&& ((x &&& c) ^^^ (-1)) = N &&& ((y &&& c) ^^^ (-1)) := by
  rw [← Int32.toBitVec_inj, Int32.toBitVec_and, Int32.toBitVec_xor, Int32.toBitVec_and, Int32.toBitVec_xor, show (-1 : Int32).toBitVec = BitVec.allOnes 32 from by decide] at h
  rw [← Int32.toBitVec_inj, Int32.toBitVec_and, Int32.toBitVec_xor, Int32.toBitVec_and, Int32.toBitVec_and, Int32.toBitVec_xor, Int32.toBitVec_and, show (-1 : Int32).toBitVec = BitVec.allOnes 32 from by decide]
  generalize N.toBitVec = n at h ⊢
  generalize x.toBitVec = x at h ⊢
  generalize y.toBitVec = y at h ⊢
  generalize c.toBitVec = c at h ⊢
  apply BitVec.eq_of_getLsbD_eq
  intro i hi
  have h1 := congrArg (fun v => v.getLsbD i) h
  simp only [BitVec.getLsbD_and, BitVec.getLsbD_xor, BitVec.getLsbD_or, BitVec.getLsbD_allOnes, decide_eq_true hi] at h1 ⊢
  clear h
  generalize n.getLsbD i = A at h1 ⊢
  generalize x.getLsbD i = B at h1 ⊢
  generalize y.getLsbD i = C at h1 ⊢
  generalize c.getLsbD i = D
  revert h1
  cases A <;> cases B <;> cases C <;> cases D <;> decide
theorem an_0 (x : Int32) : x &&& 0 = 0 := by
  rw [← Int32.toBitVec_inj, Int32.toBitVec_and, show (0 : Int32).toBitVec = 0#32 from rfl, BitVec.and_zero]
end MIS
