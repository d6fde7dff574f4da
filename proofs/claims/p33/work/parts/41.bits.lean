/-! bits -/
theorem bt_need (N P : Int32) : (N &&& (P ^^^ (-1))) = 0 ↔ (P &&& N) = N := by
  rw [← Int32.toBitVec_inj, ← Int32.toBitVec_inj, Int32.toBitVec_and, Int32.toBitVec_and, Int32.toBitVec_xor, show (-1 : Int32).toBitVec = BitVec.allOnes 32 from by decide, show (0 : Int32).toBitVec = 0#32 from rfl]
  generalize N.toBitVec = n
  generalize P.toBitVec = q
  constructor
  · intro h
    apply BitVec.eq_of_getLsbD_eq
    intro i hi
    have h1 := congrArg (fun v => v.getLsbD i) h
    simp only [BitVec.getLsbD_and, BitVec.getLsbD_xor, BitVec.getLsbD_allOnes, BitVec.getLsbD_zero, decide_eq_true hi] at h1 ⊢
    clear h
    generalize n.getLsbD i = A at h1 ⊢
    generalize q.getLsbD i = B at h1 ⊢
    revert h1
    cases A <;> cases B <;> decide
  · intro h
    apply BitVec.eq_of_getLsbD_eq
    intro i hi
    have h1 := congrArg (fun v => v.getLsbD i) h
    simp only [BitVec.getLsbD_and, BitVec.getLsbD_xor, BitVec.getLsbD_allOnes, BitVec.getLsbD_zero, decide_eq_true hi] at h1 ⊢
    clear h
    generalize n.getLsbD i = A at h1 ⊢
    generalize q.getLsbD i = B at h1 ⊢
    revert h1
    cases A <;> cases B <;> decide
theorem bt_lit (n : BitVec 32) (t : Nat) (ht : t < 32) (hz : ¬ BitVec.twoPow 32 t = 0#32) : (¬ (n &&& BitVec.twoPow 32 t) = 0#32) ↔ (n.sshiftRight t &&& BitVec.twoPow 32 0) = BitVec.twoPow 32 0 := by
  rw [BitVec.and_twoPow, BitVec.and_twoPow, BitVec.getLsbD_sshiftRight]
  cases h : n.getLsbD t
  · simp [h, ht, show ¬ (32 ≤ 0) by omega]
    decide
  · simp [h, ht, hz]
theorem bt_at (N : Int32) {t : Nat} (h : t < 12) : (¬ (N &&& ((1 : Int32) <<< (nI t &&& 31))) = 0) ↔ ((N >>> (nI t &&& 31)) &&& 1) = 1 := by
  have h9 : t = 0 ∨ t = 1 ∨ t = 2 ∨ t = 3 ∨ t = 4 ∨ t = 5 ∨ t = 6 ∨ t = 7 ∨ t = 8 ∨ t = 9 ∨ t = 10 ∨ t = 11 := by omega
  rw [← Int32.toBitVec_inj, ← Int32.toBitVec_inj, Int32.toBitVec_and, Int32.toBitVec_and, Int32.toBitVec_shiftLeft, Int32.toBitVec_shiftRight]
  generalize N.toBitVec = n
  rcases h9 with rfl | rfl | rfl | rfl | rfl | rfl | rfl | rfl | rfl | rfl | rfl | rfl <;> exact bt_lit n _ (by decide) (by decide)
theorem bt_0 {P : Int32} (h : P &&& 1 = 0) : P &&& (((1 : Int32) <<< (nI 0 &&& 31)) ^^^ (-1)) = P := by
  rw [← Int32.toBitVec_inj, Int32.toBitVec_and, show (1 : Int32).toBitVec = BitVec.twoPow 32 0 from by decide] at h
  rw [← Int32.toBitVec_inj, Int32.toBitVec_and, show (((1 : Int32) <<< (nI 0 &&& 31)) ^^^ (-1)).toBitVec = BitVec.twoPow 32 0 ^^^ BitVec.allOnes 32 from by decide]
  generalize P.toBitVec = q at h ⊢
  apply BitVec.eq_of_getLsbD_eq
  intro i hi
  have h1 := congrArg (fun v => v.getLsbD i) h
  simp only [BitVec.getLsbD_and, BitVec.getLsbD_xor, BitVec.getLsbD_allOnes, decide_eq_true hi, show (0 : Int32).toBitVec = 0#32 from rfl, BitVec.getLsbD_zero] at h1 ⊢
  clear h
  generalize q.getLsbD i = A at h1 ⊢
  generalize (BitVec.twoPow 32 0).getLsbD i = B at h1 ⊢
  revert h1
  cases A <;> cases B <;> decide
theorem bt_and {P Q : Int32} (h : P &&& 1 = 0) : (P &&& Q) &&& 1 = 0 := by
  rw [← Int32.toBitVec_inj, Int32.toBitVec_and] at h
  rw [← Int32.toBitVec_inj, Int32.toBitVec_and, Int32.toBitVec_and]
  generalize P.toBitVec = q at h ⊢
  generalize Q.toBitVec = n at h ⊢
  generalize (1 : Int32).toBitVec = o at h ⊢
  apply BitVec.eq_of_getLsbD_eq
  intro i hi
  have h1 := congrArg (fun v => v.getLsbD i) h
  simp only [BitVec.getLsbD_and, show (0 : Int32).toBitVec = 0#32 from rfl, BitVec.getLsbD_zero] at h1 ⊢
  clear h
  generalize q.getLsbD i = A at h1 ⊢
  generalize o.getLsbD i = B at h1 ⊢
  generalize n.getLsbD i = C
  revert h1
  cases A <;> cases B <;> cases C <;> decide
theorem bt_or {P : Int32} {t : Nat} (h : P &&& 1 = 0) (h1 : 0 < t) (h2 : t < 12) : (P ||| ((1 : Int32) <<< (nI t &&& 31))) &&& 1 = 0 := by
  have h8 : (((1 : Int32) <<< (nI t &&& 31)) &&& 1) = 0 := by
    have h9 : t = 1 ∨ t = 2 ∨ t = 3 ∨ t = 4 ∨ t = 5 ∨ t = 6 ∨ t = 7 ∨ t = 8 ∨ t = 9 ∨ t = 10 ∨ t = 11 := by omega
    rcases h9 with rfl | rfl | rfl | rfl | rfl | rfl | rfl | rfl | rfl | rfl | rfl <;> decide
  generalize ((1 : Int32) <<< (nI t &&& 31)) = X at h8 ⊢
  rw [← Int32.toBitVec_inj, Int32.toBitVec_and] at h h8
  rw [← Int32.toBitVec_inj, Int32.toBitVec_and, Int32.toBitVec_or]
  generalize P.toBitVec = q at h ⊢
  generalize X.toBitVec = n at h8 ⊢
  generalize (1 : Int32).toBitVec = o at h h8 ⊢
  apply BitVec.eq_of_getLsbD_eq
  intro i hi
  have e1 := congrArg (fun v => v.getLsbD i) h
  have e2 := congrArg (fun v => v.getLsbD i) h8
  simp only [BitVec.getLsbD_and, BitVec.getLsbD_or, show (0 : Int32).toBitVec = 0#32 from rfl, BitVec.getLsbD_zero] at e1 e2 ⊢
  clear h h8
  generalize q.getLsbD i = A at e1 ⊢
  generalize o.getLsbD i = B at e1 e2 ⊢
  generalize n.getLsbD i = C at e2 ⊢
  revert e1 e2
  cases A <;> cases B <;> cases C <;> decide
theorem or_0 (x : Int32) : x ||| 0 = x := by
  rw [← Int32.toBitVec_inj, Int32.toBitVec_or, show (0 : Int32).toBitVec = 0#32 from rfl, BitVec.or_zero]
