/-! the cup: points as numbers, the standing is a strict total order -/
def wcN (v : Nat → Nat) (i o : Nat) : Bool := decide (v o < v i) || (decide (v o = v i) && decide (o < i))
def sumN (v : Nat → Nat) (d e : Nat) : Nat → Nat
  | 0 => 0
  | i + 1 => if cntA (wcN v i) e < d then sumN v d e i else sumN v d e i + v i
section SUMS
variable {pt : Nat → Int32} {v : Nat → Nat} {d k e : Nat}
theorem wr_eq (hv : ∀ i, i < e → pt (i * 6 + k) = nI (v i) ∧ v i ≤ 10) {i o : Nat} (hi : i < e) (ho : o < e) : wrB pt k i o = wcN v i o := by
  obtain ⟨a1, a2⟩ := hv i hi
  obtain ⟨b1, b2⟩ := hv o ho
  unfold wrB wcN
  rw [a1, b1, decide_eq_decide.mpr (nI_ltI (a := v o) (b := v i) (by omega) (by omega)), decide_eq_decide.mpr (nI_eq (a := v o) (b := v i) (by omega) (by omega))]
  congr 2
  by_cases q : i ≤ o
  · rw [decide_eq_true q, decide_eq_false (by omega)]; rfl
  · rw [decide_eq_false q, decide_eq_true (by omega)]; rfl
theorem sum_eq (hv : ∀ i, i < e → pt (i * 6 + k) = nI (v i) ∧ v i ≤ 10) (he : e ≤ 8) (hd : d ≤ 3) : ∀ i, i ≤ e → sumA pt (nI d) k e i = nI (sumN v d e i) ∧ sumN v d e i ≤ 10 * i
  | 0, _ => ⟨rfl, Nat.le_refl _⟩
  | i + 1, hi => by
    obtain ⟨h1, h2⟩ := sum_eq hv he hd i (by omega)
    have hc : cntA (wrB pt k i) e = cntA (wcN v i) e := cntA_cong e (fun a ha => wr_eq hv (by omega) ha)
    have hc2 := cntA_le (wcN v i) e
    obtain ⟨a1, a2⟩ := hv i (by omega)
    rw [sumA, sumN, hc, h1]
    by_cases q : cntA (wcN v i) e < d
    · rw [if_pos ((nI_ltI (by omega) (by omega)).mpr q), if_pos q]
      exact ⟨rfl, by omega⟩
    · rw [if_neg (fun h => q ((nI_ltI (by omega) (by omega)).mp h)), if_neg q, a1, nI_add]
      exact ⟨rfl, by omega⟩
end SUMS
section WORSE
variable {v : Nat → Nat} {d e : Nat}
theorem wc_irr (i : Nat) : wcN v i i = false := by simp [wcN]
theorem wc_tot {i o : Nat} (h : i ≠ o) : wcN v i o = true ∨ wcN v o i = true := by
  simp only [wcN, Bool.or_eq_true, Bool.and_eq_true, decide_eq_true_eq]
  omega
theorem wc_tr {i o u : Nat} (h1 : wcN v i o = true) (h2 : wcN v o u = true) : wcN v i u = true := by
  simp only [wcN, Bool.or_eq_true, Bool.and_eq_true, decide_eq_true_eq] at h1 h2 ⊢
  omega
theorem wc_stO (e : Nat) : stO (fun o i => wcN v i o) e := ⟨fun i _ => wc_irr i, fun i j _ _ h => (wc_tot h).symm, fun i j k _ _ _ h1 h2 => wc_tr h2 h1⟩
theorem wc_lt {i : Nat} (hi : i < e) : cntA (wcN v i) e < e := cntA_lt hi (wc_irr i)
theorem sum_all (hd : e ≤ d) : ∀ i, i ≤ e → sumN v d e i = 0
  | 0, _ => rfl
  | i + 1, hi => by
    have := wc_lt (v := v) (e := e) (i := i) (by omega)
    rw [sumN, if_pos (by omega)]
    exact sum_all hd i (by omega)
theorem sum_none {v : Nat → Nat} {e : Nat} : ∀ i, sumN v 0 e (i + 1) = sumN v 0 e i + v i := fun i => by rw [sumN, if_neg (by omega)]
theorem sum_none2 {v : Nat → Nat} (e e' : Nat) : ∀ i, sumN v 0 e i = sumN v 0 e' i
  | 0 => rfl
  | i + 1 => by rw [sum_none, sum_none, sum_none2 e e' i]
/-- the worse ones of an old race when one race more is there -/
theorem wc_more (i : Nat) : cntA (wcN v i) (e + 1) = cntA (wcN v i) e + (if wcN v i e = true then 1 else 0) := rfl
theorem wc_new {i : Nat} (hi : i < e) : wcN v i e = decide (v e < v i) := by
  unfold wcN
  rw [decide_eq_false (show ¬ e < i by omega), Bool.and_false, Bool.or_false]
theorem sum_mono : ∀ i, i ≤ e → sumN v d e i ≤ sumN v d (e + 1) i
  | 0, _ => Nat.le_refl _
  | i + 1, hi => by
    have h := sum_mono i (by omega)
    rw [sumN, sumN, wc_more]
    split <;> split <;> split at * <;> omega
/-- at most one of the old races is counted anew, and only if it is better than the new one -/
theorem sum_grow (hd : 0 < d) (h10 : ∀ i, i ≤ e → v i ≤ 10) : ∀ i, i ≤ e → sumN v d (e + 1) i = sumN v d e i ∨ ∃ k, k < i ∧ cntA (wcN v k) e = d - 1 ∧ v e < v k ∧ sumN v d (e + 1) i = sumN v d e i + v k
  | 0, _ => Or.inl rfl
  | i + 1, hi => by
    have h := sum_grow hd h10 i (by omega)
    have hn := wc_new (v := v) (e := e) (i := i) (by omega)
    rw [sumN, sumN, wc_more, hn]
    by_cases q : v e < v i
    · rw [decide_eq_true q, if_pos rfl]
      by_cases q1 : cntA (wcN v i) e = d - 1
      · rw [if_neg (by omega), if_pos (show cntA (wcN v i) e < d by omega)]
        rcases h with h | ⟨k, a1, a2, a3, a4⟩
        · exact Or.inr ⟨i, by omega, q1, q, by omega⟩
        · have := cnt_inj (wc_stO (v := v) e) (show k < e by omega) (show i < e by omega) (a2.trans q1.symm)
          omega
      · by_cases q2 : cntA (wcN v i) e < d
        · rw [if_pos q2, if_pos (show cntA (wcN v i) e + 1 < d by omega)]
          rcases h with h | ⟨k, a1, a2, a3, a4⟩
          · exact Or.inl h
          · exact Or.inr ⟨k, by omega, a2, a3, a4⟩
        · rw [if_neg q2, if_neg (show ¬ cntA (wcN v i) e + 1 < d by omega)]
          rcases h with h | ⟨k, a1, a2, a3, a4⟩
          · exact Or.inl (by omega)
          · exact Or.inr ⟨k, by omega, a2, a3, by omega⟩
    · rw [decide_eq_false q, show (if false = true then 1 else 0) = 0 from rfl, Nat.add_zero]
      split
      · rcases h with h | ⟨k, a1, a2, a3, a4⟩
        · exact Or.inl h
        · exact Or.inr ⟨k, by omega, a2, a3, a4⟩
      · rcases h with h | ⟨k, a1, a2, a3, a4⟩
        · exact Or.inl (by omega)
        · exact Or.inr ⟨k, by omega, a2, a3, by omega⟩
/-- one race more: the points fall not, and rise by no more than 10 -/
theorem sum_ten (hd : 0 < d) (h10 : ∀ i, i ≤ e → v i ≤ 10) : sumN v d e e ≤ sumN v d (e + 1) (e + 1) ∧ sumN v d (e + 1) (e + 1) ≤ sumN v d e e + 10 := by
  have h1 := sum_mono (v := v) (d := d) e (Nat.le_refl e)
  have h2 := sum_grow hd h10 e (Nat.le_refl e)
  have h3 := h10 e (Nat.le_refl e)
  rw [sumN]
  rcases h2 with h | ⟨k, a1, a2, a3, a4⟩
  · split <;> omega
  · have h4 := h10 k (by omega)
    have hle : cntA (wcN v e) (e + 1) ≤ cntA (wcN v k) e := by
      rw [wc_more, wc_irr, if_neg (by decide), Nat.add_zero]
      refine cntA_mono (P := wcN v e) (Q := wcN v k) e (fun a ha q => ?_)
      simp only [wcN, Bool.or_eq_true, Bool.and_eq_true, decide_eq_true_eq] at q ⊢
      omega
    rw [if_pos (by omega)]
    omega
theorem sum_le {w : Nat → Nat} (h : ∀ i, i < e → v i ≤ w i) {m : Nat → Nat} (hm0 : m 0 = 0) (hm : ∀ i, m (i + 1) = m i + w i) : ∀ i, i ≤ e → sumN v d e i ≤ m i
  | 0, _ => by rw [hm0]; exact Nat.le_refl _
  | i + 1, hi => by
    have h1 := sum_le h hm0 hm i (by omega)
    have h2 := h i (by omega)
    rw [sumN, hm]
    split <;> omega
theorem sum_cong {v w : Nat → Nat} {d e : Nat} (h : ∀ i, i < e → v i = w i) : ∀ i, i ≤ e → sumN v d e i = sumN w d e i
  | 0, _ => rfl
  | i + 1, hi => by
    have hc : cntA (wcN v i) e = cntA (wcN w i) e := cntA_cong e (fun a ha => by unfold wcN; rw [h i (by omega), h a ha])
    rw [sumN, sumN, hc, sum_cong h i (by omega), h i (by omega)]
end WORSE
section STAND
variable {pl pt : Nat → Int32} {dr : Int32} {e : Nat}
theorem stT_tot {i j : Nat} (h : i ≠ j) : ∀ z, stT pl e i j z = true ∨ stT pl e j i z = true
  | 0 => by
    simp only [stT, Bool.not_eq_true', decide_eq_false_iff_not]
    omega
  | z + 1 => by
    rw [stT, stT]
    by_cases q : tmA pl e i (6 - (z + 1)) = tmA pl e j (6 - (z + 1))
    · rw [if_pos q, if_pos q.symm]
      exact stT_tot h z
    · rw [if_neg q, if_neg (fun q2 => q q2.symm)]
      simp only [Bool.not_eq_true', decide_eq_false_iff_not]
      omega
theorem stT_tr {i j k : Nat} : ∀ z, stT pl e i j z = true → stT pl e j k z = true → stT pl e i k z = true
  | 0 => by
    simp only [stT, Bool.not_eq_true', decide_eq_false_iff_not]
    omega
  | z + 1 => by
    rw [stT, stT, stT]
    by_cases q : tmA pl e i (6 - (z + 1)) = tmA pl e j (6 - (z + 1))
    · rw [if_pos q, q]
      by_cases q2 : tmA pl e j (6 - (z + 1)) = tmA pl e k (6 - (z + 1))
      · rw [if_pos q2, if_pos q2]
        exact stT_tr z
      · rw [if_neg q2, if_neg q2]
        exact fun _ h => h
    · rw [if_neg q]
      by_cases q2 : tmA pl e j (6 - (z + 1)) = tmA pl e k (6 - (z + 1))
      · rw [if_pos q2, ← q2, if_neg q]
        exact fun h _ => h
      · rw [if_neg q2]
        simp only [Bool.not_eq_true', decide_eq_false_iff_not]
        intro h1 h2
        rw [if_neg (by omega)]
        simp only [Bool.not_eq_true', decide_eq_false_iff_not]
        omega
theorem stB_iff (i j : Nat) : stB pl pt dr e i j = true ↔ (sumA pt dr j e e).toInt < (sumA pt dr i e e).toInt ∨ (sumA pt dr i e e = sumA pt dr j e e ∧ stT pl e i j 6 = true) := by
  unfold stB
  by_cases q : sumA pt dr i e e = sumA pt dr j e e
  · rw [if_pos q, q]
    constructor
    · exact fun h => Or.inr ⟨rfl, h⟩
    · rintro (h | h)
      · omega
      · exact h.2
  · rw [if_neg q, nle_iff]
    constructor
    · exact fun h => Or.inl h
    · rintro (h | h)
      · exact h
      · exact absurd h.1 q
theorem stB_stO (n : Nat) : stO (stB pl pt dr e) n := by
  refine ⟨fun i hi => ?_, fun i j hi hj hne => ?_, fun i j k hi hj hk h1 h2 => ?_⟩
  · unfold stB
    rw [if_pos rfl]
    exact stT_irr pl e i 6
  · rw [stB_iff, stB_iff]
    by_cases q : sumA pt dr i e e = sumA pt dr j e e
    · rcases stT_tot (pl := pl) (e := e) hne 6 with h | h
      · exact Or.inl (Or.inr ⟨q, h⟩)
      · exact Or.inr (Or.inr ⟨q.symm, h⟩)
    · have : (sumA pt dr i e e).toInt ≠ (sumA pt dr j e e).toInt := fun h => q (Int32.toInt_inj.mp h)
      rcases Int.lt_or_gt_of_ne this with h | h
      · exact Or.inr (Or.inl h)
      · exact Or.inl (Or.inl h)
  · rw [stB_iff] at h1 h2 ⊢
    rcases h1 with h1 | ⟨h1, h3⟩
    · rcases h2 with h2 | ⟨h2, h4⟩
      · exact Or.inl (by omega)
      · exact Or.inl (by rw [← h2]; exact h1)
    · rcases h2 with h2 | ⟨h2, h4⟩
      · exact Or.inl (by rw [h1]; exact h2)
      · exact Or.inr ⟨h1.trans h2, stT_tr 6 h3 h4⟩
/-- the kart with a place in the standing -/
theorem fs_is {c : Nat → Nat} {n q : Nat} (hi : ∀ a k, a < n → k < n → c a = c k → a = k) {k : Nat} (hk : k < n) (hq : c k = q) : ∀ i, k < i → i ≤ n → fsA c q i = k
  | 0, h, _ => absurd h (by omega)
  | i + 1, h, h2 => by
    rw [fsA]
    by_cases e : c i = q
    · rw [if_pos e]
      exact hi i k (by omega) hk (e.trans hq.symm)
    · rw [if_neg e]
      refine fs_is hi hk hq i ?_ (by omega)
      by_cases e2 : k = i
      · subst e2; exact absurd hq e
      · omega
end STAND
