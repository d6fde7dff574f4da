/-! ranks: a strict total order's insertion sort puts each kart at the number of those ahead -/
def stO (ah : Nat → Nat → Bool) (n : Nat) : Prop := (∀ i, i < n → ah i i = false) ∧ (∀ i j, i < n → j < n → i ≠ j → ah i j = true ∨ ah j i = true) ∧ ∀ i j k, i < n → j < n → k < n → ah i j = true → ah j k = true → ah i k = true
theorem stO_asym {ah : Nat → Nat → Bool} {n i j : Nat} (h : stO ah n) (hi : i < n) (hj : j < n) (h1 : ah i j = true) : ah j i = false := by
  cases q : ah j i
  · rfl
  · have := h.2.2 i j i hi hj hi h1 q
    rw [h.1 i hi] at this
    exact absurd this (by decide)
theorem stO_ne {ah : Nat → Nat → Bool} {n i j : Nat} (h : stO ah n) (hi : i < n) (h1 : ah i j = true) : i ≠ j := fun e => by
  subst e
  rw [h.1 i hi] at h1
  exact absurd h1 (by decide)
theorem cntA_mono {P Q : Nat → Bool} : ∀ i, (∀ a, a < i → P a = true → Q a = true) → cntA P i ≤ cntA Q i
  | 0, _ => Nat.le_refl _
  | i + 1, h => by
    have := cntA_mono (P := P) (Q := Q) i (fun a ha => h a (by omega))
    have h2 := h i (by omega)
    rw [cntA, cntA]
    by_cases e : P i = true
    · rw [if_pos e, if_pos (h2 e)]; omega
    · rw [if_neg e]; omega
theorem cntA_cong {P Q : Nat → Bool} : ∀ i, (∀ a, a < i → P a = Q a) → cntA P i = cntA Q i
  | 0, _ => rfl
  | i + 1, h => by rw [cntA, cntA, cntA_cong i (fun a ha => h a (by omega)), h i (by omega)]
theorem cntA_less {P Q : Nat → Bool} {k : Nat} : ∀ i, k < i → P k = false → Q k = true → (∀ a, a < i → P a = true → Q a = true) → cntA P i < cntA Q i
  | 0, h, _, _, _ => absurd h (by omega)
  | i + 1, h, h1, h2, h3 => by
    rw [cntA, cntA]
    by_cases e : k = i
    · subst e
      rw [if_neg (by rw [h1]; decide), if_pos h2]
      have := cntA_mono (P := P) (Q := Q) k (fun a ha => h3 a (by omega))
      omega
    · have := cntA_less (P := P) (Q := Q) i (by omega) h1 h2 (fun a ha => h3 a (by omega))
      have h4 := h3 i (by omega)
      by_cases e2 : P i = true
      · rw [if_pos e2, if_pos (h4 e2)]; omega
      · rw [if_neg e2]; omega
section SORT
variable {ah : Nat → Nat → Bool} {n : Nat}
/-- among the first i, k stands ahead of j: fewer are ahead of k -/
theorem cnt_lt (h : stO ah n) {i j k : Nat} (hi : i ≤ n) (hk : k < i) (hj : j < n) (h1 : ah k j = true) : cntA (fun a => ah a k) i < cntA (fun a => ah a j) i :=
  cntA_less (P := fun a => ah a k) (Q := fun a => ah a j) (k := k) i hk (h.1 k (by omega)) h1 (fun a ha q => h.2.2 a k j (by omega) (by omega) hj q h1)
theorem cnt_le (h : stO ah n) {i j k : Nat} (hi : i ≤ n) (hk : k < n) (hj : j < n) (h1 : ah k j = true) : cntA (fun a => ah a k) i ≤ cntA (fun a => ah a j) i :=
  cntA_mono (P := fun a => ah a k) (Q := fun a => ah a j) i (fun a ha q => h.2.2 a k j (by omega) (by omega) hj q h1)
def srt (ah : Nat → Nat → Bool) (ord : Nat → Int32) (i : Nat) : Prop := (∀ q, q < i → ∃ k, k < i ∧ ord q = nI k ∧ cntA (fun a => ah a k) i = q) ∧ ∀ k, k < i → ord (cntA (fun a => ah a k) i) = nI k
theorem insP_at {ord : Nat → Int32} {k : Nat} : ∀ p c, c ≤ p → (∀ q, c ≤ q → q < p → ah k (ord q).toNatClampNeg = true) → (∀ q, q < c → ah k (ord q).toNatClampNeg = false) → insP ah ord k p = c
  | 0, c, h, _, _ => by rw [insP]; omega
  | p + 1, c, h, h1, h2 => by
    rw [insP]
    by_cases e : c = p + 1
    · rw [h2 p (by omega), if_neg (by decide), e]
    · rw [h1 p (by omega) (by omega), if_pos rfl]
      exact insP_at p c (by omega) (fun q a b => h1 q a (by omega)) h2
theorem srt_s (h : stO ah n) (hn : n < 2 ^ 30) {ord : Nat → Int32} {i : Nat} (hi : i < n) (hs : srt ah ord i) : srt ah (insA ah ord i) (i + 1) := by
  have hci : cntA (fun a => ah a i) i ≤ i := cntA_le _ i
  have hP : insP ah ord i i = cntA (fun a => ah a i) i := by
    refine insP_at i _ hci (fun q h1 h2 => ?_) (fun q h1 => ?_)
    · obtain ⟨k, hk, e1, e2⟩ := hs.1 q h2
      rw [e1, nI_clamp (by omega)]
      rcases h.2.1 i k hi (by omega) (by omega) with r | r
      · exact r
      · have := cnt_lt h (i := i) (by omega) hk hi r
        omega
    · obtain ⟨k, hk, e1, e2⟩ := hs.1 q (by omega)
      rw [e1, nI_clamp (by omega)]
      cases r : ah i k
      · rfl
      · have := cnt_le h (i := i) (by omega) hi (by omega) r
        omega
  have hs1 : ∀ k, cntA (fun a => ah a k) (i + 1) = cntA (fun a => ah a k) i + (if ah i k = true then 1 else 0) := fun k => rfl
  have hsi : cntA (fun a => ah a i) (i + 1) = cntA (fun a => ah a i) i := by rw [hs1, h.1 i hi]; rfl
  have lt_of : ∀ k, k < i → cntA (fun a => ah a k) i < cntA (fun a => ah a i) i → ah i k = false := fun k hk hlt => by
    cases r : ah i k
    · rfl
    · have := cnt_le h (i := i) (by omega) hi (by omega) r
      omega
  have ge_of : ∀ k, k < i → cntA (fun a => ah a i) i ≤ cntA (fun a => ah a k) i → ah i k = true := fun k hk hge => by
    rcases h.2.1 i k hi (by omega) (by omega) with r | r
    · exact r
    · have := cnt_lt h (i := i) (by omega) hk hi r
      omega
  have hv : ∀ q, insA ah ord i q = if q = cntA (fun a => ah a i) i then nI i else if cntA (fun a => ah a i) i < q ∧ q ≤ i then ord (q - 1) else ord q := fun q => by
    unfold insA
    rw [hP]
    rfl
  generalize cntA (fun a => ah a i) i = P at hP hci hsi lt_of ge_of hv
  constructor
  · intro q hq
    rw [hv]
    by_cases e : q = P
    · rw [if_pos e]
      exact ⟨i, by omega, rfl, by rw [hsi, e]⟩
    · rw [if_neg e]
      by_cases e2 : P < q
      · rw [if_pos ⟨e2, by omega⟩]
        obtain ⟨k, hk, e3, e4⟩ := hs.1 (q - 1) (by omega)
        refine ⟨k, by omega, e3, ?_⟩
        rw [hs1, ge_of k hk (by omega), if_pos rfl, e4]
        omega
      · rw [if_neg (fun r => e2 r.1)]
        obtain ⟨k, hk, e3, e4⟩ := hs.1 q (by omega)
        refine ⟨k, by omega, e3, ?_⟩
        rw [hs1, lt_of k hk (by omega), if_neg (by decide), e4]
        rfl
  · intro k hk
    by_cases e : k = i
    · subst e
      rw [hsi, hv, if_pos rfl]
    · have hki : k < i := by omega
      have hcl : cntA (fun a => ah a k) i < i := cntA_lt hki (h.1 k (by omega))
      rw [hs1]
      by_cases e2 : cntA (fun a => ah a k) i < P
      · rw [lt_of k hki e2, if_neg (by decide), hv, if_neg (by omega), if_neg (by omega)]
        exact hs.2 k hki
      · rw [ge_of k hki (by omega), if_pos rfl, hv, if_neg (by omega), if_pos ⟨by omega, by omega⟩]
        exact hs.2 k hki
theorem srt_all (h : stO ah n) (hn : n < 2 ^ 30) (ord : Nat → Int32) : ∀ i, i ≤ n → srt ah (ordA ah ord i) i
  | 0, _ => ⟨fun q hq => absurd hq (by omega), fun k hk => absurd hk (by omega)⟩
  | i + 1, hi => srt_s h hn (by omega) (srt_all h hn ord i (by omega))
theorem rr_all (h : stO ah n) (hn : n < 2 ^ 30) (ord rr : Nat → Int32) : ∀ i, i ≤ n → ∀ k, k < n → cntA (fun a => ah a k) n < i → rrA (ordA ah ord n) rr i k = nI (cntA (fun a => ah a k) n)
  | 0, _, k, _, hc => absurd hc (by omega)
  | i + 1, hi, k, hk, hc => by
    obtain ⟨j, hj, e1, e2⟩ := (srt_all h hn ord n (Nat.le_refl n)).1 i (by omega)
    rw [rrA, e1, nI_clamp (by omega)]
    by_cases e : k = j
    · subst e
      rw [pk_us, e2]
    · have q : upd (rrA (ordA ah ord n) rr i) j (nI i) k = rrA (ordA ah ord n) rr i k := if_neg e
      rw [q]
      refine rr_all h hn ord rr i (by omega) k hk ?_
      rcases Nat.lt_or_ge (cntA (fun a => ah a k) n) i with r | r
      · exact r
      · have hci : cntA (fun a => ah a k) n = i := by omega
        have h1 := (srt_all h hn ord n (Nat.le_refl n)).2 k hk
        rw [hci, e1] at h1
        exact absurd ((nI_eq (by omega) (by omega)).mp h1).symm e
/-- the row of ranks -/
theorem rr_is (h : stO ah n) (hn : n < 2 ^ 30) (ord rr : Nat → Int32) {k : Nat} (hk : k < n) : rrA (ordA ah ord n) rr n k = nI (cntA (fun a => ah a k) n) :=
  rr_all h hn ord rr n (Nat.le_refl n) k hk (cntA_lt hk (h.1 k hk))
/-- some kart leads -/
theorem ld_is (h : stO ah n) (hn : n < 2 ^ 30) (h0 : 0 < n) : ∃ k, k < n ∧ cntA (fun a => ah a k) n = 0 := by
  obtain ⟨k, hk, -, e⟩ := (srt_all h hn (fun _ => 0) n (Nat.le_refl n)).1 0 h0
  exact ⟨k, hk, e⟩
end SORT
