/-! ways and rests: what the class measures and what the model finds is the same -/
theorem nI_neg {a : Nat} (h : a < 2 ^ 31) : ¬ nI a = -1 := by
  intro e
  have h1 := nI_toInt h
  rw [e] at h1
  have : (-1 : Int32).toInt = -1 := by decide
  omega
/-- the ways: lengths 1 to 100, to greater gates or to the line -/
def wOk (len : Nat → Int32) (g : Nat) : Prop := ∀ x y, x < 12 → y < 12 → ∃ w : Nat, len (x * 12 + y) = nI w ∧ w ≤ 100 ∧ (0 < w → (x < y ∨ (y = 0 ∧ 0 < x)) ∧ x < g ∧ y < g)
/-- a rest: none, or a length -/
def rVal (x : Int32) (a : Nat) : Prop := x = -1 ∨ ∃ v : Nat, x = nI v ∧ 1 ≤ v ∧ v ≤ 100 * (12 - a)
theorem wOk_ld {len : Nat → Int32} {g x y w : Nat} (h : len (x * 12 + y) = nI w) (hw : w ≤ 100) : ldB len x y = decide (0 < w) := by
  unfold ldB
  rw [h]
  by_cases e : 0 < w
  · rw [decide_eq_true e, decide_eq_false]; rfl
    intro q
    have := (nI_leI (b := 0) (by omega) (by decide)).mp q
    omega
  · rw [decide_eq_false e, decide_eq_true]; rfl
    have : w = 0 := by omega
    subst this
    decide
section REST
variable {len R R' : Nat → Int32} {g a : Nat}
theorem fr_lo (hw : wOk len g) (hg : g ≤ 12) (ha : a < g) : ∀ j, 1 ≤ j → j ≤ a + 1 → frA len R a j = frA len R a 1
  | 0, h, _ => absurd h (by omega)
  | j + 1, _, h2 => by
    rcases Nat.eq_zero_or_pos j with e | e
    · subst e; rfl
    · obtain ⟨w, h3, h4, h5⟩ := hw a j (by omega) (by omega)
      have hz : w = 0 := by
        rcases Nat.eq_zero_or_pos w with q | q
        · exact q
        · have := h5 q; omega
      subst hz
      have hi : itsA len R a j = -1 := by
        unfold itsA
        exact if_pos (Or.inl h3)
      rw [frA, if_pos hi]
      exact fr_lo hw hg ha j e (by omega)
theorem fr_1 (hw : wOk len g) (hg : g ≤ 12) (ha : a < g) : frA len R a 1 = lrA len R' a 0 ∧ rVal (lrA len R' a 0) a := by
  obtain ⟨w, h3, h4, h5⟩ := hw a 0 (by omega) (by omega)
  have h3' : len (a * 12) = nI w := h3
  rw [frA, frA, lrA, wOk_ld (g := g) h3 h4]
  have hi : itsA len R a 0 = if w = 0 then -1 else nI w := by
    unfold itsA
    rw [h3]
    by_cases e : w = 0
    · subst e
      rfl
    · rw [if_neg (fun q => q.elim (fun q => e ((nI_eq (by omega) (by decide)).mp (q.trans nI_0.symm))) (fun q => absurd q.1 (by omega))), if_neg (by omega), if_neg e]
  rw [hi]
  by_cases e : w = 0
  · subst e
    exact ⟨rfl, Or.inl rfl⟩
  · rw [if_neg e, if_neg (nI_neg (by omega)), if_pos (Or.inl rfl), if_pos (decide_eq_true (by omega)), h3]
    exact ⟨rfl, Or.inr ⟨w, rfl, by omega, by omega⟩⟩
theorem fr_lr (hw : wOk len g) (hg : g ≤ 12) (ha : a < g) (hR : ∀ j, a < j → j < g → R j = R' j ∧ rVal (R' j) j) : ∀ k, a + 1 + k ≤ g → frA len R a (a + 1 + k) = lrA len R' a k ∧ rVal (lrA len R' a k) a
  | 0, _ => by
    rw [show a + 1 + 0 = a + 1 from rfl, fr_lo hw hg ha (a + 1) (by omega) (by omega)]
    exact fr_1 hw hg ha
  | k + 1, h => by
    obtain ⟨ih1, ih2⟩ := fr_lr hw hg ha hR k (by omega)
    obtain ⟨w, h3, h4, h5⟩ := hw a (a + 1 + k) (by omega) (by omega)
    obtain ⟨hr1, hr2⟩ := hR (a + 1 + k) (by omega) (by omega)
    rw [show a + 1 + (k + 1) = (a + 1 + k) + 1 from rfl, frA, lrA, wOk_ld (g := g) h3 h4, ih1]
    generalize lrA len R' a k = z at ih2 ⊢
    have hi : itsA len R a (a + 1 + k) = if len (a * 12 + (a + 1 + k)) = 0 ∨ R' (a + 1 + k) = -1 then -1 else len (a * 12 + (a + 1 + k)) + R' (a + 1 + k) := by
      unfold itsA
      rw [hr1]
      by_cases q : len (a * 12 + (a + 1 + k)) = 0 ∨ R' (a + 1 + k) = -1
      · rw [if_pos q, if_pos (q.elim Or.inl (fun q => Or.inr ⟨by omega, q⟩))]
      · rw [if_neg q, if_neg (fun h9 => q (h9.elim Or.inl (fun h8 => Or.inr h8.2))), if_pos (by omega)]
    by_cases e : w = 0
    · subst e
      rw [if_pos (hi.trans (if_pos (Or.inl (h3.trans nI_0)))), if_neg (fun q => absurd q.1 (by decide))]
      exact ⟨rfl, ih2⟩
    · rcases hr2 with e2 | ⟨v, e2, hv1, hv2⟩
      · rw [if_pos (hi.trans (if_pos (Or.inr e2))), if_neg (fun q => q.2 e2)]
        exact ⟨rfl, ih2⟩
      · have hs : len (a * 12 + (a + 1 + k)) + R' (a + 1 + k) = nI (w + v) := by rw [h3, e2, nI_add]
        have hne : ¬ R' (a + 1 + k) = -1 := by rw [e2]; exact nI_neg (by omega)
        have hl : ¬ len (a * 12 + (a + 1 + k)) = 0 := fun q => e ((nI_eq (by omega) (by decide)).mp (h3.symm.trans (q.trans nI_0.symm)))
        rw [if_neg (fun q => q.elim hl hne), hs] at hi
        have hp : decide (0 < w) = true ∧ ¬ R' (a + 1 + k) = -1 := ⟨decide_eq_true (by omega), hne⟩
        rw [hi, hs, if_neg (nI_neg (show w + v < 2 ^ 31 by omega)), if_pos hp]
        have hv : rVal (nI (w + v)) a := Or.inr ⟨w + v, rfl, by omega, by omega⟩
        by_cases e3 : z = -1
        · rw [if_pos (Or.inl e3), if_pos e3]
          exact ⟨rfl, hv⟩
        · rw [if_neg e3]
          by_cases e4 : nI (w + v) < z
          · rw [if_pos (Or.inr e4), if_pos e4]
            exact ⟨rfl, hv⟩
          · rw [if_neg (fun q => q.elim e3 e4), if_neg e4]
            exact ⟨rfl, ih2⟩
theorem mo_mr (hw : wOk len g) (hg : g ≤ 12) (r1 r2 : Nat → Int32) : ∀ k, k ≤ g → ∀ a, g - k ≤ a → a < g → moA len r1 g k a = mrA len r2 g k a ∧ rVal (mrA len r2 g k a) a
  | 0, _, a, h1, h2 => absurd h1 (by omega)
  | k + 1, hk, a, h1, h2 => by
    rw [moA, mrA]
    by_cases e : a = g - 1 - k
    · subst e
      rw [pk_us, pk_us]
      have := fr_lr (R := moA len r1 g k) (R' := mrA len r2 g k) hw hg h2 (fun j q1 q2 => mo_mr hw hg r1 r2 k (by omega) j (by omega) q2) k (by omega)
      rw [show g - 1 - k + 1 + k = g by omega] at this
      exact this
    · have q1 : upd (moA len r1 g k) (g - 1 - k) (frA len (moA len r1 g k) (g - 1 - k) g) a = moA len r1 g k a := if_neg e
      have q2 : upd (mrA len r2 g k) (g - 1 - k) (lrA len (mrA len r2 g k) (g - 1 - k) k) a = mrA len r2 g k a := if_neg e
      rw [q1, q2]
      exact mo_mr hw hg r1 r2 k (by omega) a (by omega) h2
/-- what the model finds, whatever lay in the row -/
theorem mo_mo (hw : wOk len g) (hg : g ≤ 12) (r1 r2 : Nat → Int32) (ha : a < g) : moA len r1 g g a = moA len r2 g g a :=
  ((mo_mr hw hg r1 r1 g (Nat.le_refl _) a (by omega) ha).1).trans ((mo_mr hw hg r2 r1 g (Nat.le_refl _) a (by omega) ha).1).symm
theorem mo_val (hw : wOk len g) (hg : g ≤ 12) (r1 : Nat → Int32) (ha : a < g) : rVal (moA len r1 g g a) a := by
  rw [(mo_mr hw hg r1 r1 g (Nat.le_refl _) a (by omega) ha).1]
  exact (mo_mr hw hg r1 r1 g (Nat.le_refl _) a (by omega) ha).2
/-- some gate has no way on: just then some rest is none -/
theorem lr_ne (hw : wOk len g) (hg : g ≤ 12) (ha : a < g) (hR : ∀ j, a < j → j < g → rVal (R j) j) : ∀ k, a + 1 + k ≤ g → (ldB len a 0 = true ∨ ∃ i, i < k ∧ ldB len a (a + 1 + i) = true ∧ ¬ R (a + 1 + i) = -1) → ¬ lrA len R a k = -1
  | 0, _, h => by
    rcases h with h | ⟨i, h, _⟩
    · obtain ⟨w, h3, h4, h5⟩ := hw a 0 (by omega) (by omega)
      rw [lrA, if_pos h, h3]
      exact nI_neg (by omega)
    · exact absurd h (by omega)
  | k + 1, hk, h => by
    have ih := lr_ne hw hg ha hR k (by omega)
    obtain ⟨w, h3, h4, h5⟩ := hw a (a + 1 + k) (by omega) (by omega)
    have hr := hR (a + 1 + k) (by omega) (by omega)
    rw [lrA]
    by_cases c : ldB len a (a + 1 + k) = true ∧ ¬ R (a + 1 + k) = -1
    · rw [if_pos c]
      rcases hr with e2 | ⟨v, e2, hv1, hv2⟩
      · exact absurd e2 c.2
      · have hs : len (a * 12 + (a + 1 + k)) + R (a + 1 + k) = nI (w + v) := by rw [h3, e2, nI_add]
        rw [hs]
        have hn : ¬ nI (w + v) = -1 := nI_neg (by omega)
        split
        · exact hn
        · rename_i h9
          split
          · exact hn
          · exact h9
    · rw [if_neg c]
      refine ih ?_
      rcases h with h | ⟨i, h1, h2⟩
      · exact Or.inl h
      · rcases Nat.lt_or_ge i k with q | q
        · exact Or.inr ⟨i, q, h2⟩
        · have : i = k := by omega
          subst this
          exact absurd h2 c
theorem lr_no (h : ∀ t, t < g → ldB len a t = false) (ha : a < g) : ∀ k, a + 1 + k ≤ g → lrA len R a k = -1
  | 0, _ => by rw [lrA, h 0 (by omega)]; rfl
  | k + 1, hk => by rw [lrA, h (a + 1 + k) (by omega), if_neg (fun q => absurd q.1 (by decide))]; exact lr_no h ha k (by omega)
theorem mr_ne (hw : wOk len g) (hg : g ≤ 12) (r : Nat → Int32) (h : ∀ a, a < g → ldOn len g a = true) : ∀ k, k ≤ g → ∀ a, g - k ≤ a → a < g → ¬ mrA len r g k a = -1
  | 0, _, a, h1, h2 => absurd h1 (by omega)
  | k + 1, hk, a, h1, h2 => by
    rw [mrA]
    by_cases e : a = g - 1 - k
    · subst e
      rw [pk_us]
      refine lr_ne hw hg h2 (fun j q1 q2 => (mo_mr hw hg r r k (by omega) j (by omega) q2).2) k (by omega) ?_
      have h9 := h (g - 1 - k) h2
      unfold ldOn at h9
      obtain ⟨t, ht, hl⟩ := List.any_eq_true.mp h9
      have ht := List.mem_range.mp ht
      obtain ⟨w, h3, h4, h5⟩ := hw (g - 1 - k) t (by omega) (by omega)
      have hl2 : 0 < w := by
        rw [wOk_ld (g := g) h3 h4] at hl
        exact of_decide_eq_true hl
      have h6 := h5 hl2
      rcases Nat.eq_zero_or_pos t with e0 | e0
      · subst e0; exact Or.inl hl
      · refine Or.inr ⟨t - (g - 1 - k) - 1, by omega, ?_⟩
        rw [show g - 1 - k + 1 + (t - (g - 1 - k) - 1) = t by omega]
        exact ⟨hl, mr_ne hw hg r h k (by omega) t (by omega) ht⟩
    · have q2 : upd (mrA len r g k) (g - 1 - k) (lrA len (mrA len r g k) (g - 1 - k) k) a = mrA len r g k a := if_neg e
      rw [q2]
      exact mr_ne hw hg r h k (by omega) a (by omega) h2
theorem mr_no (r : Nat → Int32) (h : ldOn len g a = false) (ha : a < g) : ∀ k, k ≤ g → g - k ≤ a → mrA len r g k a = -1
  | 0, _, h1 => absurd h1 (by omega)
  | k + 1, hk, h1 => by
    rw [mrA]
    by_cases e : a = g - 1 - k
    · subst e
      rw [pk_us]
      refine lr_no (fun t ht => ?_) ha k (by omega)
      unfold ldOn at h
      rw [List.any_eq_false] at h
      have := h t (List.mem_range.mpr ht)
      cases q : ldB len (g - 1 - k) t
      · rfl
      · exact absurd q this
    · have q2 : upd (mrA len r g k) (g - 1 - k) (lrA len (mrA len r g k) (g - 1 - k) k) a = mrA len r g k a := if_neg e
      rw [q2]
      exact mr_no r h ha k (by omega) (by omega)
theorem isA_t {r : Nat → Int32} : ∀ i, (∀ a, a < i → ¬ r a = -1) → isA r i = true
  | 0, _ => rfl
  | i + 1, h => by
    rw [isA, isA_t i (fun a ha => h a (by omega)), decide_eq_false (h i (by omega))]
    rfl
theorem isA_f {r : Nat → Int32} : ∀ i a, a < i → r a = -1 → isA r i = false
  | 0, a, h, _ => absurd h (by omega)
  | i + 1, a, h, e => by
    rw [isA]
    rcases Nat.lt_or_ge a i with q | q
    · rw [isA_f i a q e]; rfl
    · have : a = i := by omega
      subst this
      rw [decide_eq_true e, Bool.and_comm]; rfl
theorem dead_is (hw : wOk len g) (hg : g ≤ 12) (r : Nat → Int32) : isA (moA len r g g) g = !deadB len g := by
  cases hd : deadB len g
  · refine isA_t g (fun a ha => ?_)
    rw [(mo_mr hw hg r r g (Nat.le_refl _) a (by omega) ha).1]
    refine mr_ne hw hg r (fun t ht => ?_) g (Nat.le_refl _) a (by omega) ha
    unfold deadB at hd
    rw [List.any_eq_false] at hd
    have := hd t (List.mem_range.mpr ht)
    cases q : ldOn len g t
    · rw [q] at this; exact absurd rfl this
    · rfl
  · unfold deadB at hd
    obtain ⟨t, ht, hl⟩ := List.any_eq_true.mp hd
    have ht := List.mem_range.mp ht
    have hl2 : ldOn len g t = false := by cases q : ldOn len g t; rfl; rw [q] at hl; exact absurd hl (by decide)
    refine isA_f g t ht ?_
    rw [(mo_mr hw hg r r g (Nat.le_refl _) t (by omega) ht).1]
    exact mr_no r hl2 ht g (Nat.le_refl _) (by omega)
end REST
