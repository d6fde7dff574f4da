/-! the rests as a fixed point; the order of the karts is strict and total -/
def FX (len R : Nat → Int32) (g : Nat) : Prop := ∀ a, a < g → R a = frA len R a g
section FXS
variable {len R R' r : Nat → Int32} {g : Nat}
theorem fr_g (hw : wOk len g) (hg : g ≤ 12) {a : Nat} (ha : a < g) (hR : ∀ j, a < j → j < g → R j = R' j ∧ rVal (R' j) j) : frA len R a g = lrA len R' a (g - 1 - a) ∧ rVal (lrA len R' a (g - 1 - a)) a := by
  have := fr_lr hw hg ha hR (g - 1 - a) (by omega)
  rw [show a + 1 + (g - 1 - a) = g by omega] at this
  exact this
theorem FX_uni (hw : wOk len g) (hg : g ≤ 12) (h1 : FX len R g) (h2 : FX len R' g) : ∀ k, k ≤ g → ∀ a, g - k ≤ a → a < g → R a = R' a ∧ rVal (R' a) a
  | 0, _, a, q1, q2 => absurd q1 (by omega)
  | k + 1, hk, a, q1, q2 => by
    have ih := FX_uni hw hg h1 h2 k (by omega)
    have e1 := fr_g hw hg q2 (R := R) (R' := R') (fun j p1 p2 => ih j (by omega) p2)
    have e2 := fr_g hw hg q2 (R := R') (R' := R') (fun j p1 p2 => ⟨rfl, (ih j (by omega) p2).2⟩)
    rw [h1 a q2, h2 a q2, e1.1, e2.1]
    exact ⟨rfl, e1.2⟩
theorem FX_eq (hw : wOk len g) (hg : g ≤ 12) (h1 : FX len R g) (h2 : FX len R' g) {a : Nat} (ha : a < g) : R a = R' a := (FX_uni hw hg h1 h2 g (Nat.le_refl _) a (by omega) ha).1
theorem FX_val (hw : wOk len g) (hg : g ≤ 12) (h1 : FX len R g) {a : Nat} (ha : a < g) : rVal (R a) a := (FX_uni hw hg h1 h1 g (Nat.le_refl _) a (by omega) ha).2
theorem FX_of (hw : wOk len g) (hg : g ≤ 12) (h1 : FX len R g) (h : ∀ a, a < g → R' a = R a) : FX len R' g := by
  intro a ha
  rw [h a ha, h1 a ha]
  have e1 := fr_g hw hg ha (R := R) (R' := R) (fun j _ p2 => ⟨rfl, FX_val hw hg h1 p2⟩)
  have e2 := fr_g hw hg ha (R := R') (R' := R) (fun j _ p2 => ⟨h j p2, FX_val hw hg h1 p2⟩)
  rw [e1.1, e2.1]
theorem mo_stay : ∀ j k, k + j ≤ g → ∀ a, g - k ≤ a → a < g → moA len r g (k + j) a = moA len r g k a
  | 0, k, _, a, _, _ => rfl
  | j + 1, k, hk, a, h1, h2 => by
    rw [show k + (j + 1) = (k + j) + 1 from rfl, moA]
    have q : upd (moA len r g (k + j)) (g - 1 - (k + j)) (frA len (moA len r g (k + j)) (g - 1 - (k + j)) g) a = moA len r g (k + j) a := if_neg (by omega)
    rw [q]
    exact mo_stay j k (by omega) a h1 h2
theorem FX_mo (hw : wOk len g) (hg : g ≤ 12) (r : Nat → Int32) : FX len (moA len r g g) g := by
  intro a ha
  have h1 : moA len r g g a = frA len (moA len r g (g - 1 - a)) a g := by
    have h2 := mo_stay (len := len) (r := r) (g := g) a (g - a) (by omega) a (by omega) ha
    rw [show g - a + a = g by omega] at h2
    rw [h2, show g - a = (g - 1 - a) + 1 by omega, moA, show g - 1 - (g - 1 - a) = a by omega, pk_us]
  rw [h1]
  have hv : ∀ j, a < j → j < g → moA len r g (g - 1 - a) j = moA len r g g j ∧ rVal (moA len r g g j) j := fun j p1 p2 => by
    have h2 := mo_stay (len := len) (r := r) (g := g) (a + 1) (g - 1 - a) (by omega) j (by omega) p2
    rw [show g - 1 - a + (a + 1) = g by omega] at h2
    exact ⟨h2.symm, mo_val hw hg r p2⟩
  have e1 := fr_g hw hg ha (R := moA len r g (g - 1 - a)) (R' := moA len r g g) hv
  have e2 := fr_g hw hg ha (R := moA len r g g) (R' := moA len r g g) (fun j p1 p2 => ⟨rfl, (hv j p1 p2).2⟩)
  rw [e1.1, e2.1]
theorem FX_mr (hw : wOk len g) (hg : g ≤ 12) (r : Nat → Int32) : FX len (mrA len r g g) g :=
  FX_of hw hg (FX_mo hw hg r) (fun a ha => ((mo_mr hw hg r r g (Nat.le_refl _) a (by omega) ha).1).symm)
/-- a gate more, with no ways -/
theorem wOk_s (hw : wOk len g) : wOk len (g + 1) := by
  intro x y hx hy
  obtain ⟨w, h1, h2, h3⟩ := hw x y hx hy
  exact ⟨w, h1, h2, fun q => by have := h3 q; omega⟩
theorem fr_no {a9 : Nat} (h : ∀ j, j < g → len (a9 * 12 + j) = 0) : ∀ j, j ≤ g → frA len R a9 j = -1
  | 0, _ => rfl
  | j + 1, hj => by
    have hi : itsA len R a9 j = -1 := by
      unfold itsA
      exact if_pos (Or.inl (h j (by omega)))
    rw [frA, if_pos hi]
    exact fr_no h j (by omega)
theorem fr_upd {a : Nat} {v : Int32} (h : len (a * 12 + g) = 0) : ∀ j, j ≤ g → frA len (upd R g v) a j = frA len R a j
  | 0, _ => rfl
  | j + 1, hj => by
    have hi : itsA len (upd R g v) a j = itsA len R a j := by
      unfold itsA
      have : upd R g v j = R j := if_neg (by omega)
      rw [this]
    rw [frA, frA, hi, fr_upd h j (by omega)]
theorem FX_s (hw : wOk len g) (hg : g < 12) (h : FX len R g) : FX len (upd R g (-1)) (g + 1) := by
  have hz : ∀ x y, x < 12 → y < 12 → (g ≤ x ∨ g ≤ y) → len (x * 12 + y) = 0 := fun x y hx hy hq => by
    obtain ⟨w, h1, h2, h3⟩ := hw x y hx hy
    rcases Nat.eq_zero_or_pos w with e | e
    · rw [h1, e]; rfl
    · have := h3 e; omega
  intro a ha
  by_cases e : a = g
  · subst e
    rw [pk_us, fr_no (g := a + 1) (fun j hj => hz a j (by omega) (by omega) (Or.inl (Nat.le_refl _))) (a + 1) (Nat.le_refl _)]
  · have q : upd R g (-1) a = R a := if_neg e
    have hl := hz a g (by omega) (by omega) (Or.inr (Nat.le_refl _))
    have hi : itsA len (upd R g (-1)) a g = -1 := by
      unfold itsA
      exact if_pos (Or.inl hl)
    rw [q, frA, if_pos hi, fr_upd hl g (Nat.le_refl _)]
    exact h a (by omega)
end FXS
theorem nle_iff (a b : Int32) : (!decide (a ≤ b)) = true ↔ b.toInt < a.toInt := by
  rw [Bool.not_eq_true', decide_eq_false_iff_not, Int32.le_iff_toInt_le]
  omega
section ORD
def ahX (f : Nat → Bool) (nt rs mo : Nat → Int32) (i j : Nat) : Bool :=
  if f i = true ∨ f j = true then f i && (!f j || !decide (mo j ≤ mo i))
  else if ¬ nt i = nt j then !decide (nt i ≤ nt j)
  else if ¬ rs i = rs j then !decide (rs j ≤ rs i)
  else if ¬ mo i = mo j then !decide (mo j ≤ mo i)
  else !decide (j ≤ i)
variable {f : Nat → Bool} {nt rs mo : Nat → Int32} {n : Nat}
theorem ahX_iff (i j : Nat) : ahX f nt rs mo i j = true ↔ (f i = true ∧ (f j = false ∨ (mo i).toInt < (mo j).toInt)) ∨ (f i = false ∧ f j = false ∧ ((nt j).toInt < (nt i).toInt ∨ ((nt i).toInt = (nt j).toInt ∧ ((rs i).toInt < (rs j).toInt ∨ ((rs i).toInt = (rs j).toInt ∧ ((mo i).toInt < (mo j).toInt ∨ ((mo i).toInt = (mo j).toInt ∧ i < j))))))) := by
  unfold ahX
  cases hi : f i <;> cases hj : f j
  · rw [if_neg (by decide)]
    have N : ∀ x y : Int32, ¬ x = y → x.toInt ≠ y.toInt := fun x y h e => h (Int32.toInt_inj.mp e)
    by_cases e1 : nt i = nt j
    · rw [if_neg (not_not_intro e1)]
      by_cases e2 : rs i = rs j
      · rw [if_neg (not_not_intro e2)]
        by_cases e3 : mo i = mo j
        · rw [if_neg (not_not_intro e3), e1, e2, e3, Bool.not_eq_true', decide_eq_false_iff_not]
          simp
        · rw [if_pos e3, nle_iff, e1, e2]
          have := N _ _ e3
          simp
          omega
      · rw [if_pos e2, nle_iff, e1]
        have := N _ _ e2
        simp
        omega
    · rw [if_pos e1, nle_iff]
      have := N _ _ e1
      simp
      omega
  · rw [if_pos (Or.inr rfl)]; simp
  · rw [if_pos (Or.inl rfl)]; simp
  · rw [if_pos (Or.inl rfl), Bool.true_and, Bool.not_true, Bool.false_or, nle_iff]; simp
theorem ahX_stO (hd : ∀ i j, i < n → j < n → i ≠ j → f i = true → f j = true → (mo i).toInt ≠ (mo j).toInt) : stO (ahX f nt rs mo) n := by
  refine ⟨fun i hi => ?_, fun i j hi hj hne => ?_, fun i j k hi hj hk h1 h2 => ?_⟩
  · cases q : ahX f nt rs mo i i
    · rfl
    · rw [ahX_iff] at q
      cases f i <;> simp at q
  · rw [ahX_iff, ahX_iff]
    have := hd i j hi hj hne
    cases hfi : f i <;> cases hfj : f j <;> simp [hfi, hfj] at this ⊢ <;> omega
  · rw [ahX_iff] at h1 h2 ⊢
    cases hfi : f i <;> cases hfj : f j <;> cases hfk : f k <;> simp [hfi, hfj, hfk] at h1 h2 ⊢ <;> omega
end ORD
theorem ahB_X (σ : St) (i j : Nat) : ahB σ 4 i j = ahX (finB σ 4) (netA σ 4) (rstA σ 4) (σ 9) i j := rfl
