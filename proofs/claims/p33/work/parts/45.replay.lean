def rcEq (τ : St) (B' : Nat) (σ : St) (B : Nat) : Prop := (∀ c, 1 ≤ c → c ≤ 5 → ∀ k, k < 6 → τ (B' + c) k = σ (B + c) k) ∧ τ B' 8 = σ B 8 ∧ τ B' 9 = σ B 9 ∧ τ B' 10 = σ B 10
/-! the record told again gives the race's numbers -/
section RCE
variable {τ σ : St} {B' B : Nat}
theorem rcU (hB' : rB B') (hB : rB B) (h : rcEq τ B' σ B) {c : Nat} (h1 : 1 ≤ c) (h5 : c ≤ 5) (k : Nat) {v w : Int32} (hv : v = w) : rcEq (upA τ (B' + c) (upd (τ (B' + c)) k v)) B' (upA σ (B + c) (upd (σ (B + c)) k w)) B := by
  subst hv
  refine ⟨fun d d1 d5 j hj => ?_, ?_, ?_, ?_⟩
  · by_cases e : d = c
    · subst e
      rw [upA_s, upA_s]
      unfold upd
      split
      · rfl
      · exact h.1 d d1 d5 j hj
    · rw [upA_n (by omega), upA_n (by omega)]
      exact h.1 d d1 d5 j hj
  · rw [upA_n (by omega), upA_n (by omega)]; exact h.2.1
  · rw [upA_n (by omega), upA_n (by omega)]; exact h.2.2.1
  · rw [upA_n (by omega), upA_n (by omega)]; exact h.2.2.2
theorem rcU2 (hB' : rB B') (hB : rB B) (h : rcEq τ B' σ B) {c d : Nat} (h1 : 1 ≤ c) (h5 : c ≤ 5) (d1 : 1 ≤ d) (d5 : d ≤ 5) (hne : d ≠ c) (k : Nat) {v w v' w' : Int32} (hv : v = w) (hv' : v' = w') :
    rcEq (upA (upA τ (B' + c) (upd (τ (B' + c)) k v)) (B' + d) (upd (τ (B' + d)) k v')) B' (upA (upA σ (B + c) (upd (σ (B + c)) k w)) (B + d) (upd (σ (B + d)) k w')) B := by
  have := rcU hB' hB (rcU hB' hB h h1 h5 k hv) d1 d5 k hv'
  rw [upA_n (show B' + d ≠ B' + c by omega), upA_n (show B + d ≠ B + c by omega)] at this
  exact this
theorem rc_mv0 (hB' : rB B') (hB : rB B) (h : rcEq τ B' σ B) (k t : Nat) : rcEq (mv0 τ B' k t) B' (mv0 σ B k t) B := by
  have h0 : rcEq (upA τ B' (upd (τ B') 10 (τ B' 10 + 1))) B' (upA σ B (upd (σ B) 10 (σ B 10 + 1))) B := by
    refine ⟨fun d d1 d5 j hj => ?_, ?_, ?_, ?_⟩
    · rw [upA_n (by omega), upA_n (by omega)]; exact h.1 d d1 d5 j hj
    · rw [upA_s, upA_s]; exact h.2.1
    · rw [upA_s, upA_s]; exact h.2.2.1
    · rw [upA_s, upA_s, pk_us, pk_us, h.2.2.2]
  have h1 := rcU2 hB' hB h0 (c := 5) (d := 1) (by decide) (by decide) (by decide) (by decide) (by decide) k (v := τ B' 10 + 1) (w := σ B 10 + 1) (by rw [h.2.2.2]) (v' := nI t) (w' := nI t) rfl
  rw [upA_n (show B' + 5 ≠ B' by omega), upA_n (show B' + 1 ≠ B' by omega), upA_n (show B + 5 ≠ B by omega), upA_n (show B + 1 ≠ B by omega)] at h1
  exact h1
theorem rc_cr (hB' : rB B') (hB : rB B) (h : rcEq τ B' σ B) (hn : τ 1 3 = σ 1 3) {k : Nat} (hk : k < 6) : rcEq (crS τ B' k) B' (crS σ B k) B ∧ crR τ B' k = crR σ B k := by
  have e2 := h.1 2 (by decide) (by decide) k hk
  have e3 := h.1 3 (by decide) (by decide) k hk
  have e4 := h.1 4 (by decide) (by decide) k hk
  have em : misA τ B' k = misA σ B k := by unfold misA; rw [hn, e4]
  unfold crS crR
  rw [e3, em, e2, h.2.2.1]
  by_cases c1 : σ (B + 3) k ≤ 0
  · rw [if_pos c1, if_pos c1, if_pos c1]
    by_cases c2 : misA σ B k = 0
    · rw [if_pos c2, if_pos c2, if_pos c2]
      exact ⟨rcU2 hB' hB h (c := 4) (d := 2) (by decide) (by decide) (by decide) (by decide) (by decide) k rfl rfl, rfl⟩
    · rw [if_neg c2, if_neg c2, if_neg c2]
      exact ⟨rcU hB' hB h (c := 4) (by decide) (by decide) k rfl, rfl⟩
  · rw [if_neg c1, if_neg c1, if_neg c1]
    exact ⟨rcU2 hB' hB h (c := 4) (d := 3) (by decide) (by decide) (by decide) (by decide) (by decide) k rfl rfl, rfl⟩
theorem rc_rg (hB' : rB B') (hB : rB B) (h : rcEq τ B' σ B) (hn : τ 1 3 = σ 1 3) {k : Nat} (t : Nat) (hk : k < 6) : rcEq (rgS τ B' k t) B' (rgS σ B k t) B := by
  have e3 := h.1 3 (by decide) (by decide) k hk
  have e4 := h.1 4 (by decide) (by decide) k hk
  by_cases c : rgC σ B k t
  · have c' : rgC τ B' k t := by unfold rgC at c ⊢; rw [hn, e3]; exact c
    rw [← rgS_t c.1 c.2, ← rgS_t c'.1 c'.2]
    exact rcU hB' hB h (c := 4) (by decide) (by decide) k (by rw [e4])
  · have c' : ¬ rgC τ B' k t := by unfold rgC at c ⊢; rw [hn, e3]; exact c
    rw [← rgS_f c, ← rgS_f c']
    exact h
theorem rc_bk (hB' : rB B') (hB : rB B) (h : rcEq τ B' σ B) {k : Nat} (f : Nat) (hk : k < 6) : rcEq (bkS τ B' k f) B' (bkS σ B k f) B := by
  have e3 := h.1 3 (by decide) (by decide) k hk
  have e4 := h.1 4 (by decide) (by decide) k hk
  unfold bkS
  split
  · exact rcU hB' hB h (c := 3) (by decide) (by decide) k (by rw [e3])
  · exact rcU hB' hB h (c := 4) (by decide) (by decide) k (by rw [e4])
theorem rc_mv (hB' : rB B') (hB : rB B) (h : rcEq τ B' σ B) (h2 : τ 2 = σ 2) (hn : τ 1 3 = σ 1 3) {k : Nat} (t : Nat) (hk : k < 6) : rcEq (mvS τ B' k t) B' (mvS σ B k t) B ∧ mvR τ B' k t = mvR σ B k t := by
  have eg : gN τ B' k = gN σ B k := by unfold gN; rw [h.1 1 (by decide) (by decide) k hk]
  have h0 := rc_mv0 hB' hB h k t
  have n1 : mv0 τ B' k t 1 3 = mv0 σ B k t 1 3 := by rw [mv0_o (by rcases hB' with rfl | rfl <;> omega), mv0_o (by rcases hB with rfl | rfl <;> omega)]; exact hn
  unfold mvS mvR
  rw [eg, h2]
  by_cases c1 : ldB (σ 2) (gN σ B k) t = true
  · rw [if_pos c1, if_pos c1, if_pos c1, if_pos c1]
    by_cases c2 : t = 0
    · rw [if_pos c2, if_pos c2, if_pos c2, if_pos c2]
      have := rc_cr hB' hB h0 n1 hk
      exact ⟨this.1, this.2⟩
    · rw [if_neg c2, if_neg c2, if_neg c2, if_neg c2]
      exact ⟨rc_rg hB' hB h0 n1 t hk, rfl⟩
  · rw [if_neg c1, if_neg c1, if_neg c1, if_neg c1]
    exact ⟨rc_bk hB' hB h0 _ hk, rfl⟩
end RCE
theorem rcEq_t {τ σ ρ : St} {A B C : Nat} (h1 : rcEq τ A σ B) (h2 : rcEq σ B ρ C) : rcEq τ A ρ C :=
  ⟨fun c q1 q2 k hk => (h1.1 c q1 q2 k hk).trans (h2.1 c q1 q2 k hk), h1.2.1.trans h2.2.1, h1.2.2.1.trans h2.2.2.1, h1.2.2.2.trans h2.2.2.2⟩
theorem rcEq_s {τ σ : St} {A B : Nat} (h1 : rcEq τ A σ B) : rcEq σ B τ A := ⟨fun c q1 q2 k hk => (h1.1 c q1 q2 k hk).symm, h1.2.1.symm, h1.2.2.1.symm, h1.2.2.2.symm⟩
/-- the replay reads the counts, the ways, the needed gates and the record only -/
theorem rb_cong {τ σ : St} (h0 : τ 0 7 = σ 0 7) (h4 : τ 4 9 = σ 4 9) (h2 : τ 2 = σ 2) (hn : τ 1 3 = σ 1 3) : ∀ z, (∀ i, i < z → τ 21 i = σ 21 i ∧ τ 22 i = σ 22 i ∧ ix (σ 21 i) < 6) → rcEq (rbS τ z) 12 (rbS σ z) 12
  | 0, _ => by
    refine ⟨fun c q1 q2 k hk => ?_, ?_, ?_, ?_⟩
    · show bgS τ 12 (τ 0 7) (τ 4 9) 6 (12 + c) k = bgS σ 12 (σ 0 7) (σ 4 9) 6 (12 + c) k
      rw [bgS_k _ _ _ _ _ c q1 q2, bgS_k _ _ _ _ _ c q1 q2]
      unfold clrK
      rw [if_pos hk, if_pos hk]
    · show bgS τ 12 (τ 0 7) (τ 4 9) 6 12 8 = bgS σ 12 (σ 0 7) (σ 4 9) 6 12 8
      rw [bgS_B, bgS_B, h0]; rfl
    · show bgS τ 12 (τ 0 7) (τ 4 9) 6 12 9 = bgS σ 12 (σ 0 7) (σ 4 9) 6 12 9
      rw [bgS_B, bgS_B, h4]; rfl
    · show bgS τ 12 (τ 0 7) (τ 4 9) 6 12 10 = bgS σ 12 (σ 0 7) (σ 4 9) 6 12 10
      rw [bgS_B, bgS_B]; rfl
  | z + 1, h => by
    obtain ⟨e1, e2, e3⟩ := h z (by omega)
    rw [rbS, rbS, e1, e2]
    exact (rc_mv (Or.inr rfl) (Or.inr rfl) (rb_cong h0 h4 h2 hn z (fun i hi => h i (by omega))) (by rw [rbS_o (by decide), rbS_o (by decide)]; exact h2) (by rw [rbS_o (by decide), rbS_o (by decide)]; exact hn) _ e3).1
