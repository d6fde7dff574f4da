/-! what is not read: the cells 12 .. 19 and 46, the model's thrown -/
def AgC (τ σ : St) : Prop := ∀ c, c < 12 ∨ (19 < c ∧ c < 31) → τ c = σ c
def AgM (τ σ : St) : Prop := (∀ c, 31 < c → c < 46 → τ c = σ c) ∧ ∀ k, k ≠ 25 → τ 31 k = σ 31 k
section KEEP
variable {τ σ : St} {g n sd e z t j : Nat} {b : Bool}
theorem CIv_of (h : AgC τ σ) (hC : CIv σ g n b e z) : CIv τ g n b e z := by
  obtain ⟨h1, h2, h3, h4, h5, h6, h7, h8⟩ := hC
  refine ⟨?_, ?_, ?_, ?_, ?_, rOk_of (h (4 + 1) (by omega)) h6, ?_, ?_⟩
  · rw [h 1 (by omega)]; exact h1
  · rw [h 0 (by omega)]; exact h2
  · rw [h 0 (by omega)]; exact h3
  · rw [h 27 (by omega)]; exact h4
  · rw [h 20 (by omega)]; exact h5
  · rw [h 4 (by omega)]; exact h7
  · rw [h 21 (by omega), h 22 (by omega)]; exact h8
theorem MIv_of (h : AgM τ σ) (hM : MIv σ g n sd b e z) : MIv τ g n sd b e z := by
  obtain ⟨h1, h2, h3, h4, h5, h6, h7, h8⟩ := hM
  refine ⟨?_, ?_, ?_, ?_, ?_, ?_, ?_, h8⟩
  · rw [h.2 0 (by decide)]; exact h1
  · rw [h.2 4 (by decide)]; exact h2
  · rw [h.2 6 (by decide)]; exact h3
  · rw [h.2 7 (by decide)]; exact h4
  · rw [h.2 8 (by decide)]; exact h5
  · rw [h.2 11 (by decide)]; exact h6
  · intro k hk
    rw [h.1 35 (by decide) (by decide)]
    exact h7 k hk
theorem Rel_of (h : AgC τ σ) (h2 : AgM τ σ) (hrec : ∀ i, i < z → ix (σ 21 i) < 6) (hR : Rel σ g n sd b e z t) : Rel τ g n sd b e z t := by
  obtain ⟨r1, ⟨r2, r3, r4, r5⟩, ⟨r6, r7, r8, r9, r10⟩, ⟨r11, r12, r13⟩, r14⟩ := hR
  refine ⟨r1, ⟨?_, ?_, ?_, ?_⟩, ⟨?_, ?_, ?_, ?_, ?_⟩, ⟨?_, ?_, ?_⟩, fun hb => ?_⟩
  · rw [h2.1 32 (by decide) (by decide), h 2 (by omega)]; exact r2
  · rw [h 2 (by omega)]; exact r3
  · rw [h2.2 1 (by decide), h 1 (by omega)]; exact r4
  · rw [h 2 (by omega), h 3 (by omega)]; exact r5
  · rw [h2.1 44 (by decide) (by decide), h 28 (by omega)]; exact r6
  · rw [h2.1 45 (by decide) (by decide), h 29 (by omega)]; exact r7
  · rw [h2.1 34 (by decide) (by decide), h 30 (by omega)]; exact r8
  · rw [h2.2 24 (by decide), h 27 (by omega)]; exact r9
  · rw [h 28 (by omega)]; exact r10
  · rw [h 0 (by omega)]; exact r11
  · rw [h2.2 10 (by decide)]; exact r12
  · rw [h2.2 12 (by decide), h 23 (by omega)]; exact r13
  · obtain ⟨G9, ⟨p1, p2, p3, p4, p5⟩, p6, p7, p8, p9, p10⟩ := r14 hb
    refine ⟨G9, ⟨p1, p2, ?_, ?_, ?_⟩, fun k hk => ?_, fun k hk => ?_, ?_, ?_, ?_⟩
    · rw [h 4 (by omega)]; exact p3
    · rw [h2.2 9 (by decide)]; exact p4
    · rw [h 4 (by omega)]; exact p5
    · rw [h2.1 35 (by decide) (by decide), h2.1 36 (by decide) (by decide), h2.1 37 (by decide) (by decide), h2.1 38 (by decide) (by decide), h2.1 39 (by decide) (by decide), h2.1 41 (by decide) (by decide), h2.1 42 (by decide) (by decide), h2.1 43 (by decide) (by decide), h 5 (by omega), h 6 (by omega), h 7 (by omega), h 8 (by omega), h 9 (by omega), h 24 (by omega), h 25 (by omega), h 26 (by omega)]
      exact p6 k hk
    · unfold RKart
      rw [h2.1 40 (by decide) (by decide), h 5 (by omega), h 6 (by omega), h 7 (by omega), h 8 (by omega), h 9 (by omega), h 26 (by omega)]
      exact p7 k hk
    · unfold RMom
      rw [h 9 (by omega)]
      exact p8
    · rw [h2.1 33 (by decide) (by decide), h 3 (by omega)]; exact p9
    · have q1 : rcEq (rbS τ z) 12 (rbS σ z) 12 := rb_cong (by rw [h 0 (by omega)]) (by rw [h 4 (by omega)]) (h 2 (by omega)) (by rw [h 1 (by omega)]) z (fun i hi => ⟨by rw [h 21 (by omega)], by rw [h 22 (by omega)], hrec i hi⟩)
      refine rcEq_t q1 (rcEq_t p10 ⟨fun c q1 q2 k hk => by rw [h (4 + c) (by omega)], by rw [h 4 (by omega)], by rw [h 4 (by omega)], by rw [h 4 (by omega)]⟩)
theorem Inv_up (h : AgC τ σ) (h2 : AgM τ σ) (hC : CIv σ g n b e z) (hM : MIv σ g n sd b e z) (hR : Rel σ g n sd b e z t) (ht : t ≤ 100 * j) (hz : z ≤ j) : Inv τ (j + 1) :=
  ⟨g, n, sd, e, z, t, b, CIv_of h hC, MIv_of h2 hM, Rel_of h h2 (fun i hi => (hC.2.2.2.2.2.2.2 i hi).1.2) hR, by omega, by omega⟩
end KEEP
theorem AgC_46 {τ σ : St} (h : AgC τ σ) (f : Nat → Int32) : AgC (upA τ 46 f) σ := fun c hc => by rw [upA_n (by omega)]; exact h c hc
theorem AgC_thr {τ σ : St} (h : AgC τ σ) (w : Nat) : AgC (thr τ w) σ := fun c hc => by rw [thr_o (by omega)]; exact h c hc
theorem AgM_46 {τ σ : St} (h : AgM τ σ) (f : Nat → Int32) : AgM (upA τ 46 f) σ := ⟨fun c h1 h2 => by rw [upA_n (by omega)]; exact h.1 c h1 h2, fun k hk => by rw [upA_n (by decide)]; exact h.2 k hk⟩
theorem AgM_thr {τ σ : St} (h : AgM τ σ) (w : Nat) : AgM (thr τ w) σ := ⟨fun c h1 h2 => by rw [thr_o (by omega)]; exact h.1 c h1 h2, fun k hk => by
  have : thr τ w 31 k = τ 31 k := by unfold thr; rw [upA_s]; exact if_neg hk
  rw [this]; exact h.2 k hk⟩
theorem AgC_r (σ : St) : AgC σ σ := fun _ _ => rfl
theorem AgM_r (σ : St) : AgM σ σ := ⟨fun _ _ _ => rfl, fun _ _ => rfl⟩
theorem thr_25 (σ : St) (w : Nat) : thr σ w 31 25 = nI w := by unfold thr; rw [upA_s, pk_us]
theorem thr_46 (σ : St) (w : Nat) : thr σ w 46 = σ 46 := thr_o (by decide)
