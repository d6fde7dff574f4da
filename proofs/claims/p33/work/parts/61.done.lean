/-! does at what is there and at what is not -/
theorem ag_gate {τ σ : St} {v : Bool} {k : Nat} (e : τ = stGate σ v k) : ∀ c, 30 < c → τ c = σ c := fun c hc => by rw [e]; unfold stGate; rw [upA_n (by omega), upA_n (by omega)]
theorem ag_way {τ σ : St} {k x y : Nat} {w : Int32} (e : τ = wySt σ k x y w) : ∀ c, 30 < c → τ c = σ c := fun c hc => by rw [e]; unfold wySt; rw [upA_n (by omega), upA_n (by omega)]
theorem ag_kart {τ σ : St} {k : Nat} {w : Int32} (e : τ = ktSt σ k w) : ∀ c, 30 < c → τ c = σ c := fun c hc => by rw [e]; unfold ktSt; rw [upA_n (by omega), upA_n (by omega)]
theorem ag_start {τ σ : St} {k : Nat} {w : Int32} (e : τ = srSt σ k w) : ∀ c, 30 < c → τ c = σ c := fun c hc => by rw [e]; unfold srSt; rw [upA_n (by omega), clS_o (by omega) (by omega) (by omega)]; unfold srS0; rw [upA_n (by omega), bgS_o (by omega)]
theorem ag_pass {τ σ : St} {z k t : Nat} (e : τ = mvS (noSt σ z k t) 4 k t) : ∀ c, 30 < c → τ c = σ c := fun c hc => by rw [e, mvS_o (by omega), noSt_o (by omega) (by omega) (by omega)]
theorem ag_one {τ σ : St} {k : Nat} {f : Nat → Int32} (e : τ = upA σ k f) (hk : k < 31) : ∀ c, 30 < c → τ c = σ c := fun c hc => by rw [e, upA_n (by omega)]
theorem ag_two {τ σ : St} {k m : Nat} {f f' : Nat → Int32} (e : τ = upA (upA σ k f) m f') (hk : k < 31) (hm : m < 31) : ∀ c, 30 < c → τ c = σ c := fun c hc => by rw [e, upA_n (by omega), upA_n (by omega)]
theorem ag_end {τ σ : St} {n k : Nat} (e : τ = enSt σ n k) : ∀ c, 30 < c → τ c = σ c := fun c hc => by rw [e]; unfold enSt; rw [upA_n (by omega), upA_n (by omega), enS_o (by omega) (by omega)]
theorem rgt_y {x y w : Nat} (hx : x < 100) (hy : y < 100) (hd : x < y ∨ (y = 0 ∧ 0 < x)) (h1 : 1 ≤ w) (h2 : w ≤ 100) : rgtB (nI x) (nI y) (nI w) = true := by
  unfold rgtB
  rw [show inR (nI w) 1 100 = true from inR_t (by rw [show (1 : Int32) = nI 1 from rfl]; exact fun q => by have := (nI_ltI (by omega) (by decide)).mp q; omega) (by rw [show (100 : Int32) = nI 100 from rfl]; exact (nI_leI (by omega) (by decide)).mpr h2), Bool.and_true, ix_nI (by omega), ix_nI (by omega)]
  simp only [Bool.or_eq_true, Bool.and_eq_true, decide_eq_true_eq]
  exact hd
theorem inR_no {w lo hi : Nat} (hw : w < 1000) (hl : lo < 1000) (hh : hi < 1000) (h : w < lo ∨ hi < w) : inR (nI w) (nI lo) (nI hi) = false := by
  rcases h with h | h
  · exact inR_f1 ((nI_ltI (by omega) (by omega)).mpr h)
  · exact inR_f2 (fun q => by have := (nI_leI (by omega) (by omega)).mp q; omega)
theorem inR_y {w lo hi : Nat} (hw : w < 1000) (hl : lo < 1000) (hh : hi < 1000) (h1 : lo ≤ w) (h2 : w ≤ hi) : inR (nI w) (nI lo) (nI hi) = true :=
  inR_t (fun q => by have := (nI_ltI (by omega) (by omega)).mp q; omega) ((nI_leI (by omega) (by omega)).mpr h2)
theorem rgt_n {x y w : Nat} (hx : x < 100) (hy : y < 100) (hw : w < 1000) (h : ¬ ((x < y ∨ (y = 0 ∧ 0 < x)) ∧ 0 < w ∧ w < 101)) : rgtB (nI x) (nI y) (nI w) = false := by
  unfold rgtB
  rw [ix_nI (by omega), ix_nI (by omega)]
  by_cases q : 0 < w ∧ w < 101
  · have q2 : (decide (x < y) || (decide (y = 0) && decide (0 < x))) = false := by
      cases q3 : (decide (x < y) || (decide (y = 0) && decide (0 < x)))
      · rfl
      · simp only [Bool.or_eq_true, Bool.and_eq_true, decide_eq_true_eq] at q3
        exact absurd ⟨q3, q⟩ h
    rw [q2]; rfl
  · rw [show inR (nI w) 1 100 = false from inR_no (lo := 1) (hi := 100) hw (by decide) (by decide) (by omega), Bool.and_false]

theorem d0_1_t1 (l : Launch) (hlt : l.stackTraces = false) (G : Gx) (hG : gOk G) (hF : Full G) (σ : St) {g n e9 z : Nat} {b : Bool} (hC : CIv σ g n b e9 z) (y w : Int32) (h1 : (nev b e9 && decide (g < 12)) = false) : CmI l yL_does wsL_does rmL_does_0_1 G σ [.ref (gad G 0), .int 0, .int 1, .int y, .int w] (fun r σ' => r = -10 ∧ σ' = σ) 1 6 := by
  refine (kL_does_0_1 l hlt G hG hF σ y w g n e9 z b hC).mono (fun r σ9 h => ?_)
  rcases h with h | ⟨E9, hE, q1, q2⟩
  · exact absurd (h1.symm.trans h.2.2) (by decide)
  · rw [q1, hE.1]; exact ⟨by decide, q2⟩
theorem d0_0_t1 (l : Launch) (hlt : l.stackTraces = false) (G : Gx) (hG : gOk G) (hF : Full G) (σ : St) {g n e9 z : Nat} {b : Bool} (hC : CIv σ g n b e9 z) (y w : Int32) (h1 : (nev b e9 && decide (g < 12)) = false) : CmI l yL_does wsL_does rmL_does_0_0 G σ [.ref (gad G 0), .int 0, .int 0, .int y, .int w] (fun r σ' => r = -10 ∧ σ' = σ) 1 6 := by
  refine (kL_does_0_0 l hlt G hG hF σ y w g n e9 z b hC).mono (fun r σ9 h => ?_)
  rcases h with h | ⟨E9, hE, q1, q2⟩
  · exact absurd (h1.symm.trans h.2.2) (by decide)
  · rw [q1, hE.1]; exact ⟨by decide, q2⟩
theorem d1_t1 (l : Launch) (hlt : l.stackTraces = false) (G : Gx) (hG : gOk G) (hF : Full G) (σ : St) {g n e9 z : Nat} {b : Bool} (hC : CIv σ g n b e9 z) (x y w : Int32) (h1 : (inB x g && inB y g) = false) : CmI l yL_does wsL_does rmL_does_1 G σ [.ref (gad G 0), .int 1, .int x, .int y, .int w] (fun r σ' => r = -30 ∧ σ' = σ) 1 6 := by
  refine (kL_does_1 l hlt G hG hF σ x y w g n e9 z b hC).mono (fun r σ9 h => ?_)
  rcases h with h | ⟨E9, hE, q1, q2⟩
  · exact absurd (h1.symm.trans h.2.2.1) (by decide)
  · rcases hE with hE | hE | hE
    · rw [q1, hE.1]; exact ⟨by decide, q2⟩
    · exact absurd (h1.symm.trans hE.2.1) (by decide)
    · exact absurd (h1.symm.trans hE.2.1) (by decide)
theorem d1_t2 (l : Launch) (hlt : l.stackTraces = false) (G : Gx) (hG : gOk G) (hF : Full G) (σ : St) {g n e9 z : Nat} {b : Bool} (hC : CIv σ g n b e9 z) (x y w : Int32) (h1 : (inB x g && inB y g) = true) (h2 : rgtB x y w = false) : CmI l yL_does wsL_does rmL_does_1 G σ [.ref (gad G 0), .int 1, .int x, .int y, .int w] (fun r σ' => r = -20 ∧ σ' = σ) 1 6 := by
  refine (kL_does_1 l hlt G hG hF σ x y w g n e9 z b hC).mono (fun r σ9 h => ?_)
  rcases h with h | ⟨E9, hE, q1, q2⟩
  · exact absurd (h2.symm.trans h.2.2.2.1) (by decide)
  · rcases hE with hE | hE | hE
    · exact absurd (h1.symm.trans hE.2) (by decide)
    · rw [q1, hE.1]; exact ⟨by decide, q2⟩
    · exact absurd (h2.symm.trans hE.2.2.1) (by decide)
theorem d1_t3 (l : Launch) (hlt : l.stackTraces = false) (G : Gx) (hG : gOk G) (hF : Full G) (σ : St) {g n e9 z : Nat} {b : Bool} (hC : CIv σ g n b e9 z) (x y w : Int32) (h1 : (inB x g && inB y g) = true) (h2 : rgtB x y w = true) (h3 : nev b e9 = false) : CmI l yL_does wsL_does rmL_does_1 G σ [.ref (gad G 0), .int 1, .int x, .int y, .int w] (fun r σ' => r = -10 ∧ σ' = σ) 1 6 := by
  refine (kL_does_1 l hlt G hG hF σ x y w g n e9 z b hC).mono (fun r σ9 h => ?_)
  rcases h with h | ⟨E9, hE, q1, q2⟩
  · exact absurd (h3.symm.trans h.2.2.2.2) (by decide)
  · rcases hE with hE | hE | hE
    · exact absurd (h1.symm.trans hE.2) (by decide)
    · exact absurd (h2.symm.trans hE.2.2) (by decide)
    · rw [q1, hE.1]; exact ⟨by decide, q2⟩
theorem d2_t1 (l : Launch) (hlt : l.stackTraces = false) (G : Gx) (hG : gOk G) (hF : Full G) (σ : St) {g n e9 z : Nat} {b : Bool} (hC : CIv σ g n b e9 z) (x y w : Int32) (h1 : inB x 4 = false) : CmI l yL_does wsL_does rmL_does_2 G σ [.ref (gad G 0), .int 2, .int x, .int y, .int w] (fun r σ' => r = -30 ∧ σ' = σ) 1 6 := by
  refine (kL_does_2 l hlt G hG hF σ x y w g n e9 z b hC).mono (fun r σ9 h => ?_)
  rcases h with h | ⟨E9, hE, q1, q2⟩
  · exact absurd (h1.symm.trans h.2.2.1) (by decide)
  · rcases hE with hE | hE
    · rw [q1, hE.1]; exact ⟨by decide, q2⟩
    · exact absurd (h1.symm.trans hE.2.1) (by decide)
theorem d2_t2 (l : Launch) (hlt : l.stackTraces = false) (G : Gx) (hG : gOk G) (hF : Full G) (σ : St) {g n e9 z : Nat} {b : Bool} (hC : CIv σ g n b e9 z) (x y w : Int32) (h1 : inB x 4 = true) (h2 : (nev b e9 && decide (n < 6)) = false) : CmI l yL_does wsL_does rmL_does_2 G σ [.ref (gad G 0), .int 2, .int x, .int y, .int w] (fun r σ' => r = -10 ∧ σ' = σ) 1 6 := by
  refine (kL_does_2 l hlt G hG hF σ x y w g n e9 z b hC).mono (fun r σ9 h => ?_)
  rcases h with h | ⟨E9, hE, q1, q2⟩
  · exact absurd (h2.symm.trans h.2.2.2) (by decide)
  · rcases hE with hE | hE
    · exact absurd (h1.symm.trans hE.2) (by decide)
    · rw [q1, hE.1]; exact ⟨by decide, q2⟩
theorem d3_t1 (l : Launch) (hlt : l.stackTraces = false) (G : Gx) (hG : gOk G) (hF : Full G) (σ : St) {g n e9 z : Nat} {b : Bool} (hC : CIv σ g n b e9 z) (x y w : Int32) (h1 : inR x 1 9 = false) : CmI l yL_does wsL_does rmL_does_3 G σ [.ref (gad G 0), .int 3, .int x, .int y, .int w] (fun r σ' => r = -20 ∧ σ' = σ) 1 6 := by
  refine (kL_does_3 l hlt G hG hF σ x y w g n e9 z b hC).mono (fun r σ9 h => ?_)
  rcases h with h | ⟨E9, hE, q1, q2⟩
  · exact absurd (h1.symm.trans h.2.2.1) (by decide)
  · rcases hE with hE | hE
    · rw [q1, hE.1]; exact ⟨by decide, q2⟩
    · exact absurd (h1.symm.trans hE.2.1) (by decide)
theorem d3_t2 (l : Launch) (hlt : l.stackTraces = false) (G : Gx) (hG : gOk G) (hF : Full G) (σ : St) {g n e9 z : Nat} {b : Bool} (hC : CIv σ g n b e9 z) (x y w : Int32) (h1 : inR x 1 9 = true) (h2 : (!b && decide (e9 < 8) && decide (0 < n) && !deadB (σ 2) g) = false) : CmI l yL_does wsL_does rmL_does_3 G σ [.ref (gad G 0), .int 3, .int x, .int y, .int w] (fun r σ' => r = -10 ∧ σ' = σ) 1 6 := by
  refine (kL_does_3 l hlt G hG hF σ x y w g n e9 z b hC).mono (fun r σ9 h => ?_)
  rcases h with h | ⟨E9, hE, q1, q2⟩
  · exact absurd (h2.symm.trans h.2.2.2) (by decide)
  · rcases hE with hE | hE
    · exact absurd (h1.symm.trans hE.2) (by decide)
    · rw [q1, hE.1]; exact ⟨by decide, q2⟩
theorem d4_t1 (l : Launch) (hlt : l.stackTraces = false) (G : Gx) (hG : gOk G) (hF : Full G) (σ : St) {g n e9 z : Nat} {b : Bool} (hC : CIv σ g n b e9 z) (x y w : Int32) (h1 : (inB x n && inB y g) = false) : CmI l yL_does wsL_does rmL_does_4 G σ [.ref (gad G 0), .int 4, .int x, .int y, .int w] (fun r σ' => r = -30 ∧ σ' = σ) 1 6 := by
  refine (kL_does_4 l hlt G hG hF σ x y w g n e9 z b hC).mono (fun r σ9 h => ?_)
  rcases h with h | ⟨E9, hE, q1, q2⟩
  · exact absurd (h1.symm.trans h.2.2.1) (by decide)
  · rcases hE with hE | hE
    · rw [q1, hE.1]; exact ⟨by decide, q2⟩
    · exact absurd (h1.symm.trans hE.2.1) (by decide)
theorem d4_t2 (l : Launch) (hlt : l.stackTraces = false) (G : Gx) (hG : gOk G) (hF : Full G) (σ : St) {g n e9 z : Nat} {b : Bool} (hC : CIv σ g n b e9 z) (x y w : Int32) (h1 : (inB x n && inB y g) = true) (h2 : canP σ b z (ix x) (ix y) = false) : CmI l yL_does wsL_does rmL_does_4 G σ [.ref (gad G 0), .int 4, .int x, .int y, .int w] (fun r σ' => r = -10 ∧ σ' = σ) 1 6 := by
  refine (kL_does_4 l hlt G hG hF σ x y w g n e9 z b hC).mono (fun r σ9 h => ?_)
  rcases h with h | ⟨E9, hE, q1, q2⟩
  · exact absurd (h2.symm.trans h.2.2.2) (by decide)
  · rcases hE with hE | hE
    · exact absurd (h1.symm.trans hE.2) (by decide)
    · rw [q1, hE.1]; exact ⟨by decide, q2⟩
theorem d5_t1 (l : Launch) (hlt : l.stackTraces = false) (G : Gx) (hG : gOk G) (hF : Full G) (σ : St) {g n e9 z : Nat} {b : Bool} (hC : CIv σ g n b e9 z) (x y w : Int32) (h1 : inR x 1 100 = false) : CmI l yL_does wsL_does rmL_does_5 G σ [.ref (gad G 0), .int 5, .int x, .int y, .int w] (fun r σ' => r = -20 ∧ σ' = σ) 1 6 := by
  refine (kL_does_5 l hlt G hG hF σ x y w g n e9 z b hC).mono (fun r σ9 h => ?_)
  rcases h with h | ⟨E9, hE, q1, q2⟩
  · exact absurd (h1.symm.trans h.2.2) (by decide)
  · rw [q1, hE.1]; exact ⟨by decide, q2⟩
theorem d6_t1 (l : Launch) (hlt : l.stackTraces = false) (G : Gx) (hG : gOk G) (hF : Full G) (σ : St) {g n e9 z : Nat} {b : Bool} (hC : CIv σ g n b e9 z) (x y w : Int32) (h1 : inB x n = false) : CmI l yL_does wsL_does rmL_does_6 G σ [.ref (gad G 0), .int 6, .int x, .int y, .int w] (fun r σ' => r = -30 ∧ σ' = σ) 1 6 := by
  refine (kL_does_6 l hlt G hG hF σ x y w g n e9 z b hC).mono (fun r σ9 h => ?_)
  rcases h with h | ⟨E9, hE, q1, q2⟩
  · exact absurd (h1.symm.trans h.2.2.1) (by decide)
  · rcases hE with hE | hE
    · rw [q1, hE.1]; exact ⟨by decide, q2⟩
    · exact absurd (h1.symm.trans hE.2.1) (by decide)
theorem d6_t2 (l : Launch) (hlt : l.stackTraces = false) (G : Gx) (hG : gOk G) (hF : Full G) (σ : St) {g n e9 z : Nat} {b : Bool} (hC : CIv σ g n b e9 z) (x y w : Int32) (h1 : inB x n = true) (h2 : (b && !finB σ 4 (ix x) && decide (σ 24 (ix x) = -1)) = false) : CmI l yL_does wsL_does rmL_does_6 G σ [.ref (gad G 0), .int 6, .int x, .int y, .int w] (fun r σ' => r = -10 ∧ σ' = σ) 1 6 := by
  refine (kL_does_6 l hlt G hG hF σ x y w g n e9 z b hC).mono (fun r σ9 h => ?_)
  rcases h with h | ⟨E9, hE, q1, q2⟩
  · exact absurd (h2.symm.trans h.2.2.2) (by decide)
  · rcases hE with hE | hE
    · exact absurd (h1.symm.trans hE.2) (by decide)
    · rw [q1, hE.1]; exact ⟨by decide, q2⟩
theorem d7_t1 (l : Launch) (hlt : l.stackTraces = false) (G : Gx) (hG : gOk G) (hF : Full G) (σ : St) {g n e9 z : Nat} {b : Bool} (hC : CIv σ g n b e9 z) (x y w : Int32) (h1 : inB x n = false) : CmI l yL_does wsL_does rmL_does_7 G σ [.ref (gad G 0), .int 7, .int x, .int y, .int w] (fun r σ' => r = -30 ∧ σ' = σ) 1 6 := by
  refine (kL_does_7 l hlt G hG hF σ x y w g n e9 z b hC).mono (fun r σ9 h => ?_)
  rcases h with h | ⟨E9, hE, q1, q2⟩
  · exact absurd (h1.symm.trans h.2.2.1) (by decide)
  · rcases hE with hE | hE
    · rw [q1, hE.1]; exact ⟨by decide, q2⟩
    · exact absurd (h1.symm.trans hE.2.1) (by decide)
theorem d7_t2 (l : Launch) (hlt : l.stackTraces = false) (G : Gx) (hG : gOk G) (hF : Full G) (σ : St) {g n e9 z : Nat} {b : Bool} (hC : CIv σ g n b e9 z) (x y w : Int32) (h1 : inB x n = true) (h2 : (b && !finB σ 4 (ix x) && !decide (σ 24 (ix x) = -1)) = false) : CmI l yL_does wsL_does rmL_does_7 G σ [.ref (gad G 0), .int 7, .int x, .int y, .int w] (fun r σ' => r = -10 ∧ σ' = σ) 1 6 := by
  refine (kL_does_7 l hlt G hG hF σ x y w g n e9 z b hC).mono (fun r σ9 h => ?_)
  rcases h with h | ⟨E9, hE, q1, q2⟩
  · exact absurd (h2.symm.trans h.2.2.2) (by decide)
  · rcases hE with hE | hE
    · exact absurd (h1.symm.trans hE.2) (by decide)
    · rw [q1, hE.1]; exact ⟨by decide, q2⟩
theorem d8_t1 (l : Launch) (hlt : l.stackTraces = false) (G : Gx) (hG : gOk G) (hF : Full G) (σ : St) {g n e9 z : Nat} {b : Bool} (hC : CIv σ g n b e9 z) (x y w : Int32) (hn0 : b = true → 0 < n) (h1 : b = false) : CmI l yL_does wsL_does rmL_does_8 G σ [.ref (gad G 0), .int 8, .int x, .int y, .int w] (fun r σ' => r = -10 ∧ σ' = σ) 1 6 := by
  refine (kL_does_8 l hlt G hG hF σ x y w g n e9 z b hC hn0).mono (fun r σ9 h => ?_)
  rcases h with h | ⟨E9, hE, q1, q2⟩
  · exact absurd (h1.symm.trans h.2.2) (by decide)
  · rw [q1, hE.1]; exact ⟨by decide, q2⟩
theorem d9_t1 (l : Launch) (hlt : l.stackTraces = false) (G : Gx) (hG : gOk G) (hF : Full G) (σ : St) {g n e9 z : Nat} {b : Bool} (hC : CIv σ g n b e9 z) (x y w : Int32) (h1 : inR x 0 3 = false) : CmI l yL_does wsL_does rmL_does_9 G σ [.ref (gad G 0), .int 9, .int x, .int y, .int w] (fun r σ' => r = -20 ∧ σ' = σ) 1 6 := by
  refine (kL_does_9 l hlt G hG hF σ x y w g n e9 z b hC).mono (fun r σ9 h => ?_)
  rcases h with h | ⟨E9, hE, q1, q2⟩
  · exact absurd (h1.symm.trans h.2.2) (by decide)
  · rw [q1, hE.1]; exact ⟨by decide, q2⟩
theorem d0_1_ok (l : Launch) (hlt : l.stackTraces = false) (G : Gx) (hG : gOk G) (hF : Full G) (σ : St) {g n e9 z : Nat} {b : Bool} (hC : CIv σ g n b e9 z) (y w : Int32) (hb : b = false) (he : e9 = 0) (hg : g < 12) : CmI l yL_does wsL_does rmL_does_0_1 G σ [.ref (gad G 0), .int 0, .int 1, .int y, .int w] (fun r σ' => r = nI g ∧ σ' = stGate σ true g) 1 6 := by
  have hg9 := hC.1.2.2
  have hn9 := hC.2.1.2
  have c1 : (nev b e9 && decide (g < 12)) = true := by subst hb; subst he; rw [decide_eq_true hg]; rfl
  refine (kL_does_0_1 l hlt G hG hF σ y w g n e9 z b hC).mono (fun r σ9 h => ?_)
  rcases h with h | ⟨E9, hE, q1, q2⟩
  · exact ⟨h.1, h.2.1⟩
  · exact absurd (c1.symm.trans hE.2) (by decide)
theorem d0_0_ok (l : Launch) (hlt : l.stackTraces = false) (G : Gx) (hG : gOk G) (hF : Full G) (σ : St) {g n e9 z : Nat} {b : Bool} (hC : CIv σ g n b e9 z) (y w : Int32) (hb : b = false) (he : e9 = 0) (hg : g < 12) : CmI l yL_does wsL_does rmL_does_0_0 G σ [.ref (gad G 0), .int 0, .int 0, .int y, .int w] (fun r σ' => r = nI g ∧ σ' = stGate σ false g) 1 6 := by
  have hg9 := hC.1.2.2
  have hn9 := hC.2.1.2
  have c1 : (nev b e9 && decide (g < 12)) = true := by subst hb; subst he; rw [decide_eq_true hg]; rfl
  refine (kL_does_0_0 l hlt G hG hF σ y w g n e9 z b hC).mono (fun r σ9 h => ?_)
  rcases h with h | ⟨E9, hE, q1, q2⟩
  · exact ⟨h.1, h.2.1⟩
  · exact absurd (c1.symm.trans hE.2) (by decide)
theorem d1_ok (l : Launch) (hlt : l.stackTraces = false) (G : Gx) (hG : gOk G) (hF : Full G) (σ : St) {g n e9 z : Nat} {b : Bool} (hC : CIv σ g n b e9 z) (x y w : Nat) (hx : x < g) (hy : y < g) (hd : x < y ∨ (y = 0 ∧ 0 < x)) (h1 : 1 ≤ w) (h2 : w ≤ 100) (hb : b = false) (he : e9 = 0) : CmI l yL_does wsL_does rmL_does_1 G σ [.ref (gad G 0), .int 1, .int (nI x), .int (nI y), .int (nI w)] (fun r σ' => r = (if σ 2 (x * 12 + y) = 0 then -1 else σ 2 (x * 12 + y)) ∧ σ' = wySt σ g x y (nI w)) 1 6 := by
  have hg9 := hC.1.2.2
  have hn9 := hC.2.1.2
  have ex : ix (nI x) = x := ix_nI (by omega)
  have ey : ix (nI y) = y := ix_nI (by omega)
  have c1 : (inB (nI x) g && inB (nI y) g) = true := by rw [inB_y hx (by omega), inB_y hy (by omega)]; rfl
  have c2 : rgtB (nI x) (nI y) (nI w) = true := rgt_y (by omega) (by omega) hd h1 h2
  have c3 : nev b e9 = true := by subst hb; subst he; rfl
  refine (kL_does_1 l hlt G hG hF σ (nI x) (nI y) (nI w) g n e9 z b hC).mono (fun r σ9 h => ?_)
  rcases h with h | ⟨E9, hE, q1, q2⟩
  · rw [ex, ey] at h; exact ⟨h.1, h.2.1⟩
  · rcases hE with hE | hE | hE
    · exact absurd (c1.symm.trans hE.2) (by decide)
    · exact absurd (c2.symm.trans hE.2.2) (by decide)
    · exact absurd (c3.symm.trans hE.2.2.2) (by decide)
theorem d2_ok (l : Launch) (hlt : l.stackTraces = false) (G : Gx) (hG : gOk G) (hF : Full G) (σ : St) {g n e9 z : Nat} {b : Bool} (hC : CIv σ g n b e9 z) (q : Nat) (y w : Int32) (hq : q < 4) (hb : b = false) (he : e9 = 0) (hn : n < 6) : CmI l yL_does wsL_does rmL_does_2 G σ [.ref (gad G 0), .int 2, .int (nI q), .int y, .int w] (fun r σ' => r = nI n ∧ σ' = ktSt σ n (nI q)) 1 6 := by
  have hg9 := hC.1.2.2
  have hn9 := hC.2.1.2
  have c1 : inB (nI q) 4 = true := inB_y hq (by decide)
  have c2 : (nev b e9 && decide (n < 6)) = true := by subst hb; subst he; rw [decide_eq_true hn]; rfl
  refine (kL_does_2 l hlt G hG hF σ (nI q) y w g n e9 z b hC).mono (fun r σ9 h => ?_)
  rcases h with h | ⟨E9, hE, q1, q2⟩
  · exact ⟨h.1, h.2.1⟩
  · rcases hE with hE | hE
    · exact absurd (c1.symm.trans hE.2) (by decide)
    · exact absurd (c2.symm.trans hE.2.2) (by decide)
theorem d3_ok (l : Launch) (hlt : l.stackTraces = false) (G : Gx) (hG : gOk G) (hF : Full G) (σ : St) {g n e9 z : Nat} {b : Bool} (hC : CIv σ g n b e9 z) (L : Nat) (y w : Int32) (h1 : 1 ≤ L) (h2 : L ≤ 9) (hc : (!b && decide (e9 < 8) && decide (0 < n) && !deadB (σ 2) g) = true) : CmI l yL_does wsL_does rmL_does_3 G σ [.ref (gad G 0), .int 3, .int (nI L), .int y, .int w] (fun r σ' => r = nI e9 ∧ σ' = srSt σ n (nI L)) 1 6 := by
  have hg9 := hC.1.2.2
  have hn9 := hC.2.1.2
  have c1 : inR (nI L) 1 9 = true := inR_y (lo := 1) (hi := 9) (by omega) (by decide) (by decide) h1 h2
  have c2 : (!b && decide (e9 < 8) && decide (0 < n) && !deadB (σ 2) g) = true := hc
  refine (kL_does_3 l hlt G hG hF σ (nI L) y w g n e9 z b hC).mono (fun r σ9 h => ?_)
  rcases h with h | ⟨E9, hE, q1, q2⟩
  · exact ⟨h.1, h.2.1⟩
  · rcases hE with hE | hE
    · exact absurd (c1.symm.trans hE.2) (by decide)
    · exact absurd (c2.symm.trans hE.2.2) (by decide)
theorem d4_ok (l : Launch) (hlt : l.stackTraces = false) (G : Gx) (hG : gOk G) (hF : Full G) (σ : St) {g n e9 z : Nat} {b : Bool} (hC : CIv σ g n b e9 z) (x y : Nat) (w : Int32) (hx : x < n) (hy : y < g) (hc : canP σ b z x y = true) : CmI l yL_does wsL_does rmL_does_4 G σ [.ref (gad G 0), .int 4, .int (nI x), .int (nI y), .int w] (fun r σ' => r = mvR (noSt σ z x y) 4 x y ∧ σ' = mvS (noSt σ z x y) 4 x y) 1 6 := by
  have hg9 := hC.1.2.2
  have hn9 := hC.2.1.2
  have ex : ix (nI x) = x := ix_nI (by omega)
  have ey : ix (nI y) = y := ix_nI (by omega)
  have c1 : (inB (nI x) n && inB (nI y) g) = true := by rw [inB_y hx (by omega), inB_y hy (by omega)]; rfl
  have c2 : canP σ b z (ix (nI x)) (ix (nI y)) = true := by rw [ex, ey]; exact hc
  refine (kL_does_4 l hlt G hG hF σ (nI x) (nI y) w g n e9 z b hC).mono (fun r σ9 h => ?_)
  rcases h with h | ⟨E9, hE, q1, q2⟩
  · rw [ex, ey] at h; exact ⟨h.1, h.2.1⟩
  · rcases hE with hE | hE
    · exact absurd (c1.symm.trans hE.2) (by decide)
    · exact absurd (c2.symm.trans hE.2.2) (by decide)
theorem d5_ok (l : Launch) (hlt : l.stackTraces = false) (G : Gx) (hG : gOk G) (hF : Full G) (σ : St) {g n e9 z : Nat} {b : Bool} (hC : CIv σ g n b e9 z) (q : Nat) (y w : Int32) (h1 : 1 ≤ q) (h2 : q ≤ 100) : CmI l yL_does wsL_does rmL_does_5 G σ [.ref (gad G 0), .int 5, .int (nI q), .int y, .int w] (fun r σ' => r = σ 0 9 + nI q ∧ σ' = upA σ 0 (upd (σ 0) 9 (σ 0 9 + nI q))) 1 6 := by
  have hg9 := hC.1.2.2
  have hn9 := hC.2.1.2
  have c1 : inR (nI q) 1 100 = true := inR_y (lo := 1) (hi := 100) (by omega) (by decide) (by decide) h1 h2
  refine (kL_does_5 l hlt G hG hF σ (nI q) y w g n e9 z b hC).mono (fun r σ9 h => ?_)
  rcases h with h | ⟨E9, hE, q1, q2⟩
  · exact ⟨h.1, h.2.1⟩
  · exact absurd (c1.symm.trans hE.2) (by decide)
theorem d6_ok (l : Launch) (hlt : l.stackTraces = false) (G : Gx) (hG : gOk G) (hF : Full G) (σ : St) {g n e9 z : Nat} {b : Bool} (hC : CIv σ g n b e9 z) (x : Nat) (y w : Int32) (hx : x < n) (hc : (b && !finB σ 4 x && decide (σ 24 x = -1)) = true) : CmI l yL_does wsL_does rmL_does_6 G σ [.ref (gad G 0), .int 6, .int (nI x), .int y, .int w] (fun r σ' => r = (itA (rkA σ n x) (dD (nxA (σ 23 3)))) ∧ σ' = (upA (upA σ 23 (upd (σ 23) 3 (nxA (σ 23 3)))) 24 (upd (σ 24) x (itA (rkA σ n x) (dD (nxA (σ 23 3))))))) 1 6 := by
  have hg9 := hC.1.2.2
  have hn9 := hC.2.1.2
  have ex : ix (nI x) = x := ix_nI (by omega)
  have c1 : inB (nI x) n = true := inB_y hx (by omega)
  have c2 : (b && !finB σ 4 (ix (nI x)) && decide (σ 24 (ix (nI x)) = -1)) = true := by rw [ex]; exact hc
  refine (kL_does_6 l hlt G hG hF σ (nI x) y w g n e9 z b hC).mono (fun r σ9 h => ?_)
  rcases h with h | ⟨E9, hE, q1, q2⟩
  · rw [ex] at h; exact ⟨h.1, h.2.1⟩
  · rcases hE with hE | hE
    · exact absurd (c1.symm.trans hE.2) (by decide)
    · exact absurd (c2.symm.trans hE.2.2) (by decide)
theorem d7_ok (l : Launch) (hlt : l.stackTraces = false) (G : Gx) (hG : gOk G) (hF : Full G) (σ : St) {g n e9 z : Nat} {b : Bool} (hC : CIv σ g n b e9 z) (x : Nat) (y w : Int32) (hx : x < n) (hc : (b && !finB σ 4 x && !decide (σ 24 x = -1)) = true) : CmI l yL_does wsL_does rmL_does_7 G σ [.ref (gad G 0), .int 7, .int (nI x), .int y, .int w] (fun r σ' => r = (if σ 24 x = 0 then 0 else if σ 24 x = 2 then 0 else if σ 24 x = 1 then nI (htN (tkS σ x) n (nI (rkA σ n x) - 1) (rkA σ n x) (σ 0 9 + 5) n) else nI (htN (tkS σ x) n 0 (rkA σ n x) (σ 0 9 + 2) n)) ∧ σ' = (if σ 24 x = 0 then upA (tkS σ x) 26 (upd (σ 26) x 0) else if σ 24 x = 2 then upA (tkS σ x) 25 (upd (σ 25) x 1) else if σ 24 x = 1 then htL (tkS σ x) n (nI (rkA σ n x) - 1) (rkA σ n x) (σ 0 9 + 5) n else htL (tkS σ x) n 0 (rkA σ n x) (σ 0 9 + 2) n)) 1 6 := by
  have hg9 := hC.1.2.2
  have hn9 := hC.2.1.2
  have ex : ix (nI x) = x := ix_nI (by omega)
  have c1 : inB (nI x) n = true := inB_y hx (by omega)
  have c2 : (b && !finB σ 4 (ix (nI x)) && !decide (σ 24 (ix (nI x)) = -1)) = true := by rw [ex]; exact hc
  refine (kL_does_7 l hlt G hG hF σ (nI x) y w g n e9 z b hC).mono (fun r σ9 h => ?_)
  rcases h with h | ⟨E9, hE, q1, q2⟩
  · rw [ex] at h; exact ⟨h.1, h.2.1⟩
  · rcases hE with hE | hE
    · exact absurd (c1.symm.trans hE.2) (by decide)
    · exact absurd (c2.symm.trans hE.2.2) (by decide)
theorem d8_ok (l : Launch) (hlt : l.stackTraces = false) (G : Gx) (hG : gOk G) (hF : Full G) (σ : St) {g n e9 z : Nat} {b : Bool} (hC : CIv σ g n b e9 z) (x y w : Int32) (hn0 : b = true → 0 < n) (hb : b = true) : CmI l yL_does wsL_does rmL_does_8 G σ [.ref (gad G 0), .int 8, .int x, .int y, .int w] (fun r σ' => r = nI (wnA σ n n) ∧ σ' = enSt σ n e9) 1 6 := by
  have hg9 := hC.1.2.2
  have hn9 := hC.2.1.2
  have c1 : b = true := hb
  refine (kL_does_8 l hlt G hG hF σ x y w g n e9 z b hC hn0).mono (fun r σ9 h => ?_)
  rcases h with h | ⟨E9, hE, q1, q2⟩
  · exact ⟨h.1, h.2.1⟩
  · exact absurd (c1.symm.trans hE.2) (by decide)
theorem d9_ok (l : Launch) (hlt : l.stackTraces = false) (G : Gx) (hG : gOk G) (hF : Full G) (σ : St) {g n e9 z : Nat} {b : Bool} (hC : CIv σ g n b e9 z) (q : Nat) (y w : Int32) (h2 : q ≤ 3) : CmI l yL_does wsL_does rmL_does_9 G σ [.ref (gad G 0), .int 9, .int (nI q), .int y, .int w] (fun r σ' => r = σ 27 3 ∧ σ' = upA σ 27 (upd (σ 27) 3 (nI q))) 1 6 := by
  have hg9 := hC.1.2.2
  have hn9 := hC.2.1.2
  have c1 : inR (nI q) 0 3 = true := inR_y (lo := 0) (hi := 3) (by omega) (by decide) (by decide) (Nat.zero_le q) h2
  refine (kL_does_9 l hlt G hG hF σ (nI q) y w g n e9 z b hC).mono (fun r σ9 h => ?_)
  rcases h with h | ⟨E9, hE, q1, q2⟩
  · exact ⟨h.1, h.2.1⟩
  · exact absurd (c1.symm.trans hE.2) (by decide)
