/-! a passing -/
theorem noSt_o {σ : St} {z k t c : Nat} (h : c ≠ 20) (h1 : c ≠ 21) (h2 : c ≠ 22) : noSt σ z k t c = σ c := by
  unfold noSt
  rw [upA_n h, upA_n h2, upA_n h1]
theorem mvS_B {σ : St} {B k t : Nat} : mvS σ B k t B = upd (σ B) 10 (σ B 10 + 1) := by
  have h0 : mv0 σ B k t B = upd (σ B) 10 (σ B 10 + 1) := by
    unfold mv0
    rw [upA_n (by omega), upA_n (by omega), upA_s]
  unfold mvS
  split
  · split
    · unfold crS
      split
      · split
        · rw [upA_n (by omega), upA_n (by omega), h0]
        · rw [upA_n (by omega), h0]
      · rw [upA_n (by omega), upA_n (by omega), h0]
    · unfold rgS
      split
      · rw [upA_n (by omega), h0]
      · exact h0
  · unfold bkS
    split
    · rw [upA_n (by omega), h0]
    · rw [upA_n (by omega), h0]
theorem mpS_o {σ : St} {z k t c : Nat} (h : c ≠ 31 ∧ (c < 35 ∨ 40 < c)) : mpS σ z k t c = σ c := by
  have h0 : mp0 σ z k t c = σ c := by
    unfold mp0
    rw [upA_n (by omega), upA_n (by omega), upA_n (by omega)]
  unfold mpS
  split
  · split
    · unfold mcS
      split
      · split
        · split
          · rw [upA_n (by omega), upA_n (by omega), upA_n (by omega), h0]
          · rw [upA_n (by omega), upA_n (by omega), h0]
        · rw [upA_n (by omega), h0]
      · rw [upA_n (by omega), upA_n (by omega), h0]
    · unfold mrg
      rw [upA_n (by omega), h0]
  · unfold mbk
    rw [upA_n (by omega), upA_n (by omega), h0]
/-- the record with the passing more tells the race with the passing more -/
theorem rc_next {σ τ : St} {z k t : Nat} (hrc : rcEq (rbS σ z) 12 σ 4) (hτ : ∀ c, c < 31 → τ c = mvS (noSt σ z k t) 4 k t c) (hk : k < 6) (ht : t < 12) (hrec : ∀ i, i < z → ix (σ 21 i) < 6) : rcEq (rbS τ (z + 1)) 12 τ 4 := by
  have hN : ∀ c, c < 4 ∨ 9 < c → c < 31 → τ c = noSt σ z k t c := fun c h1 h2 => (hτ c h2).trans (mvS_o (by omega))
  have h21 : τ 21 = upd (σ 21) z (nI k) := by rw [hN 21 (by decide) (by decide)]; unfold noSt; rw [upA_n (by decide), upA_n (by decide), upA_s]
  have h22 : τ 22 = upd (σ 22) z (nI t) := by rw [hN 22 (by decide) (by decide)]; unfold noSt; rw [upA_n (by decide), upA_s]
  have h0 : τ 0 = σ 0 := (hN 0 (by decide) (by decide)).trans (noSt_o (by decide) (by decide) (by decide))
  have h1 : τ 1 = σ 1 := (hN 1 (by decide) (by decide)).trans (noSt_o (by decide) (by decide) (by decide))
  have h2 : τ 2 = σ 2 := (hN 2 (by decide) (by decide)).trans (noSt_o (by decide) (by decide) (by decide))
  have h4 : τ 4 9 = σ 4 9 := by
    rw [hτ 4 (by decide), mvS_B, pk_un (by decide), noSt_o (by decide) (by decide) (by decide)]
  have q1 : rcEq (rbS τ z) 12 (rbS σ z) 12 := rb_cong (by rw [h0]) h4 h2 (by rw [h1]) z (fun i hi => ⟨by rw [h21, pk_un (by omega)], by rw [h22, pk_un (by omega)], hrec i hi⟩)
  have q2 : rcEq σ 4 (noSt σ z k t) 4 := ⟨fun c a1 a2 a _ => by rw [noSt_o (by omega) (by omega) (by omega)], by rw [noSt_o (by decide) (by decide) (by decide)], by rw [noSt_o (by decide) (by decide) (by decide)], by rw [noSt_o (by decide) (by decide) (by decide)]⟩
  have q3 : rcEq (rbS τ z) 12 (noSt σ z k t) 4 := rcEq_t q1 (rcEq_t hrc q2)
  have q4 := (rc_mv (Or.inr rfl) (Or.inl rfl) q3 (by rw [rbS_o (by decide), h2, noSt_o (by decide) (by decide) (by decide)]) (by rw [rbS_o (by decide), h1, noSt_o (by decide) (by decide) (by decide)]) t hk).1
  have q5 : rcEq (mvS (noSt σ z k t) 4 k t) 4 τ 4 := ⟨fun c a1 a2 a _ => by rw [hτ (4 + c) (by omega)], by rw [hτ 4 (by decide)], by rw [hτ 4 (by decide)], by rw [hτ 4 (by decide)]⟩
  rw [rbS, h21, h22, pk_us, pk_us, show ix (nI k) = k from nI_clamp (by omega), show ix (nI t) = t from nI_clamp (by omega)]
  exact rcEq_t q4 q5
theorem mcan_cong {τ σ : St} {b : Bool} {k t : Nat} (h40 : τ 40 = σ 40) (h43 : τ 43 = σ 43) (h31 : τ 31 = σ 31) (h32 : τ 32 = σ 32) (h35 : τ 35 = σ 35) : mcan τ b k t = mcan σ b k t := by
  unfold mcan
  rw [h40, h43, h31, h32, h35]
theorem stu_le {aw t : Nat} (h1 : aw < 2 ^ 30) (h2 : t < 2 ^ 30) : decide ((if nI aw - nI t < 0 then 0 else nI aw - nI t) ≤ 0) = decide (nI aw ≤ nI t) := by
  rw [stun_eq h1 h2]
  have h3 : (nI aw - nI t).toInt = (aw : Int) - t := pk_sub_toInt h1 h2
  have h4 := nI_leI (a := aw) (b := t) (by omega) (by omega)
  apply decide_eq_decide.mpr
  by_cases e : aw ≤ t
  · rw [if_pos (h4.mpr e)]
    exact ⟨fun _ => h4.mpr e, fun _ => Int32.le_refl 0⟩
  · rw [if_neg (fun q => e (h4.mp q)), Int32.le_iff_toInt_le, h3, show (0 : Int32).toInt = 0 from by decide]
    exact ⟨fun q => absurd q (by omega), fun q => absurd (h4.mp q) e⟩
theorem cnd_p {σ : St} {g n sd e z t j k y : Nat} {b : Bool} (hC : CIv σ g n b e z) (hR : Rel σ g n sd b e z t) (ht : t ≤ 100 * j) (hz : z ≤ j) (hj : j < 512) (hk : k < 6) : mcan σ b k y = canP σ b z k y := by
  obtain ⟨r1, ⟨w1, w2, w3, w4⟩, rC, ⟨v1, v2, v3⟩, rR⟩ := hR
  have hz5 := hC.2.2.2.2.1.2
  unfold mcan canP
  cases b
  · rfl
  · have hr := rR rfl
    obtain ⟨G9, ⟨hG1, hG9, h9, -⟩, hrow, hkt, -⟩ := hr
    have hK := hkt k hk
    obtain ⟨lp, db, mo, aw, ga, -, -, -, ⟨h3, h4⟩, -⟩ := hkt k hk
    have hs : decide (σ 43 k ≤ σ 31 10) = decide (stuA σ k ≤ 0) := by
      unfold stuA
      rw [(hrow k hk).2.2.2, v2, v1, h3]
      exact (stu_le (by omega) (by omega)).symm
    have hg : gN σ 4 k = ix (σ 35 k) := by
      rw [(hrow k hk).1.1]
      rfl
    unfold wayB
    rw [(RK_f h9 hG9 hK hz5).2.1, hs, w1, hg, decide_eq_true (show z < 512 by omega), Bool.and_true]
/-- what a passing must leave -/
theorem pass_inv {σ W τ : St} {g n sd e z t j k y lp db pa G9 : Nat} {v8 : Int32} (hC : CIv σ g n true e z) (hM : MIv σ g n sd true e z) (hR : Rel σ g n sd true e z t) (ht : t ≤ 100 * j) (hz : z ≤ j) (hj : j < 512) (hk : k < 6) (hy : y < g) (hW : W = mvS (noSt σ z k y) 4 k y) (hG : σ 4 9 = nI G9) (hG1 : 1 ≤ G9) (hG2 : G9 ≤ 9)
    (hc : ∀ c, c < 31 → τ c = W c) (hm : ∀ c, 40 < c → c < 46 → τ c = σ c) (h31 : ∀ i, i ≠ 25 → i ≠ 11 → τ 31 i = σ 31 i) (h11 : τ 31 11 = nI (z + 1)) (h32 : τ 32 = σ 32) (h33 : τ 33 = σ 33) (h34 : τ 34 = σ 34)
    (w6 : W 6 = upd (σ 6) k (nI lp)) (hlp : lp ≤ G9) (w7 : W 7 = upd (σ 7) k (nI db)) (hdb : db ≤ z + 1) (w8 : W 8 = upd (σ 8) k v8) (h8 : v8 &&& 1 = 0) (w9 : W 9 = upd (σ 9) k (nI (z + 1)))
    (t35 : τ 35 = upd (σ 35) k (nI y)) (t36 : τ 36 = upd (σ 36) k (nI lp)) (t37 : τ 37 = upd (σ 37) k (nI db)) (t38 : τ 38 = upd (σ 38) k v8) (t39 : τ 39 = upd (σ 39) k (nI (z + 1))) (t40 : τ 40 = upd (σ 40) k (nI (if lp = G9 then z + 1 else 0))) : Inv τ (j + 1) := by
  obtain ⟨hC1, hC2, hC3, hC4, hC5, hC6, hC7, hC8⟩ := id hC
  obtain ⟨m1, m2, m3, m4, m5, m6, m7, m8⟩ := id hM
  obtain ⟨r1, ⟨r2, r3, r4, r5⟩, ⟨r6, r7, r8, r9, r10⟩, ⟨r11, r12, r13⟩, r14⟩ := hR
  obtain ⟨G8, ⟨p1, p2, p3, p4, p5, p0⟩, p6, p7, p8, p9, p10⟩ := r14 rfl
  have hGG : G8 = G9 := (nI_eq (by omega) (by omega)).mp (p3.symm.trans hG)
  subst hGG
  have hg12 := hC1.2.2
  have hN : ∀ c, c < 4 ∨ 9 < c → c < 31 → τ c = noSt σ z k y c := fun c a1 a2 => (hc c a2).trans (by rw [hW]; exact mvS_o (by omega))
  have hS : ∀ c, c < 4 ∨ 9 < c → c < 31 → c ≠ 20 → c ≠ 21 → c ≠ 22 → τ c = σ c := fun c a1 a2 a3 a4 a5 => (hN c a1 a2).trans (noSt_o a3 a4 a5)
  have s20 : τ 20 = upd (σ 20) 2 (nI (z + 1)) := by rw [hN 20 (by decide) (by decide)]; unfold noSt; rw [upA_s]
  have s21 : τ 21 = upd (σ 21) z (nI k) := by rw [hN 21 (by decide) (by decide)]; unfold noSt; rw [upA_n (by decide), upA_n (by decide), upA_s]
  have s22 : τ 22 = upd (σ 22) z (nI y) := by rw [hN 22 (by decide) (by decide)]; unfold noSt; rw [upA_n (by decide), upA_s]
  have s4 : τ 4 = upd (σ 4) 10 (nI (z + 1)) := by
    rw [hc 4 (by decide), hW, mvS_B, noSt_o (by decide) (by decide) (by decide), p5, nI_1]
  have s5 : τ 5 = upd (σ 5) k (nI y) := by
    rw [hc 5 (by decide), hW]
    exact mvS_g.trans (by rw [noSt_o (by decide) (by decide) (by decide)])
  have s6 : τ 6 = upd (σ 6) k (nI lp) := (hc 6 (by decide)).trans w6
  have s7 : τ 7 = upd (σ 7) k (nI db) := (hc 7 (by decide)).trans w7
  have s8 : τ 8 = upd (σ 8) k v8 := (hc 8 (by decide)).trans w8
  have s9 : τ 9 = upd (σ 9) k (nI (z + 1)) := (hc 9 (by decide)).trans w9
  have S0 := hS 0 (by decide) (by decide) (by decide) (by decide) (by decide)
  have S1 := hS 1 (by decide) (by decide) (by decide) (by decide) (by decide)
  have S2 := hS 2 (by decide) (by decide) (by decide) (by decide) (by decide)
  have S3 := hS 3 (by decide) (by decide) (by decide) (by decide) (by decide)
  have S27 := hS 27 (by decide) (by decide) (by decide) (by decide) (by decide)
  have S28 := hS 28 (by decide) (by decide) (by decide) (by decide) (by decide)
  have ix_n : ∀ v, v < 12 → nI v = nI (ix (nI v)) ∧ ix (nI v) < 12 := fun v hv => by
    have q : ix (nI v) = v := nI_clamp (by omega)
    rw [q]; exact ⟨rfl, hv⟩
  refine ⟨g, n, sd, e, z + 1, t, true, ⟨?_, ?_, ?_, ?_, ?_, ?_, ?_, ?_⟩, ⟨?_, ?_, ?_, ?_, ?_, ?_, ?_, m8⟩, ⟨r1, ⟨?_, ?_, ?_, ?_⟩, ⟨?_, ?_, ?_, ?_, ?_⟩, ⟨?_, ?_, ?_⟩, fun _ => ⟨G8, ⟨p1, p2, ?_, ?_, ?_, ?_⟩, fun a ha => ?_, fun a ha => ?_, ?_, ?_, ?_⟩⟩, by omega, by omega⟩
  · rw [S1]; exact hC1
  · rw [S0]; exact hC2
  · rw [S0]; exact hC3
  · rw [S27]; exact hC4
  · rw [s20]; exact ⟨rfl, by omega⟩
  · intro a ha
    have q := hC6 a ha
    unfold gN at q ⊢
    rw [show τ (4 + 1) = upd (σ 5) k (nI y) from s5]
    unfold upd
    split
    · exact ix_n y (by omega)
    · exact q
  · rw [s4]; exact hC7
  · intro i hi
    rw [s21, s22]
    unfold upd
    by_cases q : i = z
    · rw [if_pos q, if_pos q]
      refine ⟨⟨(ix_n k (by omega)).1, ?_⟩, ix_n y (by omega)⟩
      rw [show ix (nI k) = k from nI_clamp (by omega)]
      exact hk
    · rw [if_neg q, if_neg q]
      exact hC8 i (by omega)
  · rw [h31 0 (by decide) (by decide)]; exact m1
  · rw [h31 4 (by decide) (by decide)]; exact m2
  · rw [h31 6 (by decide) (by decide)]; exact m3
  · rw [h31 7 (by decide) (by decide)]; exact m4
  · rw [h31 8 (by decide) (by decide)]; exact m5
  · exact ⟨h11, by omega⟩
  · intro a ha
    rw [t35]
    unfold upd
    split
    · exact ix_n y (by omega)
    · exact m7 a ha
  · rw [h32, S2]; exact r2
  · rw [S2]; exact r3
  · rw [h31 1 (by decide) (by decide), S1]; exact r4
  · rw [S2, S3]; exact r5
  · rw [hm 44 (by decide) (by decide), S28]; exact r6
  · rw [hm 45 (by decide) (by decide), hS 29 (by decide) (by decide) (by decide) (by decide) (by decide)]; exact r7
  · rw [h34, hS 30 (by decide) (by decide) (by decide) (by decide) (by decide)]; exact r8
  · rw [h31 24 (by decide) (by decide), S27]; exact r9
  · rw [S28]; exact r10
  · rw [S0]; exact r11
  · rw [h31 10 (by decide) (by decide)]; exact r12
  · rw [h31 12 (by decide) (by decide), hS 23 (by decide) (by decide) (by decide) (by decide) (by decide)]; exact r13
  · rw [s4]; exact p3
  · rw [h31 9 (by decide) (by decide)]; exact p4
  · rw [s4]; rfl
  · rw [s4]; exact p0
  · obtain ⟨⟨x5, x6, x7, x8, x9⟩, y1, y2, y3⟩ := p6 a ha
    rw [t35, t36, t37, t38, t39, s5, s6, s7, s8, s9, hm 41 (by decide) (by decide), hm 42 (by decide) (by decide), hm 43 (by decide) (by decide), hS 24 (by decide) (by decide) (by decide) (by decide) (by decide), hS 25 (by decide) (by decide) (by decide) (by decide) (by decide), hS 26 (by decide) (by decide) (by decide) (by decide) (by decide)]
    unfold upd
    by_cases q : a = k
    · simp only [if_pos q]
      exact ⟨⟨by trivial, by trivial, by trivial, by trivial, by trivial⟩, y1, y2, y3⟩
    · simp only [if_neg q]
      exact ⟨⟨x5, x6, x7, x8, x9⟩, y1, y2, y3⟩
  · obtain ⟨lp0, db0, mo, aw, ga, ⟨a1, a2⟩, ⟨a3, a4⟩, ⟨a5, a6⟩, ⟨a7, a8⟩, ⟨a9, a10⟩, a11, a12, a13⟩ := p7 a ha
    unfold RKart
    rw [s5, s6, s7, s8, s9, t40, hS 26 (by decide) (by decide) (by decide) (by decide) (by decide)]
    unfold upd
    by_cases q : a = k
    · simp only [if_pos q]
      exact ⟨lp, db, z + 1, aw, y, ⟨rfl, hlp⟩, ⟨rfl, hdb⟩, ⟨rfl, by omega⟩, ⟨a7, a8⟩, ⟨rfl, hy⟩, rfl, fun _ => by omega, h8⟩
    · simp only [if_neg q]
      exact ⟨lp0, db0, mo, aw, ga, ⟨a1, a2⟩, ⟨a3, by omega⟩, ⟨a5, by omega⟩, ⟨a7, a8⟩, ⟨a9, a10⟩, a11, a12, a13⟩
  · intro i1 i2 hi1 hi2 hne hq
    have hlt : ∀ a, a < 6 → σ 9 a = nI (z + 1) → False := fun a ha q => by
      obtain ⟨lp0, db0, mo, aw, ga, -, -, ⟨a5, a6⟩, -⟩ := p7 a ha
      have := (nI_eq (by omega) (by omega)).mp (a5.symm.trans q)
      omega
    rw [s9] at hq ⊢
    unfold upd at hq ⊢
    by_cases q1 : i1 = k
    · rw [if_pos q1, if_neg (by omega)] at hq
      exact (hlt i2 hi2 hq.symm).elim
    · rw [if_neg q1] at hq ⊢
      by_cases q2 : i2 = k
      · rw [if_pos q2] at hq
        exact (hlt i1 hi1 hq).elim
      · rw [if_neg q2] at hq
        exact p8 i1 i2 hi1 hi2 hne hq
  · intro a ha
    rw [h33, S3]
    exact p9 a ha
  · exact rc_next p10 (fun c q => by rw [← hW]; exact hc c q) hk (by omega) (CIv_rec hC)
theorem mpS_31 {σ : St} {z k t : Nat} : mpS σ z k t 31 = upd (σ 31) 11 (nI (z + 1)) := by
  have h0 : mp0 σ z k t 31 = upd (σ 31) 11 (nI (z + 1)) := by
    unfold mp0
    rw [upA_n (by decide), upA_n (by decide), upA_s]
  unfold mpS
  split
  · split
    · unfold mcS
      split
      · split
        · split
          · rw [upA_n (by decide), upA_n (by decide), upA_n (by decide), h0]
          · rw [upA_n (by decide), upA_n (by decide), h0]
        · rw [upA_n (by decide), h0]
      · rw [upA_n (by decide), upA_n (by decide), h0]
    · unfold mrg
      rw [upA_n (by decide), h0]
  · unfold mbk
    rw [upA_n (by decide), upA_n (by decide), h0]
theorem upd_v {f : Nat → Int32} {k : Nat} {v : Int32} (h : f k = v) : f = upd f k v := by
  rw [← h]
  exact (upd_self f k).symm
theorem pass_all {σ W A : St} {g n sd e z t j k y : Nat} {ff : Nat → Int32} (hC : CIv σ g n true e z) (hM : MIv σ g n sd true e z) (hR : Rel σ g n sd true e z t) (ht : t ≤ 100 * j) (hz : z ≤ j) (hj : j < 512) (hk : k < 6) (hy : y < g) (hcan : canP σ true z k y = true) (hW : W = mvS (noSt σ z k y) 4 k y) (hA : A = thr (upA W 46 ff) 0) : Inv (mpS A z k y) (j + 1) ∧ mpR A z k y = mvR (noSt σ z k y) 4 k y ∧ mpS A z k y 31 25 = 0 ∧ mpS A z k y 46 = ff := by
  have hg12 := hC.1.2.2
  have hz5 := hC.2.2.2.2.1.2
  obtain ⟨G9, ⟨p1, p2, p3, p4, p5, p0⟩, p6, p7, p8, p9, p10⟩ := hR.2.2.2.2 rfl
  obtain ⟨w1, w2, w3, w4⟩ := hR.2.1
  have hKR := p7 k hk
  obtain ⟨lp0, db0, mo, aw, ga, ⟨a1, a2⟩, ⟨a3, a4⟩, ⟨a5, a6⟩, ⟨a7, a8⟩, ⟨a9, a10⟩, a11, a12, a13⟩ := p7 k hk
  obtain ⟨⟨x5, x6, x7, x8, x9⟩, x1, x2, x3⟩ := p6 k hk
  have hnf : finB σ 4 k = false := by
    unfold canP at hcan
    cases q : finB σ 4 k
    · rfl
    · rw [q] at hcan; exact absurd hcan (by simp)
  have hlt : lp0 < G9 := by
    unfold finB at hnf
    rw [show σ (4 + 2) k = nI lp0 from a1, p3] at hnf
    have q : nI lp0 < nI G9 := by
      rw [Bool.not_eq_false', decide_eq_true_eq] at hnf
      exact hnf
    exact (nI_ltI (by omega) (by omega)).mp q
  have h40 : σ 40 k = nI 0 := by rw [a11, if_neg (by omega)]
  have oN : ∀ c, c < 20 → noSt σ z k y c = σ c := fun c q => noSt_o (by omega) (by omega) (by omega)
  have oW : ∀ c, 31 ≤ c → W c = σ c := fun c q => by rw [hW, mvS_o (by omega), noSt_o (by omega) (by omega) (by omega)]
  have oA : ∀ c, c ≠ 31 → c ≠ 46 → A c = W c := fun c q1 q2 => by rw [hA, thr_o q1, upA_n q2]
  have oAm : ∀ c, 31 < c → c < 46 → A c = σ c := fun c q1 q2 => (oA c (by omega) (by omega)).trans (oW c (by omega))
  have A31 : A 31 = upd (σ 31) 25 (nI 0) := by
    rw [hA]
    unfold thr
    rw [upA_s, upA_n (by decide), oW 31 (by decide)]
  have A46 : A 46 = ff := by rw [hA, thr_o (by decide), upA_s]
  have hgN : gN (noSt σ z k y) 4 k = gN σ 4 k := by unfold gN; rw [oN 5 (by decide)]
  have hgA : ix (A 35 k) = gN σ 4 k := by rw [oAm 35 (by decide) (by decide), x5]; rfl
  have hA32 : A 32 = σ 2 := (oAm 32 (by decide) (by decide)).trans w1
  have hN2 : noSt σ z k y 2 = σ 2 := oN 2 (by decide)
  have hf12 : gN σ 4 k < 12 := by
    have := (RK_g hKR hg12).1
    omega
  generalize hf0 : gN σ 4 k = f0 at hgN hgA hf12
  have hP : ∀ c, c ≠ 31 → c ≠ 35 → c ≠ 39 → mp0 A z k y c = A c := fun c q1 q2 q3 => by unfold mp0; rw [upA_n q2, upA_n q3, upA_n q1]
  have P35 : mp0 A z k y 35 = upd (σ 35) k (nI y) := by unfold mp0; rw [upA_s, oAm 35 (by decide) (by decide)]
  have P39 : mp0 A z k y 39 = upd (σ 39) k (nI (z + 1)) := by unfold mp0; rw [upA_n (by decide), upA_s, oAm 39 (by decide) (by decide)]
  have P31 : mp0 A z k y 31 = upd (upd (σ 31) 25 (nI 0)) 11 (nI (z + 1)) := by unfold mp0; rw [upA_n (by decide), upA_n (by decide), upA_s, A31]
  have P36 : mp0 A z k y 36 = σ 36 := (hP 36 (by decide) (by decide) (by decide)).trans (oAm 36 (by decide) (by decide))
  have P37 : mp0 A z k y 37 = σ 37 := (hP 37 (by decide) (by decide) (by decide)).trans (oAm 37 (by decide) (by decide))
  have P38 : mp0 A z k y 38 = σ 38 := (hP 38 (by decide) (by decide) (by decide)).trans (oAm 38 (by decide) (by decide))
  have P40 : mp0 A z k y 40 = σ 40 := (hP 40 (by decide) (by decide) (by decide)).trans (oAm 40 (by decide) (by decide))
  have P311 : mp0 A z k y 31 1 = σ 1 3 := by rw [P31]; exact w3
  have P319 : mp0 A z k y 31 9 = nI G9 := by rw [P31]; exact p4
  have P3111 : mp0 A z k y 31 11 = nI (z + 1) := by rw [P31]; rfl
  have hQ : ∀ c, c < 20 → c ≠ 4 → c ≠ 5 → c ≠ 9 → mv0 (noSt σ z k y) 4 k y c = σ c := fun c q0 q1 q2 q3 => by unfold mv0; rw [upA_n q2, upA_n q3, upA_n q1, oN c q0]
  have Q6 : mv0 (noSt σ z k y) 4 k y 6 = σ 6 := hQ 6 (by decide) (by decide) (by decide) (by decide)
  have Q7 : mv0 (noSt σ z k y) 4 k y 7 = σ 7 := hQ 7 (by decide) (by decide) (by decide) (by decide)
  have Q8 : mv0 (noSt σ z k y) 4 k y 8 = σ 8 := hQ 8 (by decide) (by decide) (by decide) (by decide)
  have Q1 : mv0 (noSt σ z k y) 4 k y 1 = σ 1 := hQ 1 (by decide) (by decide) (by decide) (by decide)
  have Q4 : mv0 (noSt σ z k y) 4 k y 4 = upd (σ 4) 10 (nI (z + 1)) := by unfold mv0; rw [upA_n (by decide), upA_n (by decide), upA_s, oN 4 (by decide), p5, nI_1]
  have Q9 : mv0 (noSt σ z k y) 4 k y 9 = upd (σ 9) k (nI (z + 1)) := by unfold mv0; rw [upA_n (by decide), upA_s, oN 4 (by decide), oN 9 (by decide), p5, nI_1]
  have hc : ∀ c, c < 31 → mpS A z k y c = W c := fun c q => by rw [mpS_o (by omega), oA c (by omega) (by omega)]
  have hm : ∀ c, 40 < c → c < 46 → mpS A z k y c = σ c := fun c q1 q2 => by rw [mpS_o (by omega), oAm c (by omega) q2]
  have h31 : ∀ i, i ≠ 25 → i ≠ 11 → mpS A z k y 31 i = σ 31 i := fun i q1 q2 => by rw [mpS_31, A31, pk_un q2, pk_un q1]
  have h11 : mpS A z k y 31 11 = nI (z + 1) := by rw [mpS_31, pk_us]
  have h32 : mpS A z k y 32 = σ 32 := by rw [mpS_o (by decide), oAm 32 (by decide) (by decide)]
  have h33 : mpS A z k y 33 = σ 33 := by rw [mpS_o (by decide), oAm 33 (by decide) (by decide)]
  have h34 : mpS A z k y 34 = σ 34 := by rw [mpS_o (by decide), oAm 34 (by decide) (by decide)]
  have h25 : mpS A z k y 31 25 = 0 := by rw [mpS_31, A31]; rfl
  have h46 : mpS A z k y 46 = ff := by rw [mpS_o (by decide), A46]
  have x36 : σ 36 k = nI lp0 := x6.trans a1
  have x37 : σ 37 k = nI db0 := x7.trans a3
  have hdb0 := nI_leI (a := db0) (b := 0) (by omega) (by decide)
  have hl6 : σ 40 = upd (σ 40) k (nI (if lp0 = G9 then z + 1 else 0)) := upd_v (by rw [h40, if_neg (by omega)])
  cases hl : ldB (σ 2) f0 y
  · have hwS : ∀ q, mvS (noSt σ z k y) 4 k y = q ↔ bkS (mv0 (noSt σ z k y) 4 k y) 4 k f0 = q := fun q => by unfold mvS; rw [hN2, hgN, hl, if_neg (by decide)]
    have hmS : mpS A z k y = mbk (mp0 A z k y) k f0 := by unfold mpS; rw [hA32, hgA, hl, if_neg (by decide)]
    have hrr : mpR A z k y = mvR (noSt σ z k y) 4 k y := by unfold mpR mvR; rw [hA32, hgA, hN2, hgN, hl, if_neg (by decide), if_neg (by decide)]
    by_cases c0 : f0 = 0
    · subst c0
      have eW : W = upA (mv0 (noSt σ z k y) 4 k y) 7 (upd ((mv0 (noSt σ z k y) 4 k y) 7) k ((mv0 (noSt σ z k y) 4 k y) 7 k + 1)) := by rw [hW]; exact (hwS _).mpr rfl
      have eM : mpS A z k y = upA (upA (mp0 A z k y) 37 (upd ((mp0 A z k y) 37) k ((mp0 A z k y) 37 k + 1))) 38 (upd ((mp0 A z k y) 38) k ((mp0 A z k y) 38 k &&& (((1 : Int32) <<< (nI 0 &&& 31)) ^^^ (-1)))) := by rw [hmS]; rfl
      refine ⟨pass_inv (lp := lp0) (db := db0 + 1) (v8 := σ 8 k) (G9 := G9) (pa := 0) hC hM hR ht hz hj hk hy hW p3 p1 p2 hc hm h31 h11 h32 h33 h34 ?_ (by omega) ?_ (by omega) ?_ ?_ ?_ ?_ ?_ ?_ ?_ ?_ ?_, ?_, h25, h46⟩
      · rw [eW, upA_n (by decide), Q6]; exact upd_v a1
      · rw [eW, upA_s, Q7]; rw [a3, nI_1]
      · rw [eW, upA_n (by decide), Q8]; exact upd_v rfl
      · exact a13
      · rw [eW, upA_n (by decide), Q9]
      · rw [eM, upA_n (by decide), upA_n (by decide), P35]
      · rw [eM, upA_n (by decide), upA_n (by decide), P36]; exact upd_v x36
      · rw [eM, upA_n (by decide), upA_s, P37]; rw [x37, nI_1]
      · rw [eM, upA_s, P38]; rw [x8, bt_0 a13]
      · rw [eM, upA_n (by decide), upA_n (by decide), P39]
      · rw [eM, upA_n (by decide), upA_n (by decide), P40]; exact hl6
      · exact hrr
    · have eW : W = upA (mv0 (noSt σ z k y) 4 k y) 8 (upd ((mv0 (noSt σ z k y) 4 k y) 8) k ((mv0 (noSt σ z k y) 4 k y) 8 k &&& (((1 : Int32) <<< (nI f0 &&& 31)) ^^^ (-1)))) := by rw [hW]; exact (hwS _).mpr (if_neg c0)
      have eM : mpS A z k y = upA (upA (mp0 A z k y) 37 (upd ((mp0 A z k y) 37) k ((mp0 A z k y) 37 k + 0))) 38 (upd ((mp0 A z k y) 38) k ((mp0 A z k y) 38 k &&& (((1 : Int32) <<< (nI f0 &&& 31)) ^^^ (-1)))) := by rw [hmS]; unfold mbk; rw [if_neg c0]
      refine ⟨pass_inv (lp := lp0) (db := db0) (v8 := σ 8 k &&& (((1 : Int32) <<< (nI f0 &&& 31)) ^^^ (-1))) (G9 := G9) (pa := 0) hC hM hR ht hz hj hk hy hW p3 p1 p2 hc hm h31 h11 h32 h33 h34 ?_ (by omega) ?_ (by omega) ?_ ?_ ?_ ?_ ?_ ?_ ?_ ?_ ?_, ?_, h25, h46⟩
      · rw [eW, upA_n (by decide), Q6]; exact upd_v a1
      · rw [eW, upA_n (by decide), Q7]; exact upd_v a3
      · rw [eW, upA_s, Q8]
      · exact bt_and a13
      · rw [eW, upA_n (by decide), Q9]
      · rw [eM, upA_n (by decide), upA_n (by decide), P35]
      · rw [eM, upA_n (by decide), upA_n (by decide), P36]; exact upd_v x36
      · rw [eM, upA_n (by decide), upA_s, P37]; rw [Int32.add_zero, x37]
      · rw [eM, upA_s, P38]; rw [x8]
      · rw [eM, upA_n (by decide), upA_n (by decide), P39]
      · rw [eM, upA_n (by decide), upA_n (by decide), P40]; exact hl6
      · exact hrr
  · by_cases y0 : y = 0
    · have hwS : mvS (noSt σ z k y) 4 k y = crS (mv0 (noSt σ z k y) 4 k y) 4 k := by unfold mvS; rw [hN2, hgN, hl, if_pos rfl, if_pos y0]
      have hmS : mpS A z k y = mcS (mp0 A z k y) k := by unfold mpS; rw [hA32, hgA, hl, if_pos rfl, if_pos y0]
      have hwR : mvR (noSt σ z k y) 4 k y = crR (mv0 (noSt σ z k y) 4 k y) 4 k := by unfold mvR; rw [hN2, hgN, hl, if_pos rfl, if_pos y0]
      have hmR : mpR A z k y = mcR (mp0 A z k y) k := by unfold mpR; rw [hA32, hgA, hl, if_pos rfl, if_pos y0]
      have cq : mv0 (noSt σ z k y) 4 k y (4 + 3) k = nI db0 := by rw [show mv0 (noSt σ z k y) 4 k y (4 + 3) = σ 7 from Q7]; exact a3
      have cp : mp0 A z k y 37 k = nI db0 := by rw [P37]; exact x37
      have cm : misA (mv0 (noSt σ z k y) 4 k y) 4 k = σ 1 3 &&& (σ 8 k ^^^ (-1)) := by unfold misA; rw [Q1, show mv0 (noSt σ z k y) 4 k y (4 + 4) = σ 8 from Q8]
      have cf : fulB (mp0 A z k y) k = decide ((σ 8 k &&& σ 1 3) = σ 1 3) := by unfold fulB; rw [P38, P311, x8]
      have cl : mv0 (noSt σ z k y) 4 k y (4 + 2) k + 1 = nI (lp0 + 1) := by rw [show mv0 (noSt σ z k y) 4 k y (4 + 2) = σ 6 from Q6, a1, nI_1]
      have cg : mv0 (noSt σ z k y) 4 k y 4 9 = nI G9 := by rw [Q4]; exact p3
      have cl2 : mp0 A z k y 36 k + 1 = nI (lp0 + 1) := by rw [P36, x36, nI_1]
      have hll := nI_ltI (a := lp0 + 1) (b := G9) (by omega) (by omega)
      have hle := nI_eq (a := lp0 + 1) (b := G9) (by omega) (by omega)
      by_cases d0 : db0 = 0
      · have c1 : nI db0 ≤ 0 := hdb0.mpr (by omega)
        by_cases c2 : (σ 1 3 &&& (σ 8 k ^^^ (-1))) = 0
        · have c2' : fulB (mp0 A z k y) k = true := by rw [cf]; exact decide_eq_true ((bt_need _ _).mp c2)
          by_cases c3 : lp0 + 1 = G9
          · have eW : W = upA (upA (mv0 (noSt σ z k y) 4 k y) 8 (upd ((mv0 (noSt σ z k y) 4 k y) 8) k (0))) 6 (upd ((mv0 (noSt σ z k y) 4 k y) 6) k ((mv0 (noSt σ z k y) 4 k y) 6 k + 1)) := by rw [hW]; rw [hwS]; unfold crS; rw [if_pos (by rw [cq]; exact c1), if_pos (by rw [cm]; exact c2)]
            have eM : mpS A z k y = upA (upA (upA (mp0 A z k y) 38 (upd ((mp0 A z k y) 38) k (0))) 36 (upd ((mp0 A z k y) 36) k ((mp0 A z k y) 36 k + 1))) 40 (upd ((mp0 A z k y) 40) k ((mp0 A z k y) 31 11)) := by rw [hmS]; unfold mcS; rw [if_pos (by rw [cp]; exact c1), if_pos c2', if_pos (by rw [cl2, P319]; exact hle.mpr c3)]
            refine ⟨pass_inv (lp := lp0 + 1) (db := db0) (v8 := 0) (G9 := G9) (pa := 0) hC hM hR ht hz hj hk hy hW p3 p1 p2 hc hm h31 h11 h32 h33 h34 ?_ (by omega) ?_ (by omega) ?_ ?_ ?_ ?_ ?_ ?_ ?_ ?_ ?_, ?_, h25, h46⟩
            · rw [eW, upA_s, Q6]; rw [a1, nI_1]
            · rw [eW, upA_n (by decide), upA_n (by decide), Q7]; exact upd_v a3
            · rw [eW, upA_n (by decide), upA_s, Q8]
            · decide
            · rw [eW, upA_n (by decide), upA_n (by decide), Q9]
            · rw [eM, upA_n (by decide), upA_n (by decide), upA_n (by decide), P35]
            · rw [eM, upA_n (by decide), upA_s, P36]; rw [x36, nI_1]
            · rw [eM, upA_n (by decide), upA_n (by decide), upA_n (by decide), P37]; exact upd_v x37
            · rw [eM, upA_n (by decide), upA_n (by decide), upA_s, P38]
            · rw [eM, upA_n (by decide), upA_n (by decide), upA_n (by decide), P39]
            · rw [eM, upA_s, P40]; rw [P3111, if_pos c3]
            · rw [hmR, hwR]; unfold mcR crR; rw [if_pos (by rw [cp]; exact c1), if_pos c2', if_pos (by rw [cl2, P319]; exact hle.mpr c3), if_pos (by rw [cq]; exact c1), if_pos (by rw [cm]; exact c2), if_neg (by rw [cl, cg]; exact fun q => by have := hll.mp q; omega)]
          · have eW : W = upA (upA (mv0 (noSt σ z k y) 4 k y) 8 (upd ((mv0 (noSt σ z k y) 4 k y) 8) k (0))) 6 (upd ((mv0 (noSt σ z k y) 4 k y) 6) k ((mv0 (noSt σ z k y) 4 k y) 6 k + 1)) := by rw [hW]; rw [hwS]; unfold crS; rw [if_pos (by rw [cq]; exact c1), if_pos (by rw [cm]; exact c2)]
            have eM : mpS A z k y = upA (upA (mp0 A z k y) 38 (upd ((mp0 A z k y) 38) k (0))) 36 (upd ((mp0 A z k y) 36) k ((mp0 A z k y) 36 k + 1)) := by rw [hmS]; unfold mcS; rw [if_pos (by rw [cp]; exact c1), if_pos c2', if_neg (by rw [cl2, P319]; exact fun q => c3 (hle.mp q))]
            refine ⟨pass_inv (lp := lp0 + 1) (db := db0) (v8 := 0) (G9 := G9) (pa := 0) hC hM hR ht hz hj hk hy hW p3 p1 p2 hc hm h31 h11 h32 h33 h34 ?_ (by omega) ?_ (by omega) ?_ ?_ ?_ ?_ ?_ ?_ ?_ ?_ ?_, ?_, h25, h46⟩
            · rw [eW, upA_s, Q6]; rw [a1, nI_1]
            · rw [eW, upA_n (by decide), upA_n (by decide), Q7]; exact upd_v a3
            · rw [eW, upA_n (by decide), upA_s, Q8]
            · decide
            · rw [eW, upA_n (by decide), upA_n (by decide), Q9]
            · rw [eM, upA_n (by decide), upA_n (by decide), P35]
            · rw [eM, upA_s, P36]; rw [x36, nI_1]
            · rw [eM, upA_n (by decide), upA_n (by decide), P37]; exact upd_v x37
            · rw [eM, upA_n (by decide), upA_s, P38]
            · rw [eM, upA_n (by decide), upA_n (by decide), P39]
            · rw [eM, upA_n (by decide), upA_n (by decide), P40]; exact upd_v (by rw [h40, if_neg c3])
            · rw [hmR, hwR]; unfold mcR crR; rw [if_pos (by rw [cp]; exact c1), if_pos c2', if_neg (by rw [cl2, P319]; exact fun q => c3 (hle.mp q)), if_pos (by rw [cq]; exact c1), if_pos (by rw [cm]; exact c2), if_pos (by rw [cl, cg]; exact hll.mpr (by omega))]
        · have c2' : ¬ fulB (mp0 A z k y) k = true := by rw [cf]; exact fun q => c2 ((bt_need _ _).mpr (of_decide_eq_true q))
          have eW : W = upA (mv0 (noSt σ z k y) 4 k y) 8 (upd ((mv0 (noSt σ z k y) 4 k y) 8) k (0)) := by rw [hW]; rw [hwS]; unfold crS; rw [if_pos (by rw [cq]; exact c1), if_neg (by rw [cm]; exact c2)]
          have eM : mpS A z k y = upA (mp0 A z k y) 38 (upd ((mp0 A z k y) 38) k (0)) := by rw [hmS]; unfold mcS; rw [if_pos (by rw [cp]; exact c1), if_neg c2']
          refine ⟨pass_inv (lp := lp0) (db := db0) (v8 := 0) (G9 := G9) (pa := 0) hC hM hR ht hz hj hk hy hW p3 p1 p2 hc hm h31 h11 h32 h33 h34 ?_ (by omega) ?_ (by omega) ?_ ?_ ?_ ?_ ?_ ?_ ?_ ?_ ?_, ?_, h25, h46⟩
          · rw [eW, upA_n (by decide), Q6]; exact upd_v a1
          · rw [eW, upA_n (by decide), Q7]; exact upd_v a3
          · rw [eW, upA_s, Q8]
          · decide
          · rw [eW, upA_n (by decide), Q9]
          · rw [eM, upA_n (by decide), P35]
          · rw [eM, upA_n (by decide), P36]; exact upd_v x36
          · rw [eM, upA_n (by decide), P37]; exact upd_v x37
          · rw [eM, upA_s, P38]
          · rw [eM, upA_n (by decide), P39]
          · rw [eM, upA_n (by decide), P40]; exact hl6
          · rw [hmR, hwR]; unfold mcR crR; rw [if_pos (by rw [cp]; exact c1), if_neg c2', if_pos (by rw [cq]; exact c1), if_neg (by rw [cm]; exact c2)]
      · have c1 : ¬ nI db0 ≤ 0 := fun q => by have := hdb0.mp q; omega
        have eW : W = upA (upA (mv0 (noSt σ z k y) 4 k y) 8 (upd ((mv0 (noSt σ z k y) 4 k y) 8) k (0))) 7 (upd ((mv0 (noSt σ z k y) 4 k y) 7) k ((mv0 (noSt σ z k y) 4 k y) 7 k - 1)) := by rw [hW]; rw [hwS]; unfold crS; rw [if_neg (by rw [cq]; exact c1)]
        have eM : mpS A z k y = upA (upA (mp0 A z k y) 38 (upd ((mp0 A z k y) 38) k (0))) 37 (upd ((mp0 A z k y) 37) k ((mp0 A z k y) 37 k - 1)) := by rw [hmS]; unfold mcS; rw [if_neg (by rw [cp]; exact c1)]
        refine ⟨pass_inv (lp := lp0) (db := db0 - 1) (v8 := 0) (G9 := G9) (pa := 0) hC hM hR ht hz hj hk hy hW p3 p1 p2 hc hm h31 h11 h32 h33 h34 ?_ (by omega) ?_ (by omega) ?_ ?_ ?_ ?_ ?_ ?_ ?_ ?_ ?_, ?_, h25, h46⟩
        · rw [eW, upA_n (by decide), upA_n (by decide), Q6]; exact upd_v a1
        · rw [eW, upA_s, Q7]; rw [a3, show nI db0 - 1 = nI (db0 - 1) from pk_sub (b := 1) (by omega)]
        · rw [eW, upA_n (by decide), upA_s, Q8]
        · decide
        · rw [eW, upA_n (by decide), upA_n (by decide), Q9]
        · rw [eM, upA_n (by decide), upA_n (by decide), P35]
        · rw [eM, upA_n (by decide), upA_n (by decide), P36]; exact upd_v x36
        · rw [eM, upA_s, P37]; rw [x37, show nI db0 - 1 = nI (db0 - 1) from pk_sub (b := 1) (by omega)]
        · rw [eM, upA_n (by decide), upA_s, P38]
        · rw [eM, upA_n (by decide), upA_n (by decide), P39]
        · rw [eM, upA_n (by decide), upA_n (by decide), P40]; exact hl6
        · rw [hmR, hwR]; unfold mcR crR; rw [if_neg (by rw [cp]; exact c1), if_neg (by rw [cq]; exact c1)]
    · have hwS : mvS (noSt σ z k y) 4 k y = rgS (mv0 (noSt σ z k y) 4 k y) 4 k y := by unfold mvS; rw [hN2, hgN, hl, if_pos rfl, if_neg y0]
      have hmS : mpS A z k y = mrg (mp0 A z k y) k y := by unfold mpS; rw [hA32, hgA, hl, if_pos rfl, if_neg y0]
      have hrr : mpR A z k y = mvR (noSt σ z k y) 4 k y := by unfold mpR mvR; rw [hA32, hgA, hN2, hgN, hl, if_pos rfl, if_pos rfl, if_neg y0, if_neg y0]
      have hbt := bt_at (σ 1 3) (t := y) (by omega)
      by_cases c : (¬ (σ 1 3 &&& ((1 : Int32) <<< (nI y &&& 31))) = 0) ∧ σ 7 k = 0
      · have eW : W = upA (mv0 (noSt σ z k y) 4 k y) 8 (upd ((mv0 (noSt σ z k y) 4 k y) 8) k ((mv0 (noSt σ z k y) 4 k y) 8 k ||| ((1 : Int32) <<< (nI y &&& 31)))) := by rw [hW]; rw [hwS]; exact (rgS_t (by rw [Q1]; exact c.1) (by rw [show mv0 (noSt σ z k y) 4 k y (4 + 3) = σ 7 from Q7]; exact c.2)).symm
        have eM : mpS A z k y = upA (mp0 A z k y) 38 (upd ((mp0 A z k y) 38) k ((mp0 A z k y) 38 k ||| ((1 : Int32) <<< (nI y &&& 31)))) := by rw [hmS]; unfold mrg; rw [if_pos (show mp0 A z k y 37 k = 0 ∧ nedB (mp0 A z k y) y = true from ⟨by rw [P37, x7]; exact c.2, by unfold nedB; rw [P311]; exact decide_eq_true (hbt.mp c.1)⟩)]
        refine ⟨pass_inv (lp := lp0) (db := db0) (v8 := σ 8 k ||| ((1 : Int32) <<< (nI y &&& 31))) (G9 := G9) (pa := 0) hC hM hR ht hz hj hk hy hW p3 p1 p2 hc hm h31 h11 h32 h33 h34 ?_ (by omega) ?_ (by omega) ?_ ?_ ?_ ?_ ?_ ?_ ?_ ?_ ?_, ?_, h25, h46⟩
        · rw [eW, upA_n (by decide), Q6]; exact upd_v a1
        · rw [eW, upA_n (by decide), Q7]; exact upd_v a3
        · rw [eW, upA_s, Q8]
        · exact bt_or a13 (by omega) (by omega)
        · rw [eW, upA_n (by decide), Q9]
        · rw [eM, upA_n (by decide), P35]
        · rw [eM, upA_n (by decide), P36]; exact upd_v x36
        · rw [eM, upA_n (by decide), P37]; exact upd_v x37
        · rw [eM, upA_s, P38]; rw [x8]
        · rw [eM, upA_n (by decide), P39]
        · rw [eM, upA_n (by decide), P40]; exact hl6
        · exact hrr
      · have eW : W = (mv0 (noSt σ z k y) 4 k y) := by rw [hW]; rw [hwS]; exact (rgS_f (fun q => c ⟨by rw [← Q1]; exact q.1, by rw [← Q7]; exact q.2⟩)).symm
        have eM : mpS A z k y = upA (mp0 A z k y) 38 (upd ((mp0 A z k y) 38) k ((mp0 A z k y) 38 k ||| 0)) := by rw [hmS]; unfold mrg; rw [if_neg (show ¬ (mp0 A z k y 37 k = 0 ∧ nedB (mp0 A z k y) y = true) from fun q => c ⟨hbt.mpr (by have q2 := q.2; unfold nedB at q2; rw [P311] at q2; exact of_decide_eq_true q2), by rw [← x7, ← P37]; exact q.1⟩)]
        refine ⟨pass_inv (lp := lp0) (db := db0) (v8 := σ 8 k) (G9 := G9) (pa := 0) hC hM hR ht hz hj hk hy hW p3 p1 p2 hc hm h31 h11 h32 h33 h34 ?_ (by omega) ?_ (by omega) ?_ ?_ ?_ ?_ ?_ ?_ ?_ ?_ ?_, ?_, h25, h46⟩
        · rw [eW, Q6]; exact upd_v a1
        · rw [eW, Q7]; exact upd_v a3
        · rw [eW, Q8]; exact upd_v rfl
        · exact a13
        · rw [eW, Q9]
        · rw [eM, upA_n (by decide), P35]
        · rw [eM, upA_n (by decide), P36]; exact upd_v x36
        · rw [eM, upA_n (by decide), P37]; exact upd_v x37
        · rw [eM, upA_s, P38]; rw [or_0, x8]
        · rw [eM, upA_n (by decide), P39]
        · rw [eM, upA_n (by decide), P40]; exact hl6
        · exact hrr
set_option maxRecDepth 10000 in
theorem pu_pass {σ : St} {j g n sd e9 z t : Nat} {b : Bool} (x y : Int32) (hC : CIv σ g n b e9 z) (hM : MIv σ g n sd b e9 z) (hR : Rel σ g n sd b e9 z t) (ht : t ≤ 100 * j) (hzj : z ≤ j) (hj : j < 512)  {r5 : Int32} {σ1 : St} (h5 : (fun r9 σ9 => (∃ (v9 : Int32) (τ9 : St), (fun r σ' => r = mvR (noSt σ z (ix x) (ix y)) 4 (ix x) (ix y) ∧ σ' = mvS (noSt σ z (ix x) (ix y)) 4 (ix x) (ix y) ∧ (inB x n && inB y g) = true ∧ canP σ b z (ix x) (ix y) = true) v9 τ9 ∧ r9 = 0 ∧ σ9 = upA τ9 46 (upd (τ9 46) 0 v9)) ∨ ∃ E9 : String, (fun E => (E = xIOB ∧ (inB x n && inB y g) = false) ∨ (E = xISE ∧ (inB x n && inB y g) = true ∧ canP σ b z (ix x) (ix y) = false)) E9 ∧ r9 = ((if E9 = xIOB then 1 else 2) : Int32) ∧ σ9 = σ) r5 σ1) : MIv σ1 g n sd b e9 z ∧ ∀ (r6 : Int32) (σ2 : St), (fun r σ' => ((inB x n && inB y g) = true ∧ mcan σ1 b (ix x) (ix y) = true ∧ r = mpR (thr σ1 0) z (ix x) (ix y) ∧ σ' = mpS (thr σ1 0) z (ix x) (ix y)) ∨ ((inB x n && inB y g) = false ∧ σ' = thr σ1 1) ∨ ((inB x n && inB y g) = true ∧ mcan σ1 b (ix x) (ix y) = false ∧ σ' = thr σ1 2)) r6 σ2 → σ2 31 25 = r5 ∧ (r5 = 0 → σ2 46 0 = r6) ∧ Inv σ2 (j + 1) := by
  have hg12 : g ≤ 12 := hC.1.2.2
  have hg1 : 1 ≤ g := hC.1.2.1
  have hn6 : n ≤ 6 := hC.2.1.2
  have hz5 : z ≤ 512 := hC.2.2.2.2.1.2
  obtain ⟨r1, rT, rC, rM, rR⟩ := id hR
  have hix : (inB x n && inB y g) = true → ix x < 6 ∧ ix y < g := fun q => by
    have q2 := (Bool.and_eq_true _ _).mp q
    exact ⟨ix6 hn6 q2.1, (inB_ix (by omega) q2.2).2⟩
  rcases h5 with ⟨v9, τ9, ⟨e1, e2, c0, c1⟩, e3, e4⟩ | ⟨E9, hE, e3, e4⟩
  · obtain ⟨hk, hy⟩ := hix c0
    have hb : b = true := by
      unfold canP at c1
      cases b
      · exact absurd c1 (by simp)
      · rfl
    subst hb
    have o9 : ∀ c, 31 ≤ c → τ9 c = σ c := fun c q => by rw [e2, mvS_o (by omega), noSt_o (by omega) (by omega) (by omega)]
    subst e3 e4
    refine ⟨MIv_of (AgM_46 ⟨fun c q1 q2 => o9 c (by omega), fun k' _ => by rw [o9 31 (by decide)]⟩ _) hM, fun r6 σ2 h6 => ?_⟩
    rcases h6 with ⟨d0, d1, e5, e6⟩ | ⟨d0, e6⟩ | ⟨d0, d1, e6⟩
    · have hall := pass_all (ff := upd (τ9 46) 0 v9) hC hM hR ht hzj hj hk hy c1 e2 rfl
      subst e6
      refine ⟨hall.2.2.1, fun _ => ?_, hall.1⟩
      rw [hall.2.2.2, pk_us, e1, e5]
      exact hall.2.1.symm
    · exact absurd (c0.symm.trans d0) (by decide)
    · rw [mcan_cong (σ := σ) (by rw [upA_n (by decide), o9 40 (by decide)]) (by rw [upA_n (by decide), o9 43 (by decide)]) (by rw [upA_n (by decide), o9 31 (by decide)]) (by rw [upA_n (by decide), o9 32 (by decide)]) (by rw [upA_n (by decide), o9 35 (by decide)]), cnd_p hC hR ht hzj hj hk] at d1
      exact absurd (c1.symm.trans d1) (by decide)
  · have e4 := e4.symm
    subst e4
    rcases hE with ⟨e7, c0⟩ | ⟨e7, c0, c1⟩
    · subst e7
      refine ⟨hM, fun r6 σ2 h6 => ?_⟩
      rcases h6 with ⟨d0, d1, e5, e6⟩ | ⟨d0, e6⟩ | ⟨d0, d1, e6⟩
      · skip
        exact absurd (c0.symm.trans d0) (by decide)
      · subst e6
        exact ⟨by rw [thr_25, e3]; decide, fun h9 => absurd (e3.symm.trans h9) (by decide), Inv_up (AgC_thr (AgC_r _) 1) (AgM_thr (AgM_r _) 1) hC hM hR ht hzj⟩
      · skip
        exact absurd (c0.symm.trans d0) (by decide)
    · subst e7
      refine ⟨hM, fun r6 σ2 h6 => ?_⟩
      rcases h6 with ⟨d0, d1, e5, e6⟩ | ⟨d0, e6⟩ | ⟨d0, d1, e6⟩
      · rw [cnd_p hC hR ht hzj hj (hix c0).1] at d1
        exact absurd (c1.symm.trans d1) (by decide)
      · skip
        exact absurd (c0.symm.trans d0) (by decide)
      · subst e6
        exact ⟨by rw [thr_25, e3]; decide, fun h9 => absurd (e3.symm.trans h9) (by decide), Inv_up (AgC_thr (AgC_r _) 2) (AgM_thr (AgM_r _) 2) hC hM hR ht hzj⟩

