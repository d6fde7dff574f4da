theorem rc_keep {τ σ : St} {z : Nat} (h0 : τ 0 7 = σ 0 7) (h4 : τ 4 = σ 4) (h2 : τ 2 = σ 2) (hn : τ 1 3 = σ 1 3) (h21 : τ 21 = σ 21) (h22 : τ 22 = σ 22) (h5 : τ 5 = σ 5) (h6 : τ 6 = σ 6) (h7 : τ 7 = σ 7) (h8 : τ 8 = σ 8) (h9 : τ 9 = σ 9) (hrec : ∀ i, i < z → ix (σ 21 i) < 6) (h : rcEq (rbS σ z) 12 σ 4) : rcEq (rbS τ z) 12 τ 4 := by
  have q1 : rcEq (rbS τ z) 12 (rbS σ z) 12 := rb_cong h0 (by rw [h4]) h2 hn z (fun i hi => ⟨by rw [h21], by rw [h22], hrec i hi⟩)
  refine rcEq_t q1 (rcEq_t h ⟨fun c q1 q2 k hk => ?_, by rw [h4], by rw [h4], by rw [h4]⟩)
  have : c = 1 ∨ c = 2 ∨ c = 3 ∨ c = 4 ∨ c = 5 := by omega
  rcases this with rfl | rfl | rfl | rfl | rfl
  · exact (congrFun h5 k).symm
  · exact (congrFun h6 k).symm
  · exact (congrFun h7 k).symm
  · exact (congrFun h8 k).symm
  · exact (congrFun h9 k).symm
theorem CIv_rec {σ : St} {g n e z : Nat} {b : Bool} (hC : CIv σ g n b e z) : ∀ i, i < z → ix (σ 21 i) < 6 := fun i hi => (hC.2.2.2.2.2.2.2 i hi).1.2
theorem inR_nI {x : Int32} {m : Nat} (hm : m < 2 ^ 30) (h : inR x 1 (nI m) = true) : ∃ v : Nat, x = nI v ∧ 1 ≤ v ∧ v ≤ m := by
  unfold inR at h
  simp only [Bool.and_eq_true, Bool.not_eq_true', decide_eq_false_iff_not, decide_eq_true_eq] at h
  obtain ⟨h1, h2⟩ := h
  have a1 : ¬ x < 0 := fun q => h1 (Int32.lt_trans q (by decide))
  have a2 : x < nI (m + 1) := by
    rw [Int32.lt_iff_toInt_lt, nI_toInt (by omega)]
    rw [Int32.le_iff_toInt_le, nI_toInt (by omega)] at h2
    omega
  obtain ⟨e1, e2⟩ := inB_ix (n := m + 1) (by omega) (inB_t a1 a2)
  refine ⟨ix x, e1, ?_, by omega⟩
  rcases Nat.eq_zero_or_pos (ix x) with q | q
  · rw [q] at e1
    exact absurd (by rw [e1]; decide) h1
  · exact q
theorem nev_sd {b : Bool} {e sd : Nat} (h : sd = e + (if b = true then 1 else 0)) : nev b e = decide (sd = 0) := by
  subst h
  unfold nev
  cases b
  · simp
  · simp
theorem RKart_t {σ τ : St} {g z t t' G9 k : Nat} (htt : t ≤ t') (h5 : τ 5 = σ 5) (h6 : τ 6 = σ 6) (h7 : τ 7 = σ 7) (h8 : τ 8 = σ 8) (h9 : τ 9 = σ 9) (h26 : τ 26 = σ 26) (h40 : τ 40 = σ 40) (h : RKart σ g z t G9 k) : RKart τ g z t' G9 k := by
  obtain ⟨lp, db, mo, aw, ga, a1, a2, a3, ⟨a4, a5⟩, a6, a7, a8, a9⟩ := h
  unfold RKart
  rw [h5, h6, h7, h8, h9, h26, h40]
  exact ⟨lp, db, mo, aw, ga, a1, a2, a3, ⟨a4, by omega⟩, a6, a7, a8, a9⟩
set_option maxRecDepth 10000 in
theorem pu_setDropped {σ : St} {j g n sd e9 z t : Nat} {b : Bool} (x : Int32) (hC : CIv σ g n b e9 z) (hM : MIv σ g n sd b e9 z) (hR : Rel σ g n sd b e9 z t) (ht : t ≤ 100 * j) (hzj : z ≤ j) (hj : j < 512)  {r5 : Int32} {σ1 : St} (h5 : (fun r9 σ9 => (∃ (v9 : Int32) (τ9 : St), (fun r σ' => r = σ 27 3 ∧ σ' = upA σ 27 (upd (σ 27) 3 x) ∧ inR x 0 3 = true) v9 τ9 ∧ r9 = 0 ∧ σ9 = upA τ9 46 (upd (τ9 46) 0 v9)) ∨ ∃ E9 : String, (fun E => E = xIAE ∧ inR x 0 3 = false) E9 ∧ r9 = (1 : Int32) ∧ σ9 = σ) r5 σ1) : MIv σ1 g n sd b e9 z ∧ ∀ (r6 : Int32) (σ2 : St), (fun r σ' => (inR x 0 3 = true ∧ r = σ1 31 24 ∧ σ' = upA σ1 31 (upd (upd (σ1 31) 25 0) 24 x)) ∨ (inR x 0 3 = false ∧ σ' = thr σ1 1)) r6 σ2 → σ2 31 25 = r5 ∧ (r5 = 0 → σ2 46 0 = r6) ∧ Inv σ2 (j + 1) := by
  have hg12 : g ≤ 12 := hC.1.2.2
  have hg1 : 1 ≤ g := hC.1.2.1
  have hn6 : n ≤ 6 := hC.2.1.2
  have hz5 : z ≤ 512 := hC.2.2.2.2.1.2
  obtain ⟨r1, rT, ⟨u1, u2, u3, u4, u5⟩, rM, rR⟩ := id hR
  rcases h5 with ⟨v9, τ9, ⟨e1, e2, c0⟩, e3, e4⟩ | ⟨E9, hE, e3, e4⟩
  · subst e2 e3 e4
    refine ⟨hM, fun r6 σ2 h6 => ?_⟩
    rcases h6 with ⟨d0, e5, e6⟩ | ⟨d0, e6⟩
    · subst e6
      refine ⟨rfl, fun _ => e1.trans (u4.symm.trans e5.symm), g, n, sd, e9, z, t, b, hC, hM, ⟨r1, rT, ⟨u1, u2, u3, rfl, u5⟩, rM, fun hb => ?_⟩, by omega, by omega⟩
      obtain ⟨G9, p1, p2, p3, p4, p5, p6⟩ := rR hb
      exact ⟨G9, p1, p2, p3, p4, p5, rc_keep (σ := σ) rfl rfl rfl rfl rfl rfl rfl rfl rfl rfl rfl (CIv_rec hC) p6⟩
    · exact absurd (c0.symm.trans d0) (by decide)
  · have e4 := e4.symm
    subst e4
    obtain ⟨e7, c0⟩ := hE
    subst e7
    refine ⟨hM, fun r6 σ2 h6 => ?_⟩
    rcases h6 with ⟨d0, e5, e6⟩ | ⟨d0, e6⟩
    · skip
      exact absurd (c0.symm.trans d0) (by decide)
    · subst e6
      exact ⟨by rw [thr_25, e3]; decide, fun h9 => absurd (e3.symm.trans h9) (by decide), Inv_up (AgC_thr (AgC_r _) 1) (AgM_thr (AgM_r _) 1) hC hM hR ht hzj⟩


theorem pu_setDraw {σ : St} {j g n sd e9 z t : Nat} {b : Bool} (x : Int32) (hC : CIv σ g n b e9 z) (hM : MIv σ g n sd b e9 z) (hR : Rel σ g n sd b e9 z t) (ht : t ≤ 100 * j) (hzj : z ≤ j) (hj : j < 512) {σ1 : St} (h5 : σ1 = upA σ 23 (upd (σ 23) 3 x)) : MIv σ1 g n sd b e9 z ∧ ∀ (σ2 : St), σ2 = upA σ1 31 (upd (upd (σ1 31) 25 0) 12 x) → σ2 31 25 = 0 ∧ Inv σ2 (j + 1) := by
  obtain ⟨r1, rT, rC, ⟨u1, u2, u3⟩, rR⟩ := id hR
  subst h5
  refine ⟨hM, fun σ2 e6 => ?_⟩
  subst e6
  refine ⟨rfl, g, n, sd, e9, z, t, b, hC, hM, ⟨r1, rT, rC, ⟨u1, u2, rfl⟩, fun hb => ?_⟩, by omega, by omega⟩
  obtain ⟨G9, p1, p2, p3, p4, p5, p6⟩ := rR hb
  exact ⟨G9, p1, p2, p3, p4, p5, rc_keep (σ := σ) rfl rfl rfl rfl rfl rfl rfl rfl rfl rfl rfl (CIv_rec hC) p6⟩

set_option maxRecDepth 10000 in
theorem pu_idle {σ : St} {j g n sd e9 z t : Nat} {b : Bool} (x : Int32) (hC : CIv σ g n b e9 z) (hM : MIv σ g n sd b e9 z) (hR : Rel σ g n sd b e9 z t) (ht : t ≤ 100 * j) (hzj : z ≤ j) (hj : j < 512)  {r5 : Int32} {σ1 : St} (h5 : (fun r9 σ9 => (∃ (v9 : Int32) (τ9 : St), (fun r σ' => r = σ 0 9 + x ∧ σ' = upA σ 0 (upd (σ 0) 9 (σ 0 9 + x)) ∧ inR x 1 100 = true) v9 τ9 ∧ r9 = 0 ∧ σ9 = upA τ9 46 (upd (τ9 46) 0 v9)) ∨ ∃ E9 : String, (fun E => E = xIAE ∧ inR x 1 100 = false) E9 ∧ r9 = (1 : Int32) ∧ σ9 = σ) r5 σ1) : MIv σ1 g n sd b e9 z ∧ ∀ (r6 : Int32) (σ2 : St), (fun r σ' => (inR x 1 100 = true ∧ r = σ1 31 10 + x ∧ σ' = upA σ1 31 (upd (upd (σ1 31) 25 0) 10 (σ1 31 10 + x))) ∨ (inR x 1 100 = false ∧ σ' = thr σ1 1)) r6 σ2 → σ2 31 25 = r5 ∧ (r5 = 0 → σ2 46 0 = r6) ∧ Inv σ2 (j + 1) := by
  have hg12 : g ≤ 12 := hC.1.2.2
  have hg1 : 1 ≤ g := hC.1.2.1
  have hn6 : n ≤ 6 := hC.2.1.2
  have hz5 : z ≤ 512 := hC.2.2.2.2.1.2
  obtain ⟨r1, rT, rC, ⟨u1, u2, u3⟩, rR⟩ := id hR
  rcases h5 with ⟨v9, τ9, ⟨e1, e2, c0⟩, e3, e4⟩ | ⟨E9, hE, e3, e4⟩
  · subst e2 e3 e4
    refine ⟨hM, fun r6 σ2 h6 => ?_⟩
    rcases h6 with ⟨d0, e5, e6⟩ | ⟨d0, e6⟩
    · subst e6
      obtain ⟨v, hv, hv1, hv2⟩ := inR_nI (m := 100) (by decide) c0
      have h1 : σ 0 9 + x = nI (t + v) := by rw [u1, hv, nI_add]
      have h2 : σ 31 10 + x = nI (t + v) := by rw [u2, hv, nI_add]
      refine ⟨rfl, fun _ => e1.trans (h1.trans (h2.symm.trans e5.symm)), g, n, sd, e9, z, t + v, b, hC, hM, ⟨r1, rT, rC, ⟨h1, h2, u3⟩, fun hb => ?_⟩, by omega, by omega⟩
      obtain ⟨G9, p1, p2, p3, p4, p5, p6⟩ := rR hb
      exact ⟨G9, p1, p2, fun k hk => RKart_t (σ := σ) (t := t) (by omega) rfl rfl rfl rfl rfl rfl rfl (p3 k hk), p4, p5, rc_keep (σ := σ) rfl rfl rfl rfl rfl rfl rfl rfl rfl rfl rfl (CIv_rec hC) p6⟩
    · exact absurd (c0.symm.trans d0) (by decide)
  · have e4 := e4.symm
    subst e4
    obtain ⟨e7, c0⟩ := hE
    subst e7
    refine ⟨hM, fun r6 σ2 h6 => ?_⟩
    rcases h6 with ⟨d0, e5, e6⟩ | ⟨d0, e6⟩
    · skip
      exact absurd (c0.symm.trans d0) (by decide)
    · subst e6
      exact ⟨by rw [thr_25, e3]; decide, fun h9 => absurd (e3.symm.trans h9) (by decide), Inv_up (AgC_thr (AgC_r _) 1) (AgM_thr (AgM_r _) 1) hC hM hR ht hzj⟩


set_option maxRecDepth 10000 in
theorem pu_addKart {σ : St} {j g n sd e9 z t : Nat} {b : Bool} (x : Int32) (hC : CIv σ g n b e9 z) (hM : MIv σ g n sd b e9 z) (hR : Rel σ g n sd b e9 z t) (ht : t ≤ 100 * j) (hzj : z ≤ j) (hj : j < 512)  {r5 : Int32} {σ1 : St} (h5 : (fun r9 σ9 => (∃ (v9 : Int32) (τ9 : St), (fun r σ' => r = nI n ∧ σ' = ktSt σ n x ∧ inB x 4 = true ∧ (nev b e9 && decide (n < 6)) = true) v9 τ9 ∧ r9 = 0 ∧ σ9 = upA τ9 46 (upd (τ9 46) 0 v9)) ∨ ∃ E9 : String, (fun E => (E = xIOB ∧ inB x 4 = false) ∨ (E = xISE ∧ inB x 4 = true ∧ (nev b e9 && decide (n < 6)) = false)) E9 ∧ r9 = ((if E9 = xIOB then 1 else 2) : Int32) ∧ σ9 = σ) r5 σ1) : MIv σ1 g n sd b e9 z ∧ ∀ (r6 : Int32) (σ2 : St), (fun r σ' => (inR x 0 3 = true ∧ (decide (sd = 0) && decide (n < 6)) = true ∧ r = nI n ∧ σ' = upA (upA (thr σ1 0) 34 (upd (σ1 34) n x)) 31 (upd (upd (σ1 31) 25 0) 4 (nI (n + 1)))) ∨ (inR x 0 3 = false ∧ σ' = thr σ1 1) ∨ (inR x 0 3 = true ∧ (decide (sd = 0) && decide (n < 6)) = false ∧ σ' = thr σ1 2)) r6 σ2 → σ2 31 25 = r5 ∧ (r5 = 0 → σ2 46 0 = r6) ∧ Inv σ2 (j + 1) := by
  have hg12 : g ≤ 12 := hC.1.2.2
  have hg1 : 1 ≤ g := hC.1.2.1
  have hn6 : n ≤ 6 := hC.2.1.2
  have hz5 : z ≤ 512 := hC.2.2.2.2.1.2
  obtain ⟨r1, rT, ⟨u1, u2, u3, u4, u5⟩, rM, rR⟩ := id hR
  have hns := nev_sd r1
  obtain ⟨hC1, hC2, hC3, hC4, hC5, hC6, hC7, hC8⟩ := id hC
  obtain ⟨hM1, hM2, hM3, hM4, hM5, hM6, hM7, hM8⟩ := id hM
  rcases h5 with ⟨v9, τ9, ⟨e1, e2, c0, c1⟩, e3, e4⟩ | ⟨E9, hE, e3, e4⟩
  · subst e2 e3 e4
    have c2 := (Bool.and_eq_true _ _).mp c1
    have hn5 : n < 6 := of_decide_eq_true c2.2
    have hb0 : b = false := by cases b; rfl; exact absurd c2.1 (by unfold nev; simp)
    have he0 : e9 = 0 := by subst hb0; exact of_decide_eq_true c2.1
    refine ⟨hM, fun r6 σ2 h6 => ?_⟩
    rcases h6 with ⟨d0, d1, e5, e6⟩ | ⟨d0, e6⟩ | ⟨d0, d1, e6⟩
    · subst e6
      refine ⟨rfl, fun _ => e1.trans e5.symm, g, n + 1, sd, e9, z, t, b, ⟨hC1, ⟨rfl, by omega⟩, hC3, hC4, hC5, hC6, fun hb => absurd (hb0.symm.trans hb) (by decide), hC8⟩, ⟨hM1, ⟨rfl, by omega⟩, hM3, hM4, hM5, hM6, hM7, hM8⟩, ⟨r1, rT, ⟨u1, u2, ?_, u4, fun i k hi => absurd hi (by omega)⟩, rM, fun hb => absurd (hb0.symm.trans hb) (by decide)⟩, by omega, by omega⟩
      show upd (σ 34) n x = upd (σ 30) n x
      rw [u3]
    · rw [inR_4] at d0
      exact absurd (c0.symm.trans d0) (by decide)
    · rw [hns] at c1
      exact absurd (c1.symm.trans d1) (by decide)
  · have e4 := e4.symm
    subst e4
    rcases hE with ⟨e7, c0⟩ | ⟨e7, c0, c1⟩
    · subst e7
      refine ⟨hM, fun r6 σ2 h6 => ?_⟩
      rcases h6 with ⟨d0, d1, e5, e6⟩ | ⟨d0, e6⟩ | ⟨d0, d1, e6⟩
      · rw [inR_4] at d0
        exact absurd (c0.symm.trans d0) (by decide)
      · subst e6
        exact ⟨by rw [thr_25, e3]; decide, fun h9 => absurd (e3.symm.trans h9) (by decide), Inv_up (AgC_thr (AgC_r _) 1) (AgM_thr (AgM_r _) 1) hC hM hR ht hzj⟩
      · rw [inR_4] at d0
        exact absurd (c0.symm.trans d0) (by decide)
    · subst e7
      refine ⟨hM, fun r6 σ2 h6 => ?_⟩
      rcases h6 with ⟨d0, d1, e5, e6⟩ | ⟨d0, e6⟩ | ⟨d0, d1, e6⟩
      · rw [hns] at c1
        exact absurd (c1.symm.trans d1) (by decide)
      · rw [inR_4] at d0
        exact absurd (c0.symm.trans d0) (by decide)
      · subst e6
        exact ⟨by rw [thr_25, e3]; decide, fun h9 => absurd (e3.symm.trans h9) (by decide), Inv_up (AgC_thr (AgC_r _) 2) (AgM_thr (AgM_r _) 2) hC hM hR ht hzj⟩


set_option maxRecDepth 10000 in
theorem pu_addGate {σ : St} {j g n sd e9 z t : Nat} {b : Bool} (b9 : Bool) (hC : CIv σ g n b e9 z) (hM : MIv σ g n sd b e9 z) (hR : Rel σ g n sd b e9 z t) (ht : t ≤ 100 * j) (hzj : z ≤ j) (hj : j < 512)  {r5 : Int32} {σ1 : St} (h5 : (fun r9 σ9 => (∃ (v9 : Int32) (τ9 : St), (fun r σ' => r = nI g ∧ σ' = stGate σ b9 g ∧ (nev b e9 && decide (g < 12)) = true) v9 τ9 ∧ r9 = 0 ∧ σ9 = upA τ9 46 (upd (τ9 46) 0 v9)) ∨ ∃ E9 : String, (fun E => E = xISE ∧ (nev b e9 && decide (g < 12)) = false) E9 ∧ r9 = (1 : Int32) ∧ σ9 = σ) r5 σ1) : MIv σ1 g n sd b e9 z ∧ ∀ (r6 : Int32) (σ2 : St), (fun r σ' => ((decide (sd = 0) && decide (g < 12)) = true ∧ r = nI g ∧ σ' = mgS (thr σ1 0) b9 g) ∨ ((decide (sd = 0) && decide (g < 12)) = false ∧ σ' = thr σ1 1)) r6 σ2 → σ2 31 25 = r5 ∧ (r5 = 0 → σ2 46 0 = r6) ∧ Inv σ2 (j + 1) := by
  have hg12 : g ≤ 12 := hC.1.2.2
  have hg1 : 1 ≤ g := hC.1.2.1
  have hn6 : n ≤ 6 := hC.2.1.2
  have hz5 : z ≤ 512 := hC.2.2.2.2.1.2
  obtain ⟨r1, ⟨w1, w2, w3, w4⟩, ⟨u1, u2, u3, u4, u5⟩, rM, rR⟩ := id hR
  have hns := nev_sd r1
  obtain ⟨hC1, hC2, hC3, hC4, hC5, hC6, hC7, hC8⟩ := id hC
  obtain ⟨hM1, hM2, hM3, hM4, hM5, hM6, hM7, hM8⟩ := id hM
  rcases h5 with ⟨v9, τ9, ⟨e1, e2, c1⟩, e3, e4⟩ | ⟨E9, hE, e3, e4⟩
  · subst e2 e3 e4
    have c2 := (Bool.and_eq_true _ _).mp c1
    have hg11 : g < 12 := of_decide_eq_true c2.2
    have hb0 : b = false := by cases b; rfl; exact absurd c2.1 (by unfold nev; simp)
    have he0 : e9 = 0 := by subst hb0; exact of_decide_eq_true c2.1
    refine ⟨hM, fun r6 σ2 h6 => ?_⟩
    rcases h6 with ⟨d1, e5, e6⟩ | ⟨d1, e6⟩
    · subst e6
      refine ⟨rfl, fun _ => e1.trans e5.symm, g + 1, n, sd, e9, z, t, b, ⟨⟨rfl, by omega, by omega⟩, hC2, hC3, hC4, hC5, hC6, fun hb => absurd (hb0.symm.trans hb) (by decide), hC8⟩, ⟨⟨rfl, by omega, by omega⟩, hM2, hM3, hM4, hM5, hM6, hM7, hM8⟩, ⟨r1, ⟨w1, wOk_s w2, ?_, FX_s w2 hg11 w4⟩, ⟨u1, u2, u3, u4, u5⟩, rM, fun hb => absurd (hb0.symm.trans hb) (by decide)⟩, by omega, by omega⟩
      show σ 31 1 ||| (if b9 = true then (1 : Int32) <<< (nI g &&& 31) else 0) = (if b9 = true then σ 1 3 ||| ((1 : Int32) <<< (nI g &&& 31)) else σ 1 3)
      rw [w3]
      cases b9
      · exact or_0 _
      · rfl
    · rw [hns] at c1
      exact absurd (c1.symm.trans d1) (by decide)
  · have e4 := e4.symm
    subst e4
    obtain ⟨e7, c0⟩ := hE
    subst e7
    rw [hns] at c0
    refine ⟨hM, fun r6 σ2 h6 => ?_⟩
    rcases h6 with ⟨d0, e5, e6⟩ | ⟨d0, e6⟩
    · exact absurd (c0.symm.trans d0) (by decide)
    · subst e6
      exact ⟨by rw [thr_25, e3]; decide, fun h9 => absurd (e3.symm.trans h9) (by decide), Inv_up (AgC_thr (AgC_r _) 1) (AgM_thr (AgM_r _) 1) hC hM hR ht hzj⟩

