theorem stun_eq {aw t : Nat} (h1 : aw < 2 ^ 30) (h2 : t < 2 ^ 30) : (if nI aw - nI t < 0 then 0 else nI aw - nI t) = (if nI aw ≤ nI t then 0 else nI aw - nI t) := by
  have h3 : (nI aw - nI t).toInt = (aw : Int) - t := pk_sub_toInt h1 h2
  have h4 := nI_leI (a := aw) (b := t) (by omega) (by omega)
  by_cases e : aw ≤ t
  · rw [if_pos (h4.mpr e)]
    by_cases e2 : aw = t
    · subst e2
      rw [if_neg (by rw [Int32.lt_iff_toInt_lt, h3, show (0 : Int32).toInt = 0 from by decide]; omega)]
      apply Int32.toInt_inj.mp
      rw [h3, show (0 : Int32).toInt = 0 from by decide]; omega
    · rw [if_pos (by rw [Int32.lt_iff_toInt_lt, h3, show (0 : Int32).toInt = 0 from by decide]; omega)]
  · rw [if_neg (fun q => e (h4.mp q)), if_neg (by rw [Int32.lt_iff_toInt_lt, h3, show (0 : Int32).toInt = 0 from by decide]; omega)]
theorem tp_eq (σ : St) (x : Int32) (e : Nat) : ∀ i, tpA σ x e i = tpM (σ 30) (σ 29) (σ 27 3) x e i
  | 0 => rfl
  | i + 1 => by rw [tpA, tpM, tp_eq σ x e i]
theorem inR_4 (x : Int32) : inR x 0 3 = inB x 4 := by
  have := inR_inB (x := x) (n := 4) (by decide)
  rw [← this]; rfl
theorem rk_46 {σ : St} (f : Nat → Int32) (n k : Nat) : rkM (upA σ 46 f) n k = rkM σ n k := rkM_cong (upA_n (by decide)) (upA_n (by decide)) (upA_n (by decide)) (upA_n (by decide)) (upA_n (by decide)) (upA_n (by decide)) n k
theorem ix6 {x : Int32} {n : Nat} (hn : n ≤ 6) (h : inB x n = true) : ix x < 6 := by have := (inB_ix (by omega) h).2; omega

set_option maxRecDepth 10000 in
theorem pu_missing {σ : St} {j g n sd e9 z t : Nat} {b : Bool} (x : Int32) (hC : CIv σ g n b e9 z) (hM : MIv σ g n sd b e9 z) (hR : Rel σ g n sd b e9 z t) (ht : t ≤ 100 * j) (hzj : z ≤ j) (hj : j < 512)  {r5 : Int32} {σ1 : St} (h5 : (fun r9 σ9 => (∃ (v9 : Int32) (τ9 : St), (fun r σ' => r = (misA σ 4 (ix x)) ∧ σ' = σ ∧ inB x n = true ∧ b = true) v9 τ9 ∧ r9 = 0 ∧ σ9 = upA τ9 46 (upd (τ9 46) 0 v9)) ∨ ∃ E9 : String, (fun E => (E = xIOB ∧ inB x n = false) ∨ (E = xISE ∧ inB x n = true ∧ b = false)) E9 ∧ r9 = ((if E9 = xIOB then 1 else 2) : Int32) ∧ σ9 = σ) r5 σ1) : MIv σ1 g n sd b e9 z ∧ ∀ (r6 : Int32) (σ2 : St), (fun r σ' => (inB x n = true ∧ b = true ∧ r = σ1 31 1 &&& (σ1 38 (ix x) ^^^ (-1)) ∧ σ' = thr σ1 0) ∨ (inB x n = false ∧ σ' = thr σ1 1) ∨ (inB x n = true ∧ b = false ∧ σ' = thr σ1 2)) r6 σ2 → σ2 31 25 = r5 ∧ (r5 = 0 → σ2 46 0 = r6) ∧ Inv σ2 (j + 1) := by
  have hg12 : g ≤ 12 := hC.1.2.2
  have hg1 : 1 ≤ g := hC.1.2.1
  have hn6 : n ≤ 6 := hC.2.1.2
  have hz5 : z ≤ 512 := hC.2.2.2.2.1.2
  rcases h5 with ⟨v9, τ9, ⟨e1, e2, c0, c1⟩, e3, e4⟩ | ⟨E9, hE, e3, e4⟩
  · have e2 := e2.symm
    subst e2 e3 e4
    refine ⟨MIv_of (AgM_46 (AgM_r σ) _) hM, fun r6 σ2 h6 => ?_⟩
    rcases h6 with ⟨d0, d1, e5, e6⟩ | ⟨d0, e6⟩ | ⟨d0, d1, e6⟩
    · skip
      subst e6
      refine ⟨thr_25 _ 0, fun _ => ?_, Inv_up (AgC_thr (AgC_46 (AgC_r σ) _) 0) (AgM_thr (AgM_46 (AgM_r σ) _) 0) hC hM hR ht hzj⟩
      rw [thr_46, upA_s, pk_us, e1, e5]
      obtain ⟨G9, hG9, hrow, hkt, hmm, hrs, hrc⟩ := hR.2.2.2.2 c1
      have hx := hrow (ix x) (ix6 hn6 c0)
      show misA σ 4 (ix x) = σ 31 1 &&& (σ 38 (ix x) ^^^ (-1))
      rw [hR.2.1.2.2.1, hx.1.2.2.2.1]
      rfl
    · skip
      exact absurd (c0.symm.trans d0) (by decide)
    · skip
      exact absurd (c1.symm.trans d1) (by decide)
  · have e4 := e4.symm
    subst e4
    rcases hE with ⟨e7, c0⟩ | ⟨e7, c0, c1⟩
    · skip
      subst e7
      refine ⟨hM, fun r6 σ2 h6 => ?_⟩
      rcases h6 with ⟨d0, d1, e5, e6⟩ | ⟨d0, e6⟩ | ⟨d0, d1, e6⟩
      · skip
        exact absurd (c0.symm.trans d0) (by decide)
      · skip
        subst e6
        exact ⟨by rw [thr_25, e3]; decide, fun h9 => absurd (e3.symm.trans h9) (by decide), Inv_up (AgC_thr (AgC_r _) 1) (AgM_thr (AgM_r _) 1) hC hM hR ht hzj⟩
      · skip
        exact absurd (c0.symm.trans d0) (by decide)
    · skip
      subst e7
      refine ⟨hM, fun r6 σ2 h6 => ?_⟩
      rcases h6 with ⟨d0, d1, e5, e6⟩ | ⟨d0, e6⟩ | ⟨d0, d1, e6⟩
      · skip
        exact absurd (c1.symm.trans d1) (by decide)
      · skip
        exact absurd (c0.symm.trans d0) (by decide)
      · skip
        subst e6
        exact ⟨by rw [thr_25, e3]; decide, fun h9 => absurd (e3.symm.trans h9) (by decide), Inv_up (AgC_thr (AgC_r _) 2) (AgM_thr (AgM_r _) 2) hC hM hR ht hzj⟩

set_option maxRecDepth 10000 in
theorem pu_rank {σ : St} {j g n sd e9 z t : Nat} {b : Bool} (x : Int32) (hC : CIv σ g n b e9 z) (hM : MIv σ g n sd b e9 z) (hR : Rel σ g n sd b e9 z t) (ht : t ≤ 100 * j) (hzj : z ≤ j) (hj : j < 512)  {r5 : Int32} {σ1 : St} (h5 : (fun r9 σ9 => (∃ (v9 : Int32) (τ9 : St), (fun r σ' => r = (nI (rkA σ n (ix x))) ∧ σ' = σ ∧ inB x n = true ∧ b = true) v9 τ9 ∧ r9 = 0 ∧ σ9 = upA τ9 46 (upd (τ9 46) 0 v9)) ∨ ∃ E9 : String, (fun E => (E = xIOB ∧ inB x n = false) ∨ (E = xISE ∧ inB x n = true ∧ b = false)) E9 ∧ r9 = ((if E9 = xIOB then 1 else 2) : Int32) ∧ σ9 = σ) r5 σ1) : MIv σ1 g n sd b e9 z ∧ ∀ (r6 : Int32) (σ2 : St), (fun r σ' => (inB x n = true ∧ b = true ∧ r = nI (rkM σ1 n (ix x)) ∧ σ' = thr σ1 0) ∨ (inB x n = false ∧ σ' = thr σ1 1) ∨ (inB x n = true ∧ b = false ∧ σ' = thr σ1 2)) r6 σ2 → σ2 31 25 = r5 ∧ (r5 = 0 → σ2 46 0 = r6) ∧ Inv σ2 (j + 1) := by
  have hg12 : g ≤ 12 := hC.1.2.2
  have hg1 : 1 ≤ g := hC.1.2.1
  have hn6 : n ≤ 6 := hC.2.1.2
  have hz5 : z ≤ 512 := hC.2.2.2.2.1.2
  rcases h5 with ⟨v9, τ9, ⟨e1, e2, c0, c1⟩, e3, e4⟩ | ⟨E9, hE, e3, e4⟩
  · have e2 := e2.symm
    subst e2 e3 e4
    refine ⟨MIv_of (AgM_46 (AgM_r σ) _) hM, fun r6 σ2 h6 => ?_⟩
    rcases h6 with ⟨d0, d1, e5, e6⟩ | ⟨d0, e6⟩ | ⟨d0, d1, e6⟩
    · skip
      subst e6
      refine ⟨thr_25 _ 0, fun _ => ?_, Inv_up (AgC_thr (AgC_46 (AgC_r σ) _) 0) (AgM_thr (AgM_46 (AgM_r σ) _) 0) hC hM hR ht hzj⟩
      rw [thr_46, upA_s, pk_us, e1, e5]
      rw [rk_46, rk_eq (hR.2.2.2.2 c1) hg12 hz5 hn6 (ix6 hn6 c0)]
    · skip
      exact absurd (c0.symm.trans d0) (by decide)
    · skip
      exact absurd (c1.symm.trans d1) (by decide)
  · have e4 := e4.symm
    subst e4
    rcases hE with ⟨e7, c0⟩ | ⟨e7, c0, c1⟩
    · skip
      subst e7
      refine ⟨hM, fun r6 σ2 h6 => ?_⟩
      rcases h6 with ⟨d0, d1, e5, e6⟩ | ⟨d0, e6⟩ | ⟨d0, d1, e6⟩
      · skip
        exact absurd (c0.symm.trans d0) (by decide)
      · skip
        subst e6
        exact ⟨by rw [thr_25, e3]; decide, fun h9 => absurd (e3.symm.trans h9) (by decide), Inv_up (AgC_thr (AgC_r _) 1) (AgM_thr (AgM_r _) 1) hC hM hR ht hzj⟩
      · skip
        exact absurd (c0.symm.trans d0) (by decide)
    · skip
      subst e7
      refine ⟨hM, fun r6 σ2 h6 => ?_⟩
      rcases h6 with ⟨d0, d1, e5, e6⟩ | ⟨d0, e6⟩ | ⟨d0, d1, e6⟩
      · skip
        exact absurd (c1.symm.trans d1) (by decide)
      · skip
        exact absurd (c0.symm.trans d0) (by decide)
      · skip
        subst e6
        exact ⟨by rw [thr_25, e3]; decide, fun h9 => absurd (e3.symm.trans h9) (by decide), Inv_up (AgC_thr (AgC_r _) 2) (AgM_thr (AgM_r _) 2) hC hM hR ht hzj⟩

set_option maxRecDepth 10000 in
theorem pu_itemOf {σ : St} {j g n sd e9 z t : Nat} {b : Bool} (x : Int32) (hC : CIv σ g n b e9 z) (hM : MIv σ g n sd b e9 z) (hR : Rel σ g n sd b e9 z t) (ht : t ≤ 100 * j) (hzj : z ≤ j) (hj : j < 512)  {r5 : Int32} {σ1 : St} (h5 : (fun r9 σ9 => (∃ (v9 : Int32) (τ9 : St), (fun r σ' => r = (if b = true then σ 24 (ix x) else -1) ∧ σ' = σ ∧ inB x n = true) v9 τ9 ∧ r9 = 0 ∧ σ9 = upA τ9 46 (upd (τ9 46) 0 v9)) ∨ ∃ E9 : String, (fun E => E = xIOB ∧ inB x n = false) E9 ∧ r9 = (1 : Int32) ∧ σ9 = σ) r5 σ1) : MIv σ1 g n sd b e9 z ∧ ∀ (r6 : Int32) (σ2 : St), (fun r σ' => (inB x n = true ∧ r = (if b = true then σ1 41 (ix x) else -1) ∧ σ' = thr σ1 0) ∨ (inB x n = false ∧ σ' = thr σ1 1)) r6 σ2 → σ2 31 25 = r5 ∧ (r5 = 0 → σ2 46 0 = r6) ∧ Inv σ2 (j + 1) := by
  have hg12 : g ≤ 12 := hC.1.2.2
  have hg1 : 1 ≤ g := hC.1.2.1
  have hn6 : n ≤ 6 := hC.2.1.2
  have hz5 : z ≤ 512 := hC.2.2.2.2.1.2
  rcases h5 with ⟨v9, τ9, ⟨e1, e2, c0⟩, e3, e4⟩ | ⟨E9, hE, e3, e4⟩
  · have e2 := e2.symm
    subst e2 e3 e4
    refine ⟨MIv_of (AgM_46 (AgM_r σ) _) hM, fun r6 σ2 h6 => ?_⟩
    rcases h6 with ⟨d0, e5, e6⟩ | ⟨d0, e6⟩
    · skip
      subst e6
      refine ⟨thr_25 _ 0, fun _ => ?_, Inv_up (AgC_thr (AgC_46 (AgC_r σ) _) 0) (AgM_thr (AgM_46 (AgM_r σ) _) 0) hC hM hR ht hzj⟩
      rw [thr_46, upA_s, pk_us, e1, e5]
      show (if b = true then σ 24 (ix x) else -1) = (if b = true then σ 41 (ix x) else -1)
      cases b
      · rfl
      · obtain ⟨G9, hG9, hrow, hkt, hmm, hrs, hrc⟩ := hR.2.2.2.2 rfl
        rw [(hrow (ix x) (ix6 hn6 c0)).2.1]
    · skip
      exact absurd (c0.symm.trans d0) (by decide)
  · have e4 := e4.symm
    subst e4
    obtain ⟨e7, c0⟩ := hE
    subst e7
    refine ⟨hM, fun r6 σ2 h6 => ?_⟩
    rcases h6 with ⟨d0, e5, e6⟩ | ⟨d0, e6⟩
    · skip
      exact absurd (c0.symm.trans d0) (by decide)
    · skip
      subst e6
      exact ⟨by rw [thr_25, e3]; decide, fun h9 => absurd (e3.symm.trans h9) (by decide), Inv_up (AgC_thr (AgC_r _) 1) (AgM_thr (AgM_r _) 1) hC hM hR ht hzj⟩

set_option maxRecDepth 10000 in
theorem pu_stunned {σ : St} {j g n sd e9 z t : Nat} {b : Bool} (x : Int32) (hC : CIv σ g n b e9 z) (hM : MIv σ g n sd b e9 z) (hR : Rel σ g n sd b e9 z t) (ht : t ≤ 100 * j) (hzj : z ≤ j) (hj : j < 512)  {r5 : Int32} {σ1 : St} (h5 : (fun r9 σ9 => (∃ (v9 : Int32) (τ9 : St), (fun r σ' => r = (if b = true then stuA σ (ix x) else 0) ∧ σ' = σ ∧ inB x n = true) v9 τ9 ∧ r9 = 0 ∧ σ9 = upA τ9 46 (upd (τ9 46) 0 v9)) ∨ ∃ E9 : String, (fun E => E = xIOB ∧ inB x n = false) E9 ∧ r9 = (1 : Int32) ∧ σ9 = σ) r5 σ1) : MIv σ1 g n sd b e9 z ∧ ∀ (r6 : Int32) (σ2 : St), (fun r σ' => (inB x n = true ∧ r = (if b = true then (if σ1 43 (ix x) ≤ σ1 31 10 then 0 else σ1 43 (ix x) - σ1 31 10) else 0) ∧ σ' = thr σ1 0) ∨ (inB x n = false ∧ σ' = thr σ1 1)) r6 σ2 → σ2 31 25 = r5 ∧ (r5 = 0 → σ2 46 0 = r6) ∧ Inv σ2 (j + 1) := by
  have hg12 : g ≤ 12 := hC.1.2.2
  have hg1 : 1 ≤ g := hC.1.2.1
  have hn6 : n ≤ 6 := hC.2.1.2
  have hz5 : z ≤ 512 := hC.2.2.2.2.1.2
  rcases h5 with ⟨v9, τ9, ⟨e1, e2, c0⟩, e3, e4⟩ | ⟨E9, hE, e3, e4⟩
  · have e2 := e2.symm
    subst e2 e3 e4
    refine ⟨MIv_of (AgM_46 (AgM_r σ) _) hM, fun r6 σ2 h6 => ?_⟩
    rcases h6 with ⟨d0, e5, e6⟩ | ⟨d0, e6⟩
    · skip
      subst e6
      refine ⟨thr_25 _ 0, fun _ => ?_, Inv_up (AgC_thr (AgC_46 (AgC_r σ) _) 0) (AgM_thr (AgM_46 (AgM_r σ) _) 0) hC hM hR ht hzj⟩
      rw [thr_46, upA_s, pk_us, e1, e5]
      show (if b = true then stuA σ (ix x) else 0) = (if b = true then (if σ 43 (ix x) ≤ σ 31 10 then 0 else σ 43 (ix x) - σ 31 10) else 0)
      cases b
      · rfl
      · obtain ⟨G9, hG9, hrow, hkt, hmm, hrs, hrc⟩ := hR.2.2.2.2 rfl
        obtain ⟨lp, db, mo, aw, ga, -, -, -, ⟨h3, h4⟩, -⟩ := hkt (ix x) (ix6 hn6 c0)
        rw [if_pos rfl, if_pos rfl, (hrow (ix x) (ix6 hn6 c0)).2.2.2, hR.2.2.2.1.2.1]
        unfold stuA
        rw [hR.2.2.2.1.1, h3]
        exact stun_eq (by omega) (by omega)
    · skip
      exact absurd (c0.symm.trans d0) (by decide)
  · have e4 := e4.symm
    subst e4
    obtain ⟨e7, c0⟩ := hE
    subst e7
    refine ⟨hM, fun r6 σ2 h6 => ?_⟩
    rcases h6 with ⟨d0, e5, e6⟩ | ⟨d0, e6⟩
    · skip
      exact absurd (c0.symm.trans d0) (by decide)
    · skip
      subst e6
      exact ⟨by rw [thr_25, e3]; decide, fun h9 => absurd (e3.symm.trans h9) (by decide), Inv_up (AgC_thr (AgC_r _) 1) (AgM_thr (AgM_r _) 1) hC hM hR ht hzj⟩

set_option maxRecDepth 10000 in
theorem pu_place {σ : St} {j g n sd e9 z t : Nat} {b : Bool} (x y : Int32) (hC : CIv σ g n b e9 z) (hM : MIv σ g n sd b e9 z) (hR : Rel σ g n sd b e9 z t) (ht : t ≤ 100 * j) (hzj : z ≤ j) (hj : j < 512)  {r5 : Int32} {σ1 : St} (h5 : (fun r9 σ9 => (∃ (v9 : Int32) (τ9 : St), (fun r σ' => r = σ 28 (ix x * 6 + ix y) ∧ σ' = σ ∧ (inB x e9 && inB y n) = true) v9 τ9 ∧ r9 = 0 ∧ σ9 = upA τ9 46 (upd (τ9 46) 0 v9)) ∨ ∃ E9 : String, (fun E => E = xIOB ∧ (inB x e9 && inB y n) = false) E9 ∧ r9 = (1 : Int32) ∧ σ9 = σ) r5 σ1) : MIv σ1 g n sd b e9 z ∧ ∀ (r6 : Int32) (σ2 : St), (fun r σ' => ((inB x e9 && inB y n) = true ∧ r = σ1 44 (ix x * 6 + ix y) ∧ σ' = thr σ1 0) ∨ ((inB x e9 && inB y n) = false ∧ σ' = thr σ1 1)) r6 σ2 → σ2 31 25 = r5 ∧ (r5 = 0 → σ2 46 0 = r6) ∧ Inv σ2 (j + 1) := by
  have hg12 : g ≤ 12 := hC.1.2.2
  have hg1 : 1 ≤ g := hC.1.2.1
  have hn6 : n ≤ 6 := hC.2.1.2
  have hz5 : z ≤ 512 := hC.2.2.2.2.1.2
  rcases h5 with ⟨v9, τ9, ⟨e1, e2, c0⟩, e3, e4⟩ | ⟨E9, hE, e3, e4⟩
  · have e2 := e2.symm
    subst e2 e3 e4
    refine ⟨MIv_of (AgM_46 (AgM_r σ) _) hM, fun r6 σ2 h6 => ?_⟩
    rcases h6 with ⟨d0, e5, e6⟩ | ⟨d0, e6⟩
    · skip
      subst e6
      refine ⟨thr_25 _ 0, fun _ => ?_, Inv_up (AgC_thr (AgC_46 (AgC_r σ) _) 0) (AgM_thr (AgM_46 (AgM_r σ) _) 0) hC hM hR ht hzj⟩
      rw [thr_46, upA_s, pk_us, e1, e5]
      show σ 28 (ix x * 6 + ix y) = σ 44 (ix x * 6 + ix y)
      rw [hR.2.2.1.1]
    · skip
      exact absurd (c0.symm.trans d0) (by decide)
  · have e4 := e4.symm
    subst e4
    obtain ⟨e7, c0⟩ := hE
    subst e7
    refine ⟨hM, fun r6 σ2 h6 => ?_⟩
    rcases h6 with ⟨d0, e5, e6⟩ | ⟨d0, e6⟩
    · skip
      exact absurd (c0.symm.trans d0) (by decide)
    · skip
      subst e6
      exact ⟨by rw [thr_25, e3]; decide, fun h9 => absurd (e3.symm.trans h9) (by decide), Inv_up (AgC_thr (AgC_r _) 1) (AgM_thr (AgM_r _) 1) hC hM hR ht hzj⟩

set_option maxRecDepth 10000 in
theorem pu_points {σ : St} {j g n sd e9 z t : Nat} {b : Bool} (x : Int32) (hC : CIv σ g n b e9 z) (hM : MIv σ g n sd b e9 z) (hR : Rel σ g n sd b e9 z t) (ht : t ≤ 100 * j) (hzj : z ≤ j) (hj : j < 512)  {r5 : Int32} {σ1 : St} (h5 : (fun r9 σ9 => (∃ (v9 : Int32) (τ9 : St), (fun r σ' => r = sumA (σ 29) (σ 27 3) (ix x) e9 e9 ∧ σ' = σ ∧ inB x n = true) v9 τ9 ∧ r9 = 0 ∧ σ9 = upA τ9 46 (upd (τ9 46) 0 v9)) ∨ ∃ E9 : String, (fun E => E = xIOB ∧ inB x n = false) E9 ∧ r9 = (1 : Int32) ∧ σ9 = σ) r5 σ1) : MIv σ1 g n sd b e9 z ∧ ∀ (r6 : Int32) (σ2 : St), (fun r σ' => (inB x n = true ∧ r = sumA (σ1 45) (σ1 31 24) (ix x) e9 e9 ∧ σ' = thr σ1 0) ∨ (inB x n = false ∧ σ' = thr σ1 1)) r6 σ2 → σ2 31 25 = r5 ∧ (r5 = 0 → σ2 46 0 = r6) ∧ Inv σ2 (j + 1) := by
  have hg12 : g ≤ 12 := hC.1.2.2
  have hg1 : 1 ≤ g := hC.1.2.1
  have hn6 : n ≤ 6 := hC.2.1.2
  have hz5 : z ≤ 512 := hC.2.2.2.2.1.2
  rcases h5 with ⟨v9, τ9, ⟨e1, e2, c0⟩, e3, e4⟩ | ⟨E9, hE, e3, e4⟩
  · have e2 := e2.symm
    subst e2 e3 e4
    refine ⟨MIv_of (AgM_46 (AgM_r σ) _) hM, fun r6 σ2 h6 => ?_⟩
    rcases h6 with ⟨d0, e5, e6⟩ | ⟨d0, e6⟩
    · skip
      subst e6
      refine ⟨thr_25 _ 0, fun _ => ?_, Inv_up (AgC_thr (AgC_46 (AgC_r σ) _) 0) (AgM_thr (AgM_46 (AgM_r σ) _) 0) hC hM hR ht hzj⟩
      rw [thr_46, upA_s, pk_us, e1, e5]
      show sumA (σ 29) (σ 27 3) (ix x) e9 e9 = sumA (σ 45) (σ 31 24) (ix x) e9 e9
      rw [hR.2.2.1.2.1, hR.2.2.1.2.2.2.1]
    · skip
      exact absurd (c0.symm.trans d0) (by decide)
  · have e4 := e4.symm
    subst e4
    obtain ⟨e7, c0⟩ := hE
    subst e7
    refine ⟨hM, fun r6 σ2 h6 => ?_⟩
    rcases h6 with ⟨d0, e5, e6⟩ | ⟨d0, e6⟩
    · skip
      exact absurd (c0.symm.trans d0) (by decide)
    · skip
      subst e6
      exact ⟨by rw [thr_25, e3]; decide, fun h9 => absurd (e3.symm.trans h9) (by decide), Inv_up (AgC_thr (AgC_r _) 1) (AgM_thr (AgM_r _) 1) hC hM hR ht hzj⟩

set_option maxRecDepth 10000 in
theorem pu_teamPoints {σ : St} {j g n sd e9 z t : Nat} {b : Bool} (x : Int32) (hC : CIv σ g n b e9 z) (hM : MIv σ g n sd b e9 z) (hR : Rel σ g n sd b e9 z t) (ht : t ≤ 100 * j) (hzj : z ≤ j) (hj : j < 512)  {r5 : Int32} {σ1 : St} (h5 : (fun r9 σ9 => (∃ (v9 : Int32) (τ9 : St), (fun r σ' => r = tpA σ x e9 n ∧ σ' = σ ∧ inB x 4 = true) v9 τ9 ∧ r9 = 0 ∧ σ9 = upA τ9 46 (upd (τ9 46) 0 v9)) ∨ ∃ E9 : String, (fun E => E = xIOB ∧ inB x 4 = false) E9 ∧ r9 = (1 : Int32) ∧ σ9 = σ) r5 σ1) : MIv σ1 g n sd b e9 z ∧ ∀ (r6 : Int32) (σ2 : St), (fun r σ' => (inR x 0 3 = true ∧ r = tpM (σ1 34) (σ1 45) (σ1 31 24) x e9 n ∧ σ' = thr σ1 0) ∨ (inR x 0 3 = false ∧ σ' = thr σ1 1)) r6 σ2 → σ2 31 25 = r5 ∧ (r5 = 0 → σ2 46 0 = r6) ∧ Inv σ2 (j + 1) := by
  have hg12 : g ≤ 12 := hC.1.2.2
  have hg1 : 1 ≤ g := hC.1.2.1
  have hn6 : n ≤ 6 := hC.2.1.2
  have hz5 : z ≤ 512 := hC.2.2.2.2.1.2
  rcases h5 with ⟨v9, τ9, ⟨e1, e2, c0⟩, e3, e4⟩ | ⟨E9, hE, e3, e4⟩
  · have e2 := e2.symm
    subst e2 e3 e4
    refine ⟨MIv_of (AgM_46 (AgM_r σ) _) hM, fun r6 σ2 h6 => ?_⟩
    rcases h6 with ⟨d0, e5, e6⟩ | ⟨d0, e6⟩
    · skip
      rw [inR_4] at d0
      subst e6
      refine ⟨thr_25 _ 0, fun _ => ?_, Inv_up (AgC_thr (AgC_46 (AgC_r σ) _) 0) (AgM_thr (AgM_46 (AgM_r σ) _) 0) hC hM hR ht hzj⟩
      rw [thr_46, upA_s, pk_us, e1, e5]
      show tpA σ x e9 n = tpM (σ 34) (σ 45) (σ 31 24) x e9 n
      rw [hR.2.2.1.2.1, hR.2.2.1.2.2.1, hR.2.2.1.2.2.2.1]
      exact tp_eq σ x e9 n
    · skip
      rw [inR_4] at d0
      exact absurd (c0.symm.trans d0) (by decide)
  · have e4 := e4.symm
    subst e4
    obtain ⟨e7, c0⟩ := hE
    subst e7
    refine ⟨hM, fun r6 σ2 h6 => ?_⟩
    rcases h6 with ⟨d0, e5, e6⟩ | ⟨d0, e6⟩
    · skip
      rw [inR_4] at d0
      exact absurd (c0.symm.trans d0) (by decide)
    · skip
      rw [inR_4] at d0
      subst e6
      exact ⟨by rw [thr_25, e3]; decide, fun h9 => absurd (e3.symm.trans h9) (by decide), Inv_up (AgC_thr (AgC_r _) 1) (AgM_thr (AgM_r _) 1) hC hM hR ht hzj⟩
