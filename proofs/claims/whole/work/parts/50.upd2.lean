theorem n_pos {σ : St} {g n e z t : Nat} {b : Bool} (hC : CIv σ g n b e z) (hr : b = true → RRace σ g z t) : b = true → 0 < n := fun hb => by
  obtain ⟨G9, ⟨_, _, _, _, _, h8⟩, _⟩ := hr hb
  rcases Nat.eq_zero_or_pos n with q | q
  · exact absurd ((hC.2.2.2.2.2.2.1 hb).1.trans (by rw [q]; rfl)) h8
  · exact q
theorem ld_mk {σ : St} {n : Nat} (hrk : ∀ i, i < 6 → rkM σ n i = rkA σ n i) : ∀ i, i ≤ 6 → (∃ a, a < i ∧ rkA σ n a = 0) → ∃ w, w < i ∧ mkA σ n 0 i = nI w ∧ wnA σ n i = w ∧ ∀ k, ldrA σ 4 n k i = wayA σ 4 w - wayA σ 4 k
  | 0, _, h => by obtain ⟨a, ha, _⟩ := h; omega
  | i + 1, hi, h => by
    by_cases c : rkA σ n i = 0
    · refine ⟨i, by omega, ?_, ?_, fun k => ?_⟩
      · rw [mkA, hrk i (by omega), if_pos c]
      · rw [wnA, if_pos c]
      · rw [ldrA, if_pos (show cntA (fun a => ahB σ 4 a i) n = 0 from c)]
    · obtain ⟨a, ha, e⟩ := h
      have : a < i := by
        rcases Nat.lt_or_ge a i with q | q
        · exact q
        · have : a = i := by omega
          subst this; exact absurd e c
      obtain ⟨w, h1, h2, h3, h4⟩ := ld_mk hrk i (by omega) ⟨a, this, e⟩
      refine ⟨w, by omega, ?_, ?_, fun k => ?_⟩
      · rw [mkA, hrk i (by omega), if_neg c]; exact h2
      · rw [wnA, if_neg c]; exact h3
      · rw [ldrA, if_neg (show ¬ cntA (fun a => ahB σ 4 a i) n = 0 from c)]; exact h4 k
/-- the leader -/
theorem lead {σ : St} {g n z t : Nat} (hr : RRace σ g z t) (hg : g ≤ 12) (hz : z ≤ 512) (hn : n ≤ 6) (h0 : 0 < n) : ∃ w, w < n ∧ mkA σ n 0 n = nI w ∧ wnA σ n n = w ∧ ∀ k, ldrA σ 4 n k n = wayA σ 4 w - wayA σ 4 k := by
  obtain ⟨k, hk, e⟩ := ld_is (ah_stO hr hz hn) (by omega) h0
  exact ld_mk (fun i hi => rk_eq hr hg hz hn hi) n hn ⟨k, hk, e⟩
theorem cu_eq (L : Int32) : (if 25 < (if L < 0 then 0 else L) / 10 then 25 else (if L < 0 then 0 else L) / 10) = mcu L := by
  unfold mcu
  by_cases c : L < 0
  · rw [if_pos c, if_neg (Int32.not_le.mpr c)]
    decide
  · rw [if_neg c, if_pos (Int32.not_lt.mp c)]
    by_cases d : L / 10 ≤ 25
    · rw [if_pos d, if_neg (Int32.not_lt.mpr d)]
    · rw [if_neg d, if_pos (Int32.not_le.mp d)]
theorem mk_46 {σ : St} (f : Nat → Int32) (n q i : Nat) : mkA (upA σ 46 f) n q i = mkA σ n q i := mkA_cong (fun k => rk_46 f n k) i
theorem wOk_u {len : Nat → Int32} {g X Y v : Nat} (hw : wOk len g) (hX : X < g) (hY : Y < g) (hg : g ≤ 12) (hv : v ≤ 100) (hd : X < Y ∨ (Y = 0 ∧ 0 < X)) : wOk (upd len (X * 12 + Y) (nI v)) g := by
  intro x y hx hy
  by_cases e : x * 12 + y = X * 12 + Y
  · have e1 : x = X := by omega
    have e2 : y = Y := by omega
    subst e1 e2
    exact ⟨v, pk_us, hv, fun _ => ⟨hd, hX, hY⟩⟩
  · obtain ⟨w, h1, h2, h3⟩ := hw x y hx hy
    exact ⟨w, (if_neg e : upd len (X * 12 + Y) (nI v) (x * 12 + y) = len (x * 12 + y)).trans h1, h2, h3⟩
set_option maxRecDepth 10000 in
theorem pu_catchUp {σ : St} {j g n sd e9 z t : Nat} {b : Bool} (x : Int32) (hC : CIv σ g n b e9 z) (hM : MIv σ g n sd b e9 z) (hR : Rel σ g n sd b e9 z t) (ht : t ≤ 100 * j) (hzj : z ≤ j) (hj : j < 512) (w : Nat) (hmw : b = true → mdA σ w = wayA σ 4 w ∧ ∀ k, ldrA σ 4 n k n = wayA σ 4 w - wayA σ 4 k) {r5 : Int32} {σ1 : St} (h5 : (fun r9 σ9 => (∃ (v9 : Int32) (τ9 : St), (fun r σ' => r = (if 25 < (if ldrA σ 4 n (ix x) n < 0 then 0 else ldrA σ 4 n (ix x) n) / 10 then 25 else (if ldrA σ 4 n (ix x) n < 0 then 0 else ldrA σ 4 n (ix x) n) / 10) ∧ σ' = σ ∧ inB x n = true ∧ b = true) v9 τ9 ∧ r9 = 0 ∧ σ9 = upA τ9 46 (upd (τ9 46) 0 v9)) ∨ ∃ E9 : String, (fun E => (E = xIOB ∧ inB x n = false) ∨ (E = xISE ∧ inB x n = true ∧ b = false)) E9 ∧ r9 = ((if E9 = xIOB then 1 else 2) : Int32) ∧ σ9 = σ) r5 σ1) : MIv σ1 g n sd b e9 z ∧ ∀ (r6 : Int32) (σ2 : St), (fun r σ' => (inB x n = true ∧ b = true ∧ r = mcu (mdA σ1 w - mdA σ1 (ix x)) ∧ σ' = thr σ1 0) ∨ (inB x n = false ∧ σ' = thr σ1 1) ∨ (inB x n = true ∧ b = false ∧ σ' = thr σ1 2)) r6 σ2 → σ2 31 25 = r5 ∧ (r5 = 0 → σ2 46 0 = r6) ∧ Inv σ2 (j + 1) := by
  have hg12 : g ≤ 12 := hC.1.2.2
  have hg1 : 1 ≤ g := hC.1.2.1
  have hn6 : n ≤ 6 := hC.2.1.2
  have hz5 : z ≤ 512 := hC.2.2.2.2.1.2
  rcases h5 with ⟨v9, τ9, ⟨e1, e2, c0, c1⟩, e3, e4⟩ | ⟨E9, hE, e3, e4⟩
  · have e2 := e2.symm
    subst e2 e3 e4
    refine ⟨MIv_of (AgM_46 (AgM_r σ) _) hM, fun r6 σ2 h6 => ?_⟩
    rcases h6 with ⟨d0, d1, e5, e6⟩ | ⟨d0, e6⟩ | ⟨d0, d1, e6⟩
    · skip
      subst e6
      refine ⟨thr_25 _ 0, fun _ => ?_, Inv_up (AgC_thr (AgC_46 (AgC_r σ) _) 0) (AgM_thr (AgM_46 (AgM_r σ) _) 0) hC hM hR ht hzj⟩
      rw [thr_46, upA_s, pk_us, e1, e5]
      obtain ⟨hw1, hw2⟩ := hmw c1
      rw [hw2 (ix x), cu_eq, ← hw1, ← md_eq (hR.2.2.2.2 c1) hg12 hg1 (ix6 hn6 c0)]
      rfl
    · skip
      exact absurd (c0.symm.trans d0) (by decide)
    · skip
      exact absurd (c1.symm.trans d1) (by decide)
  · have e4 := e4.symm
    subst e4
    rcases hE with ⟨e7, c0⟩ | ⟨e7, c0, c1⟩
    · skip
      subst e7
      refine ⟨hM, fun r6 σ2 h6 => ?_⟩
      rcases h6 with ⟨d0, d1, e5, e6⟩ | ⟨d0, e6⟩ | ⟨d0, d1, e6⟩
      · skip
        exact absurd (c0.symm.trans d0) (by decide)
      · skip
        subst e6
        exact ⟨by rw [thr_25, e3]; decide, fun h9 => absurd (e3.symm.trans h9) (by decide), Inv_up (AgC_thr (AgC_r _) 1) (AgM_thr (AgM_r _) 1) hC hM hR ht hzj⟩
      · skip
        exact absurd (c0.symm.trans d0) (by decide)
    · skip
      subst e7
      refine ⟨hM, fun r6 σ2 h6 => ?_⟩
      rcases h6 with ⟨d0, d1, e5, e6⟩ | ⟨d0, e6⟩ | ⟨d0, d1, e6⟩
      · skip
        exact absurd (c1.symm.trans d1) (by decide)
      · skip
        exact absurd (c0.symm.trans d0) (by decide)
      · skip
        subst e6
        exact ⟨by rw [thr_25, e3]; decide, fun h9 => absurd (e3.symm.trans h9) (by decide), Inv_up (AgC_thr (AgC_r _) 2) (AgM_thr (AgM_r _) 2) hC hM hR ht hzj⟩

set_option maxRecDepth 10000 in
theorem pu_rest {σ : St} {j g n sd e9 z t : Nat} {b : Bool} (x : Int32) (hC : CIv σ g n b e9 z) (hM : MIv σ g n sd b e9 z) (hR : Rel σ g n sd b e9 z t) (ht : t ≤ 100 * j) (hzj : z ≤ j) (hj : j < 512)  {r5 : Int32} {σ1 : St} (h5 : (fun r9 σ9 => (∃ (v9 : Int32) (τ9 : St), (fun r σ' => r = σ 3 (ix x) ∧ σ' = σ ∧ inB x g = true) v9 τ9 ∧ r9 = 0 ∧ σ9 = upA τ9 46 (upd (τ9 46) 0 v9)) ∨ ∃ E9 : String, (fun E => E = xIOB ∧ inB x g = false) E9 ∧ r9 = (1 : Int32) ∧ σ9 = σ) r5 σ1) : MIv σ1 g n sd b e9 z ∧ ∀ (r6 : Int32) (σ2 : St), (fun r σ' => (inB x g = true ∧ r = moA (σ1 32) (σ1 33) g g (ix x) ∧ σ' = upA (thr σ1 0) 33 (moA (σ1 32) (σ1 33) g g)) ∨ (inB x g = false ∧ σ' = thr σ1 1)) r6 σ2 → σ2 31 25 = r5 ∧ (r5 = 0 → σ2 46 0 = r6) ∧ Inv σ2 (j + 1) := by
  have hg12 : g ≤ 12 := hC.1.2.2
  have hg1 : 1 ≤ g := hC.1.2.1
  have hn6 : n ≤ 6 := hC.2.1.2
  have hz5 : z ≤ 512 := hC.2.2.2.2.1.2
  obtain ⟨r1, ⟨w1, w2, w3, w4⟩, rC, rM, rR⟩ := id hR
  rcases h5 with ⟨v9, τ9, ⟨e1, e2, c0⟩, e3, e4⟩ | ⟨E9, hE, e3, e4⟩
  · have e2 := e2.symm
    subst e2 e3 e4
    refine ⟨hM, fun r6 σ2 h6 => ?_⟩
    have hfx : FX (σ 2) (moA (σ 32) (σ 33) g g) g := by rw [w1]; exact FX_mo w2 hg12 _
    rcases h6 with ⟨d0, e5, e6⟩ | ⟨d0, e6⟩
    · subst e6
      refine ⟨rfl, fun _ => e1.trans ((FX_eq w2 hg12 w4 hfx (inB_ix (by omega) c0).2).trans e5.symm), g, n, sd, e9, z, t, b, hC, hM, ⟨r1, ⟨w1, w2, w3, w4⟩, rC, rM, fun hb => ?_⟩, by omega, by omega⟩
      obtain ⟨G9, p1, p2, p3, p4, p5, p6⟩ := rR hb
      exact ⟨G9, p1, p2, p3, p4, fun a ha => (FX_eq w2 hg12 hfx w4 ha), rc_keep (σ := σ) rfl rfl rfl rfl rfl rfl rfl rfl rfl rfl rfl (CIv_rec hC) p6⟩
    · exact absurd (c0.symm.trans d0) (by decide)
  · have e4 := e4.symm
    subst e4
    obtain ⟨e7, c0⟩ := hE
    subst e7
    refine ⟨hM, fun r6 σ2 h6 => ?_⟩
    rcases h6 with ⟨d0, e5, e6⟩ | ⟨d0, e6⟩
    · skip
      exact absurd (c0.symm.trans d0) (by decide)
    · subst e6
      exact ⟨by rw [thr_25, e3]; decide, fun h9 => absurd (e3.symm.trans h9) (by decide), Inv_up (AgC_thr (AgC_r _) 1) (AgM_thr (AgM_r _) 1) hC hM hR ht hzj⟩


set_option maxRecDepth 10000 in
theorem pu_addWay {σ : St} {j g n sd e9 z t : Nat} {b : Bool} (x y w : Int32) (hC : CIv σ g n b e9 z) (hM : MIv σ g n sd b e9 z) (hR : Rel σ g n sd b e9 z t) (ht : t ≤ 100 * j) (hzj : z ≤ j) (hj : j < 512)  {r5 : Int32} {σ1 : St} (h5 : (fun r9 σ9 => (∃ (v9 : Int32) (τ9 : St), (fun r σ' => r = (if σ 2 (ix x * 12 + ix y) = 0 then -1 else σ 2 (ix x * 12 + ix y)) ∧ σ' = wySt σ g (ix x) (ix y) w ∧ (inB x g && inB y g) = true ∧ rgtB x y w = true ∧ nev b e9 = true) v9 τ9 ∧ r9 = 0 ∧ σ9 = upA τ9 46 (upd (τ9 46) 0 v9)) ∨ ∃ E9 : String, (fun E => (E = xIOB ∧ (inB x g && inB y g) = false) ∨ (E = xIAE ∧ (inB x g && inB y g) = true ∧ rgtB x y w = false) ∨ (E = xISE ∧ (inB x g && inB y g) = true ∧ rgtB x y w = true ∧ nev b e9 = false)) E9 ∧ r9 = ((if E9 = xIOB then 1 else (if E9 = xIAE then 2 else 3)) : Int32) ∧ σ9 = σ) r5 σ1) : MIv σ1 g n sd b e9 z ∧ ∀ (r6 : Int32) (σ2 : St), (fun r σ' => ((inB x g && inB y g) = true ∧ rgtB x y w = true ∧ decide (sd = 0) = true ∧ r = (if σ1 32 (ix x * 12 + ix y) = 0 then -1 else σ1 32 (ix x * 12 + ix y)) ∧ σ' = upA (thr σ1 0) 32 (upd (σ1 32) (ix x * 12 + ix y) w)) ∨ ((inB x g && inB y g) = false ∧ σ' = thr σ1 1) ∨ ((inB x g && inB y g) = true ∧ rgtB x y w = false ∧ σ' = thr σ1 2) ∨ ((inB x g && inB y g) = true ∧ rgtB x y w = true ∧ decide (sd = 0) = false ∧ σ' = thr σ1 3)) r6 σ2 → σ2 31 25 = r5 ∧ (r5 = 0 → σ2 46 0 = r6) ∧ Inv σ2 (j + 1) := by
  have hg12 : g ≤ 12 := hC.1.2.2
  have hg1 : 1 ≤ g := hC.1.2.1
  have hn6 : n ≤ 6 := hC.2.1.2
  have hz5 : z ≤ 512 := hC.2.2.2.2.1.2
  obtain ⟨r1, ⟨w1, w2, w3, w4⟩, rC, rM, rR⟩ := id hR
  have hns := nev_sd r1
  rcases h5 with ⟨v9, τ9, ⟨e1, e2, c0, c1, c2⟩, e3, e4⟩ | ⟨E9, hE, e3, e4⟩
  · subst e2 e3 e4
    refine ⟨hM, fun r6 σ2 h6 => ?_⟩
    rcases h6 with ⟨d0, d1, dd2, e5, e6⟩ | ⟨d0, e6⟩ | ⟨d0, d1, e6⟩ | ⟨d0, d1, dd2, e6⟩
    · subst e6
      have hb0 : b = false := by cases b; rfl; exact absurd c2 (by unfold nev; simp)
      have q0 := (Bool.and_eq_true _ _).mp c0
      have hx := (inB_ix (by omega) q0.1).2
      have hy := (inB_ix (by omega) q0.2).2
      have q1 := (Bool.and_eq_true _ _).mp c1
      obtain ⟨v, hv, hv1, hv2⟩ := inR_nI (m := 100) (by decide) q1.2
      have hd : ix x < ix y ∨ (ix y = 0 ∧ 0 < ix x) := by
        have q2 := q1.1
        simp only [Bool.or_eq_true, Bool.and_eq_true, decide_eq_true_eq] at q2
        exact q2
      have hw9 : wOk (upd (σ 2) (ix x * 12 + ix y) w) g := by rw [hv]; exact wOk_u w2 hx hy hg12 hv2 hd
      refine ⟨rfl, fun _ => e1.trans ?_, g, n, sd, e9, z, t, b, hC, hM, ⟨r1, ⟨?_, hw9, w3, FX_mr hw9 hg12 _⟩, rC, rM, fun hb => absurd (hb0.symm.trans hb) (by decide)⟩, by omega, by omega⟩
      · refine Eq.trans ?_ e5.symm
        show (if σ 2 (ix x * 12 + ix y) = 0 then (-1 : Int32) else σ 2 (ix x * 12 + ix y)) = if σ 32 (ix x * 12 + ix y) = 0 then -1 else σ 32 (ix x * 12 + ix y)
        rw [w1]
      · show upd (σ 32) (ix x * 12 + ix y) w = upd (σ 2) (ix x * 12 + ix y) w
        rw [w1]
    · exact absurd (c0.symm.trans d0) (by decide)
    · exact absurd (c1.symm.trans d1) (by decide)
    · rw [hns] at c2
      exact absurd (c2.symm.trans dd2) (by decide)
  · have e4 := e4.symm
    subst e4
    refine ⟨hM, fun r6 σ2 h6 => ?_⟩
    rcases hE with ⟨e7, c0⟩ | ⟨e7, c0, c1⟩ | ⟨e7, c0, c1, c2⟩ <;> subst e7 <;> rcases h6 with ⟨d0, d1, dd2, e5, e6⟩ | ⟨d0, e6⟩ | ⟨d0, d1, e6⟩ | ⟨d0, d1, dd2, e6⟩ <;> first
      | exact absurd (c0.symm.trans d0) (by decide)
      | exact absurd (c1.symm.trans d1) (by decide)
      | exact absurd ((hns.symm.trans c2).symm.trans dd2) (by decide)
      | (subst e6; exact ⟨by rw [thr_25, e3]; decide, fun h9 => absurd (e3.symm.trans h9) (by decide), Inv_up (AgC_thr (AgC_r _) 1) (AgM_thr (AgM_r _) 1) hC hM hR ht hzj⟩)
      | (subst e6; exact ⟨by rw [thr_25, e3]; decide, fun h9 => absurd (e3.symm.trans h9) (by decide), Inv_up (AgC_thr (AgC_r _) 2) (AgM_thr (AgM_r _) 2) hC hM hR ht hzj⟩)
      | (subst e6; exact ⟨by rw [thr_25, e3]; decide, fun h9 => absurd (e3.symm.trans h9) (by decide), Inv_up (AgC_thr (AgC_r _) 3) (AgM_thr (AgM_r _) 3) hC hM hR ht hzj⟩)

