theorem ah_rc {τ σ : St} (h : rcEq τ 12 σ 4) (h3 : τ 3 = σ 3) {i j : Nat} (hi : i < 6) (hj : j < 6) : ahB τ 12 i j = ahB σ 4 i j := by
  have F : ∀ k, k < 6 → finB τ 12 k = finB σ 4 k := fun k hk => by unfold finB; rw [h.1 2 (by decide) (by decide) k hk, h.2.2.1]
  have N : ∀ k, k < 6 → netA τ 12 k = netA σ 4 k := fun k hk => by unfold netA; rw [h.1 2 (by decide) (by decide) k hk, h.1 3 (by decide) (by decide) k hk]
  have S : ∀ k, k < 6 → rstA τ 12 k = rstA σ 4 k := fun k hk => by unfold rstA gN; rw [h.1 1 (by decide) (by decide) k hk, h3]
  have M : ∀ k, k < 6 → τ (12 + 5) k = σ (4 + 5) k := fun k hk => h.1 5 (by decide) (by decide) k hk
  unfold ahB
  rw [F i hi, F j hj, N i hi, N j hj, S i hi, S j hj, M i hi, M j hj]
theorem stO_cong {a a' : Nat → Nat → Bool} {n : Nat} (h : ∀ i j, i < n → j < n → a i j = a' i j) (hs : stO a' n) : stO a n :=
  ⟨fun i hi => by rw [h i i hi hi]; exact hs.1 i hi, fun i j hi hj hne => by rw [h i j hi hj, h j i hj hi]; exact hs.2.1 i j hi hj hne, fun i j k hi hj hk => by rw [h i j hi hj, h j k hj hk, h i k hi hk]; exact hs.2.2 i j k hi hj hk⟩
noncomputable def fbS (σ : St) (n z : Nat) : St := upA (upA (rbS σ z) 18 (ordA (ahB (rbS σ z) 12) (rbS σ z 18) n)) 19 (rrA (ordA (ahB (rbS σ z) 12) (rbS σ z 18) n) (rbS σ z 19) n)
theorem fb_o {σ : St} {n z c : Nat} (h : c < 12 ∨ 19 < c) : fbS σ n z c = σ c := by
  unfold fbS
  rw [upA_n (by omega), upA_n (by omega), rbS_o (by omega)]
theorem fb_C (σ : St) (n z : Nat) : AgC (fbS σ n z) σ := fun c hc => fb_o (by omega)
theorem fb_M (σ : St) (n z : Nat) : AgM (fbS σ n z) σ := ⟨fun c h1 h2 => fb_o (by omega), fun k _ => by rw [fb_o (by decide)]⟩
theorem fb_rk {σ : St} {n z : Nat} (f : Nat → Int32) (k : Nat) : rkM (upA (fbS σ n z) 46 f) n k = rkM σ n k := by
  rw [rk_46]
  exact rkM_cong (fb_o (by decide)) (fb_o (by decide)) (fb_o (by decide)) (fb_o (by decide)) (fb_o (by decide)) (fb_o (by decide)) n k
theorem rbr_eq {σ : St} {g n z t : Nat} (hr : RRace σ g z t) (hz : z ≤ 512) (hn : n ≤ 6) {k : Nat} (hk : k < n) : rrA (ordA (ahB (rbS σ z) 12) (rbS σ z 18) n) (rbS σ z 19) n k = nI (rkA σ n k) := by
  have h9 := hr
  obtain ⟨G9, -, -, -, -, -, hrc⟩ := h9
  have ha : ∀ i j, i < n → j < n → ahB (rbS σ z) 12 i j = ahB σ 4 i j := fun i j hi hj => ah_rc hrc (rbS_o (by decide) z) (by omega) (by omega)
  rw [rr_is (stO_cong ha (ah_stO hr hz hn)) (by omega) _ _ hk]
  unfold rkA
  rw [cntA_cong n (fun a q => ha a k q hk)]
/-! the standing -/
theorem cntA_0 {P : Nat → Bool} : ∀ i, (∀ a, a < i → P a = false) → cntA P i = 0
  | 0, _ => rfl
  | i + 1, h => by rw [cntA, cntA_0 i (fun a ha => h a (by omega)), h i (by omega)]; rfl
theorem tm_0 {pl : Nat → Int32} {n e i q : Nat} (h : ∀ r k, r < e → k < n → ∃ p : Nat, p < n ∧ pl (r * 6 + k) = nI p) (hi : i < n) (hn : n ≤ 6) (h1 : n ≤ q) (h2 : q < 6) : tmA pl e i q = 0 := by
  refine cntA_0 e (fun r hr => ?_)
  obtain ⟨p, hp, e1⟩ := h r i hr hi
  rw [e1]
  exact decide_eq_false (fun q1 => by have := (nI_eq (by omega) (by omega)).mp q1; omega)
theorem st_lo {pl : Nat → Int32} {n e i j : Nat} (h : ∀ r k, r < e → k < n → ∃ p : Nat, p < n ∧ pl (r * 6 + k) = nI p) (hi : i < n) (hj : j < n) (hn : n ≤ 6) : ∀ z, z ≤ 6 - n → stT pl e i j z = !decide (j ≤ i)
  | 0, _ => rfl
  | z + 1, hz => by rw [stT, tm_0 h hi hn (by omega) (by omega), tm_0 h hj hn (by omega) (by omega), if_pos rfl]; exact st_lo h hi hj hn z (by omega)
theorem st_eq {pl : Nat → Int32} {n e i j : Nat} (h : ∀ r k, r < e → k < n → ∃ p : Nat, p < n ∧ pl (r * 6 + k) = nI p) (hi : i < n) (hj : j < n) (hn : n ≤ 6) : ∀ w, w ≤ n → stT pl e i j (6 - n + w) = stTm pl e i j n w
  | 0, _ => by rw [Nat.add_zero, st_lo h hi hj hn (6 - n) (Nat.le_refl _)]; rfl
  | w + 1, hw => by
    rw [show 6 - n + (w + 1) = (6 - n + w) + 1 from rfl, stT, stTm, show 6 - (6 - n + w + 1) = n - (w + 1) by omega, st_eq h hi hj hn w (by omega)]
theorem stB_eq {pl pt : Nat → Int32} {dr : Int32} {n e i j : Nat} (h : ∀ r k, r < e → k < n → ∃ p : Nat, p < n ∧ pl (r * 6 + k) = nI p) (hi : i < n) (hj : j < n) (hn : n ≤ 6) : stB pl pt dr e i j = stBm pl pt dr e n i j := by
  have := st_eq h hi hj hn n (Nat.le_refl _)
  rw [show 6 - n + n = 6 by omega] at this
  unfold stB stBm
  rw [this]
theorem stT_irr (pl : Nat → Int32) (e i : Nat) : ∀ z, stT pl e i i z = false
  | 0 => by rw [stT, decide_eq_true (Nat.le_refl _)]; rfl
  | z + 1 => by rw [stT, if_pos rfl]; exact stT_irr pl e i z
theorem sn_eq {pl pt : Nat → Int32} {dr : Int32} {n e k : Nat} (h : ∀ r k, r < e → k < n → ∃ p : Nat, p < n ∧ pl (r * 6 + k) = nI p) (hk : k < n) (hn : n ≤ 6) : cntA (fun o => stB pl pt dr e o k) n = snM pl pt dr e n k := by
  refine cntA_cong n (fun a ha => ?_)
  show stB pl pt dr e a k = (!decide (a = k) && stBm pl pt dr e n a k)
  by_cases q : a = k
  · subst q
    rw [decide_eq_true rfl]
    unfold stB
    rw [if_pos rfl, stT_irr]
    rfl
  · rw [decide_eq_false q, stB_eq h ha hk hn]; rfl
theorem fs_eq {c c' : Nat → Nat} {x : Nat} (hx : x % 2 = 0) : ∀ i, (∀ a, a < i → c a = c' a) → fsA c (x / 2) i = fsM c' x i
  | 0, _ => rfl
  | i + 1, h => by
    rw [fsA, fsM, fs_eq hx i (fun a ha => h a (by omega)), h i (by omega)]
    by_cases e : c' i = x / 2
    · rw [if_pos e, if_pos (by omega)]
    · rw [if_neg e, if_neg (by omega)]
set_option maxRecDepth 10000 in
theorem pu_rankByRecord {σ : St} {j g n sd e9 z t : Nat} {b : Bool} (x : Int32) (hC : CIv σ g n b e9 z) (hM : MIv σ g n sd b e9 z) (hR : Rel σ g n sd b e9 z t) (ht : t ≤ 100 * j) (hzj : z ≤ j) (hj : j < 512)  {r5 : Int32} {σ1 : St} (h5 : (fun r9 σ9 => (∃ (v9 : Int32) (τ9 : St), (fun r σ' => r = rrA (ordA (ahB (rbS σ z) 12) (rbS σ z 18) n) (rbS σ z 19) n (ix x) ∧ σ' = (upA (upA (rbS σ z) 18 (ordA (ahB (rbS σ z) 12) (rbS σ z 18) n)) 19 (rrA (ordA (ahB (rbS σ z) 12) (rbS σ z 18) n) (rbS σ z 19) n)) ∧ inB x n = true ∧ b = true) v9 τ9 ∧ r9 = 0 ∧ σ9 = upA τ9 46 (upd (τ9 46) 0 v9)) ∨ ∃ E9 : String, (fun E => (E = xIOB ∧ inB x n = false) ∨ (E = xISE ∧ inB x n = true ∧ b = false)) E9 ∧ r9 = ((if E9 = xIOB then 1 else 2) : Int32) ∧ σ9 = σ) r5 σ1) : MIv σ1 g n sd b e9 z ∧ ∀ (r6 : Int32) (σ2 : St), (fun r σ' => (inB x n = true ∧ b = true ∧ r = nI (rkM σ1 n (ix x)) ∧ σ' = thr σ1 0) ∨ (inB x n = false ∧ σ' = thr σ1 1) ∨ (inB x n = true ∧ b = false ∧ σ' = thr σ1 2)) r6 σ2 → σ2 31 25 = r5 ∧ (r5 = 0 → σ2 46 0 = r6) ∧ Inv σ2 (j + 1) := by
  have hg12 : g ≤ 12 := hC.1.2.2
  have hg1 : 1 ≤ g := hC.1.2.1
  have hn6 : n ≤ 6 := hC.2.1.2
  have hz5 : z ≤ 512 := hC.2.2.2.2.1.2
  rcases h5 with ⟨v9, τ9, ⟨e1, e2, c0, c1⟩, e3, e4⟩ | ⟨E9, hE, e3, e4⟩
  · have e2 := e2.symm
    subst e2 e3 e4
    refine ⟨MIv_of (AgM_46 (fb_M σ n z) _) hM, fun r6 σ2 h6 => ?_⟩
    rcases h6 with ⟨d0, d1, e5, e6⟩ | ⟨d0, e6⟩ | ⟨d0, d1, e6⟩
    · skip
      subst e6
      refine ⟨thr_25 _ 0, fun _ => ?_, Inv_up (AgC_thr (AgC_46 (fb_C σ n z) _) 0) (AgM_thr (AgM_46 (fb_M σ n z) _) 0) hC hM hR ht hzj⟩
      rw [thr_46, upA_s, pk_us, e1, e5]
      rw [show (upA (upA (rbS σ z) 18 (ordA (ahB (rbS σ z) 12) (rbS σ z 18) n)) 19 (rrA (ordA (ahB (rbS σ z) 12) (rbS σ z 18) n) (rbS σ z 19) n)) = fbS σ n z from rfl, fb_rk, rk_eq (hR.2.2.2.2 c1) hg12 hz5 hn6 (ix6 hn6 c0)]
      exact rbr_eq (hR.2.2.2.2 c1) hz5 hn6 (inB_ix (by omega) c0).2
    · skip
      exact absurd (c0.symm.trans d0) (by decide)
    · skip
      exact absurd (c1.symm.trans d1) (by decide)
  · have e4 := e4.symm
    subst e4
    rcases hE with ⟨e7, c0⟩ | ⟨e7, c0, c1⟩
    · skip
      subst e7
      refine ⟨hM, fun r6 σ2 h6 => ?_⟩
      rcases h6 with ⟨d0, d1, e5, e6⟩ | ⟨d0, e6⟩ | ⟨d0, d1, e6⟩
      · skip
        exact absurd (c0.symm.trans d0) (by decide)
      · skip
        subst e6
        exact ⟨by rw [thr_25, e3]; decide, fun h9 => absurd (e3.symm.trans h9) (by decide), Inv_up (AgC_thr (AgC_r _) 1) (AgM_thr (AgM_r _) 1) hC hM hR ht hzj⟩
      · skip
        exact absurd (c0.symm.trans d0) (by decide)
    · skip
      subst e7
      refine ⟨hM, fun r6 σ2 h6 => ?_⟩
      rcases h6 with ⟨d0, d1, e5, e6⟩ | ⟨d0, e6⟩ | ⟨d0, d1, e6⟩
      · skip
        exact absurd (c1.symm.trans d1) (by decide)
      · skip
        exact absurd (c0.symm.trans d0) (by decide)
      · skip
        subst e6
        exact ⟨by rw [thr_25, e3]; decide, fun h9 => absurd (e3.symm.trans h9) (by decide), Inv_up (AgC_thr (AgC_r _) 2) (AgM_thr (AgM_r _) 2) hC hM hR ht hzj⟩

set_option maxRecDepth 10000 in
theorem pu_gateOf {σ : St} {j g n sd e9 z t : Nat} {b : Bool} (x : Int32) (hC : CIv σ g n b e9 z) (hM : MIv σ g n sd b e9 z) (hR : Rel σ g n sd b e9 z t) (ht : t ≤ 100 * j) (hzj : z ≤ j) (hj : j < 512)  {r5 : Int32} {σ1 : St} (h5 : (fun r9 σ9 => (∃ (v9 : Int32) (τ9 : St), (fun r σ' => r = (σ (4 + 1) (ix x)) ∧ σ' = σ ∧ inB x n = true ∧ b = true) v9 τ9 ∧ r9 = 0 ∧ σ9 = upA τ9 46 (upd (τ9 46) 0 v9)) ∨ ∃ E9 : String, (fun E => (E = xIOB ∧ inB x n = false) ∨ (E = xISE ∧ inB x n = true ∧ b = false)) E9 ∧ r9 = ((if E9 = xIOB then 1 else 2) : Int32) ∧ σ9 = σ) r5 σ1) : MIv σ1 g n sd b e9 z ∧ ∀ (r6 : Int32) (σ2 : St), (fun r σ' => r = (if (inB x n && b) = true then σ1 35 (ix x) else 0) ∧ σ' = thr σ1 (cd2 (inB x n) b)) r6 σ2 → σ2 31 25 = r5 ∧ (r5 = 0 → σ2 46 0 = r6) ∧ Inv σ2 (j + 1) := by
  have hg12 : g ≤ 12 := hC.1.2.2
  have hg1 : 1 ≤ g := hC.1.2.1
  have hn6 : n ≤ 6 := hC.2.1.2
  have hz5 : z ≤ 512 := hC.2.2.2.2.1.2
  rcases h5 with ⟨v9, τ9, ⟨e1, e2, c0, c1⟩, e3, e4⟩ | ⟨E9, hE, e3, e4⟩
  · have e2 := e2.symm
    subst e2 e3 e4
    refine ⟨MIv_of (AgM_46 (AgM_r σ) _) hM, fun r6 σ2 h6 => ?_⟩
    obtain ⟨e5, e6⟩ := h6
    subst e6
    have hc : cd2 (inB x n) b = 0 := by rw [c0, c1]; rfl
    have hr : (inB x n && b) = true := by rw [c0, c1]; rfl
    refine ⟨by rw [thr_25, hc]; rfl, fun _ => ?_, Inv_up (AgC_thr (AgC_46 (AgC_r σ) _) _) (AgM_thr (AgM_46 (AgM_r σ) _) _) hC hM hR ht hzj⟩
    obtain ⟨G9, hG9, hrow, hkt, hmm, hrs, hrc⟩ := hR.2.2.2.2 c1
    have hx := (hrow (ix x) (ix6 hn6 c0)).1
    rw [thr_46, upA_s, pk_us, e1, e5, if_pos hr]
    exact hx.1.symm
  · have e4 := e4.symm
    subst e4
    rcases hE with ⟨e7, c0⟩ | ⟨e7, c0, c1⟩
    · subst e7
      refine ⟨hM, fun r6 σ2 h6 => ?_⟩
      obtain ⟨e5, e6⟩ := h6
      subst e6
      exact ⟨by rw [thr_25, c0, show cd2 false b = 1 from rfl, e3]; decide, fun h9 => absurd (e3.symm.trans h9) (by decide), Inv_up (AgC_thr (AgC_r _) _) (AgM_thr (AgM_r _) _) hC hM hR ht hzj⟩
    · subst e7
      refine ⟨hM, fun r6 σ2 h6 => ?_⟩
      obtain ⟨e5, e6⟩ := h6
      subst e6
      exact ⟨by rw [thr_25, c0, c1, show cd2 true false = 2 from rfl, e3]; decide, fun h9 => absurd (e3.symm.trans h9) (by decide), Inv_up (AgC_thr (AgC_r _) _) (AgM_thr (AgM_r _) _) hC hM hR ht hzj⟩

set_option maxRecDepth 10000 in
theorem pu_lapsOf {σ : St} {j g n sd e9 z t : Nat} {b : Bool} (x : Int32) (hC : CIv σ g n b e9 z) (hM : MIv σ g n sd b e9 z) (hR : Rel σ g n sd b e9 z t) (ht : t ≤ 100 * j) (hzj : z ≤ j) (hj : j < 512)  {r5 : Int32} {σ1 : St} (h5 : (fun r9 σ9 => (∃ (v9 : Int32) (τ9 : St), (fun r σ' => r = (netA σ 4 (ix x)) ∧ σ' = σ ∧ inB x n = true ∧ b = true) v9 τ9 ∧ r9 = 0 ∧ σ9 = upA τ9 46 (upd (τ9 46) 0 v9)) ∨ ∃ E9 : String, (fun E => (E = xIOB ∧ inB x n = false) ∨ (E = xISE ∧ inB x n = true ∧ b = false)) E9 ∧ r9 = ((if E9 = xIOB then 1 else 2) : Int32) ∧ σ9 = σ) r5 σ1) : MIv σ1 g n sd b e9 z ∧ ∀ (r6 : Int32) (σ2 : St), (fun r σ' => ((inB x n && b) = true → r = σ1 36 (ix x) - σ1 37 (ix x)) ∧ σ' = thr σ1 (cd2 (inB x n) b)) r6 σ2 → σ2 31 25 = r5 ∧ (r5 = 0 → σ2 46 0 = r6) ∧ Inv σ2 (j + 1) := by
  have hg12 : g ≤ 12 := hC.1.2.2
  have hg1 : 1 ≤ g := hC.1.2.1
  have hn6 : n ≤ 6 := hC.2.1.2
  have hz5 : z ≤ 512 := hC.2.2.2.2.1.2
  rcases h5 with ⟨v9, τ9, ⟨e1, e2, c0, c1⟩, e3, e4⟩ | ⟨E9, hE, e3, e4⟩
  · have e2 := e2.symm
    subst e2 e3 e4
    refine ⟨MIv_of (AgM_46 (AgM_r σ) _) hM, fun r6 σ2 h6 => ?_⟩
    obtain ⟨e5, e6⟩ := h6
    subst e6
    have hc : cd2 (inB x n) b = 0 := by rw [c0, c1]; rfl
    have hr : (inB x n && b) = true := by rw [c0, c1]; rfl
    refine ⟨by rw [thr_25, hc]; rfl, fun _ => ?_, Inv_up (AgC_thr (AgC_46 (AgC_r σ) _) _) (AgM_thr (AgM_46 (AgM_r σ) _) _) hC hM hR ht hzj⟩
    obtain ⟨G9, hG9, hrow, hkt, hmm, hrs, hrc⟩ := hR.2.2.2.2 c1
    have hx := (hrow (ix x) (ix6 hn6 c0)).1
    rw [thr_46, upA_s, pk_us, e1, e5 hr]
    show netA σ 4 (ix x) = σ 36 (ix x) - σ 37 (ix x)
    rw [hx.2.1, hx.2.2.1]
    rfl
  · have e4 := e4.symm
    subst e4
    rcases hE with ⟨e7, c0⟩ | ⟨e7, c0, c1⟩
    · subst e7
      refine ⟨hM, fun r6 σ2 h6 => ?_⟩
      obtain ⟨e5, e6⟩ := h6
      subst e6
      exact ⟨by rw [thr_25, c0, show cd2 false b = 1 from rfl, e3]; decide, fun h9 => absurd (e3.symm.trans h9) (by decide), Inv_up (AgC_thr (AgC_r _) _) (AgM_thr (AgM_r _) _) hC hM hR ht hzj⟩
    · subst e7
      refine ⟨hM, fun r6 σ2 h6 => ?_⟩
      obtain ⟨e5, e6⟩ := h6
      subst e6
      exact ⟨by rw [thr_25, c0, c1, show cd2 true false = 2 from rfl, e3]; decide, fun h9 => absurd (e3.symm.trans h9) (by decide), Inv_up (AgC_thr (AgC_r _) _) (AgM_thr (AgM_r _) _) hC hM hR ht hzj⟩

set_option maxRecDepth 10000 in
theorem pu_standing {σ : St} {j g n sd e9 z t : Nat} {b : Bool} (x : Int32) (hC : CIv σ g n b e9 z) (hM : MIv σ g n sd b e9 z) (hR : Rel σ g n sd b e9 z t) (ht : t ≤ 100 * j) (hzj : z ≤ j) (hj : j < 512)  {r5 : Int32} {σ1 : St} (h5 : (fun r9 σ9 => (∃ (v9 : Int32) (τ9 : St), (fun r σ' => r = nI (cntA (fun o => stB (σ 28) (σ 29) (σ 27 3) e9 o (ix x)) n) ∧ σ' = σ ∧ inB x n = true) v9 τ9 ∧ r9 = 0 ∧ σ9 = upA τ9 46 (upd (τ9 46) 0 v9)) ∨ ∃ E9 : String, (fun E => E = xIOB ∧ inB x n = false) E9 ∧ r9 = (1 : Int32) ∧ σ9 = σ) r5 σ1) : MIv σ1 g n sd b e9 z ∧ ∀ (r6 : Int32) (σ2 : St), (fun r σ' => (inB x n = true ∧ r = nI (snM (σ1 44) (σ1 45) (σ1 31 24) e9 n (ix x)) ∧ σ' = thr σ1 0) ∨ (inB x n = false ∧ σ' = thr σ1 1)) r6 σ2 → σ2 31 25 = r5 ∧ (r5 = 0 → σ2 46 0 = r6) ∧ Inv σ2 (j + 1) := by
  have hg12 : g ≤ 12 := hC.1.2.2
  have hg1 : 1 ≤ g := hC.1.2.1
  have hn6 : n ≤ 6 := hC.2.1.2
  have hz5 : z ≤ 512 := hC.2.2.2.2.1.2
  rcases h5 with ⟨v9, τ9, ⟨e1, e2, c0⟩, e3, e4⟩ | ⟨E9, hE, e3, e4⟩
  · have e2 := e2.symm
    subst e2 e3 e4
    refine ⟨MIv_of (AgM_46 (AgM_r σ) _) hM, fun r6 σ2 h6 => ?_⟩
    rcases h6 with ⟨d0, e5, e6⟩ | ⟨d0, e6⟩
    · skip
      subst e6
      refine ⟨thr_25 _ 0, fun _ => ?_, Inv_up (AgC_thr (AgC_46 (AgC_r σ) _) 0) (AgM_thr (AgM_46 (AgM_r σ) _) 0) hC hM hR ht hzj⟩
      rw [thr_46, upA_s, pk_us, e1, e5]
      show nI (cntA (fun o => stB (σ 28) (σ 29) (σ 27 3) e9 o (ix x)) n) = nI (snM (σ 44) (σ 45) (σ 31 24) e9 n (ix x))
      rw [hR.2.2.1.1, hR.2.2.1.2.1, hR.2.2.1.2.2.2.1, sn_eq hR.2.2.1.2.2.2.2 (inB_ix (by omega) c0).2 hn6]
    · skip
      exact absurd (c0.symm.trans d0) (by decide)
  · have e4 := e4.symm
    subst e4
    obtain ⟨e7, c0⟩ := hE
    subst e7
    refine ⟨hM, fun r6 σ2 h6 => ?_⟩
    rcases h6 with ⟨d0, e5, e6⟩ | ⟨d0, e6⟩
    · skip
      exact absurd (c0.symm.trans d0) (by decide)
    · skip
      subst e6
      exact ⟨by rw [thr_25, e3]; decide, fun h9 => absurd (e3.symm.trans h9) (by decide), Inv_up (AgC_thr (AgC_r _) 1) (AgM_thr (AgM_r _) 1) hC hM hR ht hzj⟩

set_option maxRecDepth 10000 in
theorem pu_textAt {σ : St} {j g n sd e9 z t : Nat} {b : Bool} (x : Int32) (hC : CIv σ g n b e9 z) (hM : MIv σ g n sd b e9 z) (hR : Rel σ g n sd b e9 z t) (ht : t ≤ 100 * j) (hzj : z ≤ j) (hj : j < 512)  {r5 : Int32} {σ1 : St} (h5 : (fun r9 σ9 => (∃ (v9 : Int32) (τ9 : St), (fun r σ' => r = (if ix x % 2 = 1 then 62 else (Int32.toUInt32 (nI (48 + fsA (fun z9 => cntA (fun o => stB (σ 28) (σ 29) (σ 27 3) e9 o z9) n) (ix x / 2) n)) % 65536).toInt32) ∧ σ' = σ ∧ inT x n = true) v9 τ9 ∧ r9 = 0 ∧ σ9 = upA τ9 46 (upd (τ9 46) 0 v9)) ∨ ∃ E9 : String, (fun E => E = xIOB ∧ inT x n = false) E9 ∧ r9 = (1 : Int32) ∧ σ9 = σ) r5 σ1) : MIv σ1 g n sd b e9 z ∧ ∀ (r6 : Int32) (σ2 : St), (fun r σ' => (inT x n = true ∧ r = (if ix x % 2 = 1 then 62 else (Int32.toUInt32 (nI (48 + fsM (fun z9 => snM (σ1 44) (σ1 45) (σ1 31 24) e9 n z9) (ix x) n)) % 65536).toInt32) ∧ σ' = thr σ1 0) ∨ (inT x n = false ∧ σ' = thr σ1 1)) r6 σ2 → σ2 31 25 = r5 ∧ (r5 = 0 → σ2 46 0 = r6) ∧ Inv σ2 (j + 1) := by
  have hg12 : g ≤ 12 := hC.1.2.2
  have hg1 : 1 ≤ g := hC.1.2.1
  have hn6 : n ≤ 6 := hC.2.1.2
  have hz5 : z ≤ 512 := hC.2.2.2.2.1.2
  rcases h5 with ⟨v9, τ9, ⟨e1, e2, c0⟩, e3, e4⟩ | ⟨E9, hE, e3, e4⟩
  · have e2 := e2.symm
    subst e2 e3 e4
    refine ⟨MIv_of (AgM_46 (AgM_r σ) _) hM, fun r6 σ2 h6 => ?_⟩
    rcases h6 with ⟨d0, e5, e6⟩ | ⟨d0, e6⟩
    · skip
      subst e6
      refine ⟨thr_25 _ 0, fun _ => ?_, Inv_up (AgC_thr (AgC_46 (AgC_r σ) _) 0) (AgM_thr (AgM_46 (AgM_r σ) _) 0) hC hM hR ht hzj⟩
      rw [thr_46, upA_s, pk_us, e1, e5]
      show (if ix x % 2 = 1 then (62 : Int32) else (Int32.toUInt32 (nI (48 + fsA (fun z9 => cntA (fun o => stB (σ 28) (σ 29) (σ 27 3) e9 o z9) n) (ix x / 2) n)) % 65536).toInt32) = (if ix x % 2 = 1 then 62 else (Int32.toUInt32 (nI (48 + fsM (fun z9 => snM (σ 44) (σ 45) (σ 31 24) e9 n z9) (ix x) n)) % 65536).toInt32)
      by_cases hx2 : ix x % 2 = 1
      · rw [if_pos hx2, if_pos hx2]
      · rw [if_neg hx2, if_neg hx2, hR.2.2.1.1, hR.2.2.1.2.1, hR.2.2.1.2.2.2.1, fs_eq (c := fun z9 => cntA (fun o => stB (σ 28) (σ 29) (σ 27 3) e9 o z9) n) (c' := fun z9 => snM (σ 28) (σ 29) (σ 27 3) e9 n z9) (by omega) n (fun a ha => sn_eq hR.2.2.1.2.2.2.2 ha hn6)]
    · skip
      exact absurd (c0.symm.trans d0) (by decide)
  · have e4 := e4.symm
    subst e4
    obtain ⟨e7, c0⟩ := hE
    subst e7
    refine ⟨hM, fun r6 σ2 h6 => ?_⟩
    rcases h6 with ⟨d0, e5, e6⟩ | ⟨d0, e6⟩
    · skip
      exact absurd (c0.symm.trans d0) (by decide)
    · skip
      subst e6
      exact ⟨by rw [thr_25, e3]; decide, fun h9 => absurd (e3.symm.trans h9) (by decide), Inv_up (AgC_thr (AgC_r _) 1) (AgM_thr (AgM_r _) 1) hC hM hR ht hzj⟩

set_option maxRecDepth 10000 in
theorem pu_gates {σ : St} {j g n sd e9 z t : Nat} {b : Bool} (hC : CIv σ g n b e9 z) (hM : MIv σ g n sd b e9 z) (hR : Rel σ g n sd b e9 z t) (ht : t ≤ 100 * j) (hzj : z ≤ j) (hj : j < 512) {r5 : Int32} {σ1 : St} (h5 : (fun r σ' => r = nI g ∧ σ' = σ) r5 σ1) : MIv σ1 g n sd b e9 z ∧ ∀ (r6 : Int32) (σ2 : St), (fun r σ' => r = nI g ∧ σ' = thr σ1 0) r6 σ2 → r5 = r6 ∧ σ2 31 25 = 0 ∧ Inv σ2 (j + 1) := by
  obtain ⟨e1, e2⟩ := h5
  have e2 := e2.symm
  subst e2
  refine ⟨hM, fun r6 σ2 h6 => ?_⟩
  obtain ⟨e5, e6⟩ := h6
  subst e6
  exact ⟨by rw [e1, e5], thr_25 _ 0, Inv_up (AgC_thr (AgC_r σ) 0) (AgM_thr (AgM_r σ) 0) hC hM hR ht hzj⟩

set_option maxRecDepth 10000 in
theorem pu_karts {σ : St} {j g n sd e9 z t : Nat} {b : Bool} (hC : CIv σ g n b e9 z) (hM : MIv σ g n sd b e9 z) (hR : Rel σ g n sd b e9 z t) (ht : t ≤ 100 * j) (hzj : z ≤ j) (hj : j < 512) {r5 : Int32} {σ1 : St} (h5 : (fun r σ' => r = nI n ∧ σ' = σ) r5 σ1) : MIv σ1 g n sd b e9 z ∧ ∀ (r6 : Int32) (σ2 : St), (fun r σ' => r = nI n ∧ σ' = thr σ1 0) r6 σ2 → r5 = r6 ∧ σ2 31 25 = 0 ∧ Inv σ2 (j + 1) := by
  obtain ⟨e1, e2⟩ := h5
  have e2 := e2.symm
  subst e2
  refine ⟨hM, fun r6 σ2 h6 => ?_⟩
  obtain ⟨e5, e6⟩ := h6
  subst e6
  exact ⟨by rw [e1, e5], thr_25 _ 0, Inv_up (AgC_thr (AgC_r σ) 0) (AgM_thr (AgM_r σ) 0) hC hM hR ht hzj⟩

set_option maxRecDepth 10000 in
theorem pu_isOn {σ : St} {j g n sd e9 z t : Nat} {b : Bool} (hC : CIv σ g n b e9 z) (hM : MIv σ g n sd b e9 z) (hR : Rel σ g n sd b e9 z t) (ht : t ≤ 100 * j) (hzj : z ≤ j) (hj : j < 512) {r5 : Int32} {σ1 : St} (h5 : (fun r σ' => r = bI b ∧ σ' = σ) r5 σ1) : MIv σ1 g n sd b e9 z ∧ ∀ (r6 : Int32) (σ2 : St), (fun r σ' => r = bI b ∧ σ' = thr σ1 0) r6 σ2 → r5 = r6 ∧ σ2 31 25 = 0 ∧ Inv σ2 (j + 1) := by
  obtain ⟨e1, e2⟩ := h5
  have e2 := e2.symm
  subst e2
  refine ⟨hM, fun r6 σ2 h6 => ?_⟩
  obtain ⟨e5, e6⟩ := h6
  subst e6
  exact ⟨by rw [e1, e5], thr_25 _ 0, Inv_up (AgC_thr (AgC_r σ) 0) (AgM_thr (AgM_r σ) 0) hC hM hR ht hzj⟩

set_option maxRecDepth 10000 in
theorem pu_races {σ : St} {j g n sd e9 z t : Nat} {b : Bool} (hC : CIv σ g n b e9 z) (hM : MIv σ g n sd b e9 z) (hR : Rel σ g n sd b e9 z t) (ht : t ≤ 100 * j) (hzj : z ≤ j) (hj : j < 512) {r5 : Int32} {σ1 : St} (h5 : (fun r σ' => r = nI e9 ∧ σ' = σ) r5 σ1) : MIv σ1 g n sd b e9 z ∧ ∀ (r6 : Int32) (σ2 : St), (fun r σ' => r = nI e9 ∧ σ' = thr σ1 0) r6 σ2 → r5 = r6 ∧ σ2 31 25 = 0 ∧ Inv σ2 (j + 1) := by
  obtain ⟨e1, e2⟩ := h5
  have e2 := e2.symm
  subst e2
  refine ⟨hM, fun r6 σ2 h6 => ?_⟩
  obtain ⟨e5, e6⟩ := h6
  subst e6
  exact ⟨by rw [e1, e5], thr_25 _ 0, Inv_up (AgC_thr (AgC_r σ) 0) (AgM_thr (AgM_r σ) 0) hC hM hR ht hzj⟩

set_option maxRecDepth 10000 in
theorem pu_textLength {σ : St} {j g n sd e9 z t : Nat} {b : Bool} (hC : CIv σ g n b e9 z) (hM : MIv σ g n sd b e9 z) (hR : Rel σ g n sd b e9 z t) (ht : t ≤ 100 * j) (hzj : z ≤ j) (hj : j < 512) {r5 : Int32} {σ1 : St} (h5 : (fun r σ' => r = nI (if n = 0 then 0 else 2 * n - 1) ∧ σ' = σ) r5 σ1) : MIv σ1 g n sd b e9 z ∧ ∀ (r6 : Int32) (σ2 : St), (fun r σ' => r = nI (if n = 0 then 0 else 2 * n - 1) ∧ σ' = thr σ1 0) r6 σ2 → r5 = r6 ∧ σ2 31 25 = 0 ∧ Inv σ2 (j + 1) := by
  obtain ⟨e1, e2⟩ := h5
  have e2 := e2.symm
  subst e2
  refine ⟨hM, fun r6 σ2 h6 => ?_⟩
  obtain ⟨e5, e6⟩ := h6
  subst e6
  exact ⟨by rw [e1, e5], thr_25 _ 0, Inv_up (AgC_thr (AgC_r σ) 0) (AgM_thr (AgM_r σ) 0) hC hM hR ht hzj⟩
