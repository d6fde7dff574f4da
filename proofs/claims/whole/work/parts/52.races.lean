/-! the end of a race, and its start -/
theorem en_me {σ τ : St} {n e : Nat} (h44 : τ 44 = σ 28) (h45 : τ 45 = σ 29) (hrk : ∀ k, k < 6 → rkM τ n k = rkA σ n k) (hmg : ∀ k, k < 6 → mgB τ k = wrtB σ k) : ∀ i, i ≤ 6 → meS τ n e i 44 = enS σ n e i 28 ∧ meS τ n e i 45 = enS σ n e i 29
  | 0, _ => ⟨h44, h45⟩
  | i + 1, hi => by
    obtain ⟨a1, a2⟩ := en_me (e := e) h44 h45 hrk hmg i (by omega)
    rw [meS, enS]
    rw [upA_n (show (44 : Nat) ≠ 45 by decide), upA_s, upA_s, upA_n (show (28 : Nat) ≠ 29 by decide), upA_s, upA_s, a1, a2, hrk i (by omega), hmg i (by omega)]
    exact ⟨rfl, rfl⟩
theorem en_lo {σ : St} {n e x : Nat} (hx : x < e * 6) : ∀ i, enS σ n e i 28 x = σ 28 x
  | 0 => rfl
  | i + 1 => by
    rw [enS, upA_n (show (28 : Nat) ≠ 29 by decide), upA_s, pk_un (by omega)]
    exact en_lo hx i
theorem en_at {σ : St} {n e k : Nat} : ∀ i, k < i → enS σ n e i 28 (e * 6 + k) = nI (rkA σ n k)
  | 0, h => absurd h (by omega)
  | i + 1, h => by
    rw [enS, upA_n (show (28 : Nat) ≠ 29 by decide), upA_s]
    by_cases c : k = i
    · subst c; exact pk_us
    · rw [pk_un (by omega)]
      exact en_at i (by omega)
theorem clrK_lt {f : Nat → Int32} {v : Int32} {i j : Nat} (h : j < i) : clrK f v i j = v := if_pos h
theorem mtS_o {σ : St} {g n sd c : Nat} {b : Bool} (h : c ≠ 33) : mtS σ g n sd b c = σ c := by
  unfold mtS
  split
  · exact upA_n h
  · rfl
theorem mtS_on {σ : St} {g n sd : Nat} : mtS σ g n sd true = σ := mtS_b rfl
/-- the rest row of the model is not read while no race is on -/
theorem Inv_33 {σ τ : St} {g n sd e z t j : Nat} {b : Bool} (hb : b = false) (h : AgC τ σ) (h2 : ∀ c, 31 < c → c < 46 → c ≠ 33 → τ c = σ c) (h31 : ∀ k, k ≠ 25 → τ 31 k = σ 31 k) (hC : CIv σ g n b e z) (hM : MIv σ g n sd b e z) (hR : Rel σ g n sd b e z t) (ht : t ≤ 100 * j) (hz : z ≤ j) : Inv τ (j + 1) := by
  obtain ⟨r1, ⟨r2, r3, r4, r5⟩, ⟨r6, r7, r8, r9, r10⟩, ⟨r11, r12, r13⟩, r14⟩ := hR
  obtain ⟨m1, m2, m3, m4, m5, m6, m7, m8⟩ := id hM
  refine ⟨g, n, sd, e, z, t, b, CIv_of h hC, ⟨?_, ?_, ?_, ?_, ?_, ?_, ?_, m8⟩, ⟨r1, ⟨?_, ?_, ?_, ?_⟩, ⟨?_, ?_, ?_, ?_, ?_⟩, ⟨?_, ?_, ?_⟩, fun q => absurd (hb.symm.trans q) (by decide)⟩, by omega, by omega⟩
  · rw [h31 0 (by decide)]; exact m1
  · rw [h31 4 (by decide)]; exact m2
  · rw [h31 6 (by decide)]; exact m3
  · rw [h31 7 (by decide)]; exact m4
  · rw [h31 8 (by decide)]; exact m5
  · rw [h31 11 (by decide)]; exact m6
  · intro k hk
    rw [h2 35 (by decide) (by decide) (by decide)]
    exact m7 k hk
  · rw [h2 32 (by decide) (by decide) (by decide), h 2 (by omega)]; exact r2
  · rw [h 2 (by omega)]; exact r3
  · rw [h31 1 (by decide), h 1 (by omega)]; exact r4
  · rw [h 2 (by omega), h 3 (by omega)]; exact r5
  · rw [h2 44 (by decide) (by decide) (by decide), h 28 (by omega)]; exact r6
  · rw [h2 45 (by decide) (by decide) (by decide), h 29 (by omega)]; exact r7
  · rw [h2 34 (by decide) (by decide) (by decide), h 30 (by omega)]; exact r8
  · rw [h31 24 (by decide), h 27 (by omega)]; exact r9
  · rw [h 28 (by omega)]; exact r10
  · rw [h 0 (by omega)]; exact r11
  · rw [h31 10 (by decide)]; exact r12
  · rw [h31 12 (by decide), h 23 (by omega)]; exact r13
/-- a start that fails -/
theorem Inv_mt {σ : St} {g n sd e z t j w : Nat} {b : Bool} (hC : CIv σ g n b e z) (hM : MIv σ g n sd b e z) (hR : Rel σ g n sd b e z t) (ht : t ≤ 100 * j) (hz : z ≤ j) : Inv (thr (mtS σ g n sd b) w) (j + 1) := by
  cases b
  · refine Inv_33 rfl (fun c hc => ?_) (fun c q1 q2 q3 => ?_) (fun k hk => ?_) hC hM hR ht hz
    · rw [thr_o (by omega), mtS_o (by omega)]
    · rw [thr_o (by omega), mtS_o q3]
    · unfold thr
      rw [upA_s, pk_un hk, mtS_o (by decide)]
  · rw [mtS_on]
    exact Inv_up (AgC_thr (AgC_r _) w) (AgM_thr (AgM_r _) w) hC hM hR ht hz
theorem thr_mt46 {σ : St} {g n sd w : Nat} {b : Bool} : thr (mtS σ g n sd b) w 46 = σ 46 := by rw [thr_o (by decide), mtS_o (by decide)]
theorem cnd_s {σ : St} {g n sd e z t : Nat} {b : Bool} (hC : CIv σ g n b e z) (hR : Rel σ g n sd b e z t) : (!b && decide (sd < 8) && decide (0 < n) && trkB σ g) = (!b && decide (e < 8) && decide (0 < n) && !deadB (σ 2) g) := by
  obtain ⟨r1, ⟨w1, w2, w3, w4⟩, -⟩ := hR
  have h : trkB σ g = !deadB (σ 2) g := by
    unfold trkB
    rw [w1]
    exact dead_is w2 hC.1.2.2 (σ 33)
  rw [h]
  cases b
  · rw [if_neg (by decide)] at r1
    rw [r1, Nat.add_zero]
  · rfl
theorem trk_46 {σ : St} {g : Nat} (f : Nat → Int32) : trkB (upA σ 46 f) g = trkB σ g := by
  unfold trkB
  rw [upA_n (by decide), upA_n (by decide)]
set_option maxRecDepth 10000 in
theorem pu_end {σ : St} {j g n sd e9 z t : Nat} {b : Bool}  (hC : CIv σ g n b e9 z) (hM : MIv σ g n sd b e9 z) (hR : Rel σ g n sd b e9 z t) (ht : t ≤ 100 * j) (hzj : z ≤ j) (hj : j < 512) (hn0 : b = true → 0 < n) {r5 : Int32} {σ1 : St} (h5 : (fun r9 σ9 => (∃ (v9 : Int32) (τ9 : St), (fun r σ' => r = nI (wnA σ n n) ∧ σ' = enSt σ n e9 ∧ b = true) v9 τ9 ∧ r9 = 0 ∧ σ9 = upA τ9 46 (upd (τ9 46) 0 v9)) ∨ ∃ E9 : String, (fun E => E = xISE ∧ b = false) E9 ∧ r9 = (1 : Int32) ∧ σ9 = σ) r5 σ1) : MIv σ1 g n sd b e9 z ∧ ∀ (r6 : Int32) (σ2 : St), (fun r σ' => (b = true ∧ r = mkA σ1 n 0 n ∧ σ' = meF (thr σ1 0) n e9) ∨ (b = false ∧ σ' = thr σ1 1)) r6 σ2 → σ2 31 25 = r5 ∧ (r5 = 0 → σ2 46 0 = r6) ∧ Inv σ2 (j + 1) := by
  have hg12 : g ≤ 12 := hC.1.2.2
  have hg1 : 1 ≤ g := hC.1.2.1
  have hn6 : n ≤ 6 := hC.2.1.2
  have hz5 : z ≤ 512 := hC.2.2.2.2.1.2
  obtain ⟨r1, ⟨w1, w2, w3, w4⟩, ⟨u1, u2, u3, u4, u5⟩, rM, rR⟩ := id hR
  obtain ⟨hC1, hC2, hC3, hC4, hC5, hC6, hC7, hC8⟩ := id hC
  obtain ⟨hM1, hM2, hM3, hM4, hM5, hM6, hM7, hM8⟩ := id hM
  rcases h5 with ⟨v9, τ9, ⟨e1, e2, c0⟩, e3, e4⟩ | ⟨E9, hE, e3, e4⟩
  · have hrr := rR c0
    have he8 : e9 < 8 := (hC7 c0).2
    have o9 : ∀ c, c ≠ 0 → c ≠ 27 → c ≠ 28 → c ≠ 29 → τ9 c = σ c := fun c q1 q2 q3 q4 => by
      rw [e2]
      unfold enSt
      rw [upA_n q1, upA_n q2, enS_o q3 q4]
    have o0 : τ9 0 = upd (σ 0) 8 0 := by rw [e2]; unfold enSt; exact upA_s _ _ _
    have o27 : τ9 27 = upd (σ 27) 2 (nI (e9 + 1)) := by rw [e2]; unfold enSt; rw [upA_n (by decide), upA_s]
    have o28 : τ9 28 = enS σ n e9 n 28 := by rw [e2]; unfold enSt; rw [upA_n (by decide), upA_n (by decide)]
    have o29 : τ9 29 = enS σ n e9 n 29 := by rw [e2]; unfold enSt; rw [upA_n (by decide), upA_n (by decide)]
    subst e3 e4
    refine ⟨MIv_of (AgM_46 ⟨fun c q1 q2 => o9 c (by omega) (by omega) (by omega) (by omega), fun k' _ => by rw [o9 31 (by decide) (by decide) (by decide) (by decide)]⟩ _) hM, fun r6 σ2 h6 => ?_⟩
    rcases h6 with ⟨d0, e5, e6⟩ | ⟨d0, e6⟩
    · generalize hff : upd (τ9 46) 0 v9 = ff at e5 e6
      have hrk : ∀ w, ∀ k, k < 6 → rkM (thr (upA τ9 46 ff) w) n k = rkA σ n k := fun w k hk => by
        rw [rkM_thr, rk_46]
        exact (rkM_cong (o9 33 (by decide) (by decide) (by decide) (by decide)) (o9 35 (by decide) (by decide) (by decide) (by decide)) (o9 36 (by decide) (by decide) (by decide) (by decide)) (o9 37 (by decide) (by decide) (by decide) (by decide)) (o9 39 (by decide) (by decide) (by decide) (by decide)) (o9 40 (by decide) (by decide) (by decide) (by decide)) n k).trans (rk_eq hrr hg12 hz5 hn6 hk)
      have hmg : ∀ k, k < 6 → mgB (thr (upA τ9 46 ff) 0) k = wrtB σ k := fun k hk => by
        rw [← mg_eq hrr hz5 hk]
        unfold mgB
        rw [thr_o (by decide), thr_o (by decide), thr_o (by decide), upA_n (by decide), upA_n (by decide), upA_n (by decide), o9 40 (by decide) (by decide) (by decide) (by decide), o9 36 (by decide) (by decide) (by decide) (by decide), o9 37 (by decide) (by decide) (by decide) (by decide)]
      have hw : mkA (upA τ9 46 ff) n 0 n = nI (wnA σ n n) := by
        rw [mk_46]
        obtain ⟨w, q1, q2, q3, q4⟩ := lead hrr hg12 hz5 hn6 (hn0 c0)
        rw [q3, ← q2]
        exact mkA_cong (fun i => rkM_cong (o9 33 (by decide) (by decide) (by decide) (by decide)) (o9 35 (by decide) (by decide) (by decide) (by decide)) (o9 36 (by decide) (by decide) (by decide) (by decide)) (o9 37 (by decide) (by decide) (by decide) (by decide)) (o9 39 (by decide) (by decide) (by decide) (by decide)) (o9 40 (by decide) (by decide) (by decide) (by decide)) n i) n
      have hme := en_me (σ := σ) (τ := thr (upA τ9 46 ff) 0) (n := n) (e := e9) (by rw [thr_o (by decide), upA_n (by decide), o9 44 (by decide) (by decide) (by decide) (by decide)]; exact u1) (by rw [thr_o (by decide), upA_n (by decide), o9 45 (by decide) (by decide) (by decide) (by decide)]; exact u2) (hrk 0) hmg n hn6
      have s31 : σ2 31 = upd (upd (upd (σ 31) 25 (nI 0)) 7 (nI (e9 + 1))) 8 0 := by
        rw [e6]
        unfold meF
        rw [upA_s]
        unfold thr
        rw [upA_s, upA_n (by decide), o9 31 (by decide) (by decide) (by decide) (by decide)]
      have sO : ∀ c, c ≠ 31 → c ≠ 44 → c ≠ 45 → c ≠ 46 → σ2 c = τ9 c := fun c q1 q2 q3 q4 => by
        rw [e6]
        unfold meF
        rw [upA_n q1, meS_o q2 q3, thr_o q1, upA_n q4]
      have s44 : σ2 44 = enS σ n e9 n 28 := by rw [e6]; unfold meF; rw [upA_n (by decide)]; exact hme.1
      have s45 : σ2 45 = enS σ n e9 n 29 := by rw [e6]; unfold meF; rw [upA_n (by decide)]; exact hme.2
      have s46 : σ2 46 = ff := by rw [e6]; unfold meF; rw [upA_n (by decide), meS_o (by decide) (by decide), thr_o (by decide), upA_s]
      have sS : ∀ c, c ≠ 0 → c ≠ 27 → c ≠ 28 → c ≠ 29 → c ≠ 31 → c ≠ 44 → c ≠ 45 → c ≠ 46 → σ2 c = σ c := fun c q1 q2 q3 q4 q5 q6 q7 q8 => (sO c q5 q6 q7 q8).trans (o9 c q1 q2 q3 q4)
      have s0 : σ2 0 = upd (σ 0) 8 0 := (sO 0 (by decide) (by decide) (by decide) (by decide)).trans o0
      have s27 : σ2 27 = upd (σ 27) 2 (nI (e9 + 1)) := (sO 27 (by decide) (by decide) (by decide) (by decide)).trans o27
      have s28 : σ2 28 = enS σ n e9 n 28 := (sO 28 (by decide) (by decide) (by decide) (by decide)).trans o28
      have s29 : σ2 29 = enS σ n e9 n 29 := (sO 29 (by decide) (by decide) (by decide) (by decide)).trans o29
      have S1 := sS 1 (by decide) (by decide) (by decide) (by decide) (by decide) (by decide) (by decide) (by decide)
      have S2 := sS 2 (by decide) (by decide) (by decide) (by decide) (by decide) (by decide) (by decide) (by decide)
      have S3 := sS 3 (by decide) (by decide) (by decide) (by decide) (by decide) (by decide) (by decide) (by decide)
      refine ⟨by rw [s31]; rfl, fun _ => by rw [s46, ← hff, pk_us, e1, e5, hw], g, n, sd, e9 + 1, z, t, false, ⟨?_, ?_, ?_, ?_, ?_, rOk_of (sS 5 (by decide) (by decide) (by decide) (by decide) (by decide) (by decide) (by decide) (by decide)) hC6, fun q => absurd q (by decide), ?_⟩, ⟨?_, ?_, ?_, ?_, ?_, ?_, ?_, fun q => absurd q (by decide)⟩, ⟨?_, ⟨?_, ?_, ?_, ?_⟩, ⟨?_, ?_, ?_, ?_, ?_⟩, ⟨?_, ?_, ?_⟩, fun q => absurd q (by decide)⟩, by omega, by omega⟩
      · rw [S1]; exact hC1
      · rw [s0]; exact hC2
      · rw [s0]; rfl
      · rw [s27]; exact ⟨rfl, by omega⟩
      · rw [sS 20 (by decide) (by decide) (by decide) (by decide) (by decide) (by decide) (by decide) (by decide)]; exact hC5
      · rw [sS 21 (by decide) (by decide) (by decide) (by decide) (by decide) (by decide) (by decide) (by decide), sS 22 (by decide) (by decide) (by decide) (by decide) (by decide) (by decide) (by decide) (by decide)]; exact hC8
      · rw [s31]; exact hM1
      · rw [s31]; exact hM2
      · rw [s31]; exact hM3
      · rw [s31]; exact ⟨rfl, by omega⟩
      · rw [s31]; rfl
      · rw [s31]; exact hM6
      · intro k hk
        rw [sS 35 (by decide) (by decide) (by decide) (by decide) (by decide) (by decide) (by decide) (by decide)]
        exact hM7 k hk
      · rw [c0, if_pos rfl] at r1
        rw [r1, if_neg (by decide)]
      · rw [sS 32 (by decide) (by decide) (by decide) (by decide) (by decide) (by decide) (by decide) (by decide), S2]; exact w1
      · rw [S2]; exact w2
      · rw [s31, S1]; exact w3
      · rw [S2, S3]; exact w4
      · rw [s44, s28]
      · rw [s45, s29]
      · rw [sS 34 (by decide) (by decide) (by decide) (by decide) (by decide) (by decide) (by decide) (by decide), sS 30 (by decide) (by decide) (by decide) (by decide) (by decide) (by decide) (by decide) (by decide)]; exact u3
      · rw [s31, s27]; exact u4
      · intro i k hi hk
        rw [s28]
        by_cases q : i = e9
        · subst q
          exact ⟨rkA σ n k, rkA_lt hk, en_at n hk⟩
        · rw [en_lo (by omega)]
          exact u5 i k (by omega) hk
      · rw [s0]; exact rM.1
      · rw [s31]; exact rM.2.1
      · rw [s31, sS 23 (by decide) (by decide) (by decide) (by decide) (by decide) (by decide) (by decide) (by decide)]; exact rM.2.2
    · exact absurd (c0.symm.trans d0) (by decide)
  · have e4 := e4.symm
    subst e4
    obtain ⟨e7, c0⟩ := hE
    subst e7
    refine ⟨hM, fun r6 σ2 h6 => ?_⟩
    rcases h6 with ⟨d0, e5, e6⟩ | ⟨d0, e6⟩
    · skip
      exact absurd (c0.symm.trans d0) (by decide)
    · subst e6
      exact ⟨by rw [thr_25, e3]; decide, fun h9 => absurd (e3.symm.trans h9) (by decide), Inv_up (AgC_thr (AgC_r _) 1) (AgM_thr (AgM_r _) 1) hC hM hR ht hzj⟩


set_option maxRecDepth 10000 in
theorem pu_start {σ : St} {j g n sd e9 z t : Nat} {b : Bool} (x : Int32) (hC : CIv σ g n b e9 z) (hM : MIv σ g n sd b e9 z) (hR : Rel σ g n sd b e9 z t) (ht : t ≤ 100 * j) (hzj : z ≤ j) (hj : j < 512)  {r5 : Int32} {σ1 : St} (h5 : (fun r9 σ9 => (∃ (v9 : Int32) (τ9 : St), (fun r σ' => r = nI e9 ∧ σ' = srSt σ n x ∧ inR x 1 9 = true ∧ (!b && decide (e9 < 8) && decide (0 < n) && !deadB (σ 2) g) = true) v9 τ9 ∧ r9 = 0 ∧ σ9 = upA τ9 46 (upd (τ9 46) 0 v9)) ∨ ∃ E9 : String, (fun E => (E = xIAE ∧ inR x 1 9 = false) ∨ (E = xISE ∧ inR x 1 9 = true ∧ (!b && decide (e9 < 8) && decide (0 < n) && !deadB (σ 2) g) = false)) E9 ∧ r9 = ((if E9 = xIAE then 1 else 2) : Int32) ∧ σ9 = σ) r5 σ1) : MIv σ1 g n sd b e9 z ∧ ∀ (r6 : Int32) (σ2 : St), (fun r σ' => (inR x 1 9 = true ∧ (!b && decide (sd < 8) && decide (0 < n) && trkB σ1 g) = true ∧ r = nI sd ∧ σ' = mbS (msS0 (thr (mtS σ1 g n sd b) 0) sd x) 6) ∨ (inR x 1 9 = false ∧ σ' = thr (mtS σ1 g n sd b) 1) ∨ (inR x 1 9 = true ∧ (!b && decide (sd < 8) && decide (0 < n) && trkB σ1 g) = false ∧ σ' = thr (mtS σ1 g n sd b) 2)) r6 σ2 → σ2 31 25 = r5 ∧ (r5 = 0 → σ2 46 0 = r6) ∧ Inv σ2 (j + 1) := by
  have hg12 : g ≤ 12 := hC.1.2.2
  have hg1 : 1 ≤ g := hC.1.2.1
  have hn6 : n ≤ 6 := hC.2.1.2
  have hz5 : z ≤ 512 := hC.2.2.2.2.1.2
  obtain ⟨r1, ⟨w1, w2, w3, w4⟩, rC, rM, rR⟩ := id hR
  obtain ⟨hC1, hC2, hC3, hC4, hC5, hC6, hC7, hC8⟩ := id hC
  obtain ⟨hM1, hM2, hM3, hM4, hM5, hM6, hM7, hM8⟩ := id hM
  have hcs := cnd_s hC hR
  rcases h5 with ⟨v9, τ9, ⟨e1, e2, c0, c1⟩, e3, e4⟩ | ⟨E9, hE, e3, e4⟩
  · subst e2 e3 e4
    have hb : b = false := by cases b; rfl; exact absurd c1 (by simp)
    have he : e9 < 8 ∧ 0 < n := by
      rw [hb] at c1
      simp only [Bool.and_eq_true, decide_eq_true_eq] at c1
      exact ⟨c1.1.1.2, c1.1.2⟩
    rw [hb, if_neg (by decide), Nat.add_zero] at r1
    refine ⟨hM, fun r6 σ2 h6 => ?_⟩
    rcases h6 with ⟨d0, d1, e5, e6⟩ | ⟨d0, e6⟩ | ⟨d0, d1, e6⟩
    · rw [mtS_t hb (by omega) he.2] at e6
      obtain ⟨G9, hG, hG1, hG9⟩ := inR_nI (m := 9) (by decide) c0
      subst e6
      refine ⟨rfl, fun _ => e1.trans ((congrArg nI r1.symm).trans e5.symm), g, n, sd + 1, e9, 0, t, true, ⟨hC1, hC2, rfl, hC4, ⟨rfl, by omega⟩, fun k hk => ?_, fun _ => ⟨rfl, he.1⟩, fun i hi => absurd hi (by omega)⟩, ⟨hM1, hM2, ⟨rfl, by omega⟩, hM4, rfl, ⟨rfl, by omega⟩, fun k hk => ?_, fun _ => he.1⟩, ⟨by rw [r1]; rfl, ⟨w1, w2, w3, w4⟩, rC, rM, fun _ => ⟨G9, ⟨hG1, hG9, hG, hG, rfl, fun q => ?_⟩, fun k hk => ⟨⟨?_, ?_, ?_, ?_, ?_⟩, ?_, ?_, ?_⟩, fun k hk => ⟨0, 0, 0, 0, 0, ⟨clrK_lt hk, by omega⟩, ⟨clrK_lt hk, by omega⟩, ⟨clrK_lt hk, by omega⟩, ⟨clrK_lt hk, by omega⟩, ⟨clrK_lt hk, by omega⟩, ?_, fun q => absurd q (by omega), ?_⟩, fun i1 i2 q1 q2 q3 q4 => clrK_lt q1, fun a ha => ?_, ?_⟩⟩, by omega, by omega⟩
      · exact (rOk_bg (σ := σ) (B := 4) (n := nI n) (laps := x)) k hk
      · show clrK (σ 35) 0 6 k = nI (ix (clrK (σ 35) 0 6 k)) ∧ ix (clrK (σ 35) 0 6 k) < 12
        rw [clrK_lt hk]
        exact ⟨rfl, by decide⟩
      · have q2 : nI n = 0 := q
        exact nI_ne0 he.2 (by omega) q2
      · exact (clrK_lt hk).trans (clrK_lt hk).symm
      · exact (clrK_lt hk).trans (clrK_lt hk).symm
      · exact (clrK_lt hk).trans (clrK_lt hk).symm
      · exact (clrK_lt hk).trans (clrK_lt hk).symm
      · exact (clrK_lt hk).trans (clrK_lt hk).symm
      · exact (clrK_lt hk).trans (clrK_lt hk).symm
      · exact (clrK_lt hk).trans (clrK_lt hk).symm
      · exact (clrK_lt hk).trans (clrK_lt hk).symm
      · rw [if_neg (by omega)]
        exact clrK_lt hk
      · show clrK (σ 8) 0 6 k &&& 1 = 0
        rw [clrK_lt hk]
        decide
      · have hfx : FX (σ 2) (moA (σ 32) (σ 33) g g) g := by rw [w1]; exact FX_mo w2 hg12 _
        exact FX_eq w2 hg12 hfx w4 ha
      · refine ⟨fun c q1 q2 k hk => ?_, hC2.1, rfl, rfl⟩
        have q3 : c = 1 ∨ c = 2 ∨ c = 3 ∨ c = 4 ∨ c = 5 := by omega
        rcases q3 with rfl | rfl | rfl | rfl | rfl <;> exact (clrK_lt hk).trans (clrK_lt hk).symm
    · exact absurd (c0.symm.trans d0) (by decide)
    · rw [trk_46] at d1
      exact absurd ((hcs.trans c1).symm.trans d1) (by decide)
  · have e4 := e4.symm
    subst e4
    refine ⟨hM, fun r6 σ2 h6 => ?_⟩
    rcases hE with ⟨e7, c0⟩ | ⟨e7, c0, c1⟩
    · subst e7
      rcases h6 with ⟨d0, d1, e5, e6⟩ | ⟨d0, e6⟩ | ⟨d0, d1, e6⟩
      · exact absurd (c0.symm.trans d0) (by decide)
      · subst e6
        exact ⟨by rw [thr_25, e3]; decide, fun h9 => absurd (e3.symm.trans h9) (by decide), Inv_mt hC hM hR ht hzj⟩
      · exact absurd (c0.symm.trans d0) (by decide)
    · subst e7
      rcases h6 with ⟨d0, d1, e5, e6⟩ | ⟨d0, e6⟩ | ⟨d0, d1, e6⟩
      · exact absurd ((hcs.trans c1).symm.trans d1) (by decide)
      · exact absurd (c0.symm.trans d0) (by decide)
      · subst e6
        exact ⟨by rw [thr_25, e3]; decide, fun h9 => absurd (e3.symm.trans h9) (by decide), Inv_mt hC hM hR ht hzj⟩

