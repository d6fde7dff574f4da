/-! draw and use -/
theorem cnd_d {σ : St} {g z t k : Nat} {b : Bool} (hr : b = true → RRace σ g z t) (hz : z ≤ 512) (hk : k < 6) : (b && decide (σ 40 k ≤ 0)) = (b && !finB σ 4 k) ∧ (b = true → σ 41 k = σ 24 k) := by
  cases b
  · exact ⟨rfl, fun q => absurd q (by decide)⟩
  · obtain ⟨G9, ⟨hG1, hG9, h9, -⟩, hrow, hkt, -⟩ := hr rfl
    exact ⟨by rw [(RK_f h9 hG9 (hkt k hk) hz).1], fun _ => (hrow k hk).2.1⟩
theorem cnd_1 {σ : St} {g z t k : Nat} {b : Bool} (hr : b = true → RRace σ g z t) (hz : z ≤ 512) (hk : k < 6) : (b && decide (σ 40 k ≤ 0) && decide (σ 41 k = -1)) = (b && !finB σ 4 k && decide (σ 24 k = -1)) := by
  have h := cnd_d hr hz hk
  rw [h.1]
  cases b
  · rfl
  · rw [h.2 rfl]
theorem cnd_2 {σ : St} {g z t k : Nat} {b : Bool} (hr : b = true → RRace σ g z t) (hz : z ≤ 512) (hk : k < 6) : (b && decide (σ 40 k ≤ 0) && !decide (σ 41 k = -1)) = (b && !finB σ 4 k && !decide (σ 24 k = -1)) := by
  have h := cnd_d hr hz hk
  rw [h.1]
  cases b
  · rfl
  · rw [h.2 rfl]
theorem and3_b {a d c : Bool} (h : (a && d && c) = true) : a = true := by cases a <;> simp at h ⊢
/-- what hits change, on both sides -/
def HRel (τ τ' : St) (t : Nat) : Prop := ∀ a, a < 6 → τ' 42 a = τ 25 a ∧ τ' 43 a = τ 26 a ∧ ∃ aw : Nat, τ 26 a = nI aw ∧ aw ≤ t + 5
theorem ht_step {τ τ' : St} {t i w : Nat} {U : Int32} (h : HRel τ τ' t) (hi : i < 6) (hw : w ≤ t + 5) (ht : t < 2 ^ 30) (hU : τ' 31 10 + U = nI w) (hf : τ' 40 i ≤ 0) : HRel (htS τ i (nI w)) (mhS τ' i U) t ∧ mhR τ' i = (if τ 25 i = 0 then 1 else 0) := by
  obtain ⟨h1, h2, aw, h3, h4⟩ := h i hi
  unfold mhS mhR htS
  rw [if_neg (not_not_intro hf), if_neg (not_not_intro hf), h1, hU]
  by_cases c : τ 25 i = 0
  · rw [if_pos c, if_pos c, if_pos c]
    refine ⟨fun a ha => ?_, rfl⟩
    rw [upA_n (show (42 : Nat) ≠ 43 by decide), upA_s, upA_n (show (25 : Nat) ≠ 26 by decide), upA_s]
    refine ⟨(h a ha).1, ?_⟩
    by_cases e : a = i
    · subst e
      rw [pk_us, pk_us, h2, h3]
      have q1 := nI_leI (a := aw) (b := w) (by omega) (by omega)
      have q2 := nI_ltI (a := aw) (b := w) (by omega) (by omega)
      by_cases c2 : aw < w
      · rw [if_pos (q2.mpr c2), if_pos (q1.mpr (by omega))]
        exact ⟨rfl, w, rfl, hw⟩
      · rw [if_neg (fun q => c2 (q2.mp q))]
        by_cases c3 : aw = w
        · subst c3
          rw [if_pos (q1.mpr (by omega))]
          exact ⟨rfl, aw, rfl, h4⟩
        · rw [if_neg (fun q => by have := q1.mp q; omega)]
          exact ⟨rfl, aw, rfl, h4⟩
    · rw [pk_un e, pk_un e]
      exact (h a ha).2
  · rw [if_neg c, if_neg c, if_neg c]
    refine ⟨fun a ha => ?_, rfl⟩
    rw [upA_s, upA_n (show (43 : Nat) ≠ 42 by decide), upA_s, upA_n (show (26 : Nat) ≠ 25 by decide)]
    refine ⟨?_, (h a ha).2⟩
    by_cases e : a = i
    · subst e; rw [pk_us, pk_us]
    · rw [pk_un e, pk_un e]; exact (h a ha).1
theorem ht_all {T U : St} {t n w9 : Nat} {f its V : Int32} {w : Nat} (h : HRel T U t) (hn : n ≤ 6) (hw : w9 ≤ t + 5) (ht : t < 2 ^ 30) (hU : U 31 10 + muU its = nI w9) (hV : V = nI w9) (hb : ∀ i, i < 6 → hitB T n f w i = (muB U n its w i && decide (U 40 i ≤ 0))) : ∀ i, i ≤ 6 → HRel (htL T n f w V i) (muL U n its w i) t ∧ muN U n its w i = htN T n f w V i
  | 0, _ => ⟨h, rfl⟩
  | i + 1, hi => by
    subst hV
    obtain ⟨ih1, ih2⟩ := ht_all h hn hw ht hU rfl hb i (by omega)
    have hbi := hb i (by omega)
    have o40 : muL U n its w i 40 = U 40 := muL_o (by decide) (by decide) i
    have o31 : muL U n its w i 31 = U 31 := muL_o (by decide) (by decide) i
    cases c1 : muB U n its w i
    · rw [c1, Bool.false_and] at hbi
      rw [htL_f hbi, htN_f hbi, ← muL_f c1, muN_f c1]
      exact ⟨ih1, ih2⟩
    · rw [c1, Bool.true_and] at hbi
      rw [muN_t c1, ih2]
      have hL : muL U n its w (i + 1) = mhS (muL U n its w i) i (muU its) := by rw [muL, if_pos c1]
      rw [hL]
      by_cases c2 : U 40 i ≤ 0
      · rw [decide_eq_true c2] at hbi
        have hs := ht_step (i := i) ih1 (by omega) hw ht (U := muU its) (by rw [o31]; exact hU) (by rw [o40]; exact c2)
        rw [htL_t hbi, hs.2]
        refine ⟨hs.1, ?_⟩
        by_cases c3 : htL T n f w (nI w9) i 25 i = 0
        · rw [if_pos c3, htN_t hbi c3]
        · rw [if_neg c3, htN_2 c3, Nat.add_zero]
      · rw [decide_eq_false c2] at hbi
        rw [htL_f hbi, htN_f hbi]
        have e1 : mhS (muL U n its w i) i (muU its) = muL U n its w i := by unfold mhS; rw [o40, if_pos c2]
        have e2 : mhR (muL U n its w i) i = 0 := by unfold mhR; rw [o40, if_pos c2]
        rw [e1, e2]
        exact ⟨ih1, rfl⟩
theorem mu_1 {r w : Nat} (hr : r ≤ 6) (hw : w ≤ 6) : decide (nI r = nI w - 1) = (!decide (nI r < nI w - 1) && decide (r < w)) := by
  have h1 : (nI w - 1).toInt = (w : Int) - 1 := pk_sub_toInt (b := 1) (by omega) (by decide)
  have h2 : (nI r).toInt = (r : Int) := nI_toInt (by omega)
  have h3 : nI r = nI w - 1 ↔ (r : Int) = (w : Int) - 1 := by rw [← Int32.toInt_inj, h1, h2]
  have h4 : nI r < nI w - 1 ↔ (r : Int) < (w : Int) - 1 := by rw [Int32.lt_iff_toInt_lt, h1, h2]
  by_cases c : (r : Int) = (w : Int) - 1
  · rw [decide_eq_true (h3.mpr c), decide_eq_false (fun q => by have := h4.mp q; omega), decide_eq_true (by omega)]
    rfl
  · rw [decide_eq_false (fun q => c (h3.mp q))]
    by_cases c2 : (r : Int) < (w : Int) - 1
    · rw [decide_eq_true (h4.mpr c2)]; rfl
    · rw [decide_eq_false (fun q => c2 (h4.mp q)), decide_eq_false (by omega)]; rfl
/-- a call that changes items, shields and stuns alike on both sides -/
theorem use_inv {σ τ : St} {g n sd e z t j : Nat} {b : Bool} (hC : CIv σ g n b e z) (hM : MIv σ g n sd b e z) (hR : Rel σ g n sd b e z t) (ht : t ≤ 100 * j) (hz : z ≤ j) (hc : ∀ c, c < 31 → c ≠ 24 → c ≠ 25 → c ≠ 26 → τ c = σ c) (hm : ∀ c, 31 < c → c < 46 → c ≠ 41 → c ≠ 42 → c ≠ 43 → τ c = σ c) (h31 : ∀ k, k ≠ 25 → τ 31 k = σ 31 k) (h41 : ∀ a, a < 6 → b = true → τ 41 a = τ 24 a) (hh : b = true → HRel τ τ t) : Inv τ (j + 1) := by
  obtain ⟨r1, ⟨w1, w2, w3, w4⟩, ⟨u1, u2, u3, u4, u5⟩, ⟨v1, v2, v3⟩, rR⟩ := hR
  obtain ⟨h1, h2, h3, h4, h5, h6, h7, h8⟩ := id hC
  obtain ⟨m1, m2, m3, m4, m5, m6, m7, m8⟩ := id hM
  refine ⟨g, n, sd, e, z, t, b, ⟨?_, ?_, ?_, ?_, ?_, rOk_of (hc 5 (by decide) (by decide) (by decide) (by decide)) h6, ?_, ?_⟩, ⟨?_, ?_, ?_, ?_, ?_, ?_, ?_, m8⟩, ⟨r1, ⟨?_, ?_, ?_, ?_⟩, ⟨?_, ?_, ?_, ?_, ?_⟩, ⟨?_, ?_, ?_⟩, fun hb => ?_⟩, by omega, by omega⟩
  · rw [hc 1 (by decide) (by decide) (by decide) (by decide)]; exact h1
  · rw [hc 0 (by decide) (by decide) (by decide) (by decide)]; exact h2
  · rw [hc 0 (by decide) (by decide) (by decide) (by decide)]; exact h3
  · rw [hc 27 (by decide) (by decide) (by decide) (by decide)]; exact h4
  · rw [hc 20 (by decide) (by decide) (by decide) (by decide)]; exact h5
  · rw [hc 4 (by decide) (by decide) (by decide) (by decide)]; exact h7
  · rw [hc 21 (by decide) (by decide) (by decide) (by decide), hc 22 (by decide) (by decide) (by decide) (by decide)]; exact h8
  · rw [h31 0 (by decide)]; exact m1
  · rw [h31 4 (by decide)]; exact m2
  · rw [h31 6 (by decide)]; exact m3
  · rw [h31 7 (by decide)]; exact m4
  · rw [h31 8 (by decide)]; exact m5
  · rw [h31 11 (by decide)]; exact m6
  · intro k hk
    rw [hm 35 (by decide) (by decide) (by decide) (by decide) (by decide)]
    exact m7 k hk
  · rw [hm 32 (by decide) (by decide) (by decide) (by decide) (by decide), hc 2 (by decide) (by decide) (by decide) (by decide)]; exact w1
  · rw [hc 2 (by decide) (by decide) (by decide) (by decide)]; exact w2
  · rw [h31 1 (by decide), hc 1 (by decide) (by decide) (by decide) (by decide)]; exact w3
  · rw [hc 2 (by decide) (by decide) (by decide) (by decide), hc 3 (by decide) (by decide) (by decide) (by decide)]; exact w4
  · rw [hm 44 (by decide) (by decide) (by decide) (by decide) (by decide), hc 28 (by decide) (by decide) (by decide) (by decide)]; exact u1
  · rw [hm 45 (by decide) (by decide) (by decide) (by decide) (by decide), hc 29 (by decide) (by decide) (by decide) (by decide)]; exact u2
  · rw [hm 34 (by decide) (by decide) (by decide) (by decide) (by decide), hc 30 (by decide) (by decide) (by decide) (by decide)]; exact u3
  · rw [h31 24 (by decide), hc 27 (by decide) (by decide) (by decide) (by decide)]; exact u4
  · rw [hc 28 (by decide) (by decide) (by decide) (by decide)]; exact u5
  · rw [hc 0 (by decide) (by decide) (by decide) (by decide)]; exact v1
  · rw [h31 10 (by decide)]; exact v2
  · rw [h31 12 (by decide), hc 23 (by decide) (by decide) (by decide) (by decide)]; exact v3
  · obtain ⟨G9, ⟨p1, p2, p3, p4, p5⟩, p6, p7, p8, p9, p10⟩ := rR hb
    have C : ∀ c, c < 24 → τ c = σ c := fun c q => hc c (by omega) (by omega) (by omega) (by omega)
    have M : ∀ c, 31 < c → c < 41 → τ c = σ c := fun c q1 q2 => hm c q1 (by omega) (by omega) (by omega) (by omega)
    refine ⟨G9, ⟨p1, p2, ?_, ?_, ?_⟩, fun k hk => ?_, fun k hk => ?_, ?_, ?_, ?_⟩
    · rw [C 4 (by decide)]; exact p3
    · rw [h31 9 (by decide)]; exact p4
    · rw [C 4 (by decide)]; exact p5
    · rw [M 35 (by decide) (by decide), M 36 (by decide) (by decide), M 37 (by decide) (by decide), M 38 (by decide) (by decide), M 39 (by decide) (by decide), C 5 (by decide), C 6 (by decide), C 7 (by decide), C 8 (by decide), C 9 (by decide)]
      have q := hh hb k hk
      exact ⟨(p6 k hk).1, h41 k hk hb, q.1, q.2.1⟩
    · obtain ⟨lp, db, mo, aw, ga, a1, a2, a3, a4, a6, a7, a8, a9⟩ := p7 k hk
      obtain ⟨aw2, q1, q2⟩ := (hh hb k hk).2.2
      unfold RKart
      rw [M 40 (by decide) (by decide), C 5 (by decide), C 6 (by decide), C 7 (by decide), C 8 (by decide), C 9 (by decide)]
      exact ⟨lp, db, mo, aw2, ga, a1, a2, a3, ⟨q1, q2⟩, a6, a7, a8, a9⟩
    · unfold RMom
      rw [C 9 (by decide)]
      exact p8
    · rw [M 33 (by decide) (by decide), C 3 (by decide)]; exact p9
    · exact rc_keep (by rw [C 0 (by decide)]) (C 4 (by decide)) (C 2 (by decide)) (by rw [C 1 (by decide)]) (C 21 (by decide)) (C 22 (by decide)) (C 5 (by decide)) (C 6 (by decide)) (C 7 (by decide)) (C 8 (by decide)) (C 9 (by decide)) (CIv_rec hC) p10
theorem HR_race {σ : St} {g z t : Nat} (hr : RRace σ g z t) : HRel σ σ t := fun a ha => by
  obtain ⟨G9, -, hrow, hkt, -⟩ := hr
  obtain ⟨lp, db, mo, aw, ga, -, -, -, h4, -⟩ := hkt a ha
  exact ⟨(hrow a ha).2.2.1, (hrow a ha).2.2.2, aw, h4⟩
theorem use_hit {σ W U : St} {g n sd e z t j k w w9 : Nat} {b : Bool} {f V its : Int32} {ff : Nat → Int32} (hC : CIv σ g n b e z) (hM : MIv σ g n sd b e z) (hR : Rel σ g n sd b e z t) (ht : t ≤ 100 * j) (hz : z ≤ j) (hj : j < 512) (hb : b = true) (hn : n ≤ 6) (hw9 : w9 ≤ t + 5) (hV : V = nI w9) (hu : nI t + muU its = nI w9) (hq : ∀ r, r ≤ 6 → (!decide (nI r < f) && decide (r < w)) = (if its = 1 then decide (nI r = nI w - 1) else decide (r < w))) (hW : W = htL (tkS σ k) n f w V n) (hU : U = upA (thr (upA W 46 ff) 0) 41 (upd ((upA W 46 ff) 41) k (-1))) : Inv (muL U n its w n) (j + 1) ∧ muN U n its w n = htN (tkS σ k) n f w V n ∧ muL U n its w n 31 25 = 0 ∧ muL U n its w n 46 0 = ff 0 := by
  have hrr := hR.2.2.2.2 hb
  have hg12 := hC.1.2.2
  have hz5 := hC.2.2.2.2.1.2
  have oW : ∀ c, c ≠ 24 → c ≠ 25 → c ≠ 26 → W c = σ c := fun c q1 q2 q3 => by rw [hW, htL_o q2 q3]; exact upA_n q1
  have oU : ∀ c, c ≠ 31 → c ≠ 41 → c ≠ 46 → U c = W c := fun c q1 q2 q3 => by rw [hU, upA_n q2, thr_o q1, upA_n q3]
  have oS : ∀ c, c ≠ 24 → c ≠ 25 → c ≠ 26 → c ≠ 31 → c ≠ 41 → c ≠ 46 → U c = σ c := fun c q1 q2 q3 q4 q5 q6 => (oU c q4 q5 q6).trans (oW c q1 q2 q3)
  have oM : ∀ c, 31 < c → c < 46 → c ≠ 41 → U c = σ c := fun c q1 q2 q3 => oS c (by omega) (by omega) (by omega) (by omega) q3 (by omega)
  have U31 : U 31 = upd (σ 31) 25 (nI 0) := by
    rw [hU, upA_n (by decide)]
    unfold thr
    rw [upA_s, upA_n (by decide), oW 31 (by decide) (by decide) (by decide)]
  have U46 : U 46 = ff := by rw [hU, upA_n (by decide), thr_o (by decide), upA_s]
  have U41 : U 41 = upd (σ 41) k (-1) := by rw [hU, upA_s, upA_n (by decide), oW 41 (by decide) (by decide) (by decide)]
  have hH := HR_race hrr
  have hT : HRel (tkS σ k) U t := fun a ha => by
    rw [oM 42 (by decide) (by decide) (by decide), oM 43 (by decide) (by decide) (by decide)]
    exact hH a ha
  have hrk : ∀ a, a < 6 → rkM U n a = rkA σ n a := fun a ha => (rkM_cong (oM 33 (by decide) (by decide) (by decide)) (oM 35 (by decide) (by decide) (by decide)) (oM 36 (by decide) (by decide) (by decide)) (oM 37 (by decide) (by decide) (by decide)) (oM 39 (by decide) (by decide) (by decide)) (oM 40 (by decide) (by decide) (by decide)) n a).trans (rk_eq hrr hg12 hz5 hn ha)
  have hrT : ∀ a, rkA (tkS σ k) n a = rkA σ n a := fun a => by
    unfold rkA tkS
    exact cntA_cong n (fun i _ => ahB_24 σ _ i a)
  have hft : ∀ a, finB (tkS σ k) 4 a = finB σ 4 a := fun a => by
    unfold finB tkS
    rw [upA_n (by decide), upA_n (by decide)]
  have hfn : ∀ a, a < 6 → decide (σ 40 a ≤ 0) = !finB σ 4 a := fun a ha => by
    obtain ⟨G9, ⟨hG1, hG9, h9, -⟩, hrow, hkt, -⟩ := hrr
    exact (RK_f h9 hG9 (hkt a ha) hz5).1
  have hbits : ∀ i, i < 6 → hitB (tkS σ k) n f w i = (muB U n its w i && decide (U 40 i ≤ 0)) := fun i hi => by
    unfold hitB muB
    rw [hrT, hrk i hi, oM 40 (by decide) (by decide) (by decide), hfn i hi, ← hq (rkA σ n i) (Nat.le_trans (cntA_le (fun a => ahB σ 4 a i) n) hn), hft]
  obtain ⟨hall, hcnt⟩ := ht_all (its := its) (f := f) (w := w) hT hn hw9 (by omega) (by rw [U31]; exact (congrArg (fun v => v + muU its) hR.2.2.2.1.2.1).trans hu) hV hbits n hn
  have oL : ∀ c, c ≠ 42 → c ≠ 43 → muL U n its w n c = U c := fun c q1 q2 => muL_o q1 q2 n
  refine ⟨?_, hcnt, ?_, ?_⟩
  · refine use_inv hC hM hR ht hz (fun c q1 q2 q3 q4 => ?_) (fun c q1 q2 q3 q4 q5 => ?_) (fun i hi => ?_) (fun a ha _ => ?_) (fun _ a ha => ?_)
    · rw [oL c (by omega) (by omega)]; exact oS c q2 q3 q4 (by omega) (by omega) (by omega)
    · rw [oL c q4 q5]; exact oM c q1 q2 q3
    · rw [oL 31 (by decide) (by decide), U31]; exact if_neg hi
    · rw [oL 41 (by decide) (by decide), oL 24 (by decide) (by decide), U41, oU 24 (by decide) (by decide) (by decide), hW, htL_o (by decide) (by decide)]
      show upd (σ 41) k (-1) a = upd (σ 24) k (-1) a
      unfold upd
      split
      · rfl
      · obtain ⟨G9, -, hrow, -⟩ := hrr
        exact (hrow a ha).2.1
    · rw [oL 25 (by decide) (by decide), oL 26 (by decide) (by decide), oU 25 (by decide) (by decide) (by decide), oU 26 (by decide) (by decide) (by decide), hW]
      exact hall a ha
  · rw [oL 31 (by decide) (by decide), U31]; rfl
  · rw [oL 46 (by decide) (by decide), U46]
set_option maxRecDepth 10000 in
theorem pu_draw {σ : St} {j g n sd e9 z t : Nat} {b : Bool} (x : Int32) (hC : CIv σ g n b e9 z) (hM : MIv σ g n sd b e9 z) (hR : Rel σ g n sd b e9 z t) (ht : t ≤ 100 * j) (hzj : z ≤ j) (hj : j < 512)  {r5 : Int32} {σ1 : St} (h5 : (fun r9 σ9 => (∃ (v9 : Int32) (τ9 : St), (fun r σ' => r = (itA (rkA σ n (ix x)) (dD (nxA (σ 23 3)))) ∧ σ' = (upA (upA σ 23 (upd (σ 23) 3 (nxA (σ 23 3)))) 24 (upd (σ 24) (ix x) (itA (rkA σ n (ix x)) (dD (nxA (σ 23 3)))))) ∧ inB x n = true ∧ (b && !finB σ 4 (ix x) && decide (σ 24 (ix x) = -1)) = true) v9 τ9 ∧ r9 = 0 ∧ σ9 = upA τ9 46 (upd (τ9 46) 0 v9)) ∨ ∃ E9 : String, (fun E => (E = xIOB ∧ inB x n = false) ∨ (E = xISE ∧ inB x n = true ∧ (b && !finB σ 4 (ix x) && decide (σ 24 (ix x) = -1)) = false)) E9 ∧ r9 = ((if E9 = xIOB then 1 else 2) : Int32) ∧ σ9 = σ) r5 σ1) : MIv σ1 g n sd b e9 z ∧ ∀ (r6 : Int32) (σ2 : St), (fun r σ' => (inB x n = true ∧ (b && decide (σ1 40 (ix x) ≤ 0) && decide (σ1 41 (ix x) = -1)) = true ∧ r = itA (rkM σ1 n (ix x)) (dD (nxA (σ1 31 12))) ∧ σ' = upA (upA σ1 31 (upd (upd (σ1 31) 25 0) 12 (nxA (σ1 31 12)))) 41 (upd (σ1 41) (ix x) (itA (rkM σ1 n (ix x)) (dD (nxA (σ1 31 12)))))) ∨ (inB x n = false ∧ σ' = thr σ1 1) ∨ (inB x n = true ∧ (b && decide (σ1 40 (ix x) ≤ 0) && decide (σ1 41 (ix x) = -1)) = false ∧ σ' = thr σ1 2)) r6 σ2 → σ2 31 25 = r5 ∧ (r5 = 0 → σ2 46 0 = r6) ∧ Inv σ2 (j + 1) := by
  have hg12 : g ≤ 12 := hC.1.2.2
  have hg1 : 1 ≤ g := hC.1.2.1
  have hn6 : n ≤ 6 := hC.2.1.2
  have hz5 : z ≤ 512 := hC.2.2.2.2.1.2
  obtain ⟨r1, rT, rC, ⟨u1, u2, u3⟩, rR⟩ := id hR
  rcases h5 with ⟨v9, τ9, ⟨e1, e2, c0, c1⟩, e3, e4⟩ | ⟨E9, hE, e3, e4⟩
  · subst e2 e3 e4
    have hk := ix6 hn6 c0
    have hb := and3_b c1
    refine ⟨hM, fun r6 σ2 h6 => ?_⟩
    rcases h6 with ⟨d0, d1, e5, e6⟩ | ⟨d0, e6⟩ | ⟨d0, d1, e6⟩
    · subst e6
      have e7 : r6 = itA (rkA σ n (ix x)) (dD (nxA (σ 23 3))) := by
        refine e5.trans ?_
        refine congr (congrArg itA ?_) (congrArg (fun w => dD (nxA w)) u3)
        exact (rkM_cong (σ := σ) rfl rfl rfl rfl rfl rfl n (ix x)).trans (rk_eq (rR hb) hg12 hz5 hn6 hk)
      have e8 := e5.symm.trans e7
      refine ⟨rfl, fun _ => e1.trans e7.symm, g, n, sd, e9, z, t, b, hC, hM, ⟨r1, rT, rC, ⟨u1, u2, congrArg nxA u3⟩, fun _ => ?_⟩, by omega, by omega⟩
      obtain ⟨G9, p1, p2, p3, p4, p5, p6⟩ := rR hb
      refine ⟨G9, p1, fun k hk => ⟨(p2 k hk).1, ?_, (p2 k hk).2.2⟩, fun k hk => RKart_t (σ := σ) (t := t) (Nat.le_refl _) rfl rfl rfl rfl rfl rfl rfl (p3 k hk), p4, p5, rc_keep (σ := σ) rfl rfl rfl rfl rfl rfl rfl rfl rfl rfl rfl (CIv_rec hC) p6⟩
      show upd (σ 41) (ix x) _ k = upd (σ 24) (ix x) _ k
      unfold upd
      split
      · exact e8
      · exact (p2 k hk).2.1
    · exact absurd (c0.symm.trans d0) (by decide)
    · exact absurd (((cnd_1 rR hz5 hk).trans c1).symm.trans d1) (by decide)
  · have e4 := e4.symm
    subst e4
    rcases hE with ⟨e7, c0⟩ | ⟨e7, c0, c1⟩
    · subst e7
      refine ⟨hM, fun r6 σ2 h6 => ?_⟩
      rcases h6 with ⟨d0, d1, e5, e6⟩ | ⟨d0, e6⟩ | ⟨d0, d1, e6⟩
      · skip
        exact absurd (c0.symm.trans d0) (by decide)
      · subst e6
        exact ⟨by rw [thr_25, e3]; decide, fun h9 => absurd (e3.symm.trans h9) (by decide), Inv_up (AgC_thr (AgC_r _) 1) (AgM_thr (AgM_r _) 1) hC hM hR ht hzj⟩
      · skip
        exact absurd (c0.symm.trans d0) (by decide)
    · subst e7
      refine ⟨hM, fun r6 σ2 h6 => ?_⟩
      rcases h6 with ⟨d0, d1, e5, e6⟩ | ⟨d0, e6⟩ | ⟨d0, d1, e6⟩
      · exact absurd (((cnd_1 rR hz5 (ix6 hn6 c0)).trans c1).symm.trans d1) (by decide)
      · skip
        exact absurd (c0.symm.trans d0) (by decide)
      · subst e6
        exact ⟨by rw [thr_25, e3]; decide, fun h9 => absurd (e3.symm.trans h9) (by decide), Inv_up (AgC_thr (AgC_r _) 2) (AgM_thr (AgM_r _) 2) hC hM hR ht hzj⟩


set_option maxRecDepth 10000 in
theorem pu_use {σ : St} {j g n sd e9 z t : Nat} {b : Bool} (x : Int32) (hC : CIv σ g n b e9 z) (hM : MIv σ g n sd b e9 z) (hR : Rel σ g n sd b e9 z t) (ht : t ≤ 100 * j) (hzj : z ≤ j) (hj : j < 512)  {r5 : Int32} {σ1 : St} (h5 : (fun r9 σ9 => (∃ (v9 : Int32) (τ9 : St), (fun r σ' => r = (if σ 24 (ix x) = 0 then 0 else if σ 24 (ix x) = 2 then 0 else if σ 24 (ix x) = 1 then nI (htN (tkS σ (ix x)) n (nI (rkA σ n (ix x)) - 1) (rkA σ n (ix x)) (σ 0 9 + 5) n) else nI (htN (tkS σ (ix x)) n 0 (rkA σ n (ix x)) (σ 0 9 + 2) n)) ∧ σ' = (if σ 24 (ix x) = 0 then upA (tkS σ (ix x)) 26 (upd (σ 26) (ix x) 0) else if σ 24 (ix x) = 2 then upA (tkS σ (ix x)) 25 (upd (σ 25) (ix x) 1) else if σ 24 (ix x) = 1 then htL (tkS σ (ix x)) n (nI (rkA σ n (ix x)) - 1) (rkA σ n (ix x)) (σ 0 9 + 5) n else htL (tkS σ (ix x)) n 0 (rkA σ n (ix x)) (σ 0 9 + 2) n) ∧ inB x n = true ∧ (b && !finB σ 4 (ix x) && !decide (σ 24 (ix x) = -1)) = true) v9 τ9 ∧ r9 = 0 ∧ σ9 = upA τ9 46 (upd (τ9 46) 0 v9)) ∨ ∃ E9 : String, (fun E => (E = xIOB ∧ inB x n = false) ∨ (E = xISE ∧ inB x n = true ∧ (b && !finB σ 4 (ix x) && !decide (σ 24 (ix x) = -1)) = false)) E9 ∧ r9 = ((if E9 = xIOB then 1 else 2) : Int32) ∧ σ9 = σ) r5 σ1) : MIv σ1 g n sd b e9 z ∧ ∀ (r6 : Int32) (σ2 : St), (fun r σ' => (inB x n = true ∧ (b && decide (σ1 40 (ix x) ≤ 0) && !decide (σ1 41 (ix x) = -1)) = true ∧ r = (if σ1 41 (ix x) = 0 then 0 else if σ1 41 (ix x) = 2 then 0 else nI (muN (upA (thr σ1 0) 41 (upd (σ1 41) (ix x) (-1))) n (σ1 41 (ix x)) (rkM σ1 n (ix x)) n)) ∧ σ' = (if σ1 41 (ix x) = 0 then upA (upA (thr σ1 0) 41 (upd (σ1 41) (ix x) (-1))) 43 (upd (σ1 43) (ix x) 0) else if σ1 41 (ix x) = 2 then upA (upA (thr σ1 0) 41 (upd (σ1 41) (ix x) (-1))) 42 (upd (σ1 42) (ix x) 1) else muL (upA (thr σ1 0) 41 (upd (σ1 41) (ix x) (-1))) n (σ1 41 (ix x)) (rkM σ1 n (ix x)) n)) ∨ (inB x n = false ∧ σ' = thr σ1 1) ∨ (inB x n = true ∧ (b && decide (σ1 40 (ix x) ≤ 0) && !decide (σ1 41 (ix x) = -1)) = false ∧ σ' = thr σ1 2)) r6 σ2 → σ2 31 25 = r5 ∧ (r5 = 0 → σ2 46 0 = r6) ∧ Inv σ2 (j + 1) := by
  have hg12 : g ≤ 12 := hC.1.2.2
  have hg1 : 1 ≤ g := hC.1.2.1
  have hn6 : n ≤ 6 := hC.2.1.2
  have hz5 : z ≤ 512 := hC.2.2.2.2.1.2
  obtain ⟨r1, rT, rC, ⟨u1, u2, u3⟩, rR⟩ := id hR
  rcases h5 with ⟨v9, τ9, ⟨e1, e2, c0, c1⟩, e3, e4⟩ | ⟨E9, hE, e3, e4⟩
  · have hk := ix6 hn6 c0
    have hb := and3_b c1
    have hrr := rR hb
    have hH := HR_race hrr
    have h41 : ∀ a, a < 6 → σ 41 a = σ 24 a := fun a ha => by
      obtain ⟨G9, -, hrow, -⟩ := hrr
      exact (hrow a ha).2.1
    have hI := h41 (ix x) hk
    have h8 : ∀ a, a < 6 → upd (σ 41) (ix x) (-1) a = upd (σ 24) (ix x) (-1) a := fun a ha => by
      unfold upd
      split
      · rfl
      · exact h41 a ha
    have htS : t < 2 ^ 30 := by omega
    by_cases i0 : σ 24 (ix x) = 0
    · rw [if_pos i0] at e1 e2
      subst e2 e3 e4
      refine ⟨hM, fun r6 σ2 h6 => ?_⟩
      rcases h6 with ⟨d0, d1, e5, e6⟩ | ⟨d0, e6⟩ | ⟨d0, d1, e6⟩
      · have j0 : (upA (upA (tkS σ (ix x)) 26 (upd (σ 26) (ix x) 0)) 46 (upd (upA (tkS σ (ix x)) 26 (upd (σ 26) (ix x) 0) 46) 0 v9)) 41 (ix x) = 0 := hI.trans i0
        rw [if_pos j0] at e5 e6
        subst e6
        refine ⟨rfl, fun _ => e1.trans e5.symm, use_inv hC hM hR ht hzj ?_ ?_ ?_ (fun a ha _ => h8 a ha) (fun _ a ha => ⟨(hH a ha).1, ?_, ?_⟩)⟩
        · intro c q1 q2 q3 q4
          unfold thr tkS
          rw [upA_n (show c ≠ 43 by omega), upA_n (show c ≠ 41 by omega), upA_n (show c ≠ 31 by omega), upA_n (show c ≠ 46 by omega), upA_n q4, upA_n q2]
        · intro c q1 q2 q3 q4 q5
          unfold thr tkS
          rw [upA_n q5, upA_n q3, upA_n (show c ≠ 31 by omega), upA_n (show c ≠ 46 by omega), upA_n (show c ≠ 26 by omega), upA_n (show c ≠ 24 by omega)]
        · intro k q1
          exact (if_neg q1 : upd (σ 31) 25 (nI 0) k = σ 31 k)
        · show upd (σ 43) (ix x) 0 a = upd (σ 26) (ix x) 0 a
          unfold upd
          split
          · rfl
          · exact (hH a ha).2.1
        · show ∃ aw : Nat, upd (σ 26) (ix x) 0 a = nI aw ∧ aw ≤ t + 5
          unfold upd
          split
          · exact ⟨0, rfl, by omega⟩
          · exact (hH a ha).2.2
      · exact absurd (c0.symm.trans d0) (by decide)
      · exact absurd (((cnd_2 rR hz5 hk).trans c1).symm.trans d1) (by decide)
    · rw [if_neg i0] at e1 e2
      by_cases i2 : σ 24 (ix x) = 2
      · rw [if_pos i2] at e1 e2
        subst e2 e3 e4
        refine ⟨hM, fun r6 σ2 h6 => ?_⟩
        rcases h6 with ⟨d0, d1, e5, e6⟩ | ⟨d0, e6⟩ | ⟨d0, d1, e6⟩
        · have j0 : ¬ (upA (upA (tkS σ (ix x)) 25 (upd (σ 25) (ix x) 1)) 46 (upd (upA (tkS σ (ix x)) 25 (upd (σ 25) (ix x) 1) 46) 0 v9)) 41 (ix x) = 0 := fun q => i0 (hI.symm.trans q)
          have j2 : (upA (upA (tkS σ (ix x)) 25 (upd (σ 25) (ix x) 1)) 46 (upd (upA (tkS σ (ix x)) 25 (upd (σ 25) (ix x) 1) 46) 0 v9)) 41 (ix x) = 2 := hI.trans i2
          rw [if_neg j0, if_pos j2] at e5 e6
          subst e6
          refine ⟨rfl, fun _ => e1.trans e5.symm, use_inv hC hM hR ht hzj ?_ ?_ ?_ (fun a ha _ => h8 a ha) (fun _ a ha => ⟨?_, (hH a ha).2⟩)⟩
          · intro c q1 q2 q3 q4
            unfold thr tkS
            rw [upA_n (show c ≠ 42 by omega), upA_n (show c ≠ 41 by omega), upA_n (show c ≠ 31 by omega), upA_n (show c ≠ 46 by omega), upA_n q3, upA_n q2]
          · intro c q1 q2 q3 q4 q5
            unfold thr tkS
            rw [upA_n q4, upA_n q3, upA_n (show c ≠ 31 by omega), upA_n (show c ≠ 46 by omega), upA_n (show c ≠ 25 by omega), upA_n (show c ≠ 24 by omega)]
          · intro k q1
            exact (if_neg q1 : upd (σ 31) 25 (nI 0) k = σ 31 k)
          · show upd (σ 42) (ix x) 1 a = upd (σ 25) (ix x) 1 a
            unfold upd
            split
            · rfl
            · exact (hH a ha).1
        · exact absurd (c0.symm.trans d0) (by decide)
        · exact absurd (((cnd_2 rR hz5 hk).trans c1).symm.trans d1) (by decide)
      · rw [if_neg i2] at e1 e2
        have hrk : ∀ a, a < 6 → rkM σ n a = rkA σ n a := fun a ha => rk_eq hrr hg12 hz5 hn6 ha
        by_cases i1 : σ 24 (ix x) = 1
        · rw [if_pos i1] at e1 e2
          subst e3 e4
          have oT : ∀ c, c ≠ 24 → c ≠ 25 → c ≠ 26 → τ9 c = σ c := fun c q1 q2 q3 => by rw [e2, htL_o q2 q3]; exact upA_n q1
          refine ⟨MIv_of (AgM_46 ⟨fun c q1 q2 => oT c (by omega) (by omega) (by omega), fun k' _ => by rw [oT 31 (by decide) (by decide) (by decide)]⟩ _) hM, fun r6 σ2 h6 => ?_⟩
          have q41 : ∀ Fq, (upA τ9 46 Fq) 41 (ix x) = σ 24 (ix x) := fun Fq => by rw [upA_n (by decide), oT 41 (by decide) (by decide) (by decide)]; exact hI
          rcases h6 with ⟨d0, d1, e5, e6⟩ | ⟨d0, e6⟩ | ⟨d0, d1, e6⟩
          · have qrk : ∀ Fq, rkM (upA τ9 46 Fq) n (ix x) = rkA σ n (ix x) := fun Fq => by
              rw [rk_46]
              exact (rkM_cong (oT 33 (by decide) (by decide) (by decide)) (oT 35 (by decide) (by decide) (by decide)) (oT 36 (by decide) (by decide) (by decide)) (oT 37 (by decide) (by decide) (by decide)) (oT 39 (by decide) (by decide) (by decide)) (oT 40 (by decide) (by decide) (by decide)) n (ix x)).trans (hrk _ hk)
            rw [q41, if_neg i0, if_neg i2, qrk] at e5 e6
            have hall := use_hit (w9 := t + 5) (its := σ 24 (ix x)) (w := rkA σ n (ix x)) (ff := upd (τ9 46) 0 v9) hC hM hR ht hzj hj hb hn6 (by omega) (by rw [u1]; exact nI_add t 5) (by unfold muU; rw [if_pos i1]; exact nI_add t 5) (fun r hr => by rw [if_pos i1]; exact (mu_1 hr (Nat.le_trans (cntA_le (fun a => ahB σ 4 a (ix x)) n) hn6)).symm) e2 rfl
            subst e6
            exact ⟨hall.2.2.1, fun _ => hall.2.2.2.trans (e1.trans ((congrArg nI hall.2.1).symm.trans e5.symm)), hall.1⟩
          · exact absurd (c0.symm.trans d0) (by decide)
          · rw [q41] at d1
            rw [upA_n (show (40 : Nat) ≠ 46 by decide), oT 40 (by decide) (by decide) (by decide)] at d1
            have d9 := cnd_2 rR hz5 hk
            rw [hI] at d9
            exact absurd ((d9.trans c1).symm.trans d1) (by decide)
        · rw [if_neg i1] at e1 e2
          subst e3 e4
          have oT : ∀ c, c ≠ 24 → c ≠ 25 → c ≠ 26 → τ9 c = σ c := fun c q1 q2 q3 => by rw [e2, htL_o q2 q3]; exact upA_n q1
          refine ⟨MIv_of (AgM_46 ⟨fun c q1 q2 => oT c (by omega) (by omega) (by omega), fun k' _ => by rw [oT 31 (by decide) (by decide) (by decide)]⟩ _) hM, fun r6 σ2 h6 => ?_⟩
          have q41 : ∀ Fq, (upA τ9 46 Fq) 41 (ix x) = σ 24 (ix x) := fun Fq => by rw [upA_n (by decide), oT 41 (by decide) (by decide) (by decide)]; exact hI
          rcases h6 with ⟨d0, d1, e5, e6⟩ | ⟨d0, e6⟩ | ⟨d0, d1, e6⟩
          · have qrk : ∀ Fq, rkM (upA τ9 46 Fq) n (ix x) = rkA σ n (ix x) := fun Fq => by
              rw [rk_46]
              exact (rkM_cong (oT 33 (by decide) (by decide) (by decide)) (oT 35 (by decide) (by decide) (by decide)) (oT 36 (by decide) (by decide) (by decide)) (oT 37 (by decide) (by decide) (by decide)) (oT 39 (by decide) (by decide) (by decide)) (oT 40 (by decide) (by decide) (by decide)) n (ix x)).trans (hrk _ hk)
            rw [q41, if_neg i0, if_neg i2, qrk] at e5 e6
            have hall := use_hit (w9 := t + 2) (its := σ 24 (ix x)) (w := rkA σ n (ix x)) (ff := upd (τ9 46) 0 v9) hC hM hR ht hzj hj hb hn6 (by omega) (by rw [u1]; exact nI_add t 2) (by unfold muU; rw [if_neg i1]; exact nI_add t 2) (fun r hr => by rw [if_neg i1, decide_eq_false (nI_pos (by omega))]; rfl) e2 rfl
            subst e6
            exact ⟨hall.2.2.1, fun _ => hall.2.2.2.trans (e1.trans ((congrArg nI hall.2.1).symm.trans e5.symm)), hall.1⟩
          · exact absurd (c0.symm.trans d0) (by decide)
          · rw [q41] at d1
            rw [upA_n (show (40 : Nat) ≠ 46 by decide), oT 40 (by decide) (by decide) (by decide)] at d1
            have d9 := cnd_2 rR hz5 hk
            rw [hI] at d9
            exact absurd ((d9.trans c1).symm.trans d1) (by decide)
  · have e4 := e4.symm
    subst e4
    rcases hE with ⟨e7, c0⟩ | ⟨e7, c0, c1⟩
    · subst e7
      refine ⟨hM, fun r6 σ2 h6 => ?_⟩
      rcases h6 with ⟨d0, d1, e5, e6⟩ | ⟨d0, e6⟩ | ⟨d0, d1, e6⟩
      · skip
        exact absurd (c0.symm.trans d0) (by decide)
      · subst e6
        exact ⟨by rw [thr_25, e3]; decide, fun h9 => absurd (e3.symm.trans h9) (by decide), Inv_up (AgC_thr (AgC_r _) 1) (AgM_thr (AgM_r _) 1) hC hM hR ht hzj⟩
      · skip
        exact absurd (c0.symm.trans d0) (by decide)
    · subst e7
      refine ⟨hM, fun r6 σ2 h6 => ?_⟩
      rcases h6 with ⟨d0, d1, e5, e6⟩ | ⟨d0, e6⟩ | ⟨d0, d1, e6⟩
      · exact absurd (((cnd_2 rR hz5 (ix6 hn6 c0)).trans c1).symm.trans d1) (by decide)
      · skip
        exact absurd (c0.symm.trans d0) (by decide)
      · subst e6
        exact ⟨by rw [thr_25, e3]; decide, fun h9 => absurd (e3.symm.trans h9) (by decide), Inv_up (AgC_thr (AgC_r _) 2) (AgM_thr (AgM_r _) 2) hC hM hR ht hzj⟩

