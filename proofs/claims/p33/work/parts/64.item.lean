/-! isItem: an item drawn, used -/
theorem it_n {x : Int32} (h : x = -1 ∨ ∃ q : Nat, q < 4 ∧ x = nI q) (h2 : ¬ x < 0) : ∃ q : Nat, q < 4 ∧ x = nI q := by
  rcases h with rfl | h
  · exact absurd (by decide) h2
  · exact h
theorem it_m1 {x : Int32} (h : x = -1 ∨ ∃ q : Nat, q < 4 ∧ x = nI q) (h2 : ¬ 0 ≤ x) : x = -1 := by
  rcases h with rfl | ⟨q, hq, rfl⟩
  · rfl
  · exact absurd (nI_pos' (by omega)) h2
theorem it_no {q : Nat} (hq : q < 4) : ¬ nI q = -1 := nI_neg (by omega)
section IT
variable {σ : St} {g n e z d t j k : Nat} {b : Bool}
theorem dr_no (h : b = false ∨ finB σ 4 k = true ∨ 0 ≤ σ 24 k) : (b && !finB σ 4 k && decide (σ 24 k = -1)) = false := by
  rcases h with h | h | h
  · rw [h]; rfl
  · rw [h, Bool.not_true, Bool.and_false]; rfl
  · rw [decide_eq_false (fun q => by rw [q] at h; exact absurd h (by decide)), Bool.and_false]
theorem us_no (h : b = false ∨ finB σ 4 k = true ∨ ((σ 24 k = -1 ∨ ∃ q : Nat, q < 4 ∧ σ 24 k = nI q) ∧ σ 24 k < 0)) : (b && !finB σ 4 k && !decide (σ 24 k = -1)) = false := by
  rcases h with h | h | ⟨h, h2⟩
  · rw [h]; rfl
  · rw [h, Bool.not_true, Bool.and_false]; rfl
  · rw [decide_eq_true (it_m1 h (Int32.not_le.mpr h2)), Bool.not_true, Bool.and_false]
theorem pu_draw {f : Nat → Int32} {it : Int32} {q : Nat} (hA : PAll σ g n e z d t b j) (hq : q < 4) (hi : it = nI q) : PAll (upA (upA σ 23 f) 24 (upd (σ 24) k it)) g n e z d t b j := by
  refine po_it hA (fun c h1 h2 _ _ => by rw [upA_n h2, upA_n h1]) (fun hb => ?_) (fun hb => ?_)
  · intro a ha
    rw [upA_s]
    by_cases c : a = k
    · subst c; rw [pk_us, hi]; exact Or.inr ⟨q, hq, rfl⟩
    · rw [pk_un c]; exact P24 (prace hA hb) a ha
  · rw [upA_n (by decide), upA_n (by decide)]; exact P26 (Nat.le_refl t) (prace hA hb)
theorem ht_26 {f : Int32} {w w9 : Nat} (h : ∀ k, k < 6 → ∃ aw : Nat, σ 26 k = nI aw ∧ aw ≤ t + 5) (hw : w9 ≤ t + 5) : ∀ i, ∀ k, k < 6 → ∃ aw : Nat, htL σ n f w (nI w9) i 26 k = nI aw ∧ aw ≤ t + 5
  | 0 => h
  | i + 1 => by
    have ih := ht_26 (f := f) (w := w) h hw i
    intro k hk
    rw [htL]
    split
    · unfold htS
      split
      · rw [upA_s]
        by_cases c : k = i
        · subst c
          rw [pk_us]
          split
          · exact ⟨w9, rfl, hw⟩
          · exact ih k hk
        · rw [pk_un c]; exact ih k hk
      · rw [upA_n (by decide)]; exact ih k hk
    · exact ih k hk
theorem ht_cnt {f : Int32} {w : Nat} {u : Int32} : ∀ i, htN σ n f w u i ≤ cntA (fun a => hitB σ n f w a) i
  | 0 => Nat.le_refl _
  | i + 1 => by
    have ih := ht_cnt (f := f) (w := w) (u := u) i
    rw [htN, cntA]
    by_cases c : hitB σ n f w i = true
    · rw [if_pos c]
      split <;> omega
    · rw [if_neg (fun q => c q.1), if_neg c]
      omega
theorem tk_rk (a : Nat) : rkA (tkS σ k) n a = rkA σ n a := by
  unfold rkA tkS
  exact cntA_cong n (fun i _ => ahB_24 σ _ i a)
theorem hits_le (hA : PAll σ g n e z d t b j) (hb : b = true) {f : Int32} {w lo : Nat} {u : Int32} (hlo : lo ≤ w) (hf : ∀ r : Nat, r < 6 → ¬ nI r < f → lo ≤ r) : htN (tkS σ k) n f w u n ≤ w - lo := by
  have hn := (pn hA).2
  refine Nat.le_trans (ht_cnt n) (Nat.le_trans (cntA_mono (Q := fun i => decide (lo ≤ rkA σ n i) && decide (rkA σ n i < w)) n (fun a ha q => ?_)) (cnt_span (fun i k hi hk q => prk_inj hA hb hi hk q) lo w hlo))
  unfold hitB at q
  rw [tk_rk] at q
  simp only [Bool.and_eq_true, Bool.not_eq_true', decide_eq_false_iff_not, decide_eq_true_eq] at q ⊢
  have hr := rkA_lt (σ := σ) (n := n) (k := a) ha
  exact ⟨hf _ (by omega) q.1.1, q.1.2⟩
/-- what a use leaves -/
theorem pu_used {τ : St} {k9 : Nat} (hA : PAll σ g n e z d t b j) (hG : PGat σ g) (ho : ∀ c, c ≠ 24 → c ≠ 25 → c ≠ 26 → τ c = σ c) (h24 : τ 24 = upd (σ 24) k9 (-1)) (h26 : b = true → ∀ k, k < 6 → ∃ aw : Nat, τ 26 k = nI aw ∧ aw ≤ t + 5) : PAll τ g n e z d t b j ∧ PGat τ g ∧ τ 24 k9 = -1 ∧ ∀ a, rkA τ n a = rkA σ n a := by
  refine ⟨po_it hA (fun c _ h1 h2 h3 => ho c h1 h2 h3) (fun hb => ?_) h26, ?_, by rw [h24, pk_us], fun a => ?_⟩
  · intro a ha
    rw [h24]
    by_cases c : a = k9
    · subst c; rw [pk_us]; exact Or.inl rfl
    · rw [pk_un c]; exact P24 (prace hA hb) a ha
  · unfold PGat
    rw [ho 32 (by decide) (by decide) (by decide)]
    exact hG
  · unfold rkA
    exact cntA_cong n (fun i _ => ahB_cong (ho 4 (by decide) (by decide) (by decide)) (ho 5 (by decide) (by decide) (by decide)) (ho 6 (by decide) (by decide) (by decide)) (ho 7 (by decide) (by decide) (by decide)) (ho 9 (by decide) (by decide) (by decide)) (ho 3 (by decide) (by decide) (by decide)) i a)
theorem pu_use {r : Int32} {τ : St} {x q9 : Nat} (hA : PAll σ g n e z d t b j) (hG : PGat σ g) (hj : j < 100) (hb : b = true) (hx : x < n) (hq : q9 < 4) (hi : σ 24 x = nI q9)
    (hr : r = (if σ 24 x = 0 then 0 else if σ 24 x = 2 then 0 else if σ 24 x = 1 then nI (htN (tkS σ x) n (nI (rkA σ n x) - 1) (rkA σ n x) (σ 0 9 + 5) n) else nI (htN (tkS σ x) n 0 (rkA σ n x) (σ 0 9 + 2) n)))
    (hτ : τ = (if σ 24 x = 0 then upA (tkS σ x) 26 (upd (σ 26) x 0) else if σ 24 x = 2 then upA (tkS σ x) 25 (upd (σ 25) x 1) else if σ 24 x = 1 then htL (tkS σ x) n (nI (rkA σ n x) - 1) (rkA σ n x) (σ 0 9 + 5) n else htL (tkS σ x) n 0 (rkA σ n x) (σ 0 9 + 2) n)) :
    ∃ h9 : Nat, r = nI h9 ∧ h9 ≤ 6 ∧ (q9 = 1 → h9 ≤ 1) ∧ (q9 = 1 → rkA σ n x = 0 → h9 = 0) ∧ (q9 = 3 → h9 ≤ rkA σ n x) ∧ (q9 ≠ 1 → q9 ≠ 3 → h9 = 0) ∧ (PAll τ g n e z d t b j ∧ PGat τ g ∧ τ 24 x = -1 ∧ ∀ a, rkA τ n a = rkA σ n a) ∧ (q9 = 0 → stN τ x = 0) := by
  have hn := (pn hA).2
  have ht := (pti hA).2
  have htb : t ≤ 100 * j := hA.2.2.2.2.2.2.1
  have hrl := rkA_lt (σ := σ) (n := n) (k := x) hx
  have h26 := P26 (Nat.le_refl t) (prace hA hb)
  have h9 : q9 = 0 ∨ q9 = 1 ∨ q9 = 2 ∨ q9 = 3 := by omega
  rw [hi] at hr hτ
  rcases h9 with rfl | rfl | rfl | rfl
  · rw [if_pos (show nI 0 = 0 from rfl)] at hr hτ
    refine ⟨0, hr, by omega, fun q => absurd q (by decide), fun q => absurd q (by decide), fun q => absurd q (by decide), fun _ _ => rfl, ?_, fun _ => ?_⟩
    · refine pu_used hA hG (fun c h1 h2 h3 => ?_) ?_ (fun _ k hk => ?_)
      · rw [hτ]; unfold tkS; rw [upA_n h3, upA_n h1]
      · rw [hτ]; unfold tkS; rw [upA_n (by decide), upA_s]
      · rw [hτ, upA_s]
        by_cases c : k = x
        · subst c; rw [pk_us]; exact ⟨0, rfl, by omega⟩
        · rw [pk_un c]; exact h26 k hk
    · have e1 : τ 26 x = nI 0 := by rw [hτ, upA_s, pk_us]; rfl
      have e2 : τ 0 9 = nI t := by rw [hτ]; exact ht
      have e3 : stuA τ x = nI 0 := by
        unfold stuA
        rw [e1, e2, stun_eq (by omega) (by omega), if_pos ((nI_leI (by omega) (by omega)).mpr (Nat.zero_le t))]
        rfl
      exact (clN e3 (by decide)).2
  · rw [if_neg (by decide), if_neg (by decide), if_pos (show nI 1 = 1 from rfl)] at hr hτ
    have e5 : σ 0 9 + 5 = nI (t + 5) := by rw [ht, show (5 : Int32) = nI 5 from rfl, nI_add]
    rw [e5] at hr hτ
    have hle : htN (tkS σ x) n (nI (rkA σ n x) - 1) (rkA σ n x) (nI (t + 5)) n ≤ rkA σ n x - (rkA σ n x - 1) := by
      refine hits_le hA hb (by omega) (fun r hr6 q => ?_)
      rcases Nat.eq_zero_or_pos (rkA σ n x) with q0 | q0
      · omega
      · rw [show (1 : Int32) = nI 1 from rfl, pk_sub (by omega)] at q
        rcases Nat.lt_or_ge r (rkA σ n x - 1) with c | c
        · exact absurd ((nI_ltI (by omega) (by omega)).mpr c) q
        · exact c
    refine ⟨_, hr, by omega, fun _ => by omega, fun _ q => by omega, fun q => absurd q (by decide), fun q => absurd rfl q, ?_, fun q => absurd q (by decide)⟩
    refine pu_used hA hG (fun c h1 h2 h3 => ?_) ?_ (fun _ => ?_)
    · rw [hτ, htL_o h2 h3]; unfold tkS; rw [upA_n h1]
    · rw [hτ, htL_o (by decide) (by decide)]; unfold tkS; rw [upA_s]
    · rw [hτ]
      exact ht_26 (σ := tkS σ x) (fun k hk => by unfold tkS; rw [upA_n (by decide)]; exact h26 k hk) (Nat.le_refl _) n
  · rw [if_neg (by decide), if_pos (show nI 2 = 2 from rfl)] at hr hτ
    refine ⟨0, hr, by omega, fun q => absurd q (by decide), fun q => absurd q (by decide), fun q => absurd q (by decide), fun _ _ => rfl, ?_, fun q => absurd q (by decide)⟩
    refine pu_used hA hG (fun c h1 h2 h3 => ?_) ?_ (fun _ => ?_)
    · rw [hτ]; unfold tkS; rw [upA_n h2, upA_n h1]
    · rw [hτ]; unfold tkS; rw [upA_n (by decide), upA_s]
    · rw [hτ]; unfold tkS; rw [upA_n (by decide), upA_n (by decide)]; exact h26
  · rw [if_neg (by decide), if_neg (by decide), if_neg (by decide)] at hr hτ
    have e5 : σ 0 9 + 2 = nI (t + 2) := by rw [ht, show (2 : Int32) = nI 2 from rfl, nI_add]
    rw [e5] at hr hτ
    have hle : htN (tkS σ x) n 0 (rkA σ n x) (nI (t + 2)) n ≤ rkA σ n x - 0 := hits_le hA hb (Nat.zero_le _) (fun r _ _ => Nat.zero_le r)
    refine ⟨_, hr, by omega, fun q => absurd q (by decide), fun q => absurd q (by decide), fun _ => by omega, fun _ q => absurd rfl q, ?_, fun q => absurd q (by decide)⟩
    refine pu_used hA hG (fun c h1 h2 h3 => ?_) ?_ (fun _ => ?_)
    · rw [hτ, htL_o h2 h3]; unfold tkS; rw [upA_n h1]
    · rw [hτ, htL_o (by decide) (by decide)]; unfold tkS; rw [upA_s]
    · rw [hτ]
      exact ht_26 (σ := tkS σ x) (fun k hk => by unfold tkS; rw [upA_n (by decide)]; exact h26 k hk) (by omega) n
end IT

theorem n_use (l : Launch) (hlt : l.stackTraces = false) (G : Gx) (hG : gOk G) (hF : Full G) (σ : St) {g n e9 z d t j : Nat} {b : Bool} (hA : PAll σ g n e9 z d t b j) (hGa : PGat σ g) (hj : j < 100) (hb : b = true) (x q9 : Nat) (hx : x < n) (hf : finB σ 4 x = false) (hq : q9 < 4) (hi : σ 24 x = nI q9) (y w : Int32) : CmI l yL_does wsL_does rmL_does_7 G σ [.ref (gad G 0), .int 7, .int (nI x), .int y, .int w] (fun r τ => ∃ h9 : Nat, r = nI h9 ∧ h9 ≤ 6 ∧ (q9 = 1 → h9 ≤ 1) ∧ (q9 = 1 → rkA σ n x = 0 → h9 = 0) ∧ (q9 = 3 → h9 ≤ rkA σ n x) ∧ (q9 ≠ 1 → q9 ≠ 3 → h9 = 0) ∧ (PAll τ g n e9 z d t b j ∧ PGat τ g ∧ τ 24 x = -1 ∧ ∀ a, rkA τ n a = rkA σ n a) ∧ (q9 = 0 → stN τ x = 0)) 1 6 :=
  (d7_ok l hlt G hG hF σ (pcv hA) x y w hx (by rw [hb, hf, hi, decide_eq_false (it_no hq)]; rfl)).mono (fun r τ h => pu_use hA hGa hj hb hx hq hi h.1 h.2)
theorem n_draw (l : Launch) (hlt : l.stackTraces = false) (G : Gx) (hG : gOk G) (hF : Full G) (σ : St) {g n e9 z d t j : Nat} {b : Bool} (hA : PAll σ g n e9 z d t b j) (hGa : PGat σ g) (hb : b = true) (x : Nat) (hx : x < n) (hf : finB σ 4 x = false) (hi : σ 24 x = -1) (y w : Int32) : CmI l yL_does wsL_does rmL_does_6 G σ [.ref (gad G 0), .int 6, .int (nI x), .int y, .int w] (fun r τ => ∃ q9 : Nat, q9 < 4 ∧ r = nI q9 ∧ (rkA σ n x = 0 → q9 ≠ 3) ∧ (3 ≤ rkA σ n x → q9 ≠ 2) ∧ PAll τ g n e9 z d t b j ∧ PGat τ g ∧ τ 24 x = nI q9) 1 6 := by
  refine (d6_ok l hlt G hG hF σ (pcv hA) x y w hx (by rw [hb, hf, hi, decide_eq_true rfl]; rfl)).mono (fun r τ h => ?_)
  obtain ⟨q9, h1, h2, h3, h4⟩ := itA_v (rkA σ n x) (dD (nxA (σ 23 3))) (dD_lt _)
  refine ⟨q9, h1, h.1.trans h2, h3, h4, ?_, ?_, ?_⟩
  · rw [h.2]; exact pu_draw hA h1 h2
  · rw [h.2]; exact hGa
  · rw [h.2, upA_s, pk_us]; exact h2
def rmL_isItem_0 : Room := ({ frames := 10, cells := 3, slots := 20, locals := 169 } : Room)
set_option maxHeartbeats 4000000 in
set_option maxRecDepth 100000 in
theorem kL_isItem_0 (l : Launch) (hlt : l.stackTraces = false) (G : Gx) (hG : gOk G) (hF : Full G) (σ : St) {g n e9 z d t j : Nat} {b : Bool} (hA : PAll σ g n e9 z d t b j) (hGa : PGat σ g) (hj : j < 100) (kk : Nat) (hkk : kk ≤ n)  : CmI l yL_isItem wsL_isItem rmL_isItem_0 G σ [.ref (gad G 0), .ref (gad G 32), .ref (gad G 33), .int (nI kk), .int 0] (fun r σ' => r = 1 ∧ PIn σ' (j + 1)) 3 20 := by
  refine bgM (cc := cL_isItem) (maxL := 10) (ret := (some .boolean)) (own := RL) (by decide) rfl rfl hG (Nat.le_of_ble_eq_true rfl) rfl ?_
  intro p e s m args below meth c ls Bd hl
  obtain ⟨hx, hb, hr, hml, hts, hown, hlocks, fx, hw⟩ := Bd
  have hl : lv_has ls 10 [(0, .ref (gad G 0)), (1, .ref (gad G 32)), (2, .ref (gad G 33)), (3, .int (nI kk)), (4, .int 0)] := hl
  have hg5 := (pg hA).2
  have hn6 := (pn hA).2
  have he8 := (pe hA).2
  rcases (show n ≤ kk ∨ kk < n by omega) with hk | hk <;> rcases Bool.eq_false_or_eq_true b with hbo | hbo
  · skip
    refine lv_iload_n hx hb dL_isItem_0 rfl (lv_at hl 3 rfl) ?_
    refine lv_aload_n hx hb dL_isItem_1 rfl (lv_at hl 2 rfl) ?_
    refine lv_iconst (v := 2) hx hb dL_isItem_2 (by decide) ?_
    refine lv_rep0 (x := 2) (y := nI 2) rfl ?_
    refine rAld hx hb fx hw 33 (hF.1 33 (by decide)) hF.2.1 (fun _ => rfl) 2 rfl (by omega) (by decide) dL_isItem_3 ?_
    refine lv_rep0 (x := (σ 33 2)) (y := (nI n)) (pn hA).1 ?_
    refine lv_icmp_ge (tgt := 11) hx hb dL_isItem_4 (by decide) (fun c_1 => ?_) (fun c_1 => ?_)
    · skip
      have c_1 : n ≤ kk := (nI_leI (by omega) (by omega)).mp c_1
      refine lv_iconst (v := 0) hx hb dL_isItem_11 (by decide) ?_
      refine lv_istore (lv' := [(5, .int 0), (0, .ref (gad G 0)), (1, .ref (gad G 32)), (2, .ref (gad G 33)), (3, .int (nI kk)), (4, .int 0)]) hx hb dL_isItem_12 hl (by decide) rfl (fun ls hl => ?_)
      refine lv_iload hx hb dL_isItem_14 (lv_at hl 0 rfl) ?_
      refine lv_if_eq (tgt := 27) hx hb dL_isItem_16 (by decide) (fun c_2 => ?_) (fun c_2 => ?_)
      · skip
        refine lv_iconst (v := (-1)) hx hb dL_isItem_27 (by decide) ?_
        refine lv_istore (lv' := [(6, .int (-1)), (5, .int 0), (0, .ref (gad G 0)), (1, .ref (gad G 32)), (2, .ref (gad G 33)), (3, .int (nI kk)), (4, .int 0)]) hx hb dL_isItem_28 hl (by decide) rfl (fun ls hl => ?_)
        refine lv_iload hx hb dL_isItem_30 (lv_at hl 1 rfl) ?_
        refine lv_if_eq (tgt := 75) hx hb dL_isItem_32 (by decide) (fun c_3 => ?_) (fun c_3 => ?_)
        · skip
          refine lv_iconst (v := 0) hx hb dL_isItem_75 (by decide) ?_
          refine lv_istore (lv' := [(7, .int 0), (6, .int (-1)), (5, .int 0), (0, .ref (gad G 0)), (1, .ref (gad G 32)), (2, .ref (gad G 33)), (3, .int (nI kk)), (4, .int 0)]) hx hb dL_isItem_76 hl (by decide) rfl (fun ls hl => ?_)
          refine lv_iload hx hb dL_isItem_78 (lv_at hl 0 rfl) ?_
          refine lv_if_eq (tgt := 91) hx hb dL_isItem_80 (by decide) (fun c_4 => ?_) (fun c_4 => ?_)
          · skip
            refine lv_iconst (v := 0) hx hb dL_isItem_91 (by decide) ?_
            refine lv_istore (lv' := [(8, .int 0), (7, .int 0), (6, .int (-1)), (5, .int 0), (0, .ref (gad G 0)), (1, .ref (gad G 32)), (2, .ref (gad G 33)), (3, .int (nI kk)), (4, .int 0)]) hx hb dL_isItem_92 hl (by decide) rfl (fun ls hl => ?_)
            refine lv_aload_n hx hb dL_isItem_94 rfl (lv_at hl 4 rfl) ?_
            refine lv_iload hx hb dL_isItem_95 (lv_at hl 8 rfl) ?_
            refine lv_if_eq (tgt := 105) hx hb dL_isItem_97 (by decide) (fun c_5 => ?_) (fun c_5 => ?_)
            · skip
              refine lv_bipush (v := 6) hx hb dL_isItem_105 (by decide) ?_
              refine lv_iload_n hx hb dL_isItem_107 rfl (lv_at hl 7 rfl) ?_
              refine lv_iconst (v := 0) hx hb dL_isItem_108 (by decide) ?_
              refine lv_iconst (v := 0) hx hb dL_isItem_109 (by decide) ?_
              refine rCallLS (As := [.ref (gad G 0), .int 6, .int (nI kk), .int 0, .int 0]) (rest := []) ⟨hx, hb, hml, hown, hts⟩ fx hw (d6_t1 l hlt G hG hF σ (pcv hA) ((nI kk)) 0 0 (inB_no (by omega) (by omega))) (vx_cwSW 5 hts gL_isItem_L_does rfl rfl rfl (by decide +kernel) ⟨Nat.le_of_ble_eq_true rfl, Nat.le_of_ble_eq_true rfl⟩) rfl hl.1 rfl (Nat.le_of_ble_eq_true rfl) dL_isItem_110 ⟨Nat.le_trans (show _ ≤ 3 by omega) (Nat.le_of_ble_eq_true rfl), Nat.le_trans (show _ ≤ 20 by omega) (Nat.le_of_ble_eq_true rfl)⟩ (fun r_6 σ_7 H locs p_8 hw => ?_)
              obtain ⟨er_6, eσ_7⟩ := p_8
              have er_6 := er_6.symm; subst er_6
              have eσ_7 := eσ_7.symm; subst eσ_7
              refine lv_istore (lv' := [(9, .int (-30)), (8, .int 0), (7, .int 0), (6, .int (-1)), (5, .int 0), (0, .ref (gad G 0)), (1, .ref (gad G 32)), (2, .ref (gad G 33)), (3, .int (nI kk)), (4, .int 0)]) hx hb dL_isItem_113 hl (by decide) rfl (fun ls hl => ?_)
              refine lv_iload hx hb dL_isItem_115 (lv_at hl 2 rfl) ?_
              refine lv_if_ne (tgt := 143) hx hb dL_isItem_117 (by decide) (fun c_9 => ?_) (fun c_9 => ?_)
              · skip
                exact absurd c_9 (by decide)
              · skip
                refine lv_iload hx hb dL_isItem_120 (lv_at hl 0 rfl) ?_
                refine lv_iload hx hb dL_isItem_122 (lv_at hl 4 rfl) ?_
                refine lv_if_eq (tgt := 132) hx hb dL_isItem_124 (by decide) (fun c_10 => ?_) (fun c_10 => ?_)
                · skip
                  refine lv_bipush (v := (-30)) hx hb dL_isItem_132 (by decide) ?_
                  refine lv_icmp_ne (tgt := 141) hx hb dL_isItem_134 (by decide) (fun c_11 => ?_) (fun c_11 => ?_)
                  · skip
                    exact absurd c_11 (by decide)
                  · skip
                    refine lv_iconst (v := 1) hx hb dL_isItem_137 (by decide) ?_
                    refine lv_goto (tgt := 142) hx hb dL_isItem_138 (by decide) ?_
                    exact rRetZw hx hb hr hw (by decide) (by exact ⟨rfl, po_same hA hGa⟩) hlocks dL_isItem_142 (by omega) (by omega)
                · skip
                  exact absurd c_10 (by decide)
            · skip
              exact absurd c_5 (by decide)
          · skip
            exact absurd c_4 (by decide)
        · skip
          exact absurd c_3 (by decide)
      · skip
        exact absurd c_2 (by decide)
    · skip
      have c_1 : ¬ n ≤ kk := fun h9 => c_1 ((nI_leI (by omega) (by omega)).mpr h9)
      omega
  · skip
    refine lv_iload_n hx hb dL_isItem_0 rfl (lv_at hl 3 rfl) ?_
    refine lv_aload_n hx hb dL_isItem_1 rfl (lv_at hl 2 rfl) ?_
    refine lv_iconst (v := 2) hx hb dL_isItem_2 (by decide) ?_
    refine lv_rep0 (x := 2) (y := nI 2) rfl ?_
    refine rAld hx hb fx hw 33 (hF.1 33 (by decide)) hF.2.1 (fun _ => rfl) 2 rfl (by omega) (by decide) dL_isItem_3 ?_
    refine lv_rep0 (x := (σ 33 2)) (y := (nI n)) (pn hA).1 ?_
    refine lv_icmp_ge (tgt := 11) hx hb dL_isItem_4 (by decide) (fun c_12 => ?_) (fun c_12 => ?_)
    · skip
      have c_12 : n ≤ kk := (nI_leI (by omega) (by omega)).mp c_12
      refine lv_iconst (v := 0) hx hb dL_isItem_11 (by decide) ?_
      refine lv_istore (lv' := [(5, .int 0), (0, .ref (gad G 0)), (1, .ref (gad G 32)), (2, .ref (gad G 33)), (3, .int (nI kk)), (4, .int 0)]) hx hb dL_isItem_12 hl (by decide) rfl (fun ls hl => ?_)
      refine lv_iload hx hb dL_isItem_14 (lv_at hl 0 rfl) ?_
      refine lv_if_eq (tgt := 27) hx hb dL_isItem_16 (by decide) (fun c_13 => ?_) (fun c_13 => ?_)
      · skip
        refine lv_iconst (v := (-1)) hx hb dL_isItem_27 (by decide) ?_
        refine lv_istore (lv' := [(6, .int (-1)), (5, .int 0), (0, .ref (gad G 0)), (1, .ref (gad G 32)), (2, .ref (gad G 33)), (3, .int (nI kk)), (4, .int 0)]) hx hb dL_isItem_28 hl (by decide) rfl (fun ls hl => ?_)
        refine lv_iload hx hb dL_isItem_30 (lv_at hl 1 rfl) ?_
        refine lv_if_eq (tgt := 75) hx hb dL_isItem_32 (by decide) (fun c_14 => ?_) (fun c_14 => ?_)
        · skip
          refine lv_iconst (v := 0) hx hb dL_isItem_75 (by decide) ?_
          refine lv_istore (lv' := [(7, .int 0), (6, .int (-1)), (5, .int 0), (0, .ref (gad G 0)), (1, .ref (gad G 32)), (2, .ref (gad G 33)), (3, .int (nI kk)), (4, .int 0)]) hx hb dL_isItem_76 hl (by decide) rfl (fun ls hl => ?_)
          refine lv_iload hx hb dL_isItem_78 (lv_at hl 0 rfl) ?_
          refine lv_if_eq (tgt := 91) hx hb dL_isItem_80 (by decide) (fun c_15 => ?_) (fun c_15 => ?_)
          · skip
            refine lv_iconst (v := 0) hx hb dL_isItem_91 (by decide) ?_
            refine lv_istore (lv' := [(8, .int 0), (7, .int 0), (6, .int (-1)), (5, .int 0), (0, .ref (gad G 0)), (1, .ref (gad G 32)), (2, .ref (gad G 33)), (3, .int (nI kk)), (4, .int 0)]) hx hb dL_isItem_92 hl (by decide) rfl (fun ls hl => ?_)
            refine lv_aload_n hx hb dL_isItem_94 rfl (lv_at hl 4 rfl) ?_
            refine lv_iload hx hb dL_isItem_95 (lv_at hl 8 rfl) ?_
            refine lv_if_eq (tgt := 105) hx hb dL_isItem_97 (by decide) (fun c_16 => ?_) (fun c_16 => ?_)
            · skip
              refine lv_bipush (v := 6) hx hb dL_isItem_105 (by decide) ?_
              refine lv_iload_n hx hb dL_isItem_107 rfl (lv_at hl 7 rfl) ?_
              refine lv_iconst (v := 0) hx hb dL_isItem_108 (by decide) ?_
              refine lv_iconst (v := 0) hx hb dL_isItem_109 (by decide) ?_
              refine rCallLS (As := [.ref (gad G 0), .int 6, .int (nI kk), .int 0, .int 0]) (rest := []) ⟨hx, hb, hml, hown, hts⟩ fx hw (d6_t1 l hlt G hG hF σ (pcv hA) ((nI kk)) 0 0 (inB_no (by omega) (by omega))) (vx_cwSW 5 hts gL_isItem_L_does rfl rfl rfl (by decide +kernel) ⟨Nat.le_of_ble_eq_true rfl, Nat.le_of_ble_eq_true rfl⟩) rfl hl.1 rfl (Nat.le_of_ble_eq_true rfl) dL_isItem_110 ⟨Nat.le_trans (show _ ≤ 3 by omega) (Nat.le_of_ble_eq_true rfl), Nat.le_trans (show _ ≤ 20 by omega) (Nat.le_of_ble_eq_true rfl)⟩ (fun r_17 σ_18 H locs p_19 hw => ?_)
              obtain ⟨er_17, eσ_18⟩ := p_19
              have er_17 := er_17.symm; subst er_17
              have eσ_18 := eσ_18.symm; subst eσ_18
              refine lv_istore (lv' := [(9, .int (-30)), (8, .int 0), (7, .int 0), (6, .int (-1)), (5, .int 0), (0, .ref (gad G 0)), (1, .ref (gad G 32)), (2, .ref (gad G 33)), (3, .int (nI kk)), (4, .int 0)]) hx hb dL_isItem_113 hl (by decide) rfl (fun ls hl => ?_)
              refine lv_iload hx hb dL_isItem_115 (lv_at hl 2 rfl) ?_
              refine lv_if_ne (tgt := 143) hx hb dL_isItem_117 (by decide) (fun c_20 => ?_) (fun c_20 => ?_)
              · skip
                exact absurd c_20 (by decide)
              · skip
                refine lv_iload hx hb dL_isItem_120 (lv_at hl 0 rfl) ?_
                refine lv_iload hx hb dL_isItem_122 (lv_at hl 4 rfl) ?_
                refine lv_if_eq (tgt := 132) hx hb dL_isItem_124 (by decide) (fun c_21 => ?_) (fun c_21 => ?_)
                · skip
                  refine lv_bipush (v := (-30)) hx hb dL_isItem_132 (by decide) ?_
                  refine lv_icmp_ne (tgt := 141) hx hb dL_isItem_134 (by decide) (fun c_22 => ?_) (fun c_22 => ?_)
                  · skip
                    exact absurd c_22 (by decide)
                  · skip
                    refine lv_iconst (v := 1) hx hb dL_isItem_137 (by decide) ?_
                    refine lv_goto (tgt := 142) hx hb dL_isItem_138 (by decide) ?_
                    exact rRetZw hx hb hr hw (by decide) (by exact ⟨rfl, po_same hA hGa⟩) hlocks dL_isItem_142 (by omega) (by omega)
                · skip
                  exact absurd c_21 (by decide)
            · skip
              exact absurd c_16 (by decide)
          · skip
            exact absurd c_15 (by decide)
        · skip
          exact absurd c_14 (by decide)
      · skip
        exact absurd c_13 (by decide)
    · skip
      have c_12 : ¬ n ≤ kk := fun h9 => c_12 ((nI_leI (by omega) (by omega)).mpr h9)
      omega
  · skip
    have hit9 := P24 (prace hA hbo) kk (by omega)
    refine lv_iload_n hx hb dL_isItem_0 rfl (lv_at hl 3 rfl) ?_
    refine lv_aload_n hx hb dL_isItem_1 rfl (lv_at hl 2 rfl) ?_
    refine lv_iconst (v := 2) hx hb dL_isItem_2 (by decide) ?_
    refine lv_rep0 (x := 2) (y := nI 2) rfl ?_
    refine rAld hx hb fx hw 33 (hF.1 33 (by decide)) hF.2.1 (fun _ => rfl) 2 rfl (by omega) (by decide) dL_isItem_3 ?_
    refine lv_rep0 (x := (σ 33 2)) (y := (nI n)) (pn hA).1 ?_
    refine lv_icmp_ge (tgt := 11) hx hb dL_isItem_4 (by decide) (fun c_23 => ?_) (fun c_23 => ?_)
    · skip
      have c_23 : n ≤ kk := (nI_leI (by omega) (by omega)).mp c_23
      omega
    · skip
      have c_23 : ¬ n ≤ kk := fun h9 => c_23 ((nI_leI (by omega) (by omega)).mpr h9)
      refine lv_iconst (v := 1) hx hb dL_isItem_7 (by decide) ?_
      refine lv_goto (tgt := 12) hx hb dL_isItem_8 (by decide) ?_
      refine lv_istore (lv' := [(5, .int 1), (0, .ref (gad G 0)), (1, .ref (gad G 32)), (2, .ref (gad G 33)), (3, .int (nI kk)), (4, .int 0)]) hx hb dL_isItem_12 hl (by decide) rfl (fun ls hl => ?_)
      refine lv_iload hx hb dL_isItem_14 (lv_at hl 0 rfl) ?_
      refine lv_if_eq (tgt := 27) hx hb dL_isItem_16 (by decide) (fun c_24 => ?_) (fun c_24 => ?_)
      · skip
        exact absurd c_24 (by decide)
      · skip
        refine lv_aload_n hx hb dL_isItem_19 rfl (lv_at hl 1 rfl) ?_
        refine lv_iload_n hx hb dL_isItem_20 rfl (lv_at hl 4 rfl) ?_
        refine rCallN (C := RX5) (As := [.int (nI kk)]) (rest := []) ⟨hx, hb, hml, hown, hts⟩ fx hw (n_itemOf1 l hlt G hG hF σ hA hbo kk (by omega)) (cwV 1 hts gL_isItem_X5_itemOf rfl rfl rfl (by decide +kernel) ⟨Nat.le_of_ble_eq_true rfl, Nat.le_of_ble_eq_true rfl⟩) (hF.1 0 (by decide)) rfl rfl rfl rfl hl.1 rfl (Nat.le_of_ble_eq_true rfl) dL_isItem_21 ⟨Nat.le_trans (show _ ≤ 3 by omega) (Nat.le_of_ble_eq_true rfl), Nat.le_trans (show _ ≤ 20 by omega) (Nat.le_of_ble_eq_true rfl)⟩ (fun r_25 σ_26 H locs p_27 hw => ?_)
        obtain ⟨er_25, eσ_26⟩ := p_27
        have er_25 := er_25.symm; subst er_25
        have eσ_26 := eσ_26.symm; subst eσ_26
        refine lv_goto (tgt := 28) hx hb dL_isItem_24 (by decide) ?_
        refine lv_istore (lv' := [(6, .int (σ 24 kk)), (5, .int 1), (0, .ref (gad G 0)), (1, .ref (gad G 32)), (2, .ref (gad G 33)), (3, .int (nI kk)), (4, .int 0)]) hx hb dL_isItem_28 hl (by decide) rfl (fun ls hl => ?_)
        refine lv_iload hx hb dL_isItem_30 (lv_at hl 1 rfl) ?_
        refine lv_if_eq (tgt := 75) hx hb dL_isItem_32 (by decide) (fun c_28 => ?_) (fun c_28 => ?_)
        · skip
          exact absurd c_28 (by decide)
        · skip
          refine lv_aload_n hx hb dL_isItem_35 rfl (lv_at hl 4 rfl) ?_
          refine lv_iconst (v := 3) hx hb dL_isItem_36 (by decide) ?_
          refine lv_rep0 (x := 3) (y := nI 3) rfl ?_
          refine rAld hx hb fx hw 33 (hF.1 33 (by decide)) hF.2.1 (fun _ => rfl) 3 rfl (by omega) (by decide) dL_isItem_37 ?_
          refine lv_rep0 (x := (σ 33 3)) (y := 1) ((pon hA).trans (by rw [hbo]; rfl)) ?_
          refine lv_iconst (v := 1) hx hb dL_isItem_38 (by decide) ?_
          refine lv_icmp_ne (tgt := 75) hx hb dL_isItem_39 (by decide) (fun c_29 => ?_) (fun c_29 => ?_)
          · skip
            exact absurd c_29 (by decide)
          · skip
            refine lv_aload_n hx hb dL_isItem_42 rfl (lv_at hl 3 rfl) ?_
            refine lv_bipush (v := 6) hx hb dL_isItem_43 (by decide) ?_
            refine lv_iload_n hx hb dL_isItem_45 rfl (lv_at hl 5 rfl) ?_
            refine lv_rep1 (x := 6) (y := nI 6) rfl ?_
            refine lv_imul hx hb dL_isItem_46 ?_
            refine lv_rep0 (x := ((nI 6) * (nI kk))) (y := nI (6 * kk)) (pk_mul _ _) ?_
            refine lv_iconst (v := 5) hx hb dL_isItem_47 (by decide) ?_
            refine lv_rep0 (x := 5) (y := nI 5) rfl ?_
            refine lv_iadd hx hb dL_isItem_48 ?_
            refine lv_rep0 (x := ((nI (6 * kk)) + (nI 5))) (y := nI ((6 * kk) + 5)) (nI_add _ _) ?_
            refine rAld hx hb fx hw 32 (hF.1 32 (by decide)) hF.2.1 (fun _ => rfl) ((6 * kk) + 5) rfl (by omega) (by decide) dL_isItem_49 ?_
            refine lv_rep0 (x := (σ 32 ((6 * kk) + 5))) (y := (bI (finB σ 4 kk))) (pfin hA hbo (by omega)) ?_
            refine lv_b_ne (tgt := 75) hx hb dL_isItem_50 (by decide) (fun c_30 => ?_) (fun c_30 => ?_)
            · skip
              refine lv_iconst (v := 0) hx hb dL_isItem_75 (by decide) ?_
              refine lv_istore (lv' := [(7, .int 0), (6, .int (σ 24 kk)), (5, .int 1), (0, .ref (gad G 0)), (1, .ref (gad G 32)), (2, .ref (gad G 33)), (3, .int (nI kk)), (4, .int 0)]) hx hb dL_isItem_76 hl (by decide) rfl (fun ls hl => ?_)
              refine lv_iload hx hb dL_isItem_78 (lv_at hl 0 rfl) ?_
              refine lv_if_eq (tgt := 91) hx hb dL_isItem_80 (by decide) (fun c_31 => ?_) (fun c_31 => ?_)
              · skip
                refine lv_iconst (v := 0) hx hb dL_isItem_91 (by decide) ?_
                refine lv_istore (lv' := [(8, .int 0), (7, .int 0), (6, .int (σ 24 kk)), (5, .int 1), (0, .ref (gad G 0)), (1, .ref (gad G 32)), (2, .ref (gad G 33)), (3, .int (nI kk)), (4, .int 0)]) hx hb dL_isItem_92 hl (by decide) rfl (fun ls hl => ?_)
                refine lv_aload_n hx hb dL_isItem_94 rfl (lv_at hl 4 rfl) ?_
                refine lv_iload hx hb dL_isItem_95 (lv_at hl 8 rfl) ?_
                refine lv_if_eq (tgt := 105) hx hb dL_isItem_97 (by decide) (fun c_32 => ?_) (fun c_32 => ?_)
                · skip
                  refine lv_bipush (v := 6) hx hb dL_isItem_105 (by decide) ?_
                  refine lv_iload_n hx hb dL_isItem_107 rfl (lv_at hl 7 rfl) ?_
                  refine lv_iconst (v := 0) hx hb dL_isItem_108 (by decide) ?_
                  refine lv_iconst (v := 0) hx hb dL_isItem_109 (by decide) ?_
                  refine rCallLS (As := [.ref (gad G 0), .int 6, .int (nI kk), .int 0, .int 0]) (rest := []) ⟨hx, hb, hml, hown, hts⟩ fx hw (d6_t2 l hlt G hG hF σ (pcv hA) ((nI kk)) 0 0 (inB_y (show kk < n by omega) (by omega)) (by rw [ix_nI (by omega)]; exact dr_no (by first | exact Or.inl hbo | exact Or.inr (Or.inl (by assumption)) | exact Or.inr (Or.inr (by assumption))))) (vx_cwSW 5 hts gL_isItem_L_does rfl rfl rfl (by decide +kernel) ⟨Nat.le_of_ble_eq_true rfl, Nat.le_of_ble_eq_true rfl⟩) rfl hl.1 rfl (Nat.le_of_ble_eq_true rfl) dL_isItem_110 ⟨Nat.le_trans (show _ ≤ 3 by omega) (Nat.le_of_ble_eq_true rfl), Nat.le_trans (show _ ≤ 20 by omega) (Nat.le_of_ble_eq_true rfl)⟩ (fun r_33 σ_34 H locs p_35 hw => ?_)
                  obtain ⟨er_33, eσ_34⟩ := p_35
                  have er_33 := er_33.symm; subst er_33
                  have eσ_34 := eσ_34.symm; subst eσ_34
                  refine lv_istore (lv' := [(9, .int (-10)), (8, .int 0), (7, .int 0), (6, .int (σ 24 kk)), (5, .int 1), (0, .ref (gad G 0)), (1, .ref (gad G 32)), (2, .ref (gad G 33)), (3, .int (nI kk)), (4, .int 0)]) hx hb dL_isItem_113 hl (by decide) rfl (fun ls hl => ?_)
                  refine lv_iload hx hb dL_isItem_115 (lv_at hl 2 rfl) ?_
                  refine lv_if_ne (tgt := 143) hx hb dL_isItem_117 (by decide) (fun c_36 => ?_) (fun c_36 => ?_)
                  · skip
                    exact absurd c_36 (by decide)
                  · skip
                    refine lv_iload hx hb dL_isItem_120 (lv_at hl 0 rfl) ?_
                    refine lv_iload hx hb dL_isItem_122 (lv_at hl 4 rfl) ?_
                    refine lv_if_eq (tgt := 132) hx hb dL_isItem_124 (by decide) (fun c_37 => ?_) (fun c_37 => ?_)
                    · skip
                      exact absurd c_37 (by decide)
                    · skip
                      refine lv_bipush (v := (-10)) hx hb dL_isItem_127 (by decide) ?_
                      refine lv_goto (tgt := 134) hx hb dL_isItem_129 (by decide) ?_
                      refine lv_icmp_ne (tgt := 141) hx hb dL_isItem_134 (by decide) (fun c_38 => ?_) (fun c_38 => ?_)
                      · skip
                        exact absurd c_38 (by decide)
                      · skip
                        refine lv_iconst (v := 1) hx hb dL_isItem_137 (by decide) ?_
                        refine lv_goto (tgt := 142) hx hb dL_isItem_138 (by decide) ?_
                        exact rRetZw hx hb hr hw (by decide) (by exact ⟨rfl, po_same hA hGa⟩) hlocks dL_isItem_142 (by omega) (by omega)
                · skip
                  exact absurd c_32 (by decide)
              · skip
                exact absurd c_31 (by decide)
            · skip
              refine lv_iload hx hb dL_isItem_53 (lv_at hl 6 rfl) ?_
              refine lv_if_eq (tgt := 66) hx hb dL_isItem_55 (by decide) (fun c_39 => ?_) (fun c_39 => ?_)
              · skip
                refine lv_iload hx hb dL_isItem_66 (lv_at hl 0 rfl) ?_
                refine lv_if_ge (tgt := 75) hx hb dL_isItem_68 (by decide) (fun c_40 => ?_) (fun c_40 => ?_)
                · skip
                  refine lv_iconst (v := 0) hx hb dL_isItem_75 (by decide) ?_
                  refine lv_istore (lv' := [(7, .int 0), (6, .int (σ 24 kk)), (5, .int 1), (0, .ref (gad G 0)), (1, .ref (gad G 32)), (2, .ref (gad G 33)), (3, .int (nI kk)), (4, .int 0)]) hx hb dL_isItem_76 hl (by decide) rfl (fun ls hl => ?_)
                  refine lv_iload hx hb dL_isItem_78 (lv_at hl 0 rfl) ?_
                  refine lv_if_eq (tgt := 91) hx hb dL_isItem_80 (by decide) (fun c_41 => ?_) (fun c_41 => ?_)
                  · skip
                    refine lv_iconst (v := 0) hx hb dL_isItem_91 (by decide) ?_
                    refine lv_istore (lv' := [(8, .int 0), (7, .int 0), (6, .int (σ 24 kk)), (5, .int 1), (0, .ref (gad G 0)), (1, .ref (gad G 32)), (2, .ref (gad G 33)), (3, .int (nI kk)), (4, .int 0)]) hx hb dL_isItem_92 hl (by decide) rfl (fun ls hl => ?_)
                    refine lv_aload_n hx hb dL_isItem_94 rfl (lv_at hl 4 rfl) ?_
                    refine lv_iload hx hb dL_isItem_95 (lv_at hl 8 rfl) ?_
                    refine lv_if_eq (tgt := 105) hx hb dL_isItem_97 (by decide) (fun c_42 => ?_) (fun c_42 => ?_)
                    · skip
                      refine lv_bipush (v := 6) hx hb dL_isItem_105 (by decide) ?_
                      refine lv_iload_n hx hb dL_isItem_107 rfl (lv_at hl 7 rfl) ?_
                      refine lv_iconst (v := 0) hx hb dL_isItem_108 (by decide) ?_
                      refine lv_iconst (v := 0) hx hb dL_isItem_109 (by decide) ?_
                      refine rCallLS (As := [.ref (gad G 0), .int 6, .int (nI kk), .int 0, .int 0]) (rest := []) ⟨hx, hb, hml, hown, hts⟩ fx hw (d6_t2 l hlt G hG hF σ (pcv hA) ((nI kk)) 0 0 (inB_y (show kk < n by omega) (by omega)) (by rw [ix_nI (by omega)]; exact dr_no (by first | exact Or.inl hbo | exact Or.inr (Or.inl (by assumption)) | exact Or.inr (Or.inr (by assumption))))) (vx_cwSW 5 hts gL_isItem_L_does rfl rfl rfl (by decide +kernel) ⟨Nat.le_of_ble_eq_true rfl, Nat.le_of_ble_eq_true rfl⟩) rfl hl.1 rfl (Nat.le_of_ble_eq_true rfl) dL_isItem_110 ⟨Nat.le_trans (show _ ≤ 3 by omega) (Nat.le_of_ble_eq_true rfl), Nat.le_trans (show _ ≤ 20 by omega) (Nat.le_of_ble_eq_true rfl)⟩ (fun r_43 σ_44 H locs p_45 hw => ?_)
                      obtain ⟨er_43, eσ_44⟩ := p_45
                      have er_43 := er_43.symm; subst er_43
                      have eσ_44 := eσ_44.symm; subst eσ_44
                      refine lv_istore (lv' := [(9, .int (-10)), (8, .int 0), (7, .int 0), (6, .int (σ 24 kk)), (5, .int 1), (0, .ref (gad G 0)), (1, .ref (gad G 32)), (2, .ref (gad G 33)), (3, .int (nI kk)), (4, .int 0)]) hx hb dL_isItem_113 hl (by decide) rfl (fun ls hl => ?_)
                      refine lv_iload hx hb dL_isItem_115 (lv_at hl 2 rfl) ?_
                      refine lv_if_ne (tgt := 143) hx hb dL_isItem_117 (by decide) (fun c_46 => ?_) (fun c_46 => ?_)
                      · skip
                        exact absurd c_46 (by decide)
                      · skip
                        refine lv_iload hx hb dL_isItem_120 (lv_at hl 0 rfl) ?_
                        refine lv_iload hx hb dL_isItem_122 (lv_at hl 4 rfl) ?_
                        refine lv_if_eq (tgt := 132) hx hb dL_isItem_124 (by decide) (fun c_47 => ?_) (fun c_47 => ?_)
                        · skip
                          exact absurd c_47 (by decide)
                        · skip
                          refine lv_bipush (v := (-10)) hx hb dL_isItem_127 (by decide) ?_
                          refine lv_goto (tgt := 134) hx hb dL_isItem_129 (by decide) ?_
                          refine lv_icmp_ne (tgt := 141) hx hb dL_isItem_134 (by decide) (fun c_48 => ?_) (fun c_48 => ?_)
                          · skip
                            exact absurd c_48 (by decide)
                          · skip
                            refine lv_iconst (v := 1) hx hb dL_isItem_137 (by decide) ?_
                            refine lv_goto (tgt := 142) hx hb dL_isItem_138 (by decide) ?_
                            exact rRetZw hx hb hr hw (by decide) (by exact ⟨rfl, po_same hA hGa⟩) hlocks dL_isItem_142 (by omega) (by omega)
                    · skip
                      exact absurd c_42 (by decide)
                  · skip
                    exact absurd c_41 (by decide)
                · skip
                  refine lv_iconst (v := 1) hx hb dL_isItem_71 (by decide) ?_
                  refine lv_goto (tgt := 76) hx hb dL_isItem_72 (by decide) ?_
                  refine lv_istore (lv' := [(7, .int 1), (6, .int (σ 24 kk)), (5, .int 1), (0, .ref (gad G 0)), (1, .ref (gad G 32)), (2, .ref (gad G 33)), (3, .int (nI kk)), (4, .int 0)]) hx hb dL_isItem_76 hl (by decide) rfl (fun ls hl => ?_)
                  refine lv_iload hx hb dL_isItem_78 (lv_at hl 0 rfl) ?_
                  refine lv_if_eq (tgt := 91) hx hb dL_isItem_80 (by decide) (fun c_49 => ?_) (fun c_49 => ?_)
                  · skip
                    exact absurd c_49 (by decide)
                  · skip
                    refine lv_aload_n hx hb dL_isItem_83 rfl (lv_at hl 3 rfl) ?_
                    refine lv_iload_n hx hb dL_isItem_84 rfl (lv_at hl 6 rfl) ?_
                    refine rCallN (C := RX5) (As := [.int (nI kk)]) (rest := []) ⟨hx, hb, hml, hown, hts⟩ fx hw (n_rank l hlt G hG hF σ hA hbo kk (by omega)) (cwV 1 hts gL_isItem_X5_rank rfl rfl rfl (by decide +kernel) ⟨Nat.le_of_ble_eq_true rfl, Nat.le_of_ble_eq_true rfl⟩) (hF.1 0 (by decide)) rfl rfl rfl rfl hl.1 rfl (Nat.le_of_ble_eq_true rfl) dL_isItem_85 ⟨Nat.le_trans (show _ ≤ 3 by omega) (Nat.le_of_ble_eq_true rfl), Nat.le_trans (show _ ≤ 20 by omega) (Nat.le_of_ble_eq_true rfl)⟩ (fun r_50 σ_51 H locs p_52 hw => ?_)
                    obtain ⟨er_50, eσ_51, p_52_0⟩ := p_52
                    have er_50 := er_50.symm; subst er_50
                    have eσ_51 := eσ_51.symm; subst eσ_51
                    refine lv_goto (tgt := 92) hx hb dL_isItem_88 (by decide) ?_
                    refine lv_istore (lv' := [(8, .int (nI (rkA σ n kk))), (7, .int 1), (6, .int (σ 24 kk)), (5, .int 1), (0, .ref (gad G 0)), (1, .ref (gad G 32)), (2, .ref (gad G 33)), (3, .int (nI kk)), (4, .int 0)]) hx hb dL_isItem_92 hl (by decide) rfl (fun ls hl => ?_)
                    refine lv_aload_n hx hb dL_isItem_94 rfl (lv_at hl 4 rfl) ?_
                    refine lv_iload hx hb dL_isItem_95 (lv_at hl 8 rfl) ?_
                    refine lv_if_eq (tgt := 105) hx hb dL_isItem_97 (by decide) (fun c_53 => ?_) (fun c_53 => ?_)
                    · skip
                      refine lv_bipush (v := 6) hx hb dL_isItem_105 (by decide) ?_
                      refine lv_iload_n hx hb dL_isItem_107 rfl (lv_at hl 7 rfl) ?_
                      refine lv_iconst (v := 0) hx hb dL_isItem_108 (by decide) ?_
                      refine lv_iconst (v := 0) hx hb dL_isItem_109 (by decide) ?_
                      refine rCallLS (As := [.ref (gad G 0), .int 6, .int (nI kk), .int 0, .int 0]) (rest := []) ⟨hx, hb, hml, hown, hts⟩ fx hw (n_draw l hlt G hG hF σ hA hGa hbo kk (by omega) (by assumption) (it_m1 hit9 (by assumption)) 0 0) (vx_cwSW 5 hts gL_isItem_L_does rfl rfl rfl (by decide +kernel) ⟨Nat.le_of_ble_eq_true rfl, Nat.le_of_ble_eq_true rfl⟩) rfl hl.1 rfl (Nat.le_of_ble_eq_true rfl) dL_isItem_110 ⟨Nat.le_trans (show _ ≤ 3 by omega) (Nat.le_of_ble_eq_true rfl), Nat.le_trans (show _ ≤ 20 by omega) (Nat.le_of_ble_eq_true rfl)⟩ (fun r_54 σ_55 H locs p_56 hw => ?_)
                      obtain ⟨q9, hq4, hr9, hqa, hqb, hA2, hGa2, hu24⟩ := p_56
                      refine lv_rep0 (x := r_54) (y := nI q9) (by exact hr9) ?_
                      refine lv_istore (lv' := [(9, .int (nI q9)), (8, .int (nI (rkA σ n kk))), (7, .int 1), (6, .int (σ 24 kk)), (5, .int 1), (0, .ref (gad G 0)), (1, .ref (gad G 32)), (2, .ref (gad G 33)), (3, .int (nI kk)), (4, .int 0)]) hx hb dL_isItem_113 hl (by decide) rfl (fun ls hl => ?_)
                      refine lv_iload hx hb dL_isItem_115 (lv_at hl 2 rfl) ?_
                      refine lv_if_ne (tgt := 143) hx hb dL_isItem_117 (by decide) (fun c_57 => ?_) (fun c_57 => ?_)
                      · skip
                        refine lv_iload hx hb dL_isItem_143 (lv_at hl 9 rfl) ?_
                        refine lv_if_ne (tgt := 198) hx hb dL_isItem_145 (by decide) (fun c_58 => ?_) (fun c_58 => ?_)
                        · skip
                          exact absurd c_58 (by decide)
                        · skip
                          refine lv_iload hx hb dL_isItem_148 (lv_at hl 0 rfl) ?_
                          refine lv_if_lt (tgt := 196) hx hb dL_isItem_150 (by decide) (fun c_59 => ?_) (fun c_59 => ?_)
                          · skip
                            exact (n0_ltt (by omega) c_59).elim
                          · skip
                            have c_59 : True := n0_ltf (by omega) c_59
                            refine lv_iload hx hb dL_isItem_153 (lv_at hl 0 rfl) ?_
                            refine lv_iconst (v := 4) hx hb dL_isItem_155 (by decide) ?_
                            refine lv_rep0 (x := 4) (y := nI 4) rfl ?_
                            refine lv_icmp_ge (tgt := 196) hx hb dL_isItem_156 (by decide) (fun c_60 => ?_) (fun c_60 => ?_)
                            · skip
                              have c_60 : 4 ≤ q9 := (nI_leI (by omega) (by omega)).mp c_60
                              omega
                            · skip
                              have c_60 : ¬ 4 ≤ q9 := fun h9 => c_60 ((nI_leI (by omega) (by omega)).mpr h9)
                              refine lv_aload_n hx hb dL_isItem_159 rfl (lv_at hl 5 rfl) ?_
                              refine lv_iload_n hx hb dL_isItem_160 rfl (lv_at hl 8 rfl) ?_
                              refine rCallN (C := RX5) (As := [.int (nI kk)]) (rest := []) ⟨hx, hb, hml, hown, hts⟩ fx hw (n_itemOf1 l hlt G hG hF σ_55 hA2 hbo kk (by omega)) (cwV 1 hts gL_isItem_X5_itemOf rfl rfl rfl (by decide +kernel) ⟨Nat.le_of_ble_eq_true rfl, Nat.le_of_ble_eq_true rfl⟩) (hF.1 0 (by decide)) rfl rfl rfl rfl hl.1 rfl (Nat.le_of_ble_eq_true rfl) dL_isItem_161 ⟨Nat.le_trans (show _ ≤ 3 by omega) (Nat.le_of_ble_eq_true rfl), Nat.le_trans (show _ ≤ 20 by omega) (Nat.le_of_ble_eq_true rfl)⟩ (fun r_61 σ_62 H locs p_63 hw => ?_)
                              obtain ⟨er_61, eσ_62⟩ := p_63
                              have er_61 := er_61.symm; subst er_61
                              have eσ_62 := eσ_62.symm; subst eσ_62
                              refine lv_rep0 (x := (σ_55 24 kk)) (y := nI q9) (by exact hu24) ?_
                              refine lv_iload hx hb dL_isItem_164 (lv_at hl 0 rfl) ?_
                              refine lv_icmp_ne (tgt := 196) hx hb dL_isItem_166 (by decide) (fun c_64 => ?_) (fun c_64 => ?_)
                              · skip
                                exact absurd rfl c_64
                              · skip
                                refine lv_iload hx hb dL_isItem_169 (lv_at hl 1 rfl) ?_
                                refine lv_if_gt (tgt := 180) hx hb dL_isItem_171 (by decide) (fun c_65 => ?_) (fun c_65 => ?_)
                                · skip
                                  have c_65 : 0 < (rkA σ n kk) := n0_gtt (by omega) c_65
                                  refine lv_iload hx hb dL_isItem_180 (lv_at hl 1 rfl) ?_
                                  refine lv_iconst (v := 3) hx hb dL_isItem_182 (by decide) ?_
                                  refine lv_rep0 (x := 3) (y := nI 3) rfl ?_
                                  refine lv_icmp_lt (tgt := 192) hx hb dL_isItem_183 (by decide) (fun c_66 => ?_) (fun c_66 => ?_)
                                  · skip
                                    have c_66 : (rkA σ n kk) < 3 := (nI_ltI (by omega) (by omega)).mp c_66
                                    refine lv_iconst (v := 1) hx hb dL_isItem_192 (by decide) ?_
                                    refine lv_goto (tgt := 197) hx hb dL_isItem_193 (by decide) ?_
                                    exact rRetZw hx hb hr hw (by decide) (by exact ⟨rfl, po_same hA2 hGa2⟩) hlocks dL_isItem_197 (by omega) (by omega)
                                  · skip
                                    have c_66 : ¬ (rkA σ n kk) < 3 := fun h9 => c_66 ((nI_ltI (by omega) (by omega)).mpr h9)
                                    refine lv_iload hx hb dL_isItem_186 (lv_at hl 0 rfl) ?_
                                    refine lv_iconst (v := 2) hx hb dL_isItem_188 (by decide) ?_
                                    refine lv_rep0 (x := 2) (y := nI 2) rfl ?_
                                    refine lv_icmp_eq (tgt := 196) hx hb dL_isItem_189 (by decide) (fun c_67 => ?_) (fun c_67 => ?_)
                                    · skip
                                      have c_67 : q9 = 2 := (nI_eq (by omega) (by omega)).mp c_67
                                      exact absurd c_67 (hqb (by omega))
                                    · skip
                                      have c_67 : ¬ q9 = 2 := fun h9 => c_67 ((nI_eq (by omega) (by omega)).mpr h9)
                                      refine lv_iconst (v := 1) hx hb dL_isItem_192 (by decide) ?_
                                      refine lv_goto (tgt := 197) hx hb dL_isItem_193 (by decide) ?_
                                      exact rRetZw hx hb hr hw (by decide) (by exact ⟨rfl, po_same hA2 hGa2⟩) hlocks dL_isItem_197 (by omega) (by omega)
                                · skip
                                  have c_65 : (rkA σ n kk) = 0 := n0_gtf (by omega) c_65
                                  refine lv_iload hx hb dL_isItem_174 (lv_at hl 0 rfl) ?_
                                  refine lv_iconst (v := 3) hx hb dL_isItem_176 (by decide) ?_
                                  refine lv_rep0 (x := 3) (y := nI 3) rfl ?_
                                  refine lv_icmp_eq (tgt := 196) hx hb dL_isItem_177 (by decide) (fun c_68 => ?_) (fun c_68 => ?_)
                                  · skip
                                    have c_68 : q9 = 3 := (nI_eq (by omega) (by omega)).mp c_68
                                    exact absurd c_68 (hqa (by omega))
                                  · skip
                                    have c_68 : ¬ q9 = 3 := fun h9 => c_68 ((nI_eq (by omega) (by omega)).mpr h9)
                                    refine lv_iload hx hb dL_isItem_180 (lv_at hl 1 rfl) ?_
                                    refine lv_iconst (v := 3) hx hb dL_isItem_182 (by decide) ?_
                                    refine lv_rep0 (x := 3) (y := nI 3) rfl ?_
                                    refine lv_icmp_lt (tgt := 192) hx hb dL_isItem_183 (by decide) (fun c_69 => ?_) (fun c_69 => ?_)
                                    · skip
                                      have c_69 : (rkA σ n kk) < 3 := (nI_ltI (by omega) (by omega)).mp c_69
                                      refine lv_iconst (v := 1) hx hb dL_isItem_192 (by decide) ?_
                                      refine lv_goto (tgt := 197) hx hb dL_isItem_193 (by decide) ?_
                                      exact rRetZw hx hb hr hw (by decide) (by exact ⟨rfl, po_same hA2 hGa2⟩) hlocks dL_isItem_197 (by omega) (by omega)
                                    · skip
                                      have c_69 : ¬ (rkA σ n kk) < 3 := fun h9 => c_69 ((nI_ltI (by omega) (by omega)).mpr h9)
                                      refine lv_iload hx hb dL_isItem_186 (lv_at hl 0 rfl) ?_
                                      refine lv_iconst (v := 2) hx hb dL_isItem_188 (by decide) ?_
                                      refine lv_rep0 (x := 2) (y := nI 2) rfl ?_
                                      refine lv_icmp_eq (tgt := 196) hx hb dL_isItem_189 (by decide) (fun c_70 => ?_) (fun c_70 => ?_)
                                      · skip
                                        have c_70 : q9 = 2 := (nI_eq (by omega) (by omega)).mp c_70
                                        exact absurd c_70 (hqb (by omega))
                                      · skip
                                        have c_70 : ¬ q9 = 2 := fun h9 => c_70 ((nI_eq (by omega) (by omega)).mpr h9)
                                        refine lv_iconst (v := 1) hx hb dL_isItem_192 (by decide) ?_
                                        refine lv_goto (tgt := 197) hx hb dL_isItem_193 (by decide) ?_
                                        exact rRetZw hx hb hr hw (by decide) (by exact ⟨rfl, po_same hA2 hGa2⟩) hlocks dL_isItem_197 (by omega) (by omega)
                      · skip
                        exact absurd c_57 (by decide)
                    · skip
                      exact absurd c_53 (by decide)
              · skip
                exact absurd c_39 (by decide)
  · skip
    refine lv_iload_n hx hb dL_isItem_0 rfl (lv_at hl 3 rfl) ?_
    refine lv_aload_n hx hb dL_isItem_1 rfl (lv_at hl 2 rfl) ?_
    refine lv_iconst (v := 2) hx hb dL_isItem_2 (by decide) ?_
    refine lv_rep0 (x := 2) (y := nI 2) rfl ?_
    refine rAld hx hb fx hw 33 (hF.1 33 (by decide)) hF.2.1 (fun _ => rfl) 2 rfl (by omega) (by decide) dL_isItem_3 ?_
    refine lv_rep0 (x := (σ 33 2)) (y := (nI n)) (pn hA).1 ?_
    refine lv_icmp_ge (tgt := 11) hx hb dL_isItem_4 (by decide) (fun c_71 => ?_) (fun c_71 => ?_)
    · skip
      have c_71 : n ≤ kk := (nI_leI (by omega) (by omega)).mp c_71
      omega
    · skip
      have c_71 : ¬ n ≤ kk := fun h9 => c_71 ((nI_leI (by omega) (by omega)).mpr h9)
      refine lv_iconst (v := 1) hx hb dL_isItem_7 (by decide) ?_
      refine lv_goto (tgt := 12) hx hb dL_isItem_8 (by decide) ?_
      refine lv_istore (lv' := [(5, .int 1), (0, .ref (gad G 0)), (1, .ref (gad G 32)), (2, .ref (gad G 33)), (3, .int (nI kk)), (4, .int 0)]) hx hb dL_isItem_12 hl (by decide) rfl (fun ls hl => ?_)
      refine lv_iload hx hb dL_isItem_14 (lv_at hl 0 rfl) ?_
      refine lv_if_eq (tgt := 27) hx hb dL_isItem_16 (by decide) (fun c_72 => ?_) (fun c_72 => ?_)
      · skip
        exact absurd c_72 (by decide)
      · skip
        refine lv_aload_n hx hb dL_isItem_19 rfl (lv_at hl 1 rfl) ?_
        refine lv_iload_n hx hb dL_isItem_20 rfl (lv_at hl 4 rfl) ?_
        refine rCallN (C := RX5) (As := [.int (nI kk)]) (rest := []) ⟨hx, hb, hml, hown, hts⟩ fx hw (n_itemOf0 l hlt G hG hF σ hA hbo kk (by omega)) (cwV 1 hts gL_isItem_X5_itemOf rfl rfl rfl (by decide +kernel) ⟨Nat.le_of_ble_eq_true rfl, Nat.le_of_ble_eq_true rfl⟩) (hF.1 0 (by decide)) rfl rfl rfl rfl hl.1 rfl (Nat.le_of_ble_eq_true rfl) dL_isItem_21 ⟨Nat.le_trans (show _ ≤ 3 by omega) (Nat.le_of_ble_eq_true rfl), Nat.le_trans (show _ ≤ 20 by omega) (Nat.le_of_ble_eq_true rfl)⟩ (fun r_73 σ_74 H locs p_75 hw => ?_)
        obtain ⟨er_73, eσ_74⟩ := p_75
        have er_73 := er_73.symm; subst er_73
        have eσ_74 := eσ_74.symm; subst eσ_74
        refine lv_goto (tgt := 28) hx hb dL_isItem_24 (by decide) ?_
        refine lv_istore (lv' := [(6, .int (-1)), (5, .int 1), (0, .ref (gad G 0)), (1, .ref (gad G 32)), (2, .ref (gad G 33)), (3, .int (nI kk)), (4, .int 0)]) hx hb dL_isItem_28 hl (by decide) rfl (fun ls hl => ?_)
        refine lv_iload hx hb dL_isItem_30 (lv_at hl 1 rfl) ?_
        refine lv_if_eq (tgt := 75) hx hb dL_isItem_32 (by decide) (fun c_76 => ?_) (fun c_76 => ?_)
        · skip
          exact absurd c_76 (by decide)
        · skip
          refine lv_aload_n hx hb dL_isItem_35 rfl (lv_at hl 4 rfl) ?_
          refine lv_iconst (v := 3) hx hb dL_isItem_36 (by decide) ?_
          refine lv_rep0 (x := 3) (y := nI 3) rfl ?_
          refine rAld hx hb fx hw 33 (hF.1 33 (by decide)) hF.2.1 (fun _ => rfl) 3 rfl (by omega) (by decide) dL_isItem_37 ?_
          refine lv_rep0 (x := (σ 33 3)) (y := 0) ((pon hA).trans (by rw [hbo]; rfl)) ?_
          refine lv_iconst (v := 1) hx hb dL_isItem_38 (by decide) ?_
          refine lv_icmp_ne (tgt := 75) hx hb dL_isItem_39 (by decide) (fun c_77 => ?_) (fun c_77 => ?_)
          · skip
            refine lv_iconst (v := 0) hx hb dL_isItem_75 (by decide) ?_
            refine lv_istore (lv' := [(7, .int 0), (6, .int (-1)), (5, .int 1), (0, .ref (gad G 0)), (1, .ref (gad G 32)), (2, .ref (gad G 33)), (3, .int (nI kk)), (4, .int 0)]) hx hb dL_isItem_76 hl (by decide) rfl (fun ls hl => ?_)
            refine lv_iload hx hb dL_isItem_78 (lv_at hl 0 rfl) ?_
            refine lv_if_eq (tgt := 91) hx hb dL_isItem_80 (by decide) (fun c_78 => ?_) (fun c_78 => ?_)
            · skip
              refine lv_iconst (v := 0) hx hb dL_isItem_91 (by decide) ?_
              refine lv_istore (lv' := [(8, .int 0), (7, .int 0), (6, .int (-1)), (5, .int 1), (0, .ref (gad G 0)), (1, .ref (gad G 32)), (2, .ref (gad G 33)), (3, .int (nI kk)), (4, .int 0)]) hx hb dL_isItem_92 hl (by decide) rfl (fun ls hl => ?_)
              refine lv_aload_n hx hb dL_isItem_94 rfl (lv_at hl 4 rfl) ?_
              refine lv_iload hx hb dL_isItem_95 (lv_at hl 8 rfl) ?_
              refine lv_if_eq (tgt := 105) hx hb dL_isItem_97 (by decide) (fun c_79 => ?_) (fun c_79 => ?_)
              · skip
                refine lv_bipush (v := 6) hx hb dL_isItem_105 (by decide) ?_
                refine lv_iload_n hx hb dL_isItem_107 rfl (lv_at hl 7 rfl) ?_
                refine lv_iconst (v := 0) hx hb dL_isItem_108 (by decide) ?_
                refine lv_iconst (v := 0) hx hb dL_isItem_109 (by decide) ?_
                refine rCallLS (As := [.ref (gad G 0), .int 6, .int (nI kk), .int 0, .int 0]) (rest := []) ⟨hx, hb, hml, hown, hts⟩ fx hw (d6_t2 l hlt G hG hF σ (pcv hA) ((nI kk)) 0 0 (inB_y (show kk < n by omega) (by omega)) (by rw [ix_nI (by omega)]; exact dr_no (by first | exact Or.inl hbo | exact Or.inr (Or.inl (by assumption)) | exact Or.inr (Or.inr (by assumption))))) (vx_cwSW 5 hts gL_isItem_L_does rfl rfl rfl (by decide +kernel) ⟨Nat.le_of_ble_eq_true rfl, Nat.le_of_ble_eq_true rfl⟩) rfl hl.1 rfl (Nat.le_of_ble_eq_true rfl) dL_isItem_110 ⟨Nat.le_trans (show _ ≤ 3 by omega) (Nat.le_of_ble_eq_true rfl), Nat.le_trans (show _ ≤ 20 by omega) (Nat.le_of_ble_eq_true rfl)⟩ (fun r_80 σ_81 H locs p_82 hw => ?_)
                obtain ⟨er_80, eσ_81⟩ := p_82
                have er_80 := er_80.symm; subst er_80
                have eσ_81 := eσ_81.symm; subst eσ_81
                refine lv_istore (lv' := [(9, .int (-10)), (8, .int 0), (7, .int 0), (6, .int (-1)), (5, .int 1), (0, .ref (gad G 0)), (1, .ref (gad G 32)), (2, .ref (gad G 33)), (3, .int (nI kk)), (4, .int 0)]) hx hb dL_isItem_113 hl (by decide) rfl (fun ls hl => ?_)
                refine lv_iload hx hb dL_isItem_115 (lv_at hl 2 rfl) ?_
                refine lv_if_ne (tgt := 143) hx hb dL_isItem_117 (by decide) (fun c_83 => ?_) (fun c_83 => ?_)
                · skip
                  exact absurd c_83 (by decide)
                · skip
                  refine lv_iload hx hb dL_isItem_120 (lv_at hl 0 rfl) ?_
                  refine lv_iload hx hb dL_isItem_122 (lv_at hl 4 rfl) ?_
                  refine lv_if_eq (tgt := 132) hx hb dL_isItem_124 (by decide) (fun c_84 => ?_) (fun c_84 => ?_)
                  · skip
                    exact absurd c_84 (by decide)
                  · skip
                    refine lv_bipush (v := (-10)) hx hb dL_isItem_127 (by decide) ?_
                    refine lv_goto (tgt := 134) hx hb dL_isItem_129 (by decide) ?_
                    refine lv_icmp_ne (tgt := 141) hx hb dL_isItem_134 (by decide) (fun c_85 => ?_) (fun c_85 => ?_)
                    · skip
                      exact absurd c_85 (by decide)
                    · skip
                      refine lv_iconst (v := 1) hx hb dL_isItem_137 (by decide) ?_
                      refine lv_goto (tgt := 142) hx hb dL_isItem_138 (by decide) ?_
                      exact rRetZw hx hb hr hw (by decide) (by exact ⟨rfl, po_same hA hGa⟩) hlocks dL_isItem_142 (by omega) (by omega)
              · skip
                exact absurd c_79 (by decide)
            · skip
              exact absurd c_78 (by decide)
          · skip
            exact absurd c_77 (by decide)

def rmL_isItem_1 : Room := ({ frames := 10, cells := 3, slots := 20, locals := 171 } : Room)
set_option maxHeartbeats 4000000 in
set_option maxRecDepth 100000 in
theorem kL_isItem_1 (l : Launch) (hlt : l.stackTraces = false) (G : Gx) (hG : gOk G) (hF : Full G) (σ : St) {g n e9 z d t j : Nat} {b : Bool} (hA : PAll σ g n e9 z d t b j) (hGa : PGat σ g) (hj : j < 100) (kk : Nat) (hkk : kk ≤ n)  : CmI l yL_isItem wsL_isItem rmL_isItem_1 G σ [.ref (gad G 0), .ref (gad G 32), .ref (gad G 33), .int (nI kk), .int 1] (fun r σ' => r = 1 ∧ PIn σ' (j + 1)) 3 20 := by
  refine bgM (cc := cL_isItem) (maxL := 10) (ret := (some .boolean)) (own := RL) (by decide) rfl rfl hG (Nat.le_of_ble_eq_true rfl) rfl ?_
  intro p e s m args below meth c ls Bd hl
  obtain ⟨hx, hb, hr, hml, hts, hown, hlocks, fx, hw⟩ := Bd
  have hl : lv_has ls 10 [(0, .ref (gad G 0)), (1, .ref (gad G 32)), (2, .ref (gad G 33)), (3, .int (nI kk)), (4, .int 1)] := hl
  have hg5 := (pg hA).2
  have hn6 := (pn hA).2
  have he8 := (pe hA).2
  rcases (show n ≤ kk ∨ kk < n by omega) with hk | hk <;> rcases Bool.eq_false_or_eq_true b with hbo | hbo
  · skip
    refine lv_iload_n hx hb dL_isItem_0 rfl (lv_at hl 3 rfl) ?_
    refine lv_aload_n hx hb dL_isItem_1 rfl (lv_at hl 2 rfl) ?_
    refine lv_iconst (v := 2) hx hb dL_isItem_2 (by decide) ?_
    refine lv_rep0 (x := 2) (y := nI 2) rfl ?_
    refine rAld hx hb fx hw 33 (hF.1 33 (by decide)) hF.2.1 (fun _ => rfl) 2 rfl (by omega) (by decide) dL_isItem_3 ?_
    refine lv_rep0 (x := (σ 33 2)) (y := (nI n)) (pn hA).1 ?_
    refine lv_icmp_ge (tgt := 11) hx hb dL_isItem_4 (by decide) (fun c_1 => ?_) (fun c_1 => ?_)
    · skip
      have c_1 : n ≤ kk := (nI_leI (by omega) (by omega)).mp c_1
      refine lv_iconst (v := 0) hx hb dL_isItem_11 (by decide) ?_
      refine lv_istore (lv' := [(5, .int 0), (0, .ref (gad G 0)), (1, .ref (gad G 32)), (2, .ref (gad G 33)), (3, .int (nI kk)), (4, .int 1)]) hx hb dL_isItem_12 hl (by decide) rfl (fun ls hl => ?_)
      refine lv_iload hx hb dL_isItem_14 (lv_at hl 0 rfl) ?_
      refine lv_if_eq (tgt := 27) hx hb dL_isItem_16 (by decide) (fun c_2 => ?_) (fun c_2 => ?_)
      · skip
        refine lv_iconst (v := (-1)) hx hb dL_isItem_27 (by decide) ?_
        refine lv_istore (lv' := [(6, .int (-1)), (5, .int 0), (0, .ref (gad G 0)), (1, .ref (gad G 32)), (2, .ref (gad G 33)), (3, .int (nI kk)), (4, .int 1)]) hx hb dL_isItem_28 hl (by decide) rfl (fun ls hl => ?_)
        refine lv_iload hx hb dL_isItem_30 (lv_at hl 1 rfl) ?_
        refine lv_if_eq (tgt := 75) hx hb dL_isItem_32 (by decide) (fun c_3 => ?_) (fun c_3 => ?_)
        · skip
          refine lv_iconst (v := 0) hx hb dL_isItem_75 (by decide) ?_
          refine lv_istore (lv' := [(7, .int 0), (6, .int (-1)), (5, .int 0), (0, .ref (gad G 0)), (1, .ref (gad G 32)), (2, .ref (gad G 33)), (3, .int (nI kk)), (4, .int 1)]) hx hb dL_isItem_76 hl (by decide) rfl (fun ls hl => ?_)
          refine lv_iload hx hb dL_isItem_78 (lv_at hl 0 rfl) ?_
          refine lv_if_eq (tgt := 91) hx hb dL_isItem_80 (by decide) (fun c_4 => ?_) (fun c_4 => ?_)
          · skip
            refine lv_iconst (v := 0) hx hb dL_isItem_91 (by decide) ?_
            refine lv_istore (lv' := [(8, .int 0), (7, .int 0), (6, .int (-1)), (5, .int 0), (0, .ref (gad G 0)), (1, .ref (gad G 32)), (2, .ref (gad G 33)), (3, .int (nI kk)), (4, .int 1)]) hx hb dL_isItem_92 hl (by decide) rfl (fun ls hl => ?_)
            refine lv_aload_n hx hb dL_isItem_94 rfl (lv_at hl 4 rfl) ?_
            refine lv_iload hx hb dL_isItem_95 (lv_at hl 8 rfl) ?_
            refine lv_if_eq (tgt := 105) hx hb dL_isItem_97 (by decide) (fun c_5 => ?_) (fun c_5 => ?_)
            · skip
              exact absurd c_5 (by decide)
            · skip
              refine lv_bipush (v := 7) hx hb dL_isItem_100 (by decide) ?_
              refine lv_goto (tgt := 107) hx hb dL_isItem_102 (by decide) ?_
              refine lv_iload_n hx hb dL_isItem_107 rfl (lv_at hl 7 rfl) ?_
              refine lv_iconst (v := 0) hx hb dL_isItem_108 (by decide) ?_
              refine lv_iconst (v := 0) hx hb dL_isItem_109 (by decide) ?_
              refine rCallLS (As := [.ref (gad G 0), .int 7, .int (nI kk), .int 0, .int 0]) (rest := []) ⟨hx, hb, hml, hown, hts⟩ fx hw (d7_t1 l hlt G hG hF σ (pcv hA) ((nI kk)) 0 0 (inB_no (by omega) (by omega))) (vx_cwSW 5 hts gL_isItem_L_does rfl rfl rfl (by decide +kernel) ⟨Nat.le_of_ble_eq_true rfl, Nat.le_of_ble_eq_true rfl⟩) rfl hl.1 rfl (Nat.le_of_ble_eq_true rfl) dL_isItem_110 ⟨Nat.le_trans (show _ ≤ 3 by omega) (Nat.le_of_ble_eq_true rfl), Nat.le_trans (show _ ≤ 20 by omega) (Nat.le_of_ble_eq_true rfl)⟩ (fun r_6 σ_7 H locs p_8 hw => ?_)
              obtain ⟨er_6, eσ_7⟩ := p_8
              have er_6 := er_6.symm; subst er_6
              have eσ_7 := eσ_7.symm; subst eσ_7
              refine lv_istore (lv' := [(9, .int (-30)), (8, .int 0), (7, .int 0), (6, .int (-1)), (5, .int 0), (0, .ref (gad G 0)), (1, .ref (gad G 32)), (2, .ref (gad G 33)), (3, .int (nI kk)), (4, .int 1)]) hx hb dL_isItem_113 hl (by decide) rfl (fun ls hl => ?_)
              refine lv_iload hx hb dL_isItem_115 (lv_at hl 2 rfl) ?_
              refine lv_if_ne (tgt := 143) hx hb dL_isItem_117 (by decide) (fun c_9 => ?_) (fun c_9 => ?_)
              · skip
                exact absurd c_9 (by decide)
              · skip
                refine lv_iload hx hb dL_isItem_120 (lv_at hl 0 rfl) ?_
                refine lv_iload hx hb dL_isItem_122 (lv_at hl 4 rfl) ?_
                refine lv_if_eq (tgt := 132) hx hb dL_isItem_124 (by decide) (fun c_10 => ?_) (fun c_10 => ?_)
                · skip
                  refine lv_bipush (v := (-30)) hx hb dL_isItem_132 (by decide) ?_
                  refine lv_icmp_ne (tgt := 141) hx hb dL_isItem_134 (by decide) (fun c_11 => ?_) (fun c_11 => ?_)
                  · skip
                    exact absurd c_11 (by decide)
                  · skip
                    refine lv_iconst (v := 1) hx hb dL_isItem_137 (by decide) ?_
                    refine lv_goto (tgt := 142) hx hb dL_isItem_138 (by decide) ?_
                    exact rRetZw hx hb hr hw (by decide) (by exact ⟨rfl, po_same hA hGa⟩) hlocks dL_isItem_142 (by omega) (by omega)
                · skip
                  exact absurd c_10 (by decide)
          · skip
            exact absurd c_4 (by decide)
        · skip
          exact absurd c_3 (by decide)
      · skip
        exact absurd c_2 (by decide)
    · skip
      have c_1 : ¬ n ≤ kk := fun h9 => c_1 ((nI_leI (by omega) (by omega)).mpr h9)
      omega
  · skip
    refine lv_iload_n hx hb dL_isItem_0 rfl (lv_at hl 3 rfl) ?_
    refine lv_aload_n hx hb dL_isItem_1 rfl (lv_at hl 2 rfl) ?_
    refine lv_iconst (v := 2) hx hb dL_isItem_2 (by decide) ?_
    refine lv_rep0 (x := 2) (y := nI 2) rfl ?_
    refine rAld hx hb fx hw 33 (hF.1 33 (by decide)) hF.2.1 (fun _ => rfl) 2 rfl (by omega) (by decide) dL_isItem_3 ?_
    refine lv_rep0 (x := (σ 33 2)) (y := (nI n)) (pn hA).1 ?_
    refine lv_icmp_ge (tgt := 11) hx hb dL_isItem_4 (by decide) (fun c_12 => ?_) (fun c_12 => ?_)
    · skip
      have c_12 : n ≤ kk := (nI_leI (by omega) (by omega)).mp c_12
      refine lv_iconst (v := 0) hx hb dL_isItem_11 (by decide) ?_
      refine lv_istore (lv' := [(5, .int 0), (0, .ref (gad G 0)), (1, .ref (gad G 32)), (2, .ref (gad G 33)), (3, .int (nI kk)), (4, .int 1)]) hx hb dL_isItem_12 hl (by decide) rfl (fun ls hl => ?_)
      refine lv_iload hx hb dL_isItem_14 (lv_at hl 0 rfl) ?_
      refine lv_if_eq (tgt := 27) hx hb dL_isItem_16 (by decide) (fun c_13 => ?_) (fun c_13 => ?_)
      · skip
        refine lv_iconst (v := (-1)) hx hb dL_isItem_27 (by decide) ?_
        refine lv_istore (lv' := [(6, .int (-1)), (5, .int 0), (0, .ref (gad G 0)), (1, .ref (gad G 32)), (2, .ref (gad G 33)), (3, .int (nI kk)), (4, .int 1)]) hx hb dL_isItem_28 hl (by decide) rfl (fun ls hl => ?_)
        refine lv_iload hx hb dL_isItem_30 (lv_at hl 1 rfl) ?_
        refine lv_if_eq (tgt := 75) hx hb dL_isItem_32 (by decide) (fun c_14 => ?_) (fun c_14 => ?_)
        · skip
          refine lv_iconst (v := 0) hx hb dL_isItem_75 (by decide) ?_
          refine lv_istore (lv' := [(7, .int 0), (6, .int (-1)), (5, .int 0), (0, .ref (gad G 0)), (1, .ref (gad G 32)), (2, .ref (gad G 33)), (3, .int (nI kk)), (4, .int 1)]) hx hb dL_isItem_76 hl (by decide) rfl (fun ls hl => ?_)
          refine lv_iload hx hb dL_isItem_78 (lv_at hl 0 rfl) ?_
          refine lv_if_eq (tgt := 91) hx hb dL_isItem_80 (by decide) (fun c_15 => ?_) (fun c_15 => ?_)
          · skip
            refine lv_iconst (v := 0) hx hb dL_isItem_91 (by decide) ?_
            refine lv_istore (lv' := [(8, .int 0), (7, .int 0), (6, .int (-1)), (5, .int 0), (0, .ref (gad G 0)), (1, .ref (gad G 32)), (2, .ref (gad G 33)), (3, .int (nI kk)), (4, .int 1)]) hx hb dL_isItem_92 hl (by decide) rfl (fun ls hl => ?_)
            refine lv_aload_n hx hb dL_isItem_94 rfl (lv_at hl 4 rfl) ?_
            refine lv_iload hx hb dL_isItem_95 (lv_at hl 8 rfl) ?_
            refine lv_if_eq (tgt := 105) hx hb dL_isItem_97 (by decide) (fun c_16 => ?_) (fun c_16 => ?_)
            · skip
              exact absurd c_16 (by decide)
            · skip
              refine lv_bipush (v := 7) hx hb dL_isItem_100 (by decide) ?_
              refine lv_goto (tgt := 107) hx hb dL_isItem_102 (by decide) ?_
              refine lv_iload_n hx hb dL_isItem_107 rfl (lv_at hl 7 rfl) ?_
              refine lv_iconst (v := 0) hx hb dL_isItem_108 (by decide) ?_
              refine lv_iconst (v := 0) hx hb dL_isItem_109 (by decide) ?_
              refine rCallLS (As := [.ref (gad G 0), .int 7, .int (nI kk), .int 0, .int 0]) (rest := []) ⟨hx, hb, hml, hown, hts⟩ fx hw (d7_t1 l hlt G hG hF σ (pcv hA) ((nI kk)) 0 0 (inB_no (by omega) (by omega))) (vx_cwSW 5 hts gL_isItem_L_does rfl rfl rfl (by decide +kernel) ⟨Nat.le_of_ble_eq_true rfl, Nat.le_of_ble_eq_true rfl⟩) rfl hl.1 rfl (Nat.le_of_ble_eq_true rfl) dL_isItem_110 ⟨Nat.le_trans (show _ ≤ 3 by omega) (Nat.le_of_ble_eq_true rfl), Nat.le_trans (show _ ≤ 20 by omega) (Nat.le_of_ble_eq_true rfl)⟩ (fun r_17 σ_18 H locs p_19 hw => ?_)
              obtain ⟨er_17, eσ_18⟩ := p_19
              have er_17 := er_17.symm; subst er_17
              have eσ_18 := eσ_18.symm; subst eσ_18
              refine lv_istore (lv' := [(9, .int (-30)), (8, .int 0), (7, .int 0), (6, .int (-1)), (5, .int 0), (0, .ref (gad G 0)), (1, .ref (gad G 32)), (2, .ref (gad G 33)), (3, .int (nI kk)), (4, .int 1)]) hx hb dL_isItem_113 hl (by decide) rfl (fun ls hl => ?_)
              refine lv_iload hx hb dL_isItem_115 (lv_at hl 2 rfl) ?_
              refine lv_if_ne (tgt := 143) hx hb dL_isItem_117 (by decide) (fun c_20 => ?_) (fun c_20 => ?_)
              · skip
                exact absurd c_20 (by decide)
              · skip
                refine lv_iload hx hb dL_isItem_120 (lv_at hl 0 rfl) ?_
                refine lv_iload hx hb dL_isItem_122 (lv_at hl 4 rfl) ?_
                refine lv_if_eq (tgt := 132) hx hb dL_isItem_124 (by decide) (fun c_21 => ?_) (fun c_21 => ?_)
                · skip
                  refine lv_bipush (v := (-30)) hx hb dL_isItem_132 (by decide) ?_
                  refine lv_icmp_ne (tgt := 141) hx hb dL_isItem_134 (by decide) (fun c_22 => ?_) (fun c_22 => ?_)
                  · skip
                    exact absurd c_22 (by decide)
                  · skip
                    refine lv_iconst (v := 1) hx hb dL_isItem_137 (by decide) ?_
                    refine lv_goto (tgt := 142) hx hb dL_isItem_138 (by decide) ?_
                    exact rRetZw hx hb hr hw (by decide) (by exact ⟨rfl, po_same hA hGa⟩) hlocks dL_isItem_142 (by omega) (by omega)
                · skip
                  exact absurd c_21 (by decide)
          · skip
            exact absurd c_15 (by decide)
        · skip
          exact absurd c_14 (by decide)
      · skip
        exact absurd c_13 (by decide)
    · skip
      have c_12 : ¬ n ≤ kk := fun h9 => c_12 ((nI_leI (by omega) (by omega)).mpr h9)
      omega
  · skip
    have hit9 := P24 (prace hA hbo) kk (by omega)
    refine lv_iload_n hx hb dL_isItem_0 rfl (lv_at hl 3 rfl) ?_
    refine lv_aload_n hx hb dL_isItem_1 rfl (lv_at hl 2 rfl) ?_
    refine lv_iconst (v := 2) hx hb dL_isItem_2 (by decide) ?_
    refine lv_rep0 (x := 2) (y := nI 2) rfl ?_
    refine rAld hx hb fx hw 33 (hF.1 33 (by decide)) hF.2.1 (fun _ => rfl) 2 rfl (by omega) (by decide) dL_isItem_3 ?_
    refine lv_rep0 (x := (σ 33 2)) (y := (nI n)) (pn hA).1 ?_
    refine lv_icmp_ge (tgt := 11) hx hb dL_isItem_4 (by decide) (fun c_23 => ?_) (fun c_23 => ?_)
    · skip
      have c_23 : n ≤ kk := (nI_leI (by omega) (by omega)).mp c_23
      omega
    · skip
      have c_23 : ¬ n ≤ kk := fun h9 => c_23 ((nI_leI (by omega) (by omega)).mpr h9)
      refine lv_iconst (v := 1) hx hb dL_isItem_7 (by decide) ?_
      refine lv_goto (tgt := 12) hx hb dL_isItem_8 (by decide) ?_
      refine lv_istore (lv' := [(5, .int 1), (0, .ref (gad G 0)), (1, .ref (gad G 32)), (2, .ref (gad G 33)), (3, .int (nI kk)), (4, .int 1)]) hx hb dL_isItem_12 hl (by decide) rfl (fun ls hl => ?_)
      refine lv_iload hx hb dL_isItem_14 (lv_at hl 0 rfl) ?_
      refine lv_if_eq (tgt := 27) hx hb dL_isItem_16 (by decide) (fun c_24 => ?_) (fun c_24 => ?_)
      · skip
        exact absurd c_24 (by decide)
      · skip
        refine lv_aload_n hx hb dL_isItem_19 rfl (lv_at hl 1 rfl) ?_
        refine lv_iload_n hx hb dL_isItem_20 rfl (lv_at hl 4 rfl) ?_
        refine rCallN (C := RX5) (As := [.int (nI kk)]) (rest := []) ⟨hx, hb, hml, hown, hts⟩ fx hw (n_itemOf1 l hlt G hG hF σ hA hbo kk (by omega)) (cwV 1 hts gL_isItem_X5_itemOf rfl rfl rfl (by decide +kernel) ⟨Nat.le_of_ble_eq_true rfl, Nat.le_of_ble_eq_true rfl⟩) (hF.1 0 (by decide)) rfl rfl rfl rfl hl.1 rfl (Nat.le_of_ble_eq_true rfl) dL_isItem_21 ⟨Nat.le_trans (show _ ≤ 3 by omega) (Nat.le_of_ble_eq_true rfl), Nat.le_trans (show _ ≤ 20 by omega) (Nat.le_of_ble_eq_true rfl)⟩ (fun r_25 σ_26 H locs p_27 hw => ?_)
        obtain ⟨er_25, eσ_26⟩ := p_27
        have er_25 := er_25.symm; subst er_25
        have eσ_26 := eσ_26.symm; subst eσ_26
        refine lv_goto (tgt := 28) hx hb dL_isItem_24 (by decide) ?_
        refine lv_istore (lv' := [(6, .int (σ 24 kk)), (5, .int 1), (0, .ref (gad G 0)), (1, .ref (gad G 32)), (2, .ref (gad G 33)), (3, .int (nI kk)), (4, .int 1)]) hx hb dL_isItem_28 hl (by decide) rfl (fun ls hl => ?_)
        refine lv_iload hx hb dL_isItem_30 (lv_at hl 1 rfl) ?_
        refine lv_if_eq (tgt := 75) hx hb dL_isItem_32 (by decide) (fun c_28 => ?_) (fun c_28 => ?_)
        · skip
          exact absurd c_28 (by decide)
        · skip
          refine lv_aload_n hx hb dL_isItem_35 rfl (lv_at hl 4 rfl) ?_
          refine lv_iconst (v := 3) hx hb dL_isItem_36 (by decide) ?_
          refine lv_rep0 (x := 3) (y := nI 3) rfl ?_
          refine rAld hx hb fx hw 33 (hF.1 33 (by decide)) hF.2.1 (fun _ => rfl) 3 rfl (by omega) (by decide) dL_isItem_37 ?_
          refine lv_rep0 (x := (σ 33 3)) (y := 1) ((pon hA).trans (by rw [hbo]; rfl)) ?_
          refine lv_iconst (v := 1) hx hb dL_isItem_38 (by decide) ?_
          refine lv_icmp_ne (tgt := 75) hx hb dL_isItem_39 (by decide) (fun c_29 => ?_) (fun c_29 => ?_)
          · skip
            exact absurd c_29 (by decide)
          · skip
            refine lv_aload_n hx hb dL_isItem_42 rfl (lv_at hl 3 rfl) ?_
            refine lv_bipush (v := 6) hx hb dL_isItem_43 (by decide) ?_
            refine lv_iload_n hx hb dL_isItem_45 rfl (lv_at hl 5 rfl) ?_
            refine lv_rep1 (x := 6) (y := nI 6) rfl ?_
            refine lv_imul hx hb dL_isItem_46 ?_
            refine lv_rep0 (x := ((nI 6) * (nI kk))) (y := nI (6 * kk)) (pk_mul _ _) ?_
            refine lv_iconst (v := 5) hx hb dL_isItem_47 (by decide) ?_
            refine lv_rep0 (x := 5) (y := nI 5) rfl ?_
            refine lv_iadd hx hb dL_isItem_48 ?_
            refine lv_rep0 (x := ((nI (6 * kk)) + (nI 5))) (y := nI ((6 * kk) + 5)) (nI_add _ _) ?_
            refine rAld hx hb fx hw 32 (hF.1 32 (by decide)) hF.2.1 (fun _ => rfl) ((6 * kk) + 5) rfl (by omega) (by decide) dL_isItem_49 ?_
            refine lv_rep0 (x := (σ 32 ((6 * kk) + 5))) (y := (bI (finB σ 4 kk))) (pfin hA hbo (by omega)) ?_
            refine lv_b_ne (tgt := 75) hx hb dL_isItem_50 (by decide) (fun c_30 => ?_) (fun c_30 => ?_)
            · skip
              refine lv_iconst (v := 0) hx hb dL_isItem_75 (by decide) ?_
              refine lv_istore (lv' := [(7, .int 0), (6, .int (σ 24 kk)), (5, .int 1), (0, .ref (gad G 0)), (1, .ref (gad G 32)), (2, .ref (gad G 33)), (3, .int (nI kk)), (4, .int 1)]) hx hb dL_isItem_76 hl (by decide) rfl (fun ls hl => ?_)
              refine lv_iload hx hb dL_isItem_78 (lv_at hl 0 rfl) ?_
              refine lv_if_eq (tgt := 91) hx hb dL_isItem_80 (by decide) (fun c_31 => ?_) (fun c_31 => ?_)
              · skip
                refine lv_iconst (v := 0) hx hb dL_isItem_91 (by decide) ?_
                refine lv_istore (lv' := [(8, .int 0), (7, .int 0), (6, .int (σ 24 kk)), (5, .int 1), (0, .ref (gad G 0)), (1, .ref (gad G 32)), (2, .ref (gad G 33)), (3, .int (nI kk)), (4, .int 1)]) hx hb dL_isItem_92 hl (by decide) rfl (fun ls hl => ?_)
                refine lv_aload_n hx hb dL_isItem_94 rfl (lv_at hl 4 rfl) ?_
                refine lv_iload hx hb dL_isItem_95 (lv_at hl 8 rfl) ?_
                refine lv_if_eq (tgt := 105) hx hb dL_isItem_97 (by decide) (fun c_32 => ?_) (fun c_32 => ?_)
                · skip
                  exact absurd c_32 (by decide)
                · skip
                  refine lv_bipush (v := 7) hx hb dL_isItem_100 (by decide) ?_
                  refine lv_goto (tgt := 107) hx hb dL_isItem_102 (by decide) ?_
                  refine lv_iload_n hx hb dL_isItem_107 rfl (lv_at hl 7 rfl) ?_
                  refine lv_iconst (v := 0) hx hb dL_isItem_108 (by decide) ?_
                  refine lv_iconst (v := 0) hx hb dL_isItem_109 (by decide) ?_
                  refine rCallLS (As := [.ref (gad G 0), .int 7, .int (nI kk), .int 0, .int 0]) (rest := []) ⟨hx, hb, hml, hown, hts⟩ fx hw (d7_t2 l hlt G hG hF σ (pcv hA) ((nI kk)) 0 0 (inB_y (show kk < n by omega) (by omega)) (by rw [ix_nI (by omega)]; exact us_no (by first | exact Or.inl hbo | exact Or.inr (Or.inl (by assumption)) | exact Or.inr (Or.inr ⟨hit9, by assumption⟩)))) (vx_cwSW 5 hts gL_isItem_L_does rfl rfl rfl (by decide +kernel) ⟨Nat.le_of_ble_eq_true rfl, Nat.le_of_ble_eq_true rfl⟩) rfl hl.1 rfl (Nat.le_of_ble_eq_true rfl) dL_isItem_110 ⟨Nat.le_trans (show _ ≤ 3 by omega) (Nat.le_of_ble_eq_true rfl), Nat.le_trans (show _ ≤ 20 by omega) (Nat.le_of_ble_eq_true rfl)⟩ (fun r_33 σ_34 H locs p_35 hw => ?_)
                  obtain ⟨er_33, eσ_34⟩ := p_35
                  have er_33 := er_33.symm; subst er_33
                  have eσ_34 := eσ_34.symm; subst eσ_34
                  refine lv_istore (lv' := [(9, .int (-10)), (8, .int 0), (7, .int 0), (6, .int (σ 24 kk)), (5, .int 1), (0, .ref (gad G 0)), (1, .ref (gad G 32)), (2, .ref (gad G 33)), (3, .int (nI kk)), (4, .int 1)]) hx hb dL_isItem_113 hl (by decide) rfl (fun ls hl => ?_)
                  refine lv_iload hx hb dL_isItem_115 (lv_at hl 2 rfl) ?_
                  refine lv_if_ne (tgt := 143) hx hb dL_isItem_117 (by decide) (fun c_36 => ?_) (fun c_36 => ?_)
                  · skip
                    exact absurd c_36 (by decide)
                  · skip
                    refine lv_iload hx hb dL_isItem_120 (lv_at hl 0 rfl) ?_
                    refine lv_iload hx hb dL_isItem_122 (lv_at hl 4 rfl) ?_
                    refine lv_if_eq (tgt := 132) hx hb dL_isItem_124 (by decide) (fun c_37 => ?_) (fun c_37 => ?_)
                    · skip
                      exact absurd c_37 (by decide)
                    · skip
                      refine lv_bipush (v := (-10)) hx hb dL_isItem_127 (by decide) ?_
                      refine lv_goto (tgt := 134) hx hb dL_isItem_129 (by decide) ?_
                      refine lv_icmp_ne (tgt := 141) hx hb dL_isItem_134 (by decide) (fun c_38 => ?_) (fun c_38 => ?_)
                      · skip
                        exact absurd c_38 (by decide)
                      · skip
                        refine lv_iconst (v := 1) hx hb dL_isItem_137 (by decide) ?_
                        refine lv_goto (tgt := 142) hx hb dL_isItem_138 (by decide) ?_
                        exact rRetZw hx hb hr hw (by decide) (by exact ⟨rfl, po_same hA hGa⟩) hlocks dL_isItem_142 (by omega) (by omega)
              · skip
                exact absurd c_31 (by decide)
            · skip
              refine lv_iload hx hb dL_isItem_53 (lv_at hl 6 rfl) ?_
              refine lv_if_eq (tgt := 66) hx hb dL_isItem_55 (by decide) (fun c_39 => ?_) (fun c_39 => ?_)
              · skip
                exact absurd c_39 (by decide)
              · skip
                refine lv_iload hx hb dL_isItem_58 (lv_at hl 0 rfl) ?_
                refine lv_if_lt (tgt := 75) hx hb dL_isItem_60 (by decide) (fun c_40 => ?_) (fun c_40 => ?_)
                · skip
                  refine lv_iconst (v := 0) hx hb dL_isItem_75 (by decide) ?_
                  refine lv_istore (lv' := [(7, .int 0), (6, .int (σ 24 kk)), (5, .int 1), (0, .ref (gad G 0)), (1, .ref (gad G 32)), (2, .ref (gad G 33)), (3, .int (nI kk)), (4, .int 1)]) hx hb dL_isItem_76 hl (by decide) rfl (fun ls hl => ?_)
                  refine lv_iload hx hb dL_isItem_78 (lv_at hl 0 rfl) ?_
                  refine lv_if_eq (tgt := 91) hx hb dL_isItem_80 (by decide) (fun c_41 => ?_) (fun c_41 => ?_)
                  · skip
                    refine lv_iconst (v := 0) hx hb dL_isItem_91 (by decide) ?_
                    refine lv_istore (lv' := [(8, .int 0), (7, .int 0), (6, .int (σ 24 kk)), (5, .int 1), (0, .ref (gad G 0)), (1, .ref (gad G 32)), (2, .ref (gad G 33)), (3, .int (nI kk)), (4, .int 1)]) hx hb dL_isItem_92 hl (by decide) rfl (fun ls hl => ?_)
                    refine lv_aload_n hx hb dL_isItem_94 rfl (lv_at hl 4 rfl) ?_
                    refine lv_iload hx hb dL_isItem_95 (lv_at hl 8 rfl) ?_
                    refine lv_if_eq (tgt := 105) hx hb dL_isItem_97 (by decide) (fun c_42 => ?_) (fun c_42 => ?_)
                    · skip
                      exact absurd c_42 (by decide)
                    · skip
                      refine lv_bipush (v := 7) hx hb dL_isItem_100 (by decide) ?_
                      refine lv_goto (tgt := 107) hx hb dL_isItem_102 (by decide) ?_
                      refine lv_iload_n hx hb dL_isItem_107 rfl (lv_at hl 7 rfl) ?_
                      refine lv_iconst (v := 0) hx hb dL_isItem_108 (by decide) ?_
                      refine lv_iconst (v := 0) hx hb dL_isItem_109 (by decide) ?_
                      refine rCallLS (As := [.ref (gad G 0), .int 7, .int (nI kk), .int 0, .int 0]) (rest := []) ⟨hx, hb, hml, hown, hts⟩ fx hw (d7_t2 l hlt G hG hF σ (pcv hA) ((nI kk)) 0 0 (inB_y (show kk < n by omega) (by omega)) (by rw [ix_nI (by omega)]; exact us_no (by first | exact Or.inl hbo | exact Or.inr (Or.inl (by assumption)) | exact Or.inr (Or.inr ⟨hit9, by assumption⟩)))) (vx_cwSW 5 hts gL_isItem_L_does rfl rfl rfl (by decide +kernel) ⟨Nat.le_of_ble_eq_true rfl, Nat.le_of_ble_eq_true rfl⟩) rfl hl.1 rfl (Nat.le_of_ble_eq_true rfl) dL_isItem_110 ⟨Nat.le_trans (show _ ≤ 3 by omega) (Nat.le_of_ble_eq_true rfl), Nat.le_trans (show _ ≤ 20 by omega) (Nat.le_of_ble_eq_true rfl)⟩ (fun r_43 σ_44 H locs p_45 hw => ?_)
                      obtain ⟨er_43, eσ_44⟩ := p_45
                      have er_43 := er_43.symm; subst er_43
                      have eσ_44 := eσ_44.symm; subst eσ_44
                      refine lv_istore (lv' := [(9, .int (-10)), (8, .int 0), (7, .int 0), (6, .int (σ 24 kk)), (5, .int 1), (0, .ref (gad G 0)), (1, .ref (gad G 32)), (2, .ref (gad G 33)), (3, .int (nI kk)), (4, .int 1)]) hx hb dL_isItem_113 hl (by decide) rfl (fun ls hl => ?_)
                      refine lv_iload hx hb dL_isItem_115 (lv_at hl 2 rfl) ?_
                      refine lv_if_ne (tgt := 143) hx hb dL_isItem_117 (by decide) (fun c_46 => ?_) (fun c_46 => ?_)
                      · skip
                        exact absurd c_46 (by decide)
                      · skip
                        refine lv_iload hx hb dL_isItem_120 (lv_at hl 0 rfl) ?_
                        refine lv_iload hx hb dL_isItem_122 (lv_at hl 4 rfl) ?_
                        refine lv_if_eq (tgt := 132) hx hb dL_isItem_124 (by decide) (fun c_47 => ?_) (fun c_47 => ?_)
                        · skip
                          exact absurd c_47 (by decide)
                        · skip
                          refine lv_bipush (v := (-10)) hx hb dL_isItem_127 (by decide) ?_
                          refine lv_goto (tgt := 134) hx hb dL_isItem_129 (by decide) ?_
                          refine lv_icmp_ne (tgt := 141) hx hb dL_isItem_134 (by decide) (fun c_48 => ?_) (fun c_48 => ?_)
                          · skip
                            exact absurd c_48 (by decide)
                          · skip
                            refine lv_iconst (v := 1) hx hb dL_isItem_137 (by decide) ?_
                            refine lv_goto (tgt := 142) hx hb dL_isItem_138 (by decide) ?_
                            exact rRetZw hx hb hr hw (by decide) (by exact ⟨rfl, po_same hA hGa⟩) hlocks dL_isItem_142 (by omega) (by omega)
                  · skip
                    exact absurd c_41 (by decide)
                · skip
                  refine lv_goto (tgt := 71) hx hb dL_isItem_63 (by decide) ?_
                  refine lv_iconst (v := 1) hx hb dL_isItem_71 (by decide) ?_
                  refine lv_goto (tgt := 76) hx hb dL_isItem_72 (by decide) ?_
                  refine lv_istore (lv' := [(7, .int 1), (6, .int (σ 24 kk)), (5, .int 1), (0, .ref (gad G 0)), (1, .ref (gad G 32)), (2, .ref (gad G 33)), (3, .int (nI kk)), (4, .int 1)]) hx hb dL_isItem_76 hl (by decide) rfl (fun ls hl => ?_)
                  obtain ⟨q9, hq4, hq9⟩ := it_n hit9 (by assumption)
                  have q_49 : (σ 24 kk) = (nI q9) := by exact hq9
                  have hl : lv_has ls 10 [(7, .int 1), (6, .int (nI q9)), (5, .int 1), (0, .ref (gad G 0)), (1, .ref (gad G 32)), (2, .ref (gad G 33)), (3, .int (nI kk)), (4, .int 1)] := (lv_c (lv_at hl 0 rfl) (lv_c (lv_atq hl 1 rfl q_49) (lv_c (lv_at hl 2 rfl) (lv_c (lv_at hl 3 rfl) (lv_c (lv_at hl 4 rfl) (lv_c (lv_at hl 5 rfl) (lv_c (lv_at hl 6 rfl) (lv_c (lv_at hl 7 rfl) (lv_c0 hl)))))))))
                  refine lv_iload hx hb dL_isItem_78 (lv_at hl 0 rfl) ?_
                  refine lv_if_eq (tgt := 91) hx hb dL_isItem_80 (by decide) (fun c_50 => ?_) (fun c_50 => ?_)
                  · skip
                    exact absurd c_50 (by decide)
                  · skip
                    refine lv_aload_n hx hb dL_isItem_83 rfl (lv_at hl 3 rfl) ?_
                    refine lv_iload_n hx hb dL_isItem_84 rfl (lv_at hl 6 rfl) ?_
                    refine rCallN (C := RX5) (As := [.int (nI kk)]) (rest := []) ⟨hx, hb, hml, hown, hts⟩ fx hw (n_rank l hlt G hG hF σ hA hbo kk (by omega)) (cwV 1 hts gL_isItem_X5_rank rfl rfl rfl (by decide +kernel) ⟨Nat.le_of_ble_eq_true rfl, Nat.le_of_ble_eq_true rfl⟩) (hF.1 0 (by decide)) rfl rfl rfl rfl hl.1 rfl (Nat.le_of_ble_eq_true rfl) dL_isItem_85 ⟨Nat.le_trans (show _ ≤ 3 by omega) (Nat.le_of_ble_eq_true rfl), Nat.le_trans (show _ ≤ 20 by omega) (Nat.le_of_ble_eq_true rfl)⟩ (fun r_51 σ_52 H locs p_53 hw => ?_)
                    obtain ⟨er_51, eσ_52, p_53_0⟩ := p_53
                    have er_51 := er_51.symm; subst er_51
                    have eσ_52 := eσ_52.symm; subst eσ_52
                    refine lv_goto (tgt := 92) hx hb dL_isItem_88 (by decide) ?_
                    refine lv_istore (lv' := [(8, .int (nI (rkA σ n kk))), (7, .int 1), (6, .int (nI q9)), (5, .int 1), (0, .ref (gad G 0)), (1, .ref (gad G 32)), (2, .ref (gad G 33)), (3, .int (nI kk)), (4, .int 1)]) hx hb dL_isItem_92 hl (by decide) rfl (fun ls hl => ?_)
                    refine lv_aload_n hx hb dL_isItem_94 rfl (lv_at hl 4 rfl) ?_
                    refine lv_iload hx hb dL_isItem_95 (lv_at hl 8 rfl) ?_
                    refine lv_if_eq (tgt := 105) hx hb dL_isItem_97 (by decide) (fun c_54 => ?_) (fun c_54 => ?_)
                    · skip
                      exact absurd c_54 (by decide)
                    · skip
                      refine lv_bipush (v := 7) hx hb dL_isItem_100 (by decide) ?_
                      refine lv_goto (tgt := 107) hx hb dL_isItem_102 (by decide) ?_
                      refine lv_iload_n hx hb dL_isItem_107 rfl (lv_at hl 7 rfl) ?_
                      refine lv_iconst (v := 0) hx hb dL_isItem_108 (by decide) ?_
                      refine lv_iconst (v := 0) hx hb dL_isItem_109 (by decide) ?_
                      refine rCallLS (As := [.ref (gad G 0), .int 7, .int (nI kk), .int 0, .int 0]) (rest := []) ⟨hx, hb, hml, hown, hts⟩ fx hw (n_use l hlt G hG hF σ hA hGa hj hbo kk q9 (by omega) (by assumption) hq4 hq9 0 0) (vx_cwSW 5 hts gL_isItem_L_does rfl rfl rfl (by decide +kernel) ⟨Nat.le_of_ble_eq_true rfl, Nat.le_of_ble_eq_true rfl⟩) rfl hl.1 rfl (Nat.le_of_ble_eq_true rfl) dL_isItem_110 ⟨Nat.le_trans (show _ ≤ 3 by omega) (Nat.le_of_ble_eq_true rfl), Nat.le_trans (show _ ≤ 20 by omega) (Nat.le_of_ble_eq_true rfl)⟩ (fun r_55 σ_56 H locs p_57 hw => ?_)
                      obtain ⟨h9, hr9, hh6, hh1, hh2, hh3, hh4, ⟨hA2, hGa2, hu24, hurk⟩, hst0⟩ := p_57
                      have hrl9 := rkA_lt (σ := σ) (n := n) (k := kk) (by omega)
                      refine lv_rep0 (x := r_55) (y := nI h9) (by exact hr9) ?_
                      refine lv_istore (lv' := [(9, .int (nI h9)), (8, .int (nI (rkA σ n kk))), (7, .int 1), (6, .int (nI q9)), (5, .int 1), (0, .ref (gad G 0)), (1, .ref (gad G 32)), (2, .ref (gad G 33)), (3, .int (nI kk)), (4, .int 1)]) hx hb dL_isItem_113 hl (by decide) rfl (fun ls hl => ?_)
                      refine lv_iload hx hb dL_isItem_115 (lv_at hl 2 rfl) ?_
                      refine lv_if_ne (tgt := 143) hx hb dL_isItem_117 (by decide) (fun c_58 => ?_) (fun c_58 => ?_)
                      · skip
                        refine lv_iload hx hb dL_isItem_143 (lv_at hl 9 rfl) ?_
                        refine lv_if_ne (tgt := 198) hx hb dL_isItem_145 (by decide) (fun c_59 => ?_) (fun c_59 => ?_)
                        · skip
                          refine lv_aload_n hx hb dL_isItem_198 rfl (lv_at hl 5 rfl) ?_
                          refine lv_iload_n hx hb dL_isItem_199 rfl (lv_at hl 8 rfl) ?_
                          refine rCallN (C := RX5) (As := [.int (nI kk)]) (rest := []) ⟨hx, hb, hml, hown, hts⟩ fx hw (n_itemOf1 l hlt G hG hF σ_56 hA2 hbo kk (by omega)) (cwV 1 hts gL_isItem_X5_itemOf rfl rfl rfl (by decide +kernel) ⟨Nat.le_of_ble_eq_true rfl, Nat.le_of_ble_eq_true rfl⟩) (hF.1 0 (by decide)) rfl rfl rfl rfl hl.1 rfl (Nat.le_of_ble_eq_true rfl) dL_isItem_200 ⟨Nat.le_trans (show _ ≤ 3 by omega) (Nat.le_of_ble_eq_true rfl), Nat.le_trans (show _ ≤ 20 by omega) (Nat.le_of_ble_eq_true rfl)⟩ (fun r_60 σ_61 H locs p_62 hw => ?_)
                          obtain ⟨er_60, eσ_61⟩ := p_62
                          have er_60 := er_60.symm; subst er_60
                          have eσ_61 := eσ_61.symm; subst eσ_61
                          refine lv_rep0 (x := (σ_56 24 kk)) (y := (-1)) (by exact hu24) ?_
                          refine lv_iconst (v := (-1)) hx hb dL_isItem_203 (by decide) ?_
                          refine lv_icmp_ne (tgt := 275) hx hb dL_isItem_204 (by decide) (fun c_63 => ?_) (fun c_63 => ?_)
                          · skip
                            exact absurd c_63 (by decide)
                          · skip
                            refine lv_iload hx hb dL_isItem_207 (lv_at hl 0 rfl) ?_
                            refine lv_if_lt (tgt := 275) hx hb dL_isItem_209 (by decide) (fun c_64 => ?_) (fun c_64 => ?_)
                            · skip
                              exact (n0_ltt (by omega) c_64).elim
                            · skip
                              have c_64 : True := n0_ltf (by omega) c_64
                              refine lv_iload hx hb dL_isItem_212 (lv_at hl 0 rfl) ?_
                              refine lv_iload hx hb dL_isItem_214 (lv_at hl 3 rfl) ?_
                              refine lv_iconst (v := 1) hx hb dL_isItem_216 (by decide) ?_
                              refine lv_rep0 (x := 1) (y := nI 1) rfl ?_
                              refine lv_icmp_ne (tgt := 233) hx hb dL_isItem_217 (by decide) (fun c_65 => ?_) (fun c_65 => ?_)
                              · skip
                                have c_65 : ¬ q9 = 1 := fun h9 => c_65 ((nI_eq (by omega) (by omega)).mpr h9)
                                refine lv_iload hx hb dL_isItem_233 (lv_at hl 3 rfl) ?_
                                refine lv_iconst (v := 3) hx hb dL_isItem_235 (by decide) ?_
                                refine lv_rep0 (x := 3) (y := nI 3) rfl ?_
                                refine lv_icmp_ne (tgt := 244) hx hb dL_isItem_236 (by decide) (fun c_66 => ?_) (fun c_66 => ?_)
                                · skip
                                  have c_66 : ¬ q9 = 3 := fun h9 => c_66 ((nI_eq (by omega) (by omega)).mpr h9)
                                  refine lv_iconst (v := 0) hx hb dL_isItem_244 (by decide) ?_
                                  refine lv_rep0 (x := 0) (y := nI 0) rfl ?_
                                  refine lv_icmp_gt (tgt := 275) hx hb dL_isItem_245 (by decide) (fun c_67 => ?_) (fun c_67 => ?_)
                                  · skip
                                    have c_67 : 0 < h9 := (nI_ltI (by omega) (by omega)).mp c_67
                                    omega
                                  · skip
                                    have c_67 : ¬ 0 < h9 := fun h9 => c_67 ((nI_ltI (by omega) (by omega)).mpr h9)
                                    refine lv_iload hx hb dL_isItem_248 (lv_at hl 3 rfl) ?_
                                    refine lv_if_gt (tgt := 261) hx hb dL_isItem_250 (by decide) (fun c_68 => ?_) (fun c_68 => ?_)
                                    · skip
                                      have c_68 : 0 < q9 := n0_gtt (by omega) c_68
                                      refine lv_aload_n hx hb dL_isItem_261 rfl (lv_at hl 5 rfl) ?_
                                      refine lv_iload_n hx hb dL_isItem_262 rfl (lv_at hl 8 rfl) ?_
                                      refine rCallN (C := RX5) (As := [.int (nI kk)]) (rest := []) ⟨hx, hb, hml, hown, hts⟩ fx hw (n_rank l hlt G hG hF σ_56 hA2 hbo kk (by omega)) (cwV 1 hts gL_isItem_X5_rank rfl rfl rfl (by decide +kernel) ⟨Nat.le_of_ble_eq_true rfl, Nat.le_of_ble_eq_true rfl⟩) (hF.1 0 (by decide)) rfl rfl rfl rfl hl.1 rfl (Nat.le_of_ble_eq_true rfl) dL_isItem_263 ⟨Nat.le_trans (show _ ≤ 3 by omega) (Nat.le_of_ble_eq_true rfl), Nat.le_trans (show _ ≤ 20 by omega) (Nat.le_of_ble_eq_true rfl)⟩ (fun r_69 σ_70 H locs p_71 hw => ?_)
                                      obtain ⟨er_69, eσ_70, p_71_0⟩ := p_71
                                      have er_69 := er_69.symm; subst er_69
                                      have eσ_70 := eσ_70.symm; subst eσ_70
                                      refine lv_rep0 (x := (nI (rkA σ_56 n kk))) (y := nI (rkA σ n kk)) (by rw [hurk]) ?_
                                      refine lv_iload hx hb dL_isItem_266 (lv_at hl 1 rfl) ?_
                                      refine lv_icmp_ne (tgt := 275) hx hb dL_isItem_268 (by decide) (fun c_72 => ?_) (fun c_72 => ?_)
                                      · skip
                                        exact absurd rfl c_72
                                      · skip
                                        refine lv_iconst (v := 1) hx hb dL_isItem_271 (by decide) ?_
                                        refine lv_goto (tgt := 276) hx hb dL_isItem_272 (by decide) ?_
                                        exact rRetZw hx hb hr hw (by decide) (by exact ⟨rfl, po_same hA2 hGa2⟩) hlocks dL_isItem_276 (by omega) (by omega)
                                    · skip
                                      have c_68 : q9 = 0 := n0_gtf (by omega) c_68
                                      refine lv_aload_n hx hb dL_isItem_253 rfl (lv_at hl 5 rfl) ?_
                                      refine lv_iload_n hx hb dL_isItem_254 rfl (lv_at hl 8 rfl) ?_
                                      refine rCallN (C := RX5) (As := [.int (nI kk)]) (rest := []) ⟨hx, hb, hml, hown, hts⟩ fx hw (n_stunned1 l hlt G hG hF σ_56 hA2 hj hbo kk (by omega)) (cwV 1 hts gL_isItem_X5_stunned rfl rfl rfl (by decide +kernel) ⟨Nat.le_of_ble_eq_true rfl, Nat.le_of_ble_eq_true rfl⟩) (hF.1 0 (by decide)) rfl rfl rfl rfl hl.1 rfl (Nat.le_of_ble_eq_true rfl) dL_isItem_255 ⟨Nat.le_trans (show _ ≤ 3 by omega) (Nat.le_of_ble_eq_true rfl), Nat.le_trans (show _ ≤ 20 by omega) (Nat.le_of_ble_eq_true rfl)⟩ (fun r_73 σ_74 H locs p_75 hw => ?_)
                                      obtain ⟨er_73, eσ_74, p_75_0⟩ := p_75
                                      have er_73 := er_73.symm; subst er_73
                                      have eσ_74 := eσ_74.symm; subst eσ_74
                                      refine lv_if_ne (tgt := 275) hx hb dL_isItem_258 (by decide) (fun c_76 => ?_) (fun c_76 => ?_)
                                      · skip
                                        have c_76 : ¬ (stN σ_56 kk) = 0 := n0_net (by omega) c_76
                                        omega
                                      · skip
                                        have c_76 : (stN σ_56 kk) = 0 := n0_nef (by omega) c_76
                                        refine lv_aload_n hx hb dL_isItem_261 rfl (lv_at hl 5 rfl) ?_
                                        refine lv_iload_n hx hb dL_isItem_262 rfl (lv_at hl 8 rfl) ?_
                                        refine rCallN (C := RX5) (As := [.int (nI kk)]) (rest := []) ⟨hx, hb, hml, hown, hts⟩ fx hw (n_rank l hlt G hG hF σ_56 hA2 hbo kk (by omega)) (cwV 1 hts gL_isItem_X5_rank rfl rfl rfl (by decide +kernel) ⟨Nat.le_of_ble_eq_true rfl, Nat.le_of_ble_eq_true rfl⟩) (hF.1 0 (by decide)) rfl rfl rfl rfl hl.1 rfl (Nat.le_of_ble_eq_true rfl) dL_isItem_263 ⟨Nat.le_trans (show _ ≤ 3 by omega) (Nat.le_of_ble_eq_true rfl), Nat.le_trans (show _ ≤ 20 by omega) (Nat.le_of_ble_eq_true rfl)⟩ (fun r_77 σ_78 H locs p_79 hw => ?_)
                                        obtain ⟨er_77, eσ_78, p_79_0⟩ := p_79
                                        have er_77 := er_77.symm; subst er_77
                                        have eσ_78 := eσ_78.symm; subst eσ_78
                                        refine lv_rep0 (x := (nI (rkA σ_56 n kk))) (y := nI (rkA σ n kk)) (by rw [hurk]) ?_
                                        refine lv_iload hx hb dL_isItem_266 (lv_at hl 1 rfl) ?_
                                        refine lv_icmp_ne (tgt := 275) hx hb dL_isItem_268 (by decide) (fun c_80 => ?_) (fun c_80 => ?_)
                                        · skip
                                          exact absurd rfl c_80
                                        · skip
                                          refine lv_iconst (v := 1) hx hb dL_isItem_271 (by decide) ?_
                                          refine lv_goto (tgt := 276) hx hb dL_isItem_272 (by decide) ?_
                                          exact rRetZw hx hb hr hw (by decide) (by exact ⟨rfl, po_same hA2 hGa2⟩) hlocks dL_isItem_276 (by omega) (by omega)
                                · skip
                                  have c_66 : q9 = 3 := (nI_eq (by omega) (by omega)).mp c_66
                                  refine lv_iload hx hb dL_isItem_239 (lv_at hl 1 rfl) ?_
                                  refine lv_goto (tgt := 245) hx hb dL_isItem_241 (by decide) ?_
                                  refine lv_icmp_gt (tgt := 275) hx hb dL_isItem_245 (by decide) (fun c_81 => ?_) (fun c_81 => ?_)
                                  · skip
                                    have c_81 : (rkA σ n kk) < h9 := (nI_ltI (by omega) (by omega)).mp c_81
                                    omega
                                  · skip
                                    have c_81 : ¬ (rkA σ n kk) < h9 := fun h9 => c_81 ((nI_ltI (by omega) (by omega)).mpr h9)
                                    refine lv_iload hx hb dL_isItem_248 (lv_at hl 3 rfl) ?_
                                    refine lv_if_gt (tgt := 261) hx hb dL_isItem_250 (by decide) (fun c_82 => ?_) (fun c_82 => ?_)
                                    · skip
                                      have c_82 : 0 < q9 := n0_gtt (by omega) c_82
                                      refine lv_aload_n hx hb dL_isItem_261 rfl (lv_at hl 5 rfl) ?_
                                      refine lv_iload_n hx hb dL_isItem_262 rfl (lv_at hl 8 rfl) ?_
                                      refine rCallN (C := RX5) (As := [.int (nI kk)]) (rest := []) ⟨hx, hb, hml, hown, hts⟩ fx hw (n_rank l hlt G hG hF σ_56 hA2 hbo kk (by omega)) (cwV 1 hts gL_isItem_X5_rank rfl rfl rfl (by decide +kernel) ⟨Nat.le_of_ble_eq_true rfl, Nat.le_of_ble_eq_true rfl⟩) (hF.1 0 (by decide)) rfl rfl rfl rfl hl.1 rfl (Nat.le_of_ble_eq_true rfl) dL_isItem_263 ⟨Nat.le_trans (show _ ≤ 3 by omega) (Nat.le_of_ble_eq_true rfl), Nat.le_trans (show _ ≤ 20 by omega) (Nat.le_of_ble_eq_true rfl)⟩ (fun r_83 σ_84 H locs p_85 hw => ?_)
                                      obtain ⟨er_83, eσ_84, p_85_0⟩ := p_85
                                      have er_83 := er_83.symm; subst er_83
                                      have eσ_84 := eσ_84.symm; subst eσ_84
                                      refine lv_rep0 (x := (nI (rkA σ_56 n kk))) (y := nI (rkA σ n kk)) (by rw [hurk]) ?_
                                      refine lv_iload hx hb dL_isItem_266 (lv_at hl 1 rfl) ?_
                                      refine lv_icmp_ne (tgt := 275) hx hb dL_isItem_268 (by decide) (fun c_86 => ?_) (fun c_86 => ?_)
                                      · skip
                                        exact absurd rfl c_86
                                      · skip
                                        refine lv_iconst (v := 1) hx hb dL_isItem_271 (by decide) ?_
                                        refine lv_goto (tgt := 276) hx hb dL_isItem_272 (by decide) ?_
                                        exact rRetZw hx hb hr hw (by decide) (by exact ⟨rfl, po_same hA2 hGa2⟩) hlocks dL_isItem_276 (by omega) (by omega)
                                    · skip
                                      have c_82 : q9 = 0 := n0_gtf (by omega) c_82
                                      refine lv_aload_n hx hb dL_isItem_253 rfl (lv_at hl 5 rfl) ?_
                                      refine lv_iload_n hx hb dL_isItem_254 rfl (lv_at hl 8 rfl) ?_
                                      refine rCallN (C := RX5) (As := [.int (nI kk)]) (rest := []) ⟨hx, hb, hml, hown, hts⟩ fx hw (n_stunned1 l hlt G hG hF σ_56 hA2 hj hbo kk (by omega)) (cwV 1 hts gL_isItem_X5_stunned rfl rfl rfl (by decide +kernel) ⟨Nat.le_of_ble_eq_true rfl, Nat.le_of_ble_eq_true rfl⟩) (hF.1 0 (by decide)) rfl rfl rfl rfl hl.1 rfl (Nat.le_of_ble_eq_true rfl) dL_isItem_255 ⟨Nat.le_trans (show _ ≤ 3 by omega) (Nat.le_of_ble_eq_true rfl), Nat.le_trans (show _ ≤ 20 by omega) (Nat.le_of_ble_eq_true rfl)⟩ (fun r_87 σ_88 H locs p_89 hw => ?_)
                                      obtain ⟨er_87, eσ_88, p_89_0⟩ := p_89
                                      have er_87 := er_87.symm; subst er_87
                                      have eσ_88 := eσ_88.symm; subst eσ_88
                                      refine lv_if_ne (tgt := 275) hx hb dL_isItem_258 (by decide) (fun c_90 => ?_) (fun c_90 => ?_)
                                      · skip
                                        have c_90 : ¬ (stN σ_56 kk) = 0 := n0_net (by omega) c_90
                                        omega
                                      · skip
                                        have c_90 : (stN σ_56 kk) = 0 := n0_nef (by omega) c_90
                                        refine lv_aload_n hx hb dL_isItem_261 rfl (lv_at hl 5 rfl) ?_
                                        refine lv_iload_n hx hb dL_isItem_262 rfl (lv_at hl 8 rfl) ?_
                                        refine rCallN (C := RX5) (As := [.int (nI kk)]) (rest := []) ⟨hx, hb, hml, hown, hts⟩ fx hw (n_rank l hlt G hG hF σ_56 hA2 hbo kk (by omega)) (cwV 1 hts gL_isItem_X5_rank rfl rfl rfl (by decide +kernel) ⟨Nat.le_of_ble_eq_true rfl, Nat.le_of_ble_eq_true rfl⟩) (hF.1 0 (by decide)) rfl rfl rfl rfl hl.1 rfl (Nat.le_of_ble_eq_true rfl) dL_isItem_263 ⟨Nat.le_trans (show _ ≤ 3 by omega) (Nat.le_of_ble_eq_true rfl), Nat.le_trans (show _ ≤ 20 by omega) (Nat.le_of_ble_eq_true rfl)⟩ (fun r_91 σ_92 H locs p_93 hw => ?_)
                                        obtain ⟨er_91, eσ_92, p_93_0⟩ := p_93
                                        have er_91 := er_91.symm; subst er_91
                                        have eσ_92 := eσ_92.symm; subst eσ_92
                                        refine lv_rep0 (x := (nI (rkA σ_56 n kk))) (y := nI (rkA σ n kk)) (by rw [hurk]) ?_
                                        refine lv_iload hx hb dL_isItem_266 (lv_at hl 1 rfl) ?_
                                        refine lv_icmp_ne (tgt := 275) hx hb dL_isItem_268 (by decide) (fun c_94 => ?_) (fun c_94 => ?_)
                                        · skip
                                          exact absurd rfl c_94
                                        · skip
                                          refine lv_iconst (v := 1) hx hb dL_isItem_271 (by decide) ?_
                                          refine lv_goto (tgt := 276) hx hb dL_isItem_272 (by decide) ?_
                                          exact rRetZw hx hb hr hw (by decide) (by exact ⟨rfl, po_same hA2 hGa2⟩) hlocks dL_isItem_276 (by omega) (by omega)
                              · skip
                                have c_65 : q9 = 1 := (nI_eq (by omega) (by omega)).mp c_65
                                refine lv_iload hx hb dL_isItem_220 (lv_at hl 1 rfl) ?_
                                refine lv_if_le (tgt := 229) hx hb dL_isItem_222 (by decide) (fun c_95 => ?_) (fun c_95 => ?_)
                                · skip
                                  have c_95 : (rkA σ n kk) = 0 := n0_let (by omega) c_95
                                  refine lv_iconst (v := 0) hx hb dL_isItem_229 (by decide) ?_
                                  refine lv_goto (tgt := 245) hx hb dL_isItem_230 (by decide) ?_
                                  refine lv_rep0 (x := 0) (y := nI 0) rfl ?_
                                  refine lv_icmp_gt (tgt := 275) hx hb dL_isItem_245 (by decide) (fun c_96 => ?_) (fun c_96 => ?_)
                                  · skip
                                    have c_96 : 0 < h9 := (nI_ltI (by omega) (by omega)).mp c_96
                                    omega
                                  · skip
                                    have c_96 : ¬ 0 < h9 := fun h9 => c_96 ((nI_ltI (by omega) (by omega)).mpr h9)
                                    refine lv_iload hx hb dL_isItem_248 (lv_at hl 3 rfl) ?_
                                    refine lv_if_gt (tgt := 261) hx hb dL_isItem_250 (by decide) (fun c_97 => ?_) (fun c_97 => ?_)
                                    · skip
                                      have c_97 : 0 < q9 := n0_gtt (by omega) c_97
                                      refine lv_aload_n hx hb dL_isItem_261 rfl (lv_at hl 5 rfl) ?_
                                      refine lv_iload_n hx hb dL_isItem_262 rfl (lv_at hl 8 rfl) ?_
                                      refine rCallN (C := RX5) (As := [.int (nI kk)]) (rest := []) ⟨hx, hb, hml, hown, hts⟩ fx hw (n_rank l hlt G hG hF σ_56 hA2 hbo kk (by omega)) (cwV 1 hts gL_isItem_X5_rank rfl rfl rfl (by decide +kernel) ⟨Nat.le_of_ble_eq_true rfl, Nat.le_of_ble_eq_true rfl⟩) (hF.1 0 (by decide)) rfl rfl rfl rfl hl.1 rfl (Nat.le_of_ble_eq_true rfl) dL_isItem_263 ⟨Nat.le_trans (show _ ≤ 3 by omega) (Nat.le_of_ble_eq_true rfl), Nat.le_trans (show _ ≤ 20 by omega) (Nat.le_of_ble_eq_true rfl)⟩ (fun r_98 σ_99 H locs p_100 hw => ?_)
                                      obtain ⟨er_98, eσ_99, p_100_0⟩ := p_100
                                      have er_98 := er_98.symm; subst er_98
                                      have eσ_99 := eσ_99.symm; subst eσ_99
                                      refine lv_rep0 (x := (nI (rkA σ_56 n kk))) (y := nI (rkA σ n kk)) (by rw [hurk]) ?_
                                      refine lv_iload hx hb dL_isItem_266 (lv_at hl 1 rfl) ?_
                                      refine lv_icmp_ne (tgt := 275) hx hb dL_isItem_268 (by decide) (fun c_101 => ?_) (fun c_101 => ?_)
                                      · skip
                                        exact absurd rfl c_101
                                      · skip
                                        refine lv_iconst (v := 1) hx hb dL_isItem_271 (by decide) ?_
                                        refine lv_goto (tgt := 276) hx hb dL_isItem_272 (by decide) ?_
                                        exact rRetZw hx hb hr hw (by decide) (by exact ⟨rfl, po_same hA2 hGa2⟩) hlocks dL_isItem_276 (by omega) (by omega)
                                    · skip
                                      have c_97 : q9 = 0 := n0_gtf (by omega) c_97
                                      refine lv_aload_n hx hb dL_isItem_253 rfl (lv_at hl 5 rfl) ?_
                                      refine lv_iload_n hx hb dL_isItem_254 rfl (lv_at hl 8 rfl) ?_
                                      refine rCallN (C := RX5) (As := [.int (nI kk)]) (rest := []) ⟨hx, hb, hml, hown, hts⟩ fx hw (n_stunned1 l hlt G hG hF σ_56 hA2 hj hbo kk (by omega)) (cwV 1 hts gL_isItem_X5_stunned rfl rfl rfl (by decide +kernel) ⟨Nat.le_of_ble_eq_true rfl, Nat.le_of_ble_eq_true rfl⟩) (hF.1 0 (by decide)) rfl rfl rfl rfl hl.1 rfl (Nat.le_of_ble_eq_true rfl) dL_isItem_255 ⟨Nat.le_trans (show _ ≤ 3 by omega) (Nat.le_of_ble_eq_true rfl), Nat.le_trans (show _ ≤ 20 by omega) (Nat.le_of_ble_eq_true rfl)⟩ (fun r_102 σ_103 H locs p_104 hw => ?_)
                                      obtain ⟨er_102, eσ_103, p_104_0⟩ := p_104
                                      have er_102 := er_102.symm; subst er_102
                                      have eσ_103 := eσ_103.symm; subst eσ_103
                                      refine lv_if_ne (tgt := 275) hx hb dL_isItem_258 (by decide) (fun c_105 => ?_) (fun c_105 => ?_)
                                      · skip
                                        have c_105 : ¬ (stN σ_56 kk) = 0 := n0_net (by omega) c_105
                                        omega
                                      · skip
                                        have c_105 : (stN σ_56 kk) = 0 := n0_nef (by omega) c_105
                                        refine lv_aload_n hx hb dL_isItem_261 rfl (lv_at hl 5 rfl) ?_
                                        refine lv_iload_n hx hb dL_isItem_262 rfl (lv_at hl 8 rfl) ?_
                                        refine rCallN (C := RX5) (As := [.int (nI kk)]) (rest := []) ⟨hx, hb, hml, hown, hts⟩ fx hw (n_rank l hlt G hG hF σ_56 hA2 hbo kk (by omega)) (cwV 1 hts gL_isItem_X5_rank rfl rfl rfl (by decide +kernel) ⟨Nat.le_of_ble_eq_true rfl, Nat.le_of_ble_eq_true rfl⟩) (hF.1 0 (by decide)) rfl rfl rfl rfl hl.1 rfl (Nat.le_of_ble_eq_true rfl) dL_isItem_263 ⟨Nat.le_trans (show _ ≤ 3 by omega) (Nat.le_of_ble_eq_true rfl), Nat.le_trans (show _ ≤ 20 by omega) (Nat.le_of_ble_eq_true rfl)⟩ (fun r_106 σ_107 H locs p_108 hw => ?_)
                                        obtain ⟨er_106, eσ_107, p_108_0⟩ := p_108
                                        have er_106 := er_106.symm; subst er_106
                                        have eσ_107 := eσ_107.symm; subst eσ_107
                                        refine lv_rep0 (x := (nI (rkA σ_56 n kk))) (y := nI (rkA σ n kk)) (by rw [hurk]) ?_
                                        refine lv_iload hx hb dL_isItem_266 (lv_at hl 1 rfl) ?_
                                        refine lv_icmp_ne (tgt := 275) hx hb dL_isItem_268 (by decide) (fun c_109 => ?_) (fun c_109 => ?_)
                                        · skip
                                          exact absurd rfl c_109
                                        · skip
                                          refine lv_iconst (v := 1) hx hb dL_isItem_271 (by decide) ?_
                                          refine lv_goto (tgt := 276) hx hb dL_isItem_272 (by decide) ?_
                                          exact rRetZw hx hb hr hw (by decide) (by exact ⟨rfl, po_same hA2 hGa2⟩) hlocks dL_isItem_276 (by omega) (by omega)
                                · skip
                                  have c_95 : 0 < (rkA σ n kk) := n0_lef (by omega) c_95
                                  refine lv_iconst (v := 1) hx hb dL_isItem_225 (by decide) ?_
                                  refine lv_goto (tgt := 245) hx hb dL_isItem_226 (by decide) ?_
                                  refine lv_rep0 (x := 1) (y := nI 1) rfl ?_
                                  refine lv_icmp_gt (tgt := 275) hx hb dL_isItem_245 (by decide) (fun c_110 => ?_) (fun c_110 => ?_)
                                  · skip
                                    have c_110 : 1 < h9 := (nI_ltI (by omega) (by omega)).mp c_110
                                    omega
                                  · skip
                                    have c_110 : ¬ 1 < h9 := fun h9 => c_110 ((nI_ltI (by omega) (by omega)).mpr h9)
                                    refine lv_iload hx hb dL_isItem_248 (lv_at hl 3 rfl) ?_
                                    refine lv_if_gt (tgt := 261) hx hb dL_isItem_250 (by decide) (fun c_111 => ?_) (fun c_111 => ?_)
                                    · skip
                                      have c_111 : 0 < q9 := n0_gtt (by omega) c_111
                                      refine lv_aload_n hx hb dL_isItem_261 rfl (lv_at hl 5 rfl) ?_
                                      refine lv_iload_n hx hb dL_isItem_262 rfl (lv_at hl 8 rfl) ?_
                                      refine rCallN (C := RX5) (As := [.int (nI kk)]) (rest := []) ⟨hx, hb, hml, hown, hts⟩ fx hw (n_rank l hlt G hG hF σ_56 hA2 hbo kk (by omega)) (cwV 1 hts gL_isItem_X5_rank rfl rfl rfl (by decide +kernel) ⟨Nat.le_of_ble_eq_true rfl, Nat.le_of_ble_eq_true rfl⟩) (hF.1 0 (by decide)) rfl rfl rfl rfl hl.1 rfl (Nat.le_of_ble_eq_true rfl) dL_isItem_263 ⟨Nat.le_trans (show _ ≤ 3 by omega) (Nat.le_of_ble_eq_true rfl), Nat.le_trans (show _ ≤ 20 by omega) (Nat.le_of_ble_eq_true rfl)⟩ (fun r_112 σ_113 H locs p_114 hw => ?_)
                                      obtain ⟨er_112, eσ_113, p_114_0⟩ := p_114
                                      have er_112 := er_112.symm; subst er_112
                                      have eσ_113 := eσ_113.symm; subst eσ_113
                                      refine lv_rep0 (x := (nI (rkA σ_56 n kk))) (y := nI (rkA σ n kk)) (by rw [hurk]) ?_
                                      refine lv_iload hx hb dL_isItem_266 (lv_at hl 1 rfl) ?_
                                      refine lv_icmp_ne (tgt := 275) hx hb dL_isItem_268 (by decide) (fun c_115 => ?_) (fun c_115 => ?_)
                                      · skip
                                        exact absurd rfl c_115
                                      · skip
                                        refine lv_iconst (v := 1) hx hb dL_isItem_271 (by decide) ?_
                                        refine lv_goto (tgt := 276) hx hb dL_isItem_272 (by decide) ?_
                                        exact rRetZw hx hb hr hw (by decide) (by exact ⟨rfl, po_same hA2 hGa2⟩) hlocks dL_isItem_276 (by omega) (by omega)
                                    · skip
                                      have c_111 : q9 = 0 := n0_gtf (by omega) c_111
                                      refine lv_aload_n hx hb dL_isItem_253 rfl (lv_at hl 5 rfl) ?_
                                      refine lv_iload_n hx hb dL_isItem_254 rfl (lv_at hl 8 rfl) ?_
                                      refine rCallN (C := RX5) (As := [.int (nI kk)]) (rest := []) ⟨hx, hb, hml, hown, hts⟩ fx hw (n_stunned1 l hlt G hG hF σ_56 hA2 hj hbo kk (by omega)) (cwV 1 hts gL_isItem_X5_stunned rfl rfl rfl (by decide +kernel) ⟨Nat.le_of_ble_eq_true rfl, Nat.le_of_ble_eq_true rfl⟩) (hF.1 0 (by decide)) rfl rfl rfl rfl hl.1 rfl (Nat.le_of_ble_eq_true rfl) dL_isItem_255 ⟨Nat.le_trans (show _ ≤ 3 by omega) (Nat.le_of_ble_eq_true rfl), Nat.le_trans (show _ ≤ 20 by omega) (Nat.le_of_ble_eq_true rfl)⟩ (fun r_116 σ_117 H locs p_118 hw => ?_)
                                      obtain ⟨er_116, eσ_117, p_118_0⟩ := p_118
                                      have er_116 := er_116.symm; subst er_116
                                      have eσ_117 := eσ_117.symm; subst eσ_117
                                      refine lv_if_ne (tgt := 275) hx hb dL_isItem_258 (by decide) (fun c_119 => ?_) (fun c_119 => ?_)
                                      · skip
                                        have c_119 : ¬ (stN σ_56 kk) = 0 := n0_net (by omega) c_119
                                        omega
                                      · skip
                                        have c_119 : (stN σ_56 kk) = 0 := n0_nef (by omega) c_119
                                        refine lv_aload_n hx hb dL_isItem_261 rfl (lv_at hl 5 rfl) ?_
                                        refine lv_iload_n hx hb dL_isItem_262 rfl (lv_at hl 8 rfl) ?_
                                        refine rCallN (C := RX5) (As := [.int (nI kk)]) (rest := []) ⟨hx, hb, hml, hown, hts⟩ fx hw (n_rank l hlt G hG hF σ_56 hA2 hbo kk (by omega)) (cwV 1 hts gL_isItem_X5_rank rfl rfl rfl (by decide +kernel) ⟨Nat.le_of_ble_eq_true rfl, Nat.le_of_ble_eq_true rfl⟩) (hF.1 0 (by decide)) rfl rfl rfl rfl hl.1 rfl (Nat.le_of_ble_eq_true rfl) dL_isItem_263 ⟨Nat.le_trans (show _ ≤ 3 by omega) (Nat.le_of_ble_eq_true rfl), Nat.le_trans (show _ ≤ 20 by omega) (Nat.le_of_ble_eq_true rfl)⟩ (fun r_120 σ_121 H locs p_122 hw => ?_)
                                        obtain ⟨er_120, eσ_121, p_122_0⟩ := p_122
                                        have er_120 := er_120.symm; subst er_120
                                        have eσ_121 := eσ_121.symm; subst eσ_121
                                        refine lv_rep0 (x := (nI (rkA σ_56 n kk))) (y := nI (rkA σ n kk)) (by rw [hurk]) ?_
                                        refine lv_iload hx hb dL_isItem_266 (lv_at hl 1 rfl) ?_
                                        refine lv_icmp_ne (tgt := 275) hx hb dL_isItem_268 (by decide) (fun c_123 => ?_) (fun c_123 => ?_)
                                        · skip
                                          exact absurd rfl c_123
                                        · skip
                                          refine lv_iconst (v := 1) hx hb dL_isItem_271 (by decide) ?_
                                          refine lv_goto (tgt := 276) hx hb dL_isItem_272 (by decide) ?_
                                          exact rRetZw hx hb hr hw (by decide) (by exact ⟨rfl, po_same hA2 hGa2⟩) hlocks dL_isItem_276 (by omega) (by omega)
                        · skip
                          exact absurd c_59 (by decide)
                      · skip
                        exact absurd c_58 (by decide)
  · skip
    refine lv_iload_n hx hb dL_isItem_0 rfl (lv_at hl 3 rfl) ?_
    refine lv_aload_n hx hb dL_isItem_1 rfl (lv_at hl 2 rfl) ?_
    refine lv_iconst (v := 2) hx hb dL_isItem_2 (by decide) ?_
    refine lv_rep0 (x := 2) (y := nI 2) rfl ?_
    refine rAld hx hb fx hw 33 (hF.1 33 (by decide)) hF.2.1 (fun _ => rfl) 2 rfl (by omega) (by decide) dL_isItem_3 ?_
    refine lv_rep0 (x := (σ 33 2)) (y := (nI n)) (pn hA).1 ?_
    refine lv_icmp_ge (tgt := 11) hx hb dL_isItem_4 (by decide) (fun c_124 => ?_) (fun c_124 => ?_)
    · skip
      have c_124 : n ≤ kk := (nI_leI (by omega) (by omega)).mp c_124
      omega
    · skip
      have c_124 : ¬ n ≤ kk := fun h9 => c_124 ((nI_leI (by omega) (by omega)).mpr h9)
      refine lv_iconst (v := 1) hx hb dL_isItem_7 (by decide) ?_
      refine lv_goto (tgt := 12) hx hb dL_isItem_8 (by decide) ?_
      refine lv_istore (lv' := [(5, .int 1), (0, .ref (gad G 0)), (1, .ref (gad G 32)), (2, .ref (gad G 33)), (3, .int (nI kk)), (4, .int 1)]) hx hb dL_isItem_12 hl (by decide) rfl (fun ls hl => ?_)
      refine lv_iload hx hb dL_isItem_14 (lv_at hl 0 rfl) ?_
      refine lv_if_eq (tgt := 27) hx hb dL_isItem_16 (by decide) (fun c_125 => ?_) (fun c_125 => ?_)
      · skip
        exact absurd c_125 (by decide)
      · skip
        refine lv_aload_n hx hb dL_isItem_19 rfl (lv_at hl 1 rfl) ?_
        refine lv_iload_n hx hb dL_isItem_20 rfl (lv_at hl 4 rfl) ?_
        refine rCallN (C := RX5) (As := [.int (nI kk)]) (rest := []) ⟨hx, hb, hml, hown, hts⟩ fx hw (n_itemOf0 l hlt G hG hF σ hA hbo kk (by omega)) (cwV 1 hts gL_isItem_X5_itemOf rfl rfl rfl (by decide +kernel) ⟨Nat.le_of_ble_eq_true rfl, Nat.le_of_ble_eq_true rfl⟩) (hF.1 0 (by decide)) rfl rfl rfl rfl hl.1 rfl (Nat.le_of_ble_eq_true rfl) dL_isItem_21 ⟨Nat.le_trans (show _ ≤ 3 by omega) (Nat.le_of_ble_eq_true rfl), Nat.le_trans (show _ ≤ 20 by omega) (Nat.le_of_ble_eq_true rfl)⟩ (fun r_126 σ_127 H locs p_128 hw => ?_)
        obtain ⟨er_126, eσ_127⟩ := p_128
        have er_126 := er_126.symm; subst er_126
        have eσ_127 := eσ_127.symm; subst eσ_127
        refine lv_goto (tgt := 28) hx hb dL_isItem_24 (by decide) ?_
        refine lv_istore (lv' := [(6, .int (-1)), (5, .int 1), (0, .ref (gad G 0)), (1, .ref (gad G 32)), (2, .ref (gad G 33)), (3, .int (nI kk)), (4, .int 1)]) hx hb dL_isItem_28 hl (by decide) rfl (fun ls hl => ?_)
        refine lv_iload hx hb dL_isItem_30 (lv_at hl 1 rfl) ?_
        refine lv_if_eq (tgt := 75) hx hb dL_isItem_32 (by decide) (fun c_129 => ?_) (fun c_129 => ?_)
        · skip
          exact absurd c_129 (by decide)
        · skip
          refine lv_aload_n hx hb dL_isItem_35 rfl (lv_at hl 4 rfl) ?_
          refine lv_iconst (v := 3) hx hb dL_isItem_36 (by decide) ?_
          refine lv_rep0 (x := 3) (y := nI 3) rfl ?_
          refine rAld hx hb fx hw 33 (hF.1 33 (by decide)) hF.2.1 (fun _ => rfl) 3 rfl (by omega) (by decide) dL_isItem_37 ?_
          refine lv_rep0 (x := (σ 33 3)) (y := 0) ((pon hA).trans (by rw [hbo]; rfl)) ?_
          refine lv_iconst (v := 1) hx hb dL_isItem_38 (by decide) ?_
          refine lv_icmp_ne (tgt := 75) hx hb dL_isItem_39 (by decide) (fun c_130 => ?_) (fun c_130 => ?_)
          · skip
            refine lv_iconst (v := 0) hx hb dL_isItem_75 (by decide) ?_
            refine lv_istore (lv' := [(7, .int 0), (6, .int (-1)), (5, .int 1), (0, .ref (gad G 0)), (1, .ref (gad G 32)), (2, .ref (gad G 33)), (3, .int (nI kk)), (4, .int 1)]) hx hb dL_isItem_76 hl (by decide) rfl (fun ls hl => ?_)
            refine lv_iload hx hb dL_isItem_78 (lv_at hl 0 rfl) ?_
            refine lv_if_eq (tgt := 91) hx hb dL_isItem_80 (by decide) (fun c_131 => ?_) (fun c_131 => ?_)
            · skip
              refine lv_iconst (v := 0) hx hb dL_isItem_91 (by decide) ?_
              refine lv_istore (lv' := [(8, .int 0), (7, .int 0), (6, .int (-1)), (5, .int 1), (0, .ref (gad G 0)), (1, .ref (gad G 32)), (2, .ref (gad G 33)), (3, .int (nI kk)), (4, .int 1)]) hx hb dL_isItem_92 hl (by decide) rfl (fun ls hl => ?_)
              refine lv_aload_n hx hb dL_isItem_94 rfl (lv_at hl 4 rfl) ?_
              refine lv_iload hx hb dL_isItem_95 (lv_at hl 8 rfl) ?_
              refine lv_if_eq (tgt := 105) hx hb dL_isItem_97 (by decide) (fun c_132 => ?_) (fun c_132 => ?_)
              · skip
                exact absurd c_132 (by decide)
              · skip
                refine lv_bipush (v := 7) hx hb dL_isItem_100 (by decide) ?_
                refine lv_goto (tgt := 107) hx hb dL_isItem_102 (by decide) ?_
                refine lv_iload_n hx hb dL_isItem_107 rfl (lv_at hl 7 rfl) ?_
                refine lv_iconst (v := 0) hx hb dL_isItem_108 (by decide) ?_
                refine lv_iconst (v := 0) hx hb dL_isItem_109 (by decide) ?_
                refine rCallLS (As := [.ref (gad G 0), .int 7, .int (nI kk), .int 0, .int 0]) (rest := []) ⟨hx, hb, hml, hown, hts⟩ fx hw (d7_t2 l hlt G hG hF σ (pcv hA) ((nI kk)) 0 0 (inB_y (show kk < n by omega) (by omega)) (by rw [ix_nI (by omega)]; exact us_no (by first | exact Or.inl hbo | exact Or.inr (Or.inl (by assumption)) | exact Or.inr (Or.inr ⟨hit9, by assumption⟩)))) (vx_cwSW 5 hts gL_isItem_L_does rfl rfl rfl (by decide +kernel) ⟨Nat.le_of_ble_eq_true rfl, Nat.le_of_ble_eq_true rfl⟩) rfl hl.1 rfl (Nat.le_of_ble_eq_true rfl) dL_isItem_110 ⟨Nat.le_trans (show _ ≤ 3 by omega) (Nat.le_of_ble_eq_true rfl), Nat.le_trans (show _ ≤ 20 by omega) (Nat.le_of_ble_eq_true rfl)⟩ (fun r_133 σ_134 H locs p_135 hw => ?_)
                obtain ⟨er_133, eσ_134⟩ := p_135
                have er_133 := er_133.symm; subst er_133
                have eσ_134 := eσ_134.symm; subst eσ_134
                refine lv_istore (lv' := [(9, .int (-10)), (8, .int 0), (7, .int 0), (6, .int (-1)), (5, .int 1), (0, .ref (gad G 0)), (1, .ref (gad G 32)), (2, .ref (gad G 33)), (3, .int (nI kk)), (4, .int 1)]) hx hb dL_isItem_113 hl (by decide) rfl (fun ls hl => ?_)
                refine lv_iload hx hb dL_isItem_115 (lv_at hl 2 rfl) ?_
                refine lv_if_ne (tgt := 143) hx hb dL_isItem_117 (by decide) (fun c_136 => ?_) (fun c_136 => ?_)
                · skip
                  exact absurd c_136 (by decide)
                · skip
                  refine lv_iload hx hb dL_isItem_120 (lv_at hl 0 rfl) ?_
                  refine lv_iload hx hb dL_isItem_122 (lv_at hl 4 rfl) ?_
                  refine lv_if_eq (tgt := 132) hx hb dL_isItem_124 (by decide) (fun c_137 => ?_) (fun c_137 => ?_)
                  · skip
                    exact absurd c_137 (by decide)
                  · skip
                    refine lv_bipush (v := (-10)) hx hb dL_isItem_127 (by decide) ?_
                    refine lv_goto (tgt := 134) hx hb dL_isItem_129 (by decide) ?_
                    refine lv_icmp_ne (tgt := 141) hx hb dL_isItem_134 (by decide) (fun c_138 => ?_) (fun c_138 => ?_)
                    · skip
                      exact absurd c_138 (by decide)
                    · skip
                      refine lv_iconst (v := 1) hx hb dL_isItem_137 (by decide) ?_
                      refine lv_goto (tgt := 142) hx hb dL_isItem_138 (by decide) ?_
                      exact rRetZw hx hb hr hw (by decide) (by exact ⟨rfl, po_same hA hGa⟩) hlocks dL_isItem_142 (by omega) (by omega)
            · skip
              exact absurd c_131 (by decide)
          · skip
            exact absurd c_130 (by decide)
