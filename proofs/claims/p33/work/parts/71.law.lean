/-! the law: the first gates and karts -/
section PRE5
variable {σ : St} {i j k : Nat} {f1 f2 f3 f4 : Nat → Int32}
theorem PGat_of {τ : St} {g : Nat} (h : AgP τ σ) (hG : PGat σ g) : PGat τ g := by
  unfold PGat
  rw [h 32 (by decide)]
  exact hG
theorem ci_pre1 (hC : CIv σ i 0 false 0 0) (hi : i < 12) : CIv (stGate (upA (upA (upA (upA σ 33 f1) 33 f2) 31 f3) 31 f4) true i) (i + 1) 0 false 0 0 := by
  obtain ⟨hC1, hC2, hC3, hC4, hC5, hC6, hC7, hC8⟩ := hC
  exact ⟨⟨rfl, by omega, by omega⟩, hC2, hC3, hC4, hC5, hC6, hC7, hC8⟩
theorem ci_pre2 {m x y : Nat} {w : Int32} (hC : CIv σ i 0 false 0 0) (hi : i < 12) : CIv (wySt (stGate (upA (upA (upA (upA σ 33 f1) 33 f2) 31 f3) 31 f4) true i) m x y w) (i + 1) 0 false 0 0 := by
  obtain ⟨hC1, hC2, hC3, hC4, hC5, hC6, hC7, hC8⟩ := hC
  exact ⟨⟨rfl, by omega, by omega⟩, hC2, hC3, hC4, hC5, hC6, hC7, hC8⟩
theorem ci_pre3 {m : Nat} (hC : CIv σ m i false 0 0) : CIv (upA (upA σ 32 f1) 33 f2) m i false 0 0 := hC
theorem z_new {w9 : Nat → Int32} {g x y : Nat} (hw : wOk w9 g) (hx : x < 12) (hy : y < 12) (h : ¬ (x < g ∧ y < g)) : w9 (x * 12 + y) = 0 := by
  obtain ⟨w, h1, h2, h3⟩ := hw x y hx hy
  rcases Nat.eq_zero_or_pos w with q | q
  · rw [h1, q]; rfl
  · exact absurd (h3 q).2 h
theorem z_pre1 (hA : PAll σ i 0 0 0 0 0 false 0) (h1 : 1 ≤ i) (h4 : i ≤ 4) : stGate (upA (upA (upA (upA σ 33 f1) 33 f2) 31 f3) 31 f4) true i 2 ((i - 1) * 12 + i) = 0 := by
  show σ 2 ((i - 1) * 12 + i) = 0
  exact z_new hA.2.2.1.1 (by omega) (by omega) (by omega)
theorem z_pre2 {m : Nat} {w : Int32} (hA : PAll σ i 0 0 0 0 0 false 0) (h1 : 1 ≤ i) (h4 : i ≤ 4) : wySt (stGate (upA (upA (upA (upA σ 33 f1) 33 f2) 31 f3) 31 f4) true i) m (i - 1) i w 2 (i * 12 + 0) = 0 := by
  show upd (σ 2) ((i - 1) * 12 + i) w (i * 12 + 0) = 0
  rw [pk_un (by omega)]
  exact z_new hA.2.2.1.1 (by omega) (by omega) (by omega)
set_option maxRecDepth 10000 in
theorem pa_pre (hA : PAll σ i 0 0 0 0 0 false 0) (hG : PGat σ i) (h1 : 1 ≤ i) (h4 : i ≤ 4) :
    PAll (wySt (wySt (stGate (upA (upA (upA (upA σ 33 (upd (σ 33) 1 (σ 33 1 ||| ((1 : Int32) <<< (nI i &&& 31))))) 33 (upd (upA σ 33 (upd (σ 33) 1 (σ 33 1 ||| ((1 : Int32) <<< (nI i &&& 31)))) 33) 0 (nI (i + 1)))) 31 (upd (σ 31) (12 * (i - 1) + i) (nI (10 + i)))) 31 (upd (upd (σ 31) (12 * (i - 1) + i) (nI (10 + i))) (12 * i) (nI 40))) true i) (i + 1) (i - 1) i (nI (10 + i))) (i + 1) i 0 (nI 40)) (i + 1) 0 0 0 0 0 false 0
    ∧ PGat (wySt (wySt (stGate (upA (upA (upA (upA σ 33 (upd (σ 33) 1 (σ 33 1 ||| ((1 : Int32) <<< (nI i &&& 31))))) 33 (upd (upA σ 33 (upd (σ 33) 1 (σ 33 1 ||| ((1 : Int32) <<< (nI i &&& 31)))) 33) 0 (nI (i + 1)))) 31 (upd (σ 31) (12 * (i - 1) + i) (nI (10 + i)))) 31 (upd (upd (σ 31) (12 * (i - 1) + i) (nI (10 + i))) (12 * i) (nI 40))) true i) (i + 1) (i - 1) i (nI (10 + i))) (i + 1) i 0 (nI 40)) (i + 1) := by
  obtain ⟨⟨hC1, hC2, hC3, hC4, hC5, hC6, hC7, hC8⟩, ⟨n1, n2, n3, n4, n5, n6, n7, n8, n9, n10⟩, ⟨w1, w2, w3⟩, hcu, hte, hra, ht, hz⟩ := hA
  have hw9 : wOk (upd (upd (σ 2) ((i - 1) * 12 + i) (nI (10 + i))) (i * 12 + 0) (nI 40)) (i + 1) := wOk_u (wOk_u (wOk_s w1) (by omega) (by omega) (by omega) (by omega) (by omega)) (by omega) (by omega) (by omega) (by omega) (by omega)
  refine ⟨⟨⟨⟨rfl, by omega, by omega⟩, hC2, hC3, hC4, hC5, hC6, hC7, hC8⟩, ⟨rfl, ?_, n3, n4, n5, n6, n7, n8, by omega, n10⟩, ⟨hw9, FX_mr hw9 (by omega) _, fun q hq => ?_⟩, hcu, hte, fun h => absurd h (by decide), ht, hz⟩, fun k hk => ?_⟩
  · show σ 33 1 ||| ((1 : Int32) <<< (nI i &&& 31)) = (if true = true then σ 1 3 ||| ((1 : Int32) <<< (nI i &&& 31)) else σ 1 3)
    rw [if_pos rfl, n2]
  · show upd (upd (σ 31) (12 * (i - 1) + i) (nI (10 + i))) (12 * i) (nI 40) q = upd (upd (σ 2) ((i - 1) * 12 + i) (nI (10 + i))) (i * 12 + 0) (nI 40) q
    rw [Nat.mul_comm 12 (i - 1), Nat.mul_comm 12 i, Nat.add_zero]
    unfold upd
    split
    · rfl
    · split
      · rfl
      · exact w3 q hq
  · obtain ⟨ga, a1, a2⟩ := hG k hk
    exact ⟨ga, by omega, a2⟩
theorem pa_kart {q : Nat} (hA : PAll σ i k 0 0 0 0 false 0) (hG : PGat σ i) (hn : k < 6) (hq : q < 4) : PAll (ktSt (upA (upA σ 32 (upd (σ 32) (6 * k) (nI q))) 33 (upd (upA σ 32 (upd (σ 32) (6 * k) (nI q)) 33) 2 (nI (k + 1)))) k (nI q)) i (k + 1) 0 0 0 0 false 0 ∧ PGat (ktSt (upA (upA σ 32 (upd (σ 32) (6 * k) (nI q))) 33 (upd (upA σ 32 (upd (σ 32) (6 * k) (nI q)) 33) 2 (nI (k + 1)))) k (nI q)) i := by
  obtain ⟨⟨hC1, hC2, hC3, hC4, hC5, hC6, hC7, hC8⟩, ⟨n1, n2, n3, n4, n5, n6, n7, n8, n9, n10⟩, ⟨w1, w2, w3⟩, hcu, hte, hra, ht, hz⟩ := hA
  refine ⟨⟨⟨hC1, ⟨rfl, by omega⟩, hC3, hC4, hC5, hC6, fun h => absurd h (by decide), hC8⟩, ⟨n1, n2, rfl, n4, n5, n6, n7, n8, n9, fun h => absurd h (by decide)⟩, ⟨w1, w2, w3⟩, fun q hq => absurd hq (by omega), fun a ha => ?_, fun h => absurd h (by decide), ht, hz⟩, fun a ha => ?_⟩
  · show ∃ q9 : Nat, q9 < 4 ∧ upd (σ 30) k (nI q) a = nI q9
    by_cases c : a = k
    · subst c
      exact ⟨q, hq, pk_us⟩
    · rw [pk_un c]
      exact hte a (by omega)
  · obtain ⟨ga, a1, a2⟩ := hG a ha
    refine ⟨ga, a1, ?_⟩
    show upd (σ 32) (6 * k) (nI q) (6 * a + 1) = nI ga
    rw [pk_un (by omega)]
    exact a2
end PRE5
abbrev rmL_law : Room := room_1

set_option maxHeartbeats 4000000 in
set_option maxRecDepth 100000 in
theorem law_rest (l : Launch) (hlt : l.stackTraces = false) (G : Gx) (hG : gOk G) (hF : Full G) (σ : St) (hA : PAll σ 1 0 0 0 0 0 false 0) (hGa : PGat σ 1) (hgl : 34 ∉ gl G ∧ 35 ∉ gl G) (hLs : (gsc G).2.1 < 1000) {p : Program} {e : Env} {s : State} {m : MethodId} {args : Array Value} {below : List Frame} {meth : Method} {c : Code} {H : Heap} {locs : List Loc} {ls : Array Slot} {Q : State → Prop} (hx : p.tables.exec = Jvm.exec) (hb : c.code = cL_law) (hml : c.maxLocals = 8) (hts : ∀ w ∈ wsL_law, w.before args s = true) (hown : s.vm.findClass RL = some m.cls) (fx : Fx G s) (hw : Wd G s σ H locs) (hl : lv_has ls 8 [(0, .ref (gsc G).1), (1, .ref (gad G 0)), (2, .ref (gad G 31)), (3, .ref (gad G 32)), (4, .ref (gad G 33))])
    (fin : ∀ (σ9 : St) (H9 : Heap) (locs9 : List Loc) (ls9 : Array Slot), Wd G s σ9 H9 locs9 → W p l e rmL_law s m args below meth c H9 locs9 600130 7301080 Q (F0 m 487 ls9 [.int 1])) : W p l e rmL_law s m args below meth c H locs 100 3000 Q (F0 m 29 ls []) := by
  refine lv_aload_n hx hb dL_law_29 rfl (lv_at hl 1 rfl) ?_
  refine lv_aload_n hx hb dL_law_30 rfl (lv_at hl 2 rfl) ?_
  refine lv_aload hx hb dL_law_31 (lv_at hl 4 rfl) ?_
  refine rCallM (As := [.ref (gad G 0), .ref (gad G 31), .ref (gad G 33)]) (rest := []) ⟨hx, hb, hml, hown, hts⟩ fx hw (kL_isTrack l hlt G hG hF σ hA) (va_cwS 3 hts gL_law_L_isTrack rfl rfl rfl (by decide +kernel) ⟨Nat.le_of_ble_eq_true rfl, Nat.le_of_ble_eq_true rfl⟩) rfl hl.1 rfl (Nat.le_of_ble_eq_true rfl) dL_law_33 ⟨Nat.le_trans (show _ ≤ 600130 by omega) (Nat.le_of_ble_eq_true rfl), Nat.le_trans (show _ ≤ 7301080 by omega) (Nat.le_of_ble_eq_true rfl)⟩ (fun r_1 σ_2 H locs p_3 hw => ?_)
  obtain ⟨er_1, eσ_2⟩ := p_3
  have er_1 := er_1.symm; subst er_1
  have eσ_2 := eσ_2.symm; subst eσ_2
  refine lv_if_eq (tgt := 63) hx hb dL_law_36 (by decide) (fun c_4 => ?_) (fun c_4 => ?_)
  · skip
    exact absurd c_4 (by decide)
  · skip
    refine lv_aload_n hx hb dL_law_39 rfl (lv_at hl 1 rfl) ?_
    refine lv_aload_n hx hb dL_law_40 rfl (lv_at hl 3 rfl) ?_
    refine lv_aload hx hb dL_law_41 (lv_at hl 4 rfl) ?_
    refine rCallM (As := [.ref (gad G 0), .ref (gad G 32), .ref (gad G 33)]) (rest := []) ⟨hx, hb, hml, hown, hts⟩ fx hw (kL_areKarts l hlt G hG hF σ hA (by decide)) (va_cwS 3 hts gL_law_L_areKarts rfl rfl rfl (by decide +kernel) ⟨Nat.le_of_ble_eq_true rfl, Nat.le_of_ble_eq_true rfl⟩) rfl hl.1 rfl (Nat.le_of_ble_eq_true rfl) dL_law_43 ⟨Nat.le_trans (show _ ≤ 600130 by omega) (Nat.le_of_ble_eq_true rfl), Nat.le_trans (show _ ≤ 7301080 by omega) (Nat.le_of_ble_eq_true rfl)⟩ (fun r_5 σ_6 H locs p_7 hw => ?_)
    obtain ⟨er_5, p_7_0, p_7_1⟩ := p_7
    have er_5 := er_5.symm; subst er_5
    have hA1 := p_7_0
    have hG1 := PGat_of p_7_1 hGa
    refine lv_if_eq (tgt := 63) hx hb dL_law_46 (by decide) (fun c_8 => ?_) (fun c_8 => ?_)
    · skip
      exact absurd c_8 (by decide)
    · skip
      refine lv_aload_n hx hb dL_law_49 rfl (lv_at hl 1 rfl) ?_
      refine lv_aload_n hx hb dL_law_50 rfl (lv_at hl 3 rfl) ?_
      refine lv_aload hx hb dL_law_51 (lv_at hl 4 rfl) ?_
      refine rCallM (As := [.ref (gad G 0), .ref (gad G 32), .ref (gad G 33)]) (rest := []) ⟨hx, hb, hml, hown, hts⟩ fx hw (kL_isCup l hlt G hG hF σ_6 hA1) (va_cwS 3 hts gL_law_L_isCup rfl rfl rfl (by decide +kernel) ⟨Nat.le_of_ble_eq_true rfl, Nat.le_of_ble_eq_true rfl⟩) rfl hl.1 rfl (Nat.le_of_ble_eq_true rfl) dL_law_53 ⟨Nat.le_trans (show _ ≤ 600130 by omega) (Nat.le_of_ble_eq_true rfl), Nat.le_trans (show _ ≤ 7301080 by omega) (Nat.le_of_ble_eq_true rfl)⟩ (fun r_9 σ_10 H locs p_11 hw => ?_)
      obtain ⟨er_9, eσ_10⟩ := p_11
      have er_9 := er_9.symm; subst er_9
      have eσ_10 := eσ_10.symm; subst eσ_10
      refine lv_if_eq (tgt := 63) hx hb dL_law_56 (by decide) (fun c_12 => ?_) (fun c_12 => ?_)
      · skip
        exact absurd c_12 (by decide)
      · skip
        refine lv_iconst (v := 1) hx hb dL_law_59 (by decide) ?_
        refine lv_goto (tgt := 64) hx hb dL_law_60 (by decide) ?_
        refine lv_istore (lv' := [(5, .int 1), (0, .ref (gsc G).1), (1, .ref (gad G 0)), (2, .ref (gad G 31)), (3, .ref (gad G 32)), (4, .ref (gad G 33))]) hx hb dL_law_64 hl (by decide) rfl (fun ls hl => ?_)
        refine lv_aload_n hx hb dL_law_66 rfl (lv_at hl 1 rfl) ?_
        refine lv_iconst (v := 0) hx hb dL_law_67 (by decide) ?_
        refine lv_iconst (v := 3) hx hb dL_law_68 (by decide) ?_
        refine lv_rep1 (x := 0) (y := nI 0) rfl ?_
        refine lv_rep0 (x := 3) (y := nI 3) rfl ?_
        refine rCallM (As := [.ref (gsc G).1, .int (nI 0), .int (nI 3)]) (rest := []) ⟨hx, hb, hml, hown, hts⟩ fx hw (kL_part l hlt G hG hF σ_6 0 3 (by omega) (by omega) (by omega) hLs) (va_cwS 3 hts gL_law_L_part rfl rfl rfl (by decide +kernel) ⟨Nat.le_of_ble_eq_true rfl, Nat.le_of_ble_eq_true rfl⟩) rfl hl.1 rfl (Nat.le_of_ble_eq_true rfl) dL_law_69 ⟨Nat.le_trans (show _ ≤ 600130 by omega) (Nat.le_of_ble_eq_true rfl), Nat.le_trans (show _ ≤ 7301080 by omega) (Nat.le_of_ble_eq_true rfl)⟩ (fun r_13 σ_14 H locs p_15 hw => ?_)
        obtain ⟨er_13, eσ_14, p_15_0⟩ := p_15
        have er_13 := er_13.symm; subst er_13
        have eσ_14 := eσ_14.symm; subst eσ_14
        have lab_267 : ∀ (n9 : Nat), ∀ (k : Nat) (τ3 : St), 60 - k < n9 → k ≤ 60 → PIn τ3 k → ∀ (H : Heap) (locs : List Loc) (ls : Array Slot), Wd G s τ3 H locs → lv_has ls 8 [(0, .ref (gsc G).1), (1, .ref (gad G 0)), (2, .ref (gad G 31)), (3, .ref (gad G 32)), (4, .ref (gad G 33)), (5, .int 1), (6, .int (nI k))] → W p l e rmL_law s m args below meth c H locs (200 + 63 * k) (3500 + 430 * k) (Q) (F0 m 267 ls []) := by
          intro n9
          induction n9 with
          | zero => intro k τ3 hn9; exact absurd hn9 (Nat.not_lt_zero _)
          | succ n9 ih267 =>
            intro k τ3 hn9 h267_0 h267_1 H locs ls hw hl
            obtain ⟨g, n, e9, z, d, t, b, hA, hGa⟩ := h267_1
            have hg5 := (pg hA).2
            have hn6 := (pn hA).2
            have he8 := (pe hA).2
            refine lv_iload hx hb dL_law_267 (lv_at hl 6 rfl) ?_
            refine lv_bipush (v := 60) hx hb dL_law_269 (by decide) ?_
            refine lv_rep0 (x := 60) (y := nI 60) rfl ?_
            refine lv_icmp_ge (tgt := 340) hx hb dL_law_271 (by decide) (fun c_16 => ?_) (fun c_16 => ?_)
            · skip
              have c_16 : 60 ≤ k := (nI_leI (by omega) (by omega)).mp c_16
              refine lv_iload hx hb dL_law_340 (lv_at hl 5 rfl) ?_
              refine lv_if_eq (tgt := 486) hx hb dL_law_342 (by decide) (fun c_17 => ?_) (fun c_17 => ?_)
              · skip
                exact absurd c_17 (by decide)
              · skip
                refine lv_aload_n hx hb dL_law_345 rfl (lv_at hl 1 rfl) ?_
                refine lv_iconst (v := 1) hx hb dL_law_346 (by decide) ?_
                refine lv_iconst (v := 0) hx hb dL_law_347 (by decide) ?_
                refine lv_bipush (v := 12) hx hb dL_law_348 (by decide) ?_
                refine lv_iconst (v := 0) hx hb dL_law_350 (by decide) ?_
                refine rCallLS (As := [.ref (gad G 0), .int 1, .int 0, .int 12, .int 0]) (rest := []) ⟨hx, hb, hml, hown, hts⟩ fx hw (d1_t1 l hlt G hG hF τ3 (pcv hA) 0 12 0 (by rw [show (12 : Int32) = nI 12 from rfl, inB_no (n := g) (a := 12) (by omega) (by omega), Bool.and_false])) (vx_cwSW 5 hts gL_law_L_does rfl rfl rfl (by decide +kernel) ⟨Nat.le_of_ble_eq_true rfl, Nat.le_of_ble_eq_true rfl⟩) rfl hl.1 rfl (Nat.le_of_ble_eq_true rfl) dL_law_351 ⟨Nat.le_trans (show _ ≤ 600130 by omega) (Nat.le_of_ble_eq_true rfl), Nat.le_trans (show _ ≤ 7301080 by omega) (Nat.le_of_ble_eq_true rfl)⟩ (fun r_18 σ_19 H locs p_20 hw => ?_)
                obtain ⟨er_18, eσ_19⟩ := p_20
                have er_18 := er_18.symm; subst er_18
                have eσ_19 := eσ_19.symm; subst eσ_19
                refine lv_bipush (v := (-30)) hx hb dL_law_354 (by decide) ?_
                refine lv_icmp_ne (tgt := 486) hx hb dL_law_356 (by decide) (fun c_21 => ?_) (fun c_21 => ?_)
                · skip
                  exact absurd c_21 (by decide)
                · skip
                  refine lv_aload_n hx hb dL_law_359 rfl (lv_at hl 1 rfl) ?_
                  refine lv_iconst (v := 1) hx hb dL_law_360 (by decide) ?_
                  refine lv_iconst (v := 0) hx hb dL_law_361 (by decide) ?_
                  refine lv_iconst (v := 0) hx hb dL_law_362 (by decide) ?_
                  refine lv_iconst (v := 5) hx hb dL_law_363 (by decide) ?_
                  refine rCallLS (As := [.ref (gad G 0), .int 1, .int 0, .int 0, .int 5]) (rest := []) ⟨hx, hb, hml, hown, hts⟩ fx hw (d1_t2 l hlt G hG hF τ3 (pcv hA) 0 0 5 (by rw [show (0 : Int32) = nI 0 from rfl, inB_y (show 0 < g by omega) (by omega)]; rfl) (by decide)) (vx_cwSW 5 hts gL_law_L_does rfl rfl rfl (by decide +kernel) ⟨Nat.le_of_ble_eq_true rfl, Nat.le_of_ble_eq_true rfl⟩) rfl hl.1 rfl (Nat.le_of_ble_eq_true rfl) dL_law_364 ⟨Nat.le_trans (show _ ≤ 600130 by omega) (Nat.le_of_ble_eq_true rfl), Nat.le_trans (show _ ≤ 7301080 by omega) (Nat.le_of_ble_eq_true rfl)⟩ (fun r_22 σ_23 H locs p_24 hw => ?_)
                  obtain ⟨er_22, eσ_23⟩ := p_24
                  have er_22 := er_22.symm; subst er_22
                  have eσ_23 := eσ_23.symm; subst eσ_23
                  refine lv_bipush (v := (-20)) hx hb dL_law_367 (by decide) ?_
                  refine lv_icmp_ne (tgt := 486) hx hb dL_law_369 (by decide) (fun c_25 => ?_) (fun c_25 => ?_)
                  · skip
                    exact absurd c_25 (by decide)
                  · skip
                    refine lv_aload_n hx hb dL_law_372 rfl (lv_at hl 1 rfl) ?_
                    refine lv_iconst (v := 2) hx hb dL_law_373 (by decide) ?_
                    refine lv_iconst (v := (-1)) hx hb dL_law_374 (by decide) ?_
                    refine lv_iconst (v := 0) hx hb dL_law_375 (by decide) ?_
                    refine lv_iconst (v := 0) hx hb dL_law_376 (by decide) ?_
                    refine rCallLS (As := [.ref (gad G 0), .int 2, .int (-1), .int 0, .int 0]) (rest := []) ⟨hx, hb, hml, hown, hts⟩ fx hw (d2_t1 l hlt G hG hF τ3 (pcv hA) (-1) 0 0 (by decide)) (vx_cwSW 5 hts gL_law_L_does rfl rfl rfl (by decide +kernel) ⟨Nat.le_of_ble_eq_true rfl, Nat.le_of_ble_eq_true rfl⟩) rfl hl.1 rfl (Nat.le_of_ble_eq_true rfl) dL_law_377 ⟨Nat.le_trans (show _ ≤ 600130 by omega) (Nat.le_of_ble_eq_true rfl), Nat.le_trans (show _ ≤ 7301080 by omega) (Nat.le_of_ble_eq_true rfl)⟩ (fun r_26 σ_27 H locs p_28 hw => ?_)
                    obtain ⟨er_26, eσ_27⟩ := p_28
                    have er_26 := er_26.symm; subst er_26
                    have eσ_27 := eσ_27.symm; subst eσ_27
                    refine lv_bipush (v := (-30)) hx hb dL_law_380 (by decide) ?_
                    refine lv_icmp_ne (tgt := 486) hx hb dL_law_382 (by decide) (fun c_29 => ?_) (fun c_29 => ?_)
                    · skip
                      exact absurd c_29 (by decide)
                    · skip
                      refine lv_aload_n hx hb dL_law_385 rfl (lv_at hl 1 rfl) ?_
                      refine lv_iconst (v := 3) hx hb dL_law_386 (by decide) ?_
                      refine lv_iconst (v := 0) hx hb dL_law_387 (by decide) ?_
                      refine lv_iconst (v := 0) hx hb dL_law_388 (by decide) ?_
                      refine lv_iconst (v := 0) hx hb dL_law_389 (by decide) ?_
                      refine rCallLS (As := [.ref (gad G 0), .int 3, .int 0, .int 0, .int 0]) (rest := []) ⟨hx, hb, hml, hown, hts⟩ fx hw (d3_t1 l hlt G hG hF τ3 (pcv hA) 0 0 0 (by decide)) (vx_cwSW 5 hts gL_law_L_does rfl rfl rfl (by decide +kernel) ⟨Nat.le_of_ble_eq_true rfl, Nat.le_of_ble_eq_true rfl⟩) rfl hl.1 rfl (Nat.le_of_ble_eq_true rfl) dL_law_390 ⟨Nat.le_trans (show _ ≤ 600130 by omega) (Nat.le_of_ble_eq_true rfl), Nat.le_trans (show _ ≤ 7301080 by omega) (Nat.le_of_ble_eq_true rfl)⟩ (fun r_30 σ_31 H locs p_32 hw => ?_)
                      obtain ⟨er_30, eσ_31⟩ := p_32
                      have er_30 := er_30.symm; subst er_30
                      have eσ_31 := eσ_31.symm; subst eσ_31
                      refine lv_bipush (v := (-20)) hx hb dL_law_393 (by decide) ?_
                      refine lv_icmp_ne (tgt := 486) hx hb dL_law_395 (by decide) (fun c_33 => ?_) (fun c_33 => ?_)
                      · skip
                        exact absurd c_33 (by decide)
                      · skip
                        refine lv_aload_n hx hb dL_law_398 rfl (lv_at hl 1 rfl) ?_
                        refine lv_iconst (v := 4) hx hb dL_law_399 (by decide) ?_
                        refine lv_bipush (v := 6) hx hb dL_law_400 (by decide) ?_
                        refine lv_iconst (v := 0) hx hb dL_law_402 (by decide) ?_
                        refine lv_iconst (v := 0) hx hb dL_law_403 (by decide) ?_
                        refine rCallLS (As := [.ref (gad G 0), .int 4, .int 6, .int 0, .int 0]) (rest := []) ⟨hx, hb, hml, hown, hts⟩ fx hw (d4_t1 l hlt G hG hF τ3 (pcv hA) 6 0 0 (by rw [show (6 : Int32) = nI 6 from rfl, inB_no (n := n) (a := 6) (by omega) (by omega), Bool.false_and])) (vx_cwSW 5 hts gL_law_L_does rfl rfl rfl (by decide +kernel) ⟨Nat.le_of_ble_eq_true rfl, Nat.le_of_ble_eq_true rfl⟩) rfl hl.1 rfl (Nat.le_of_ble_eq_true rfl) dL_law_404 ⟨Nat.le_trans (show _ ≤ 600130 by omega) (Nat.le_of_ble_eq_true rfl), Nat.le_trans (show _ ≤ 7301080 by omega) (Nat.le_of_ble_eq_true rfl)⟩ (fun r_34 σ_35 H locs p_36 hw => ?_)
                        obtain ⟨er_34, eσ_35⟩ := p_36
                        have er_34 := er_34.symm; subst er_34
                        have eσ_35 := eσ_35.symm; subst eσ_35
                        refine lv_bipush (v := (-30)) hx hb dL_law_407 (by decide) ?_
                        refine lv_icmp_ne (tgt := 486) hx hb dL_law_409 (by decide) (fun c_37 => ?_) (fun c_37 => ?_)
                        · skip
                          exact absurd c_37 (by decide)
                        · skip
                          refine lv_aload_n hx hb dL_law_412 rfl (lv_at hl 1 rfl) ?_
                          refine lv_iconst (v := 5) hx hb dL_law_413 (by decide) ?_
                          refine lv_iconst (v := 0) hx hb dL_law_414 (by decide) ?_
                          refine lv_iconst (v := 0) hx hb dL_law_415 (by decide) ?_
                          refine lv_iconst (v := 0) hx hb dL_law_416 (by decide) ?_
                          refine rCallLS (As := [.ref (gad G 0), .int 5, .int 0, .int 0, .int 0]) (rest := []) ⟨hx, hb, hml, hown, hts⟩ fx hw (d5_t1 l hlt G hG hF τ3 (pcv hA) 0 0 0 (by decide)) (vx_cwSW 5 hts gL_law_L_does rfl rfl rfl (by decide +kernel) ⟨Nat.le_of_ble_eq_true rfl, Nat.le_of_ble_eq_true rfl⟩) rfl hl.1 rfl (Nat.le_of_ble_eq_true rfl) dL_law_417 ⟨Nat.le_trans (show _ ≤ 600130 by omega) (Nat.le_of_ble_eq_true rfl), Nat.le_trans (show _ ≤ 7301080 by omega) (Nat.le_of_ble_eq_true rfl)⟩ (fun r_38 σ_39 H locs p_40 hw => ?_)
                          obtain ⟨er_38, eσ_39⟩ := p_40
                          have er_38 := er_38.symm; subst er_38
                          have eσ_39 := eσ_39.symm; subst eσ_39
                          refine lv_bipush (v := (-20)) hx hb dL_law_420 (by decide) ?_
                          refine lv_icmp_ne (tgt := 486) hx hb dL_law_422 (by decide) (fun c_41 => ?_) (fun c_41 => ?_)
                          · skip
                            exact absurd c_41 (by decide)
                          · skip
                            refine lv_aload_n hx hb dL_law_425 rfl (lv_at hl 1 rfl) ?_
                            refine lv_bipush (v := 6) hx hb dL_law_426 (by decide) ?_
                            refine lv_iconst (v := (-1)) hx hb dL_law_428 (by decide) ?_
                            refine lv_iconst (v := 0) hx hb dL_law_429 (by decide) ?_
                            refine lv_iconst (v := 0) hx hb dL_law_430 (by decide) ?_
                            refine rCallLS (As := [.ref (gad G 0), .int 6, .int (-1), .int 0, .int 0]) (rest := []) ⟨hx, hb, hml, hown, hts⟩ fx hw (d6_t1 l hlt G hG hF τ3 (pcv hA) (-1) 0 0 (inB_m1 n)) (vx_cwSW 5 hts gL_law_L_does rfl rfl rfl (by decide +kernel) ⟨Nat.le_of_ble_eq_true rfl, Nat.le_of_ble_eq_true rfl⟩) rfl hl.1 rfl (Nat.le_of_ble_eq_true rfl) dL_law_431 ⟨Nat.le_trans (show _ ≤ 600130 by omega) (Nat.le_of_ble_eq_true rfl), Nat.le_trans (show _ ≤ 7301080 by omega) (Nat.le_of_ble_eq_true rfl)⟩ (fun r_42 σ_43 H locs p_44 hw => ?_)
                            obtain ⟨er_42, eσ_43⟩ := p_44
                            have er_42 := er_42.symm; subst er_42
                            have eσ_43 := eσ_43.symm; subst eσ_43
                            refine lv_bipush (v := (-30)) hx hb dL_law_434 (by decide) ?_
                            refine lv_icmp_ne (tgt := 486) hx hb dL_law_436 (by decide) (fun c_45 => ?_) (fun c_45 => ?_)
                            · skip
                              exact absurd c_45 (by decide)
                            · skip
                              refine lv_aload_n hx hb dL_law_439 rfl (lv_at hl 1 rfl) ?_
                              refine lv_bipush (v := 7) hx hb dL_law_440 (by decide) ?_
                              refine lv_bipush (v := 6) hx hb dL_law_442 (by decide) ?_
                              refine lv_iconst (v := 0) hx hb dL_law_444 (by decide) ?_
                              refine lv_iconst (v := 0) hx hb dL_law_445 (by decide) ?_
                              refine rCallLS (As := [.ref (gad G 0), .int 7, .int 6, .int 0, .int 0]) (rest := []) ⟨hx, hb, hml, hown, hts⟩ fx hw (d7_t1 l hlt G hG hF τ3 (pcv hA) 6 0 0 (by rw [show (6 : Int32) = nI 6 from rfl]; exact inB_no (n := n) (a := 6) (by omega) (by omega))) (vx_cwSW 5 hts gL_law_L_does rfl rfl rfl (by decide +kernel) ⟨Nat.le_of_ble_eq_true rfl, Nat.le_of_ble_eq_true rfl⟩) rfl hl.1 rfl (Nat.le_of_ble_eq_true rfl) dL_law_446 ⟨Nat.le_trans (show _ ≤ 600130 by omega) (Nat.le_of_ble_eq_true rfl), Nat.le_trans (show _ ≤ 7301080 by omega) (Nat.le_of_ble_eq_true rfl)⟩ (fun r_46 σ_47 H locs p_48 hw => ?_)
                              obtain ⟨er_46, eσ_47⟩ := p_48
                              have er_46 := er_46.symm; subst er_46
                              have eσ_47 := eσ_47.symm; subst eσ_47
                              refine lv_bipush (v := (-30)) hx hb dL_law_449 (by decide) ?_
                              refine lv_icmp_ne (tgt := 486) hx hb dL_law_451 (by decide) (fun c_49 => ?_) (fun c_49 => ?_)
                              · skip
                                exact absurd c_49 (by decide)
                              · skip
                                refine lv_aload_n hx hb dL_law_454 rfl (lv_at hl 1 rfl) ?_
                                refine lv_bipush (v := 9) hx hb dL_law_455 (by decide) ?_
                                refine lv_iconst (v := 4) hx hb dL_law_457 (by decide) ?_
                                refine lv_iconst (v := 0) hx hb dL_law_458 (by decide) ?_
                                refine lv_iconst (v := 0) hx hb dL_law_459 (by decide) ?_
                                refine rCallLS (As := [.ref (gad G 0), .int 9, .int 4, .int 0, .int 0]) (rest := []) ⟨hx, hb, hml, hown, hts⟩ fx hw (d9_t1 l hlt G hG hF τ3 (pcv hA) 4 0 0 (by decide)) (vx_cwSW 5 hts gL_law_L_does rfl rfl rfl (by decide +kernel) ⟨Nat.le_of_ble_eq_true rfl, Nat.le_of_ble_eq_true rfl⟩) rfl hl.1 rfl (Nat.le_of_ble_eq_true rfl) dL_law_460 ⟨Nat.le_trans (show _ ≤ 600130 by omega) (Nat.le_of_ble_eq_true rfl), Nat.le_trans (show _ ≤ 7301080 by omega) (Nat.le_of_ble_eq_true rfl)⟩ (fun r_50 σ_51 H locs p_52 hw => ?_)
                                obtain ⟨er_50, eσ_51⟩ := p_52
                                have er_50 := er_50.symm; subst er_50
                                have eσ_51 := eσ_51.symm; subst eσ_51
                                refine lv_bipush (v := (-20)) hx hb dL_law_463 (by decide) ?_
                                refine lv_icmp_ne (tgt := 486) hx hb dL_law_465 (by decide) (fun c_53 => ?_) (fun c_53 => ?_)
                                · skip
                                  exact absurd c_53 (by decide)
                                · skip
                                  refine lv_aload_n hx hb dL_law_468 rfl (lv_at hl 1 rfl) ?_
                                  refine lv_bipush (v := 9) hx hb dL_law_469 (by decide) ?_
                                  refine lv_iconst (v := (-1)) hx hb dL_law_471 (by decide) ?_
                                  refine lv_iconst (v := 0) hx hb dL_law_472 (by decide) ?_
                                  refine lv_iconst (v := 0) hx hb dL_law_473 (by decide) ?_
                                  refine rCallLS (As := [.ref (gad G 0), .int 9, .int (-1), .int 0, .int 0]) (rest := []) ⟨hx, hb, hml, hown, hts⟩ fx hw (d9_t1 l hlt G hG hF τ3 (pcv hA) (-1) 0 0 (by decide)) (vx_cwSW 5 hts gL_law_L_does rfl rfl rfl (by decide +kernel) ⟨Nat.le_of_ble_eq_true rfl, Nat.le_of_ble_eq_true rfl⟩) rfl hl.1 rfl (Nat.le_of_ble_eq_true rfl) dL_law_474 ⟨Nat.le_trans (show _ ≤ 600130 by omega) (Nat.le_of_ble_eq_true rfl), Nat.le_trans (show _ ≤ 7301080 by omega) (Nat.le_of_ble_eq_true rfl)⟩ (fun r_54 σ_55 H locs p_56 hw => ?_)
                                  obtain ⟨er_54, eσ_55⟩ := p_56
                                  have er_54 := er_54.symm; subst er_54
                                  have eσ_55 := eσ_55.symm; subst eσ_55
                                  refine lv_bipush (v := (-20)) hx hb dL_law_477 (by decide) ?_
                                  refine lv_icmp_ne (tgt := 486) hx hb dL_law_479 (by decide) (fun c_57 => ?_) (fun c_57 => ?_)
                                  · skip
                                    exact absurd c_57 (by decide)
                                  · skip
                                    refine lv_iconst (v := 1) hx hb dL_law_482 (by decide) ?_
                                    refine lv_goto (tgt := 487) hx hb dL_law_483 (by decide) ?_
                                    exact W.widen (by omega) (by omega) (fin _ _ _ _ hw)
            · skip
              have c_16 : ¬ 60 ≤ k := fun h9 => c_16 ((nI_leI (by omega) (by omega)).mpr h9)
              refine lv_iload hx hb dL_law_274 (lv_at hl 5 rfl) ?_
              refine lv_if_eq (tgt := 340) hx hb dL_law_276 (by decide) (fun c_58 => ?_) (fun c_58 => ?_)
              · skip
                exact absurd c_58 (by decide)
              · skip
                refine lv_aload_n hx hb dL_law_279 rfl (lv_at hl 1 rfl) ?_
                refine lv_aload_n hx hb dL_law_280 rfl (lv_at hl 0 rfl) ?_
                refine lv_iconst (v := 4) hx hb dL_law_281 (by decide) ?_
                refine lv_iload hx hb dL_law_282 (lv_at hl 6 rfl) ?_
                refine lv_rep1 (x := 4) (y := nI 4) rfl ?_
                refine lv_imul hx hb dL_law_284 ?_
                refine lv_rep0 (x := ((nI 4) * (nI k))) (y := nI (4 * k)) (pk_mul _ _) ?_
                refine lv_iconst (v := 2) hx hb dL_law_285 (by decide) ?_
                refine lv_rep0 (x := 2) (y := nI 2) rfl ?_
                refine lv_iadd hx hb dL_law_286 ?_
                refine lv_rep0 (x := ((nI (4 * k)) + (nI 2))) (y := nI ((4 * k) + 2)) (nI_add _ _) ?_
                refine lv_aload_n hx hb dL_law_287 rfl (lv_at hl 2 rfl) ?_
                refine lv_aload_n hx hb dL_law_288 rfl (lv_at hl 3 rfl) ?_
                refine lv_aload hx hb dL_law_289 (lv_at hl 4 rfl) ?_
                refine rCallM (As := [.ref (gad G 0), .ref (gsc G).1, .int (nI ((4 * k) + 2)), .ref (gad G 31), .ref (gad G 32), .ref (gad G 33)]) (rest := []) ⟨hx, hb, hml, hown, hts⟩ fx hw (kL_isDone l hlt G hG hF τ3 hA hGa (by omega) hgl (((4 * k) + 2)) (by omega) hLs) (va_cwS 6 hts gL_law_L_isDone rfl rfl rfl (by decide +kernel) ⟨Nat.le_of_ble_eq_true rfl, Nat.le_of_ble_eq_true rfl⟩) rfl hl.1 rfl (Nat.le_of_ble_eq_true rfl) dL_law_291 ⟨Nat.le_trans (show _ ≤ 600130 by omega) (Nat.le_of_ble_eq_true rfl), Nat.le_trans (show _ ≤ 7301080 by omega) (Nat.le_of_ble_eq_true rfl)⟩ (fun r_59 σ_60 H locs p_61 hw => ?_)
                obtain ⟨er_59, p_61_0⟩ := p_61
                have er_59 := er_59.symm; subst er_59
                obtain ⟨g8, n8, e8, z8, d8, t8, b8, hA8, hG8⟩ := id p_61_0
                refine lv_if_eq (tgt := 331) hx hb dL_law_294 (by decide) (fun c_62 => ?_) (fun c_62 => ?_)
                · skip
                  exact absurd c_62 (by decide)
                · skip
                  refine lv_aload_n hx hb dL_law_297 rfl (lv_at hl 1 rfl) ?_
                  refine lv_aload_n hx hb dL_law_298 rfl (lv_at hl 2 rfl) ?_
                  refine lv_aload hx hb dL_law_299 (lv_at hl 4 rfl) ?_
                  refine rCallM (As := [.ref (gad G 0), .ref (gad G 31), .ref (gad G 33)]) (rest := []) ⟨hx, hb, hml, hown, hts⟩ fx hw (kL_isTrack l hlt G hG hF σ_60 hA8) (va_cwS 3 hts gL_law_L_isTrack rfl rfl rfl (by decide +kernel) ⟨Nat.le_of_ble_eq_true rfl, Nat.le_of_ble_eq_true rfl⟩) rfl hl.1 rfl (Nat.le_of_ble_eq_true rfl) dL_law_301 ⟨Nat.le_trans (show _ ≤ 600130 by omega) (Nat.le_of_ble_eq_true rfl), Nat.le_trans (show _ ≤ 7301080 by omega) (Nat.le_of_ble_eq_true rfl)⟩ (fun r_63 σ_64 H locs p_65 hw => ?_)
                  obtain ⟨er_63, eσ_64⟩ := p_65
                  have er_63 := er_63.symm; subst er_63
                  have eσ_64 := eσ_64.symm; subst eσ_64
                  refine lv_if_eq (tgt := 331) hx hb dL_law_304 (by decide) (fun c_66 => ?_) (fun c_66 => ?_)
                  · skip
                    exact absurd c_66 (by decide)
                  · skip
                    refine lv_aload_n hx hb dL_law_307 rfl (lv_at hl 1 rfl) ?_
                    refine lv_aload_n hx hb dL_law_308 rfl (lv_at hl 3 rfl) ?_
                    refine lv_aload hx hb dL_law_309 (lv_at hl 4 rfl) ?_
                    refine rCallM (As := [.ref (gad G 0), .ref (gad G 32), .ref (gad G 33)]) (rest := []) ⟨hx, hb, hml, hown, hts⟩ fx hw (kL_areKarts l hlt G hG hF σ_60 hA8 (by omega)) (va_cwS 3 hts gL_law_L_areKarts rfl rfl rfl (by decide +kernel) ⟨Nat.le_of_ble_eq_true rfl, Nat.le_of_ble_eq_true rfl⟩) rfl hl.1 rfl (Nat.le_of_ble_eq_true rfl) dL_law_311 ⟨Nat.le_trans (show _ ≤ 600130 by omega) (Nat.le_of_ble_eq_true rfl), Nat.le_trans (show _ ≤ 7301080 by omega) (Nat.le_of_ble_eq_true rfl)⟩ (fun r_67 σ_68 H locs p_69 hw => ?_)
                    obtain ⟨er_67, p_69_0, p_69_1⟩ := p_69
                    have er_67 := er_67.symm; subst er_67
                    have hA9 := p_69_0
                    have hG9 := PGat_of p_69_1 hG8
                    refine lv_if_eq (tgt := 331) hx hb dL_law_314 (by decide) (fun c_70 => ?_) (fun c_70 => ?_)
                    · skip
                      exact absurd c_70 (by decide)
                    · skip
                      refine lv_aload_n hx hb dL_law_317 rfl (lv_at hl 1 rfl) ?_
                      refine lv_aload_n hx hb dL_law_318 rfl (lv_at hl 3 rfl) ?_
                      refine lv_aload hx hb dL_law_319 (lv_at hl 4 rfl) ?_
                      refine rCallM (As := [.ref (gad G 0), .ref (gad G 32), .ref (gad G 33)]) (rest := []) ⟨hx, hb, hml, hown, hts⟩ fx hw (kL_isCup l hlt G hG hF σ_68 hA9) (va_cwS 3 hts gL_law_L_isCup rfl rfl rfl (by decide +kernel) ⟨Nat.le_of_ble_eq_true rfl, Nat.le_of_ble_eq_true rfl⟩) rfl hl.1 rfl (Nat.le_of_ble_eq_true rfl) dL_law_321 ⟨Nat.le_trans (show _ ≤ 600130 by omega) (Nat.le_of_ble_eq_true rfl), Nat.le_trans (show _ ≤ 7301080 by omega) (Nat.le_of_ble_eq_true rfl)⟩ (fun r_71 σ_72 H locs p_73 hw => ?_)
                      obtain ⟨er_71, eσ_72⟩ := p_73
                      have er_71 := er_71.symm; subst er_71
                      have eσ_72 := eσ_72.symm; subst eσ_72
                      refine lv_if_eq (tgt := 331) hx hb dL_law_324 (by decide) (fun c_74 => ?_) (fun c_74 => ?_)
                      · skip
                        exact absurd c_74 (by decide)
                      · skip
                        refine lv_iconst (v := 1) hx hb dL_law_327 (by decide) ?_
                        refine lv_goto (tgt := 332) hx hb dL_law_328 (by decide) ?_
                        refine lv_istore (lv' := [(5, .int 1), (0, .ref (gsc G).1), (1, .ref (gad G 0)), (2, .ref (gad G 31)), (3, .ref (gad G 32)), (4, .ref (gad G 33)), (6, .int (nI k))]) hx hb dL_law_332 hl (by decide) rfl (fun ls hl => ?_)
                        refine lv_iinc (v := (nI (k + 1))) (lv' := [(6, .int (nI (k + 1))), (5, .int 1), (0, .ref (gsc G).1), (1, .ref (gad G 0)), (2, .ref (gad G 31)), (3, .ref (gad G 32)), (4, .ref (gad G 33))]) hx hb dL_law_334 hl (k := 6) rfl (nI_1 _) (by decide) rfl (fun ls hl => ?_)
                        refine lv_goto (tgt := 267) hx hb dL_law_337 (by decide) ?_
                        exact W.widen (by omega) (by omega) (ih267 (k + 1) σ_68 (by omega) (by omega) ⟨g8, n8, e8, z8, d8, t8, b8, hA9, hG9⟩ _ _ _ hw (lv_c (lv_at hl 2 rfl) (lv_c (lv_at hl 3 rfl) (lv_c (lv_at hl 4 rfl) (lv_c (lv_at hl 5 rfl) (lv_c (lv_at hl 6 rfl) (lv_c (lv_at hl 1 rfl) (lv_c (lv_at hl 0 rfl) (lv_c0 hl)))))))))
        refine lv_if_le (tgt := 264) hx hb dL_law_72 (by decide) (fun c_75 => ?_) (fun c_75 => ?_)
        · skip
          have c_75 : (prN G 0 % 3) = 0 := n0_let (by omega) c_75
          refine lv_iconst (v := 0) hx hb dL_law_264 (by decide) ?_
          refine lv_istore (lv' := [(6, .int 0), (5, .int 1), (0, .ref (gsc G).1), (1, .ref (gad G 0)), (2, .ref (gad G 31)), (3, .ref (gad G 32)), (4, .ref (gad G 33))]) hx hb dL_law_265 hl (by decide) rfl (fun ls hl => ?_)
          have q_76 : 0 = (nI 0) := by first | rfl | (rw [decide_eq_true (by omega)]; rfl) | (rw [decide_eq_false (by omega)]; rfl) | (congr 1; omega)
          exact W.widen (by omega) (by omega) (lab_267 (60 - 0 + 1) 0 σ_6 (by omega) (by omega) (by first | exact ⟨_, _, _, _, _, _, _, h208_1, h208_2⟩ | exact ⟨_, _, _, _, _, _, _, hA1, hG1⟩) _ _ _ hw (lv_c (lv_at hl 2 rfl) (lv_c (lv_at hl 3 rfl) (lv_c (lv_at hl 4 rfl) (lv_c (lv_at hl 5 rfl) (lv_c (lv_at hl 6 rfl) (lv_c (lv_at hl 1 rfl) (lv_c (lv_atq hl 0 rfl q_76) (lv_c0 hl)))))))))
        · skip
          have c_75 : 0 < (prN G 0 % 3) := n0_lef (by omega) c_75
          refine lv_iload hx hb dL_law_75 (lv_at hl 0 rfl) ?_
          refine lv_if_eq (tgt := 264) hx hb dL_law_77 (by decide) (fun c_77 => ?_) (fun c_77 => ?_)
          · skip
            exact absurd c_77 (by decide)
          · skip
            refine lv_iconst (v := 1) hx hb dL_law_80 (by decide) ?_
            refine lv_aload_n hx hb dL_law_81 rfl (lv_at hl 1 rfl) ?_
            refine lv_iconst (v := 1) hx hb dL_law_82 (by decide) ?_
            refine lv_iconst (v := 4) hx hb dL_law_83 (by decide) ?_
            refine lv_rep1 (x := 1) (y := nI 1) rfl ?_
            refine lv_rep0 (x := 4) (y := nI 4) rfl ?_
            refine rCallM (As := [.ref (gsc G).1, .int (nI 1), .int (nI 4)]) (rest := [.int 1]) ⟨hx, hb, hml, hown, hts⟩ fx hw (kL_part l hlt G hG hF σ_6 1 4 (by omega) (by omega) (by omega) hLs) (va_cwS 3 hts gL_law_L_part rfl rfl rfl (by decide +kernel) ⟨Nat.le_of_ble_eq_true rfl, Nat.le_of_ble_eq_true rfl⟩) rfl hl.1 rfl (Nat.le_of_ble_eq_true rfl) dL_law_84 ⟨Nat.le_trans (show _ ≤ 600130 by omega) (Nat.le_of_ble_eq_true rfl), Nat.le_trans (show _ ≤ 7301080 by omega) (Nat.le_of_ble_eq_true rfl)⟩ (fun r_78 σ_79 H locs p_80 hw => ?_)
            obtain ⟨er_78, eσ_79, p_80_0⟩ := p_80
            have er_78 := er_78.symm; subst er_78
            have eσ_79 := eσ_79.symm; subst eσ_79
            refine lv_rep1 (x := 1) (y := nI 1) rfl ?_
            refine lv_iadd hx hb dL_law_87 ?_
            refine lv_rep0 (x := ((nI 1) + (nI (prN G 1 % 4)))) (y := nI (1 + (prN G 1 % 4))) (nI_add _ _) ?_
            refine lv_istore (lv' := [(6, .int (nI (1 + (prN G 1 % 4)))), (5, .int 1), (0, .ref (gsc G).1), (1, .ref (gad G 0)), (2, .ref (gad G 31)), (3, .ref (gad G 32)), (4, .ref (gad G 33))]) hx hb dL_law_88 hl (by decide) rfl (fun ls hl => ?_)
            obtain ⟨m9, hm9⟩ : ∃ m9, m9 = 1 + prN G 1 % 4 := ⟨_, rfl⟩
            have hm4 : 1 ≤ m9 ∧ m9 ≤ 4 := by omega
            have q_81 : (nI (1 + (prN G 1 % 4))) = (nI m9) := by rw [hm9]
            have hl : lv_has ls 8 [(6, .int (nI m9)), (5, .int 1), (0, .ref (gsc G).1), (1, .ref (gad G 0)), (2, .ref (gad G 31)), (3, .ref (gad G 32)), (4, .ref (gad G 33))] := (lv_c (lv_atq hl 0 rfl q_81) (lv_c (lv_at hl 1 rfl) (lv_c (lv_at hl 2 rfl) (lv_c (lv_at hl 3 rfl) (lv_c (lv_at hl 4 rfl) (lv_c (lv_at hl 5 rfl) (lv_c (lv_at hl 6 rfl) (lv_c0 hl))))))))
            refine lv_iconst (v := 1) hx hb dL_law_90 (by decide) ?_
            refine lv_istore (lv' := [(7, .int 1), (6, .int (nI m9)), (5, .int 1), (0, .ref (gsc G).1), (1, .ref (gad G 0)), (2, .ref (gad G 31)), (3, .ref (gad G 32)), (4, .ref (gad G 33))]) hx hb dL_law_91 hl (by decide) rfl (fun ls hl => ?_)
            have lab_93 : ∀ (n9 : Nat), ∀ (i : Nat) (τ : St), m9 + 1 - i < n9 → 1 ≤ i → i ≤ m9 + 1 → PAll τ i 0 0 0 0 0 false 0 → PGat τ i → ∀ (H : Heap) (locs : List Loc) (ls : Array Slot), Wd G s τ H locs → lv_has ls 8 [(0, .ref (gsc G).1), (1, .ref (gad G 0)), (2, .ref (gad G 31)), (3, .ref (gad G 32)), (4, .ref (gad G 33)), (5, .int 1), (6, .int (nI m9)), (7, .int (nI i))] → W p l e rmL_law s m args below meth c H locs (160) (3400) (Q) (F0 m 93 ls []) := by
              intro n9
              induction n9 with
              | zero => intro i τ hn9; exact absurd hn9 (Nat.not_lt_zero _)
              | succ n9 ih93 =>
                intro i τ hn9 h93_0 h93_1 h93_2 h93_3 H locs ls hw hl
                refine lv_iload hx hb dL_law_93 (lv_at hl 7 rfl) ?_
                refine lv_iload hx hb dL_law_95 (lv_at hl 6 rfl) ?_
                refine lv_icmp_gt (tgt := 205) hx hb dL_law_97 (by decide) (fun c_82 => ?_) (fun c_82 => ?_)
                · skip
                  have c_82 : m9 < i := (nI_ltI (by omega) (by omega)).mp c_82
                  refine lv_iconst (v := 0) hx hb dL_law_205 (by decide) ?_
                  refine lv_istore (lv' := [(7, .int 0), (0, .ref (gsc G).1), (1, .ref (gad G 0)), (2, .ref (gad G 31)), (3, .ref (gad G 32)), (4, .ref (gad G 33)), (5, .int 1), (6, .int (nI m9))]) hx hb dL_law_206 hl (by decide) rfl (fun ls hl => ?_)
                  have lab_208 : ∀ (n9 : Nat), ∀ (k : Nat) (τ2 : St), 3 - k < n9 → k ≤ 3 → PAll τ2 i k 0 0 0 0 false 0 → PGat τ2 i → ∀ (H : Heap) (locs : List Loc) (ls : Array Slot), Wd G s τ2 H locs → lv_has ls 8 [(0, .ref (gsc G).1), (1, .ref (gad G 0)), (2, .ref (gad G 31)), (3, .ref (gad G 32)), (4, .ref (gad G 33)), (5, .int 1), (7, .int (nI k))] → W p l e rmL_law s m args below meth c H locs (160) (3400) (Q) (F0 m 208 ls []) := by
                    intro n9
                    induction n9 with
                    | zero => intro k τ2 hn9; exact absurd hn9 (Nat.not_lt_zero _)
                    | succ n9 ih208 =>
                      intro k τ2 hn9 h208_0 h208_1 h208_2 H locs ls hw hl
                      refine lv_iload hx hb dL_law_208 (lv_at hl 6 rfl) ?_
                      refine lv_iconst (v := 3) hx hb dL_law_210 (by decide) ?_
                      refine lv_rep0 (x := 3) (y := nI 3) rfl ?_
                      refine lv_icmp_ge (tgt := 264) hx hb dL_law_211 (by decide) (fun c_83 => ?_) (fun c_83 => ?_)
                      · skip
                        have c_83 : 3 ≤ k := (nI_leI (by omega) (by omega)).mp c_83
                        refine lv_iconst (v := 0) hx hb dL_law_264 (by decide) ?_
                        refine lv_istore (lv' := [(6, .int 0), (0, .ref (gsc G).1), (1, .ref (gad G 0)), (2, .ref (gad G 31)), (3, .ref (gad G 32)), (4, .ref (gad G 33)), (5, .int 1), (7, .int (nI k))]) hx hb dL_law_265 hl (by decide) rfl (fun ls hl => ?_)
                        have q_84 : 0 = (nI 0) := by first | rfl | (rw [decide_eq_true (by omega)]; rfl) | (rw [decide_eq_false (by omega)]; rfl) | (congr 1; omega)
                        exact W.widen (by omega) (by omega) (lab_267 (60 - 0 + 1) 0 τ2 (by omega) (by omega) (by first | exact ⟨_, _, _, _, _, _, _, h208_1, h208_2⟩ | exact ⟨_, _, _, _, _, _, _, hA1, hG1⟩) _ _ _ hw (lv_c (lv_at hl 1 rfl) (lv_c (lv_at hl 2 rfl) (lv_c (lv_at hl 3 rfl) (lv_c (lv_at hl 4 rfl) (lv_c (lv_at hl 5 rfl) (lv_c (lv_at hl 6 rfl) (lv_c (lv_atq hl 0 rfl q_84) (lv_c0 hl)))))))))
                      · skip
                        have c_83 : ¬ 3 ≤ k := fun h9 => c_83 ((nI_leI (by omega) (by omega)).mpr h9)
                        refine lv_iload hx hb dL_law_214 (lv_at hl 5 rfl) ?_
                        refine lv_if_eq (tgt := 264) hx hb dL_law_216 (by decide) (fun c_85 => ?_) (fun c_85 => ?_)
                        · skip
                          exact absurd c_85 (by decide)
                        · skip
                          refine lv_aload_n hx hb dL_law_219 rfl (lv_at hl 3 rfl) ?_
                          refine lv_bipush (v := 6) hx hb dL_law_220 (by decide) ?_
                          refine lv_iload hx hb dL_law_222 (lv_at hl 6 rfl) ?_
                          refine lv_rep1 (x := 6) (y := nI 6) rfl ?_
                          refine lv_imul hx hb dL_law_224 ?_
                          refine lv_rep0 (x := ((nI 6) * (nI k))) (y := nI (6 * k)) (pk_mul _ _) ?_
                          refine lv_iload hx hb dL_law_225 (lv_at hl 6 rfl) ?_
                          refine lv_iconst (v := 2) hx hb dL_law_227 (by decide) ?_
                          refine lv_rep0 (x := 2) (y := nI 2) rfl ?_
                          refine lv_irem hx hb dL_law_228 (nI_ne0 (by omega) (by omega)) ?_
                          refine lv_rep0 (y := nI (k % 2)) (pk_rem (by omega) (by omega) (by omega)) ?_
                          refine rAst (x := (nI (k % 2))) hx hb fx hw 32 (hF.1 32 (by decide)) hF.2.1 (fun _ => rfl) (6 * k) rfl (by omega) (by decide) dL_law_229 (fun H locs hw => ?_)
                          obtain ⟨σ_86, eσ_86⟩ : ∃ w9, w9 = upA τ2 32 (upd (τ2 32) (6 * k) (nI (k % 2))) := ⟨_, rfl⟩
                          rw [← eσ_86] at hw
                          refine lv_aload hx hb dL_law_230 (lv_at hl 4 rfl) ?_
                          refine lv_iconst (v := 2) hx hb dL_law_232 (by decide) ?_
                          refine lv_rep0 (x := 2) (y := nI 2) rfl ?_
                          refine lv_dup2_11 hx hb dL_law_233 rfl rfl ?_
                          refine rAld hx hb fx hw 33 (hF.1 33 (by decide)) hF.2.1 (fun _ => rfl) 2 rfl (by omega) (by decide) dL_law_234 ?_
                          refine lv_rep0 (x := (σ_86 33 2)) (y := (nI k)) ((ld_n eσ_86 (by decide)).trans (pn h208_1).1) ?_
                          refine lv_iconst (v := 1) hx hb dL_law_235 (by decide) ?_
                          refine lv_rep0 (x := 1) (y := nI 1) rfl ?_
                          refine lv_iadd hx hb dL_law_236 ?_
                          refine lv_rep0 (x := ((nI k) + (nI 1))) (y := nI (k + 1)) (nI_add _ _) ?_
                          refine rAst (x := (nI (k + 1))) hx hb fx hw 33 (hF.1 33 (by decide)) hF.2.1 (fun _ => rfl) 2 rfl (by omega) (by decide) dL_law_237 (fun H locs hw => ?_)
                          obtain ⟨σ_87, eσ_87⟩ : ∃ w9, w9 = upA σ_86 33 (upd (σ_86 33) 2 (nI (k + 1))) := ⟨_, rfl⟩
                          rw [← eσ_87] at hw
                          refine lv_aload_n hx hb dL_law_238 rfl (lv_at hl 1 rfl) ?_
                          refine lv_iload hx hb dL_law_239 (lv_at hl 6 rfl) ?_
                          refine lv_iconst (v := 2) hx hb dL_law_241 (by decide) ?_
                          refine lv_rep0 (x := 2) (y := nI 2) rfl ?_
                          refine lv_irem hx hb dL_law_242 (nI_ne0 (by omega) (by omega)) ?_
                          refine lv_rep0 (y := nI (k % 2)) (pk_rem (by omega) (by omega) (by omega)) ?_
                          refine rCallN (C := RX5) (As := [.int (nI (k % 2))]) (rest := []) ⟨hx, hb, hml, hown, hts⟩ fx hw (n_addKart l hlt G hG hF σ_87 (show CIv σ_87 i k false 0 0 from by rw [eσ_87, eσ_86]; exact ci_pre3 (pcv h208_1)) rfl rfl ((k % 2)) (by omega) (by omega)) (cwV 1 hts gL_law_X5_addKart rfl rfl rfl (by decide +kernel) ⟨Nat.le_of_ble_eq_true rfl, Nat.le_of_ble_eq_true rfl⟩) (hF.1 0 (by decide)) rfl rfl rfl rfl hl.1 rfl (Nat.le_of_ble_eq_true rfl) dL_law_243 ⟨Nat.le_trans (show _ ≤ 600130 by omega) (Nat.le_of_ble_eq_true rfl), Nat.le_trans (show _ ≤ 7301080 by omega) (Nat.le_of_ble_eq_true rfl)⟩ (fun r_88 σ_89 H locs p_90 hw => ?_)
                          obtain ⟨er_88, eσ_89⟩ := p_90
                          have er_88 := er_88.symm; subst er_88
                          refine lv_iload hx hb dL_law_246 (lv_at hl 6 rfl) ?_
                          refine lv_icmp_ne (tgt := 255) hx hb dL_law_248 (by decide) (fun c_91 => ?_) (fun c_91 => ?_)
                          · skip
                            exact absurd rfl c_91
                          · skip
                            refine lv_iconst (v := 1) hx hb dL_law_251 (by decide) ?_
                            refine lv_goto (tgt := 256) hx hb dL_law_252 (by decide) ?_
                            refine lv_istore (lv' := [(5, .int 1), (0, .ref (gsc G).1), (1, .ref (gad G 0)), (2, .ref (gad G 31)), (3, .ref (gad G 32)), (4, .ref (gad G 33)), (7, .int (nI k))]) hx hb dL_law_256 hl (by decide) rfl (fun ls hl => ?_)
                            refine lv_iinc (v := (nI (k + 1))) (lv' := [(7, .int (nI (k + 1))), (5, .int 1), (0, .ref (gsc G).1), (1, .ref (gad G 0)), (2, .ref (gad G 31)), (3, .ref (gad G 32)), (4, .ref (gad G 33))]) hx hb dL_law_258 hl (k := 6) rfl (nI_1 _) (by decide) rfl (fun ls hl => ?_)
                            refine lv_goto (tgt := 208) hx hb dL_law_261 (by decide) ?_
                            have hQ9 : PAll σ_89 i (k + 1) 0 0 0 0 false 0 ∧ PGat σ_89 i := by rw [eσ_89, eσ_87, eσ_86]; exact pa_kart h208_1 h208_2 (by omega) (by omega)
                            exact W.widen (by omega) (by omega) (ih208 (k + 1) σ_89 (by omega) (by omega) hQ9.1 hQ9.2 _ _ _ hw (lv_c (lv_at hl 2 rfl) (lv_c (lv_at hl 3 rfl) (lv_c (lv_at hl 4 rfl) (lv_c (lv_at hl 5 rfl) (lv_c (lv_at hl 6 rfl) (lv_c (lv_at hl 1 rfl) (lv_c (lv_at hl 0 rfl) (lv_c0 hl)))))))))
                  have q_92 : 0 = (nI 0) := by first | rfl | (rw [decide_eq_true (by omega)]; rfl) | (rw [decide_eq_false (by omega)]; rfl) | (congr 1; omega)
                  exact W.widen (by omega) (by omega) (lab_208 (3 - 0 + 1) 0 τ (by omega) (by omega) h93_2 h93_3 _ _ _ hw (lv_c (lv_at hl 1 rfl) (lv_c (lv_at hl 2 rfl) (lv_c (lv_at hl 3 rfl) (lv_c (lv_at hl 4 rfl) (lv_c (lv_at hl 5 rfl) (lv_c (lv_at hl 6 rfl) (lv_c (lv_atq hl 0 rfl q_92) (lv_c0 hl)))))))))
                · skip
                  have c_82 : ¬ m9 < i := fun h9 => c_82 ((nI_ltI (by omega) (by omega)).mpr h9)
                  refine lv_iload hx hb dL_law_100 (lv_at hl 5 rfl) ?_
                  refine lv_if_eq (tgt := 205) hx hb dL_law_102 (by decide) (fun c_93 => ?_) (fun c_93 => ?_)
                  · skip
                    exact absurd c_93 (by decide)
                  · skip
                    refine lv_aload hx hb dL_law_105 (lv_at hl 4 rfl) ?_
                    refine lv_iconst (v := 1) hx hb dL_law_107 (by decide) ?_
                    refine lv_rep0 (x := 1) (y := nI 1) rfl ?_
                    refine lv_dup2_11 hx hb dL_law_108 rfl rfl ?_
                    refine rAld hx hb fx hw 33 (hF.1 33 (by decide)) hF.2.1 (fun _ => rfl) 1 rfl (by omega) (by decide) dL_law_109 ?_
                    refine lv_iconst (v := 1) hx hb dL_law_110 (by decide) ?_
                    refine lv_iload hx hb dL_law_111 (lv_at hl 7 rfl) ?_
                    refine lv_ishl hx hb dL_law_113 ?_
                    refine lv_ior hx hb dL_law_114 ?_
                    refine rAst (x := ((τ 33 1) ||| ((1 : Int32) <<< ((nI i) &&& 31)))) hx hb fx hw 33 (hF.1 33 (by decide)) hF.2.1 (fun _ => rfl) 1 rfl (by omega) (by decide) dL_law_115 (fun H locs hw => ?_)
                    obtain ⟨σ_94, eσ_94⟩ : ∃ w9, w9 = upA τ 33 (upd (τ 33) 1 ((τ 33 1) ||| ((1 : Int32) <<< ((nI i) &&& 31)))) := ⟨_, rfl⟩
                    rw [← eσ_94] at hw
                    refine lv_aload hx hb dL_law_116 (lv_at hl 4 rfl) ?_
                    refine lv_iconst (v := 0) hx hb dL_law_118 (by decide) ?_
                    refine lv_rep0 (x := 0) (y := nI 0) rfl ?_
                    refine lv_dup2_11 hx hb dL_law_119 rfl rfl ?_
                    refine rAld hx hb fx hw 33 (hF.1 33 (by decide)) hF.2.1 (fun _ => rfl) 0 rfl (by omega) (by decide) dL_law_120 ?_
                    refine lv_rep0 (x := (σ_94 33 0)) (y := (nI i)) ((ld_m eσ_94 (by decide)).trans (pg h93_2).1) ?_
                    refine lv_iconst (v := 1) hx hb dL_law_121 (by decide) ?_
                    refine lv_rep0 (x := 1) (y := nI 1) rfl ?_
                    refine lv_iadd hx hb dL_law_122 ?_
                    refine lv_rep0 (x := ((nI i) + (nI 1))) (y := nI (i + 1)) (nI_add _ _) ?_
                    refine rAst (x := (nI (i + 1))) hx hb fx hw 33 (hF.1 33 (by decide)) hF.2.1 (fun _ => rfl) 0 rfl (by omega) (by decide) dL_law_123 (fun H locs hw => ?_)
                    obtain ⟨σ_95, eσ_95⟩ : ∃ w9, w9 = upA σ_94 33 (upd (σ_94 33) 0 (nI (i + 1))) := ⟨_, rfl⟩
                    rw [← eσ_95] at hw
                    refine lv_aload_n hx hb dL_law_124 rfl (lv_at hl 2 rfl) ?_
                    refine lv_bipush (v := 12) hx hb dL_law_125 (by decide) ?_
                    refine lv_iload hx hb dL_law_127 (lv_at hl 7 rfl) ?_
                    refine lv_iconst (v := 1) hx hb dL_law_129 (by decide) ?_
                    refine lv_rep0 (x := 1) (y := nI 1) rfl ?_
                    refine lv_isub hx hb dL_law_130 ?_
                    refine lv_rep0 (x := ((nI i) - (nI 1))) (y := nI (i - 1)) (pk_sub (by omega)) ?_
                    refine lv_rep1 (x := 12) (y := nI 12) rfl ?_
                    refine lv_imul hx hb dL_law_131 ?_
                    refine lv_rep0 (x := ((nI 12) * (nI (i - 1)))) (y := nI (12 * (i - 1))) (pk_mul _ _) ?_
                    refine lv_iload hx hb dL_law_132 (lv_at hl 7 rfl) ?_
                    refine lv_iadd hx hb dL_law_134 ?_
                    refine lv_rep0 (x := ((nI (12 * (i - 1))) + (nI i))) (y := nI ((12 * (i - 1)) + i)) (nI_add _ _) ?_
                    refine lv_bipush (v := 10) hx hb dL_law_135 (by decide) ?_
                    refine lv_iload hx hb dL_law_137 (lv_at hl 7 rfl) ?_
                    refine lv_rep1 (x := 10) (y := nI 10) rfl ?_
                    refine lv_iadd hx hb dL_law_139 ?_
                    refine lv_rep0 (x := ((nI 10) + (nI i))) (y := nI (10 + i)) (nI_add _ _) ?_
                    refine rAst (x := (nI (10 + i))) hx hb fx hw 31 (hF.1 31 (by decide)) hF.2.1 (fun _ => rfl) ((12 * (i - 1)) + i) rfl (by omega) (by decide) dL_law_140 (fun H locs hw => ?_)
                    obtain ⟨σ_96, eσ_96⟩ : ∃ w9, w9 = upA σ_95 31 (upd (σ_95 31) ((12 * (i - 1)) + i) (nI (10 + i))) := ⟨_, rfl⟩
                    rw [← eσ_96] at hw
                    refine lv_aload_n hx hb dL_law_141 rfl (lv_at hl 2 rfl) ?_
                    refine lv_bipush (v := 12) hx hb dL_law_142 (by decide) ?_
                    refine lv_iload hx hb dL_law_144 (lv_at hl 7 rfl) ?_
                    refine lv_rep1 (x := 12) (y := nI 12) rfl ?_
                    refine lv_imul hx hb dL_law_146 ?_
                    refine lv_rep0 (x := ((nI 12) * (nI i))) (y := nI (12 * i)) (pk_mul _ _) ?_
                    refine lv_bipush (v := 40) hx hb dL_law_147 (by decide) ?_
                    refine rAst (x := 40) hx hb fx hw 31 (hF.1 31 (by decide)) hF.2.1 (fun _ => rfl) (12 * i) rfl (by omega) (by decide) dL_law_149 (fun H locs hw => ?_)
                    obtain ⟨σ_97, eσ_97⟩ : ∃ w9, w9 = upA σ_96 31 (upd (σ_96 31) (12 * i) 40) := ⟨_, rfl⟩
                    rw [← eσ_97] at hw
                    refine lv_aload_n hx hb dL_law_150 rfl (lv_at hl 1 rfl) ?_
                    refine lv_iconst (v := 1) hx hb dL_law_151 (by decide) ?_
                    refine rCallN (C := RX5) (As := [.int (bI true)]) (rest := []) ⟨hx, hb, hml, hown, hts⟩ fx hw (n_addGateT l hlt G hG hF σ_97 (show CIv σ_97 i 0 false 0 0 from by rw [eσ_97, eσ_96, eσ_95, eσ_94]; exact (show CIv τ i 0 false 0 0 from pcv h93_2)) rfl rfl (by omega)) (cwV 1 hts gL_law_X5_addGate rfl rfl rfl (by decide +kernel) ⟨Nat.le_of_ble_eq_true rfl, Nat.le_of_ble_eq_true rfl⟩) (hF.1 0 (by decide)) rfl rfl rfl rfl hl.1 rfl (Nat.le_of_ble_eq_true rfl) dL_law_152 ⟨Nat.le_trans (show _ ≤ 600130 by omega) (Nat.le_of_ble_eq_true rfl), Nat.le_trans (show _ ≤ 7301080 by omega) (Nat.le_of_ble_eq_true rfl)⟩ (fun r_98 σ_99 H locs p_100 hw => ?_)
                    obtain ⟨er_98, eσ_99⟩ := p_100
                    have er_98 := er_98.symm; subst er_98
                    refine lv_iload hx hb dL_law_155 (lv_at hl 7 rfl) ?_
                    refine lv_icmp_ne (tgt := 196) hx hb dL_law_157 (by decide) (fun c_101 => ?_) (fun c_101 => ?_)
                    · skip
                      exact absurd rfl c_101
                    · skip
                      refine lv_aload_n hx hb dL_law_160 rfl (lv_at hl 1 rfl) ?_
                      refine lv_iload hx hb dL_law_161 (lv_at hl 7 rfl) ?_
                      refine lv_iconst (v := 1) hx hb dL_law_163 (by decide) ?_
                      refine lv_rep0 (x := 1) (y := nI 1) rfl ?_
                      refine lv_isub hx hb dL_law_164 ?_
                      refine lv_rep0 (x := ((nI i) - (nI 1))) (y := nI (i - 1)) (pk_sub (by omega)) ?_
                      refine lv_iload hx hb dL_law_165 (lv_at hl 7 rfl) ?_
                      refine lv_bipush (v := 10) hx hb dL_law_167 (by decide) ?_
                      refine lv_iload hx hb dL_law_169 (lv_at hl 7 rfl) ?_
                      refine lv_rep1 (x := 10) (y := nI 10) rfl ?_
                      refine lv_iadd hx hb dL_law_171 ?_
                      refine lv_rep0 (x := ((nI 10) + (nI i))) (y := nI (10 + i)) (nI_add _ _) ?_
                      refine rCallN (C := RX5) (As := [.int (nI (i - 1)), .int (nI i), .int (nI (10 + i))]) (rest := []) ⟨hx, hb, hml, hown, hts⟩ fx hw (n_addWay l hlt G hG hF σ_99 (show CIv σ_99 (i + 1) 0 false 0 0 from by rw [eσ_99, eσ_97, eσ_96, eσ_95, eσ_94]; exact ci_pre1 (pcv h93_2) (by omega)) rfl rfl ((i - 1)) i ((10 + i)) (by omega) (by omega) (by omega) (by omega) (by omega)) (cwV 3 hts gL_law_X5_addWay rfl rfl rfl (by decide +kernel) ⟨Nat.le_of_ble_eq_true rfl, Nat.le_of_ble_eq_true rfl⟩) (hF.1 0 (by decide)) rfl rfl rfl rfl hl.1 rfl (Nat.le_of_ble_eq_true rfl) dL_law_172 ⟨Nat.le_trans (show _ ≤ 600130 by omega) (Nat.le_of_ble_eq_true rfl), Nat.le_trans (show _ ≤ 7301080 by omega) (Nat.le_of_ble_eq_true rfl)⟩ (fun r_102 σ_103 H locs p_104 hw => ?_)
                      obtain ⟨er_102, eσ_103⟩ := p_104
                      have er_102 := er_102.symm; subst er_102
                      have hz1 : σ_99 2 ((i - 1) * 12 + i) = 0 := by rw [eσ_99, eσ_97, eσ_96, eσ_95, eσ_94]; exact z_pre1 h93_2 h93_0 (by omega)
                      refine lv_rep0 (x := (if σ_99 2 ((i - 1) * 12 + i) = 0 then -1 else σ_99 2 ((i - 1) * 12 + i))) (y := (-1)) (by exact if_pos hz1) ?_
                      refine lv_iconst (v := (-1)) hx hb dL_law_175 (by decide) ?_
                      refine lv_icmp_ne (tgt := 196) hx hb dL_law_176 (by decide) (fun c_105 => ?_) (fun c_105 => ?_)
                      · skip
                        exact absurd c_105 (by decide)
                      · skip
                        refine lv_aload_n hx hb dL_law_179 rfl (lv_at hl 1 rfl) ?_
                        refine lv_iload hx hb dL_law_180 (lv_at hl 7 rfl) ?_
                        refine lv_iconst (v := 0) hx hb dL_law_182 (by decide) ?_
                        refine lv_bipush (v := 40) hx hb dL_law_183 (by decide) ?_
                        refine lv_rep1 (x := 0) (y := nI 0) rfl ?_
                        refine lv_rep0 (x := 40) (y := nI 40) rfl ?_
                        refine rCallN (C := RX5) (As := [.int (nI i), .int (nI 0), .int (nI 40)]) (rest := []) ⟨hx, hb, hml, hown, hts⟩ fx hw (n_addWay l hlt G hG hF σ_103 (show CIv σ_103 (i + 1) 0 false 0 0 from by rw [eσ_103, eσ_99, eσ_97, eσ_96, eσ_95, eσ_94]; exact ci_pre2 (pcv h93_2) (by omega)) rfl rfl i 0 40 (by omega) (by omega) (by omega) (by omega) (by omega)) (cwV 3 hts gL_law_X5_addWay rfl rfl rfl (by decide +kernel) ⟨Nat.le_of_ble_eq_true rfl, Nat.le_of_ble_eq_true rfl⟩) (hF.1 0 (by decide)) rfl rfl rfl rfl hl.1 rfl (Nat.le_of_ble_eq_true rfl) dL_law_185 ⟨Nat.le_trans (show _ ≤ 600130 by omega) (Nat.le_of_ble_eq_true rfl), Nat.le_trans (show _ ≤ 7301080 by omega) (Nat.le_of_ble_eq_true rfl)⟩ (fun r_106 σ_107 H locs p_108 hw => ?_)
                        obtain ⟨er_106, eσ_107⟩ := p_108
                        have er_106 := er_106.symm; subst er_106
                        have hz2 : σ_103 2 (i * 12 + 0) = 0 := by rw [eσ_103, eσ_99, eσ_97, eσ_96, eσ_95, eσ_94]; exact z_pre2 h93_2 h93_0 (by omega)
                        refine lv_rep0 (x := (if σ_103 2 (i * 12 + 0) = 0 then -1 else σ_103 2 (i * 12 + 0))) (y := (-1)) (by exact if_pos hz2) ?_
                        refine lv_iconst (v := (-1)) hx hb dL_law_188 (by decide) ?_
                        refine lv_icmp_ne (tgt := 196) hx hb dL_law_189 (by decide) (fun c_109 => ?_) (fun c_109 => ?_)
                        · skip
                          exact absurd c_109 (by decide)
                        · skip
                          refine lv_iconst (v := 1) hx hb dL_law_192 (by decide) ?_
                          refine lv_goto (tgt := 197) hx hb dL_law_193 (by decide) ?_
                          refine lv_istore (lv' := [(5, .int 1), (0, .ref (gsc G).1), (1, .ref (gad G 0)), (2, .ref (gad G 31)), (3, .ref (gad G 32)), (4, .ref (gad G 33)), (6, .int (nI m9)), (7, .int (nI i))]) hx hb dL_law_197 hl (by decide) rfl (fun ls hl => ?_)
                          refine lv_iinc (v := (nI (i + 1))) (lv' := [(7, .int (nI (i + 1))), (5, .int 1), (0, .ref (gsc G).1), (1, .ref (gad G 0)), (2, .ref (gad G 31)), (3, .ref (gad G 32)), (4, .ref (gad G 33)), (6, .int (nI m9))]) hx hb dL_law_199 hl (k := 7) rfl (nI_1 _) (by decide) rfl (fun ls hl => ?_)
                          refine lv_goto (tgt := 93) hx hb dL_law_202 (by decide) ?_
                          have hQ9 : PAll σ_107 (i + 1) 0 0 0 0 0 false 0 ∧ PGat σ_107 (i + 1) := by rw [eσ_107, eσ_103, eσ_99, eσ_97, eσ_96, eσ_95, eσ_94]; exact pa_pre h93_2 h93_3 h93_0 (by omega)
                          exact W.widen (by omega) (by omega) (ih93 (i + 1) σ_107 (by omega) (by omega) (by omega) hQ9.1 hQ9.2 _ _ _ hw (lv_c (lv_at hl 2 rfl) (lv_c (lv_at hl 3 rfl) (lv_c (lv_at hl 4 rfl) (lv_c (lv_at hl 5 rfl) (lv_c (lv_at hl 6 rfl) (lv_c (lv_at hl 1 rfl) (lv_c (lv_at hl 7 rfl) (lv_c (lv_at hl 0 rfl) (lv_c0 hl))))))))))
            have q_110 : 1 = (nI 1) := by first | rfl | (rw [decide_eq_true (by omega)]; rfl) | (rw [decide_eq_false (by omega)]; rfl) | (congr 1; omega)
            exact W.widen (by omega) (by omega) (lab_93 (m9 + 1 - 1 + 1) 1 σ_6 (by omega) (by omega) (by omega) hA1 hG1 _ _ _ hw (lv_c (lv_at hl 3 rfl) (lv_c (lv_at hl 4 rfl) (lv_c (lv_at hl 5 rfl) (lv_c (lv_at hl 6 rfl) (lv_c (lv_at hl 7 rfl) (lv_c (lv_at hl 2 rfl) (lv_c (lv_at hl 1 rfl) (lv_c (lv_atq hl 0 rfl q_110) (lv_c0 hl))))))))))
