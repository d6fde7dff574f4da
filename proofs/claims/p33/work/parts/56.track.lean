/-! the law's own search for the least rest, and the class's -/
section TRKL
variable {σ : St} {g n e9 z d t j f t9 : Nat} {b : Bool}
theorem w31 (h : PAll σ g n e9 z d t b j) (hf : f < g) (ht : t9 < g) : σ 31 (12 * f + t9) = σ 2 (f * 12 + t9) := by
  have hg := (pg h).2.1
  rw [h.2.2.1.2.2 _ (by omega), Nat.mul_comm]
theorem r3v (h : PAll σ g n e9 z d t b j) (hf : f < g) : σ 3 f = -1 ∨ ∃ v : Nat, σ 3 f = nI v ∧ 1 ≤ v ∧ v ≤ 1200 := by
  have hg := (pg h).2.1
  rcases FX_val h.2.2.1.1 (by omega) h.2.2.1.2.1 hf with q | ⟨v, q1, q2, q3⟩
  · exact Or.inl q
  · exact Or.inr ⟨v, q1, q2, by omega⟩
theorem w2v (h : PAll σ g n e9 z d t b j) (hf : f < g) (ht : t9 < g) : ∃ w : Nat, σ 2 (f * 12 + t9) = nI w ∧ w ≤ 100 := by
  have hg := (pg h).2.1
  obtain ⟨w, a1, a2, -⟩ := h.2.2.1.1 f t9 (by omega) (by omega)
  exact ⟨w, a1, a2⟩
theorem its_a (h : PAll σ g n e9 z d t b j) (hf : f < g) (ht : t9 < g) (q : σ 31 (12 * f + t9) = 0) : -1 = itsA (σ 2) (σ 3) f t9 := by
  rw [w31 h hf ht] at q
  unfold itsA
  rw [if_pos (Or.inl q)]
theorem its_b (h : PAll σ g n e9 z d t b j) (ht : t9 < g) (h0 : ¬ t9 = 0) (q : ¬ 0 ≤ σ 3 t9) : -1 = itsA (σ 2) (σ 3) f t9 := by
  rcases r3v h ht with r | ⟨v, r1, r2, r3⟩
  · unfold itsA
    rw [if_pos (Or.inr ⟨by omega, r⟩)]
  · rw [r1] at q
    exact absurd (nI_pos' (by omega)) q
theorem its_c (h : PAll σ g n e9 z d t b j) (hf : f < g) (ht : t9 < g) (h0 : t9 = 0) (q : ¬ σ 31 (12 * f + t9) = 0) : σ 31 (12 * f + t9) + 0 = itsA (σ 2) (σ 3) f t9 := by
  rw [w31 h hf ht] at q ⊢
  unfold itsA
  rw [if_neg (fun r => r.elim q (fun r => absurd r.1 (by omega))), if_neg (by omega), Int32.add_zero]
theorem its_d (h : PAll σ g n e9 z d t b j) (hf : f < g) (ht : t9 < g) (h0 : ¬ t9 = 0) (q : ¬ σ 31 (12 * f + t9) = 0) (q2 : 0 ≤ σ 3 t9) : σ 31 (12 * f + t9) + σ 3 t9 = itsA (σ 2) (σ 3) f t9 := by
  rw [w31 h hf ht] at q ⊢
  unfold itsA
  rw [if_neg (fun r => r.elim q (fun r => by rw [r.2] at q2; exact absurd q2 (by decide))), if_pos (by omega)]
theorem its_v (h : PAll σ g n e9 z d t b j) (hf : f < g) (ht : t9 < g) : itsA (σ 2) (σ 3) f t9 = -1 ∨ ∃ v : Nat, itsA (σ 2) (σ 3) f t9 = nI v ∧ 1 ≤ v ∧ v ≤ 1300 := by
  obtain ⟨w, w1, w2⟩ := w2v h hf ht
  unfold itsA
  by_cases q : σ 2 (f * 12 + t9) = 0 ∨ (0 < t9 ∧ σ 3 t9 = -1)
  · rw [if_pos q]; exact Or.inl rfl
  · rw [if_neg q]
    have hw0 : w ≠ 0 := fun e9 => q (Or.inl (by rw [w1, e9]; rfl))
    by_cases c : 0 < t9
    · rw [if_pos c]
      rcases r3v h ht with r | ⟨v, r1, r2, r3⟩
      · exact absurd (Or.inr ⟨c, r⟩) q
      · rw [w1, r1, nI_add]
        exact Or.inr ⟨w + v, rfl, by omega, by omega⟩
    · rw [if_neg c, w1]
      exact Or.inr ⟨w, rfl, by omega, by omega⟩
theorem fra_v (h : PAll σ g n e9 z d t b j) (hf : f < g) : ∀ t9, t9 ≤ g → frA (σ 2) (σ 3) f t9 = -1 ∨ ∃ v : Nat, frA (σ 2) (σ 3) f t9 = nI v ∧ 1 ≤ v ∧ v ≤ 1300
  | 0, _ => Or.inl rfl
  | i + 1, hi => by
    have h1 := fra_v h hf i (by omega)
    have h2 := its_v h hf (show i < g by omega)
    rw [frA]
    split
    · exact h1
    · split
      · exact h2
      · exact h1
theorem fr_a (h : PAll σ g n e9 z d t b j) (hf : f < g) (ht : t9 < g) (q : itsA (σ 2) (σ 3) f t9 ≤ 0) : frA (σ 2) (σ 3) f t9 = frA (σ 2) (σ 3) f (t9 + 1) := by
  rw [frA]
  rcases its_v h hf ht with r | ⟨v, r1, r2, r3⟩
  · rw [if_pos r]
  · rw [r1] at q
    exact absurd q (nI_nle (by omega) (by omega))
theorem fr_b (h : PAll σ g n e9 z d t b j) (hf : f < g) (ht : t9 < g) (q : ¬ itsA (σ 2) (σ 3) f t9 ≤ 0) (q2 : frA (σ 2) (σ 3) f t9 < 0) : itsA (σ 2) (σ 3) f t9 = frA (σ 2) (σ 3) f (t9 + 1) := by
  rw [frA, if_neg (fun r => by rw [r] at q; exact q (by decide))]
  rcases fra_v h hf t9 (by omega) with r | ⟨v, r1, r2, r3⟩
  · rw [if_pos (Or.inl r)]
  · rw [r1] at q2
    exact absurd q2 (nI_pos (by omega))
theorem fr_c (h : PAll σ g n e9 z d t b j) (hf : f < g) (ht : t9 < g) (q : ¬ itsA (σ 2) (σ 3) f t9 ≤ 0) (q2 : ¬ frA (σ 2) (σ 3) f t9 < 0) (q3 : frA (σ 2) (σ 3) f t9 ≤ itsA (σ 2) (σ 3) f t9) : frA (σ 2) (σ 3) f t9 = frA (σ 2) (σ 3) f (t9 + 1) := by
  rw [frA, if_neg (fun r => by rw [r] at q; exact q (by decide)), if_neg]
  rintro (r | r)
  · rw [r] at q2; exact q2 (by decide)
  · exact absurd r (Int32.not_lt.mpr q3)
theorem fr_d (h : PAll σ g n e9 z d t b j) (hf : f < g) (ht : t9 < g) (q : ¬ itsA (σ 2) (σ 3) f t9 ≤ 0) (q2 : ¬ frA (σ 2) (σ 3) f t9 < 0) (q3 : ¬ frA (σ 2) (σ 3) f t9 ≤ itsA (σ 2) (σ 3) f t9) : itsA (σ 2) (σ 3) f t9 = frA (σ 2) (σ 3) f (t9 + 1) := by
  rw [frA, if_neg (fun r => by rw [r] at q; exact q (by decide)), if_pos (Or.inr (Int32.not_le.mp q3))]
theorem ftk (h : PAll σ g n e9 z d t b j) (hf : f < g) (ht : t9 = g) : σ 3 f = frA (σ 2) (σ 3) f t9 := by
  rw [ht]
  exact h.2.2.1.2.1 f hf
end TRKL

def rmL_isTrack : Room := ({ frames := 9, cells := 4, slots := 30, locals := 148 } : Room)
set_option maxHeartbeats 4000000 in
set_option maxRecDepth 100000 in
theorem kL_isTrack (l : Launch) (hlt : l.stackTraces = false) (G : Gx) (hG : gOk G) (hF : Full G) (σ : St) {g n e9 z d t j : Nat} {b : Bool} (hA : PAll σ g n e9 z d t b j)  : CmI l yL_isTrack wsL_isTrack rmL_isTrack G σ [.ref (gad G 0), .ref (gad G 31), .ref (gad G 33)] (fun r σ' => r = 1 ∧ σ' = σ) 4 30 := by
  refine bgM (cc := cL_isTrack) (maxL := 9) (ret := (some .boolean)) (own := RL) (by decide) rfl rfl hG (Nat.le_of_ble_eq_true rfl) rfl ?_
  intro p e s m args below meth c ls Bd hl
  obtain ⟨hx, hb, hr, hml, hts, hown, hlocks, fx, hw⟩ := Bd
  have hl : lv_has ls 9 [(0, .ref (gad G 0)), (1, .ref (gad G 31)), (2, .ref (gad G 33))] := hl
  have hg5 := (pg hA).2
  have hn6 := (pn hA).2
  have he8 := (pe hA).2
  refine lv_aload_n hx hb dL_isTrack_0 rfl (lv_at hl 0 rfl) ?_
  refine rCallI (C := RX5) (As := []) (rest := []) ⟨hx, hb, hml, hown, hts⟩ fx hw (kX5_gates l G hG hF σ g n e9 z b (pcv hA)) (cwV 0 hts gL_isTrack_X5_gates rfl rfl rfl (by decide +kernel) ⟨Nat.le_of_ble_eq_true rfl, Nat.le_of_ble_eq_true rfl⟩) (hF.1 0 (by decide)) rfl rfl rfl rfl hl.1 rfl (Nat.le_of_ble_eq_true rfl) dL_isTrack_1 ⟨Nat.le_trans (show _ ≤ 4 by omega) (Nat.le_of_ble_eq_true rfl), Nat.le_trans (show _ ≤ 30 by omega) (Nat.le_of_ble_eq_true rfl)⟩ (fun r_1 σ_2 H locs p_3 hw => ?_)
  obtain ⟨er_1, eσ_2⟩ := p_3
  have er_1 := er_1.symm; subst er_1
  have eσ_2 := eσ_2.symm; subst eσ_2
  refine lv_aload_n hx hb dL_isTrack_4 rfl (lv_at hl 2 rfl) ?_
  refine lv_iconst (v := 0) hx hb dL_isTrack_5 (by decide) ?_
  refine lv_rep0 (x := 0) (y := nI 0) rfl ?_
  refine rAld hx hb fx hw 33 (hF.1 33 (by decide)) hF.2.1 (fun _ => rfl) 0 rfl (by omega) (by decide) dL_isTrack_6 ?_
  refine lv_rep0 (x := (σ 33 0)) (y := (nI g)) (pg hA).1 ?_
  refine lv_icmp_ne (tgt := 52) hx hb dL_isTrack_7 (by decide) (fun c_4 => ?_) (fun c_4 => ?_)
  · skip
    exact absurd rfl c_4
  · skip
    refine lv_aload_n hx hb dL_isTrack_10 rfl (lv_at hl 0 rfl) ?_
    refine rCallI (C := RX5) (As := []) (rest := []) ⟨hx, hb, hml, hown, hts⟩ fx hw (kX5_karts l G hG hF σ g n e9 z b (pcv hA)) (cwV 0 hts gL_isTrack_X5_karts rfl rfl rfl (by decide +kernel) ⟨Nat.le_of_ble_eq_true rfl, Nat.le_of_ble_eq_true rfl⟩) (hF.1 0 (by decide)) rfl rfl rfl rfl hl.1 rfl (Nat.le_of_ble_eq_true rfl) dL_isTrack_11 ⟨Nat.le_trans (show _ ≤ 4 by omega) (Nat.le_of_ble_eq_true rfl), Nat.le_trans (show _ ≤ 30 by omega) (Nat.le_of_ble_eq_true rfl)⟩ (fun r_5 σ_6 H locs p_7 hw => ?_)
    obtain ⟨er_5, eσ_6⟩ := p_7
    have er_5 := er_5.symm; subst er_5
    have eσ_6 := eσ_6.symm; subst eσ_6
    refine lv_aload_n hx hb dL_isTrack_14 rfl (lv_at hl 2 rfl) ?_
    refine lv_iconst (v := 2) hx hb dL_isTrack_15 (by decide) ?_
    refine lv_rep0 (x := 2) (y := nI 2) rfl ?_
    refine rAld hx hb fx hw 33 (hF.1 33 (by decide)) hF.2.1 (fun _ => rfl) 2 rfl (by omega) (by decide) dL_isTrack_16 ?_
    refine lv_rep0 (x := (σ 33 2)) (y := (nI n)) (pn hA).1 ?_
    refine lv_icmp_ne (tgt := 52) hx hb dL_isTrack_17 (by decide) (fun c_8 => ?_) (fun c_8 => ?_)
    · skip
      exact absurd rfl c_8
    · skip
      refine lv_aload_n hx hb dL_isTrack_20 rfl (lv_at hl 0 rfl) ?_
      refine lv_iconst (v := 0) hx hb dL_isTrack_21 (by decide) ?_
      refine lv_aload_n hx hb dL_isTrack_22 rfl (lv_at hl 2 rfl) ?_
      refine lv_iconst (v := 0) hx hb dL_isTrack_23 (by decide) ?_
      refine lv_rep0 (x := 0) (y := nI 0) rfl ?_
      refine rAld hx hb fx hw 33 (hF.1 33 (by decide)) hF.2.1 (fun _ => rfl) 0 rfl (by omega) (by decide) dL_isTrack_24 ?_
      refine lv_rep0 (x := (σ 33 0)) (y := (nI g)) (pg hA).1 ?_
      refine lv_iconst (v := 0) hx hb dL_isTrack_25 (by decide) ?_
      refine rCallLS (As := [.ref (gad G 0), .int 0, .int (nI g), .int 0]) (rest := []) ⟨hx, hb, hml, hown, hts⟩ fx hw (a_0T l hlt G hG hF σ hA ((nI g)) 0 (inB_no (Nat.le_refl g) (by omega))) (vx_cwSW 4 hts gL_isTrack_L_asks rfl rfl rfl (by decide +kernel) ⟨Nat.le_of_ble_eq_true rfl, Nat.le_of_ble_eq_true rfl⟩) rfl hl.1 rfl (Nat.le_of_ble_eq_true rfl) dL_isTrack_26 ⟨Nat.le_trans (show _ ≤ 4 by omega) (Nat.le_of_ble_eq_true rfl), Nat.le_trans (show _ ≤ 30 by omega) (Nat.le_of_ble_eq_true rfl)⟩ (fun r_9 σ_10 H locs p_11 hw => ?_)
      obtain ⟨er_9, eσ_10⟩ := p_11
      have er_9 := er_9.symm; subst er_9
      have eσ_10 := eσ_10.symm; subst eσ_10
      refine lv_sipush (v := (-3000)) hx hb dL_isTrack_29 (by decide) ?_
      refine lv_icmp_ne (tgt := 52) hx hb dL_isTrack_32 (by decide) (fun c_12 => ?_) (fun c_12 => ?_)
      · skip
        exact absurd c_12 (by decide)
      · skip
        refine lv_aload_n hx hb dL_isTrack_35 rfl (lv_at hl 0 rfl) ?_
        refine lv_iconst (v := 0) hx hb dL_isTrack_36 (by decide) ?_
        refine lv_iconst (v := (-1)) hx hb dL_isTrack_37 (by decide) ?_
        refine lv_iconst (v := 0) hx hb dL_isTrack_38 (by decide) ?_
        refine rCallLS (As := [.ref (gad G 0), .int 0, .int (-1), .int 0]) (rest := []) ⟨hx, hb, hml, hown, hts⟩ fx hw (a_0T l hlt G hG hF σ hA (-1) 0 (inB_m1 g)) (vx_cwSW 4 hts gL_isTrack_L_asks rfl rfl rfl (by decide +kernel) ⟨Nat.le_of_ble_eq_true rfl, Nat.le_of_ble_eq_true rfl⟩) rfl hl.1 rfl (Nat.le_of_ble_eq_true rfl) dL_isTrack_39 ⟨Nat.le_trans (show _ ≤ 4 by omega) (Nat.le_of_ble_eq_true rfl), Nat.le_trans (show _ ≤ 30 by omega) (Nat.le_of_ble_eq_true rfl)⟩ (fun r_13 σ_14 H locs p_15 hw => ?_)
        obtain ⟨er_13, eσ_14⟩ := p_15
        have er_13 := er_13.symm; subst er_13
        have eσ_14 := eσ_14.symm; subst eσ_14
        refine lv_sipush (v := (-3000)) hx hb dL_isTrack_42 (by decide) ?_
        refine lv_icmp_ne (tgt := 52) hx hb dL_isTrack_45 (by decide) (fun c_16 => ?_) (fun c_16 => ?_)
        · skip
          exact absurd c_16 (by decide)
        · skip
          refine lv_iconst (v := 1) hx hb dL_isTrack_48 (by decide) ?_
          refine lv_goto (tgt := 53) hx hb dL_isTrack_49 (by decide) ?_
          refine lv_istore_n (lv' := [(3, .int 1), (0, .ref (gad G 0)), (1, .ref (gad G 31)), (2, .ref (gad G 33))]) hx hb dL_isTrack_53 rfl hl (by decide) rfl (fun ls hl => ?_)
          refine lv_iconst (v := 0) hx hb dL_isTrack_54 (by decide) ?_
          refine lv_istore (lv' := [(4, .int 0), (3, .int 1), (0, .ref (gad G 0)), (1, .ref (gad G 31)), (2, .ref (gad G 33))]) hx hb dL_isTrack_55 hl (by decide) rfl (fun ls hl => ?_)
          have lab_57 : ∀ (n9 : Nat), ∀ (f : Nat), g - f < n9 → f ≤ g → ∀ (H : Heap) (locs : List Loc) (ls : Array Slot), Wd G s σ H locs → lv_has ls 9 [(0, .ref (gad G 0)), (1, .ref (gad G 31)), (2, .ref (gad G 33)), (3, .int 1), (4, .int (nI f))] → W p l e rmL_isTrack s m args below meth c H locs (2) (12) (MQ below (va_Qi (fun r σ' => r = 1 ∧ σ' = σ) (BW G) (gA G)) args s 4 30 (gA G)) (F0 m 57 ls []) := by
            intro n9
            induction n9 with
            | zero => intro f hn9; exact absurd hn9 (Nat.not_lt_zero _)
            | succ n9 ih57 =>
              intro f hn9 h57_0 H locs ls hw hl
              refine lv_iload hx hb dL_isTrack_57 (lv_at hl 4 rfl) ?_
              refine lv_aload_n hx hb dL_isTrack_59 rfl (lv_at hl 2 rfl) ?_
              refine lv_iconst (v := 0) hx hb dL_isTrack_60 (by decide) ?_
              refine lv_rep0 (x := 0) (y := nI 0) rfl ?_
              refine rAld hx hb fx hw 33 (hF.1 33 (by decide)) hF.2.1 (fun _ => rfl) 0 rfl (by omega) (by decide) dL_isTrack_61 ?_
              refine lv_rep0 (x := (σ 33 0)) (y := (nI g)) (pg hA).1 ?_
              refine lv_icmp_ge (tgt := 188) hx hb dL_isTrack_62 (by decide) (fun c_17 => ?_) (fun c_17 => ?_)
              · skip
                have c_17 : g ≤ f := (nI_leI (by omega) (by omega)).mp c_17
                refine lv_iload_n hx hb dL_isTrack_188 rfl (lv_at hl 3 rfl) ?_
                exact rRetZw hx hb hr hw (by decide) (by exact ⟨rfl, rfl⟩) hlocks dL_isTrack_189 (by omega) (by omega)
              · skip
                have c_17 : ¬ g ≤ f := fun h9 => c_17 ((nI_leI (by omega) (by omega)).mpr h9)
                refine lv_iload_n hx hb dL_isTrack_65 rfl (lv_at hl 3 rfl) ?_
                refine lv_if_eq (tgt := 188) hx hb dL_isTrack_66 (by decide) (fun c_18 => ?_) (fun c_18 => ?_)
                · skip
                  exact absurd c_18 (by decide)
                · skip
                  refine lv_iconst (v := (-1)) hx hb dL_isTrack_69 (by decide) ?_
                  refine lv_istore (lv' := [(5, .int (-1)), (0, .ref (gad G 0)), (1, .ref (gad G 31)), (2, .ref (gad G 33)), (3, .int 1), (4, .int (nI f))]) hx hb dL_isTrack_70 hl (by decide) rfl (fun ls hl => ?_)
                  refine lv_iconst (v := 0) hx hb dL_isTrack_72 (by decide) ?_
                  refine lv_istore (lv' := [(6, .int 0), (5, .int (-1)), (0, .ref (gad G 0)), (1, .ref (gad G 31)), (2, .ref (gad G 33)), (3, .int 1), (4, .int (nI f))]) hx hb dL_isTrack_73 hl (by decide) rfl (fun ls hl => ?_)
                  have lab_75 : ∀ (n9 : Nat), ∀ (t9 : Nat), g - t9 < n9 → t9 ≤ g → ∀ (H : Heap) (locs : List Loc) (ls : Array Slot), Wd G s σ H locs → lv_has ls 9 [(0, .ref (gad G 0)), (1, .ref (gad G 31)), (2, .ref (gad G 33)), (3, .int 1), (4, .int (nI f)), (5, .int (frA (σ 2) (σ 3) f t9)), (6, .int (nI t9))] → W p l e rmL_isTrack s m args below meth c H locs (2) (12) (MQ below (va_Qi (fun r σ' => r = 1 ∧ σ' = σ) (BW G) (gA G)) args s 4 30 (gA G)) (F0 m 75 ls []) := by
                    intro n9
                    induction n9 with
                    | zero => intro t9 hn9; exact absurd hn9 (Nat.not_lt_zero _)
                    | succ n9 ih75 =>
                      intro t9 hn9 h75_0 H locs ls hw hl
                      refine lv_iload hx hb dL_isTrack_75 (lv_at hl 6 rfl) ?_
                      refine lv_aload_n hx hb dL_isTrack_77 rfl (lv_at hl 2 rfl) ?_
                      refine lv_iconst (v := 0) hx hb dL_isTrack_78 (by decide) ?_
                      refine lv_rep0 (x := 0) (y := nI 0) rfl ?_
                      refine rAld hx hb fx hw 33 (hF.1 33 (by decide)) hF.2.1 (fun _ => rfl) 0 rfl (by omega) (by decide) dL_isTrack_79 ?_
                      refine lv_rep0 (x := (σ 33 0)) (y := (nI g)) (pg hA).1 ?_
                      refine lv_icmp_ge (tgt := 165) hx hb dL_isTrack_80 (by decide) (fun c_19 => ?_) (fun c_19 => ?_)
                      · skip
                        have c_19 : g ≤ t9 := (nI_leI (by omega) (by omega)).mp c_19
                        refine lv_aload_n hx hb dL_isTrack_165 rfl (lv_at hl 0 rfl) ?_
                        refine lv_iload hx hb dL_isTrack_166 (lv_at hl 4 rfl) ?_
                        refine rCallN (C := RX5) (As := [.int (nI f)]) (rest := []) ⟨hx, hb, hml, hown, hts⟩ fx hw (n_rest l hlt G hG hF σ hA f (by omega)) (cwV 1 hts gL_isTrack_X5_rest rfl rfl rfl (by decide +kernel) ⟨Nat.le_of_ble_eq_true rfl, Nat.le_of_ble_eq_true rfl⟩) (hF.1 0 (by decide)) rfl rfl rfl rfl hl.1 rfl (Nat.le_of_ble_eq_true rfl) dL_isTrack_168 ⟨Nat.le_trans (show _ ≤ 4 by omega) (Nat.le_of_ble_eq_true rfl), Nat.le_trans (show _ ≤ 30 by omega) (Nat.le_of_ble_eq_true rfl)⟩ (fun r_20 σ_21 H locs p_22 hw => ?_)
                        obtain ⟨er_20, eσ_21⟩ := p_22
                        have er_20 := er_20.symm; subst er_20
                        have eσ_21 := eσ_21.symm; subst eσ_21
                        refine lv_iload hx hb dL_isTrack_171 (lv_at hl 5 rfl) ?_
                        refine lv_icmp_ne (tgt := 180) hx hb dL_isTrack_173 (by decide) (fun c_23 => ?_) (fun c_23 => ?_)
                        · skip
                          exact absurd (ftk hA (show f < g by omega) (show t9 = g by omega)) c_23
                        · skip
                          refine lv_iconst (v := 1) hx hb dL_isTrack_176 (by decide) ?_
                          refine lv_goto (tgt := 181) hx hb dL_isTrack_177 (by decide) ?_
                          refine lv_istore_n (lv' := [(3, .int 1), (0, .ref (gad G 0)), (1, .ref (gad G 31)), (2, .ref (gad G 33)), (4, .int (nI f)), (5, .int (frA (σ 2) (σ 3) f t9)), (6, .int (nI t9))]) hx hb dL_isTrack_181 rfl hl (by decide) rfl (fun ls hl => ?_)
                          refine lv_iinc (v := (nI (f + 1))) (lv' := [(4, .int (nI (f + 1))), (3, .int 1), (0, .ref (gad G 0)), (1, .ref (gad G 31)), (2, .ref (gad G 33)), (5, .int (frA (σ 2) (σ 3) f t9)), (6, .int (nI t9))]) hx hb dL_isTrack_182 hl (k := 4) rfl (nI_1 _) (by decide) rfl (fun ls hl => ?_)
                          refine lv_goto (tgt := 57) hx hb dL_isTrack_185 (by decide) ?_
                          exact W.widen (by omega) (by omega) (ih57 (f + 1) (by omega) (by omega) _ _ _ hw (lv_c (lv_at hl 2 rfl) (lv_c (lv_at hl 3 rfl) (lv_c (lv_at hl 4 rfl) (lv_c (lv_at hl 1 rfl) (lv_c (lv_at hl 0 rfl) (lv_c0 hl)))))))
                      · skip
                        have c_19 : ¬ g ≤ t9 := fun h9 => c_19 ((nI_leI (by omega) (by omega)).mpr h9)
                        have lab_131 : ∀ (H : Heap) (locs : List Loc) (ls : Array Slot), Wd G s σ H locs → lv_has ls 9 [(0, .ref (gad G 0)), (1, .ref (gad G 31)), (2, .ref (gad G 33)), (3, .int 1), (4, .int (nI f)), (5, .int (frA (σ 2) (σ 3) f t9)), (6, .int (nI t9))] → W p l e rmL_isTrack s m args below meth c H locs (2) (12) (MQ below (va_Qi (fun r σ' => r = 1 ∧ σ' = σ) (BW G) (gA G)) args s 4 30 (gA G)) (F0 m 131 ls [.int (itsA (σ 2) (σ 3) f t9)]) := by
                          intro   H locs ls hw hl
                          refine lv_istore (lv' := [(8, .int (itsA (σ 2) (σ 3) f t9)), (0, .ref (gad G 0)), (1, .ref (gad G 31)), (2, .ref (gad G 33)), (3, .int 1), (4, .int (nI f)), (5, .int (frA (σ 2) (σ 3) f t9)), (6, .int (nI t9))]) hx hb dL_isTrack_131 hl (by decide) rfl (fun ls hl => ?_)
                          refine lv_iload hx hb dL_isTrack_133 (lv_at hl 0 rfl) ?_
                          refine lv_if_le (tgt := 155) hx hb dL_isTrack_135 (by decide) (fun c_24 => ?_) (fun c_24 => ?_)
                          · skip
                            refine lv_iload hx hb dL_isTrack_155 (lv_at hl 6 rfl) ?_
                            refine lv_istore (lv' := [(5, .int (frA (σ 2) (σ 3) f t9)), (8, .int (itsA (σ 2) (σ 3) f t9)), (0, .ref (gad G 0)), (1, .ref (gad G 31)), (2, .ref (gad G 33)), (3, .int 1), (4, .int (nI f)), (6, .int (nI t9))]) hx hb dL_isTrack_157 hl (by decide) rfl (fun ls hl => ?_)
                            refine lv_iinc (v := (nI (t9 + 1))) (lv' := [(6, .int (nI (t9 + 1))), (5, .int (frA (σ 2) (σ 3) f t9)), (8, .int (itsA (σ 2) (σ 3) f t9)), (0, .ref (gad G 0)), (1, .ref (gad G 31)), (2, .ref (gad G 33)), (3, .int 1), (4, .int (nI f))]) hx hb dL_isTrack_159 hl (k := 7) rfl (nI_1 _) (by decide) rfl (fun ls hl => ?_)
                            refine lv_goto (tgt := 75) hx hb dL_isTrack_162 (by decide) ?_
                            have q_25 : (frA (σ 2) (σ 3) f t9) = (frA (σ 2) (σ 3) f (t9 + 1)) := by first | exact fr_a hA (show f < g by omega) (show t9 < g by omega) (by assumption) | exact fr_b hA (show f < g by omega) (show t9 < g by omega) (by assumption) (by assumption) | exact fr_c hA (show f < g by omega) (show t9 < g by omega) (by assumption) (by assumption) (by assumption) | exact fr_d hA (show f < g by omega) (show t9 < g by omega) (by assumption) (by assumption) (by assumption)
                            exact W.widen (by omega) (by omega) (ih75 (t9 + 1) (by omega) (by omega) _ _ _ hw (lv_c (lv_at hl 3 rfl) (lv_c (lv_at hl 4 rfl) (lv_c (lv_at hl 5 rfl) (lv_c (lv_at hl 6 rfl) (lv_c (lv_at hl 7 rfl) (lv_c (lv_atq hl 1 rfl q_25) (lv_c (lv_at hl 0 rfl) (lv_c0 hl)))))))))
                          · skip
                            refine lv_iload hx hb dL_isTrack_138 (lv_at hl 6 rfl) ?_
                            refine lv_if_lt (tgt := 150) hx hb dL_isTrack_140 (by decide) (fun c_26 => ?_) (fun c_26 => ?_)
                            · skip
                              refine lv_iload hx hb dL_isTrack_150 (lv_at hl 0 rfl) ?_
                              refine lv_goto (tgt := 157) hx hb dL_isTrack_152 (by decide) ?_
                              refine lv_istore (lv' := [(5, .int (itsA (σ 2) (σ 3) f t9)), (8, .int (itsA (σ 2) (σ 3) f t9)), (0, .ref (gad G 0)), (1, .ref (gad G 31)), (2, .ref (gad G 33)), (3, .int 1), (4, .int (nI f)), (6, .int (nI t9))]) hx hb dL_isTrack_157 hl (by decide) rfl (fun ls hl => ?_)
                              refine lv_iinc (v := (nI (t9 + 1))) (lv' := [(6, .int (nI (t9 + 1))), (5, .int (itsA (σ 2) (σ 3) f t9)), (8, .int (itsA (σ 2) (σ 3) f t9)), (0, .ref (gad G 0)), (1, .ref (gad G 31)), (2, .ref (gad G 33)), (3, .int 1), (4, .int (nI f))]) hx hb dL_isTrack_159 hl (k := 7) rfl (nI_1 _) (by decide) rfl (fun ls hl => ?_)
                              refine lv_goto (tgt := 75) hx hb dL_isTrack_162 (by decide) ?_
                              have q_27 : (itsA (σ 2) (σ 3) f t9) = (frA (σ 2) (σ 3) f (t9 + 1)) := by first | exact fr_a hA (show f < g by omega) (show t9 < g by omega) (by assumption) | exact fr_b hA (show f < g by omega) (show t9 < g by omega) (by assumption) (by assumption) | exact fr_c hA (show f < g by omega) (show t9 < g by omega) (by assumption) (by assumption) (by assumption) | exact fr_d hA (show f < g by omega) (show t9 < g by omega) (by assumption) (by assumption) (by assumption)
                              exact W.widen (by omega) (by omega) (ih75 (t9 + 1) (by omega) (by omega) _ _ _ hw (lv_c (lv_at hl 3 rfl) (lv_c (lv_at hl 4 rfl) (lv_c (lv_at hl 5 rfl) (lv_c (lv_at hl 6 rfl) (lv_c (lv_at hl 7 rfl) (lv_c (lv_atq hl 1 rfl q_27) (lv_c (lv_at hl 0 rfl) (lv_c0 hl)))))))))
                            · skip
                              refine lv_iload hx hb dL_isTrack_143 (lv_at hl 0 rfl) ?_
                              refine lv_iload hx hb dL_isTrack_145 (lv_at hl 6 rfl) ?_
                              refine lv_icmp_ge (tgt := 155) hx hb dL_isTrack_147 (by decide) (fun c_28 => ?_) (fun c_28 => ?_)
                              · skip
                                refine lv_iload hx hb dL_isTrack_155 (lv_at hl 6 rfl) ?_
                                refine lv_istore (lv' := [(5, .int (frA (σ 2) (σ 3) f t9)), (8, .int (itsA (σ 2) (σ 3) f t9)), (0, .ref (gad G 0)), (1, .ref (gad G 31)), (2, .ref (gad G 33)), (3, .int 1), (4, .int (nI f)), (6, .int (nI t9))]) hx hb dL_isTrack_157 hl (by decide) rfl (fun ls hl => ?_)
                                refine lv_iinc (v := (nI (t9 + 1))) (lv' := [(6, .int (nI (t9 + 1))), (5, .int (frA (σ 2) (σ 3) f t9)), (8, .int (itsA (σ 2) (σ 3) f t9)), (0, .ref (gad G 0)), (1, .ref (gad G 31)), (2, .ref (gad G 33)), (3, .int 1), (4, .int (nI f))]) hx hb dL_isTrack_159 hl (k := 7) rfl (nI_1 _) (by decide) rfl (fun ls hl => ?_)
                                refine lv_goto (tgt := 75) hx hb dL_isTrack_162 (by decide) ?_
                                have q_29 : (frA (σ 2) (σ 3) f t9) = (frA (σ 2) (σ 3) f (t9 + 1)) := by first | exact fr_a hA (show f < g by omega) (show t9 < g by omega) (by assumption) | exact fr_b hA (show f < g by omega) (show t9 < g by omega) (by assumption) (by assumption) | exact fr_c hA (show f < g by omega) (show t9 < g by omega) (by assumption) (by assumption) (by assumption) | exact fr_d hA (show f < g by omega) (show t9 < g by omega) (by assumption) (by assumption) (by assumption)
                                exact W.widen (by omega) (by omega) (ih75 (t9 + 1) (by omega) (by omega) _ _ _ hw (lv_c (lv_at hl 3 rfl) (lv_c (lv_at hl 4 rfl) (lv_c (lv_at hl 5 rfl) (lv_c (lv_at hl 6 rfl) (lv_c (lv_at hl 7 rfl) (lv_c (lv_atq hl 1 rfl q_29) (lv_c (lv_at hl 0 rfl) (lv_c0 hl)))))))))
                              · skip
                                refine lv_iload hx hb dL_isTrack_150 (lv_at hl 0 rfl) ?_
                                refine lv_goto (tgt := 157) hx hb dL_isTrack_152 (by decide) ?_
                                refine lv_istore (lv' := [(5, .int (itsA (σ 2) (σ 3) f t9)), (8, .int (itsA (σ 2) (σ 3) f t9)), (0, .ref (gad G 0)), (1, .ref (gad G 31)), (2, .ref (gad G 33)), (3, .int 1), (4, .int (nI f)), (6, .int (nI t9))]) hx hb dL_isTrack_157 hl (by decide) rfl (fun ls hl => ?_)
                                refine lv_iinc (v := (nI (t9 + 1))) (lv' := [(6, .int (nI (t9 + 1))), (5, .int (itsA (σ 2) (σ 3) f t9)), (8, .int (itsA (σ 2) (σ 3) f t9)), (0, .ref (gad G 0)), (1, .ref (gad G 31)), (2, .ref (gad G 33)), (3, .int 1), (4, .int (nI f))]) hx hb dL_isTrack_159 hl (k := 7) rfl (nI_1 _) (by decide) rfl (fun ls hl => ?_)
                                refine lv_goto (tgt := 75) hx hb dL_isTrack_162 (by decide) ?_
                                have q_30 : (itsA (σ 2) (σ 3) f t9) = (frA (σ 2) (σ 3) f (t9 + 1)) := by first | exact fr_a hA (show f < g by omega) (show t9 < g by omega) (by assumption) | exact fr_b hA (show f < g by omega) (show t9 < g by omega) (by assumption) (by assumption) | exact fr_c hA (show f < g by omega) (show t9 < g by omega) (by assumption) (by assumption) (by assumption) | exact fr_d hA (show f < g by omega) (show t9 < g by omega) (by assumption) (by assumption) (by assumption)
                                exact W.widen (by omega) (by omega) (ih75 (t9 + 1) (by omega) (by omega) _ _ _ hw (lv_c (lv_at hl 3 rfl) (lv_c (lv_at hl 4 rfl) (lv_c (lv_at hl 5 rfl) (lv_c (lv_at hl 6 rfl) (lv_c (lv_at hl 7 rfl) (lv_c (lv_atq hl 1 rfl q_30) (lv_c (lv_at hl 0 rfl) (lv_c0 hl)))))))))
                        refine lv_iload hx hb dL_isTrack_83 (lv_at hl 6 rfl) ?_
                        refine lv_if_ne (tgt := 92) hx hb dL_isTrack_85 (by decide) (fun c_31 => ?_) (fun c_31 => ?_)
                        · skip
                          have c_31 : ¬ t9 = 0 := n0_net (by omega) c_31
                          refine lv_aload_n hx hb dL_isTrack_92 rfl (lv_at hl 0 rfl) ?_
                          refine lv_iload hx hb dL_isTrack_93 (lv_at hl 6 rfl) ?_
                          refine rCallN (C := RX5) (As := [.int (nI t9)]) (rest := []) ⟨hx, hb, hml, hown, hts⟩ fx hw (n_rest l hlt G hG hF σ hA t9 (by omega)) (cwV 1 hts gL_isTrack_X5_rest rfl rfl rfl (by decide +kernel) ⟨Nat.le_of_ble_eq_true rfl, Nat.le_of_ble_eq_true rfl⟩) (hF.1 0 (by decide)) rfl rfl rfl rfl hl.1 rfl (Nat.le_of_ble_eq_true rfl) dL_isTrack_95 ⟨Nat.le_trans (show _ ≤ 4 by omega) (Nat.le_of_ble_eq_true rfl), Nat.le_trans (show _ ≤ 30 by omega) (Nat.le_of_ble_eq_true rfl)⟩ (fun r_32 σ_33 H locs p_34 hw => ?_)
                          obtain ⟨er_32, eσ_33⟩ := p_34
                          have er_32 := er_32.symm; subst er_32
                          have eσ_33 := eσ_33.symm; subst eσ_33
                          refine lv_istore (lv' := [(7, .int (σ 3 t9)), (0, .ref (gad G 0)), (1, .ref (gad G 31)), (2, .ref (gad G 33)), (3, .int 1), (4, .int (nI f)), (5, .int (frA (σ 2) (σ 3) f t9)), (6, .int (nI t9))]) hx hb dL_isTrack_98 hl (by decide) rfl (fun ls hl => ?_)
                          refine lv_aload_n hx hb dL_isTrack_100 rfl (lv_at hl 2 rfl) ?_
                          refine lv_iload hx hb dL_isTrack_101 (lv_at hl 5 rfl) ?_
                          refine lv_iload hx hb dL_isTrack_103 (lv_at hl 7 rfl) ?_
                          refine rCallM (As := [.ref (gad G 31), .int (nI f), .int (nI t9)]) (rest := []) ⟨hx, hb, hml, hown, hts⟩ fx hw (kL_way l hlt G hG hF σ f t9 (by omega) (by omega)) (va_cwS 3 hts gL_isTrack_L_way rfl rfl rfl (by decide +kernel) ⟨Nat.le_of_ble_eq_true rfl, Nat.le_of_ble_eq_true rfl⟩) rfl hl.1 rfl (Nat.le_of_ble_eq_true rfl) dL_isTrack_105 ⟨Nat.le_trans (show _ ≤ 4 by omega) (Nat.le_of_ble_eq_true rfl), Nat.le_trans (show _ ≤ 30 by omega) (Nat.le_of_ble_eq_true rfl)⟩ (fun r_35 σ_36 H locs p_37 hw => ?_)
                          obtain ⟨er_35, eσ_36⟩ := p_37
                          have er_35 := er_35.symm; subst er_35
                          have eσ_36 := eσ_36.symm; subst eσ_36
                          refine lv_if_eq (tgt := 116) hx hb dL_isTrack_108 (by decide) (fun c_38 => ?_) (fun c_38 => ?_)
                          · skip
                            refine lv_iconst (v := (-1)) hx hb dL_isTrack_116 (by decide) ?_
                            refine lv_goto (tgt := 131) hx hb dL_isTrack_117 (by decide) ?_
                            have q_39 : (-1) = (itsA (σ 2) (σ 3) f t9) := by first | exact its_a hA (show f < g by omega) (show t9 < g by omega) (by assumption) | exact its_b hA (show t9 < g by omega) (by assumption) (by assumption) | exact its_c hA (show f < g by omega) (show t9 < g by omega) (by assumption) (by assumption) | exact its_d hA (show f < g by omega) (show t9 < g by omega) (by assumption) (by assumption) (by assumption)
                            refine lv_rep0 q_39 ?_
                            exact W.widen (by omega) (by omega) (lab_131   _ _ _ hw (lv_c (lv_at hl 1 rfl) (lv_c (lv_at hl 2 rfl) (lv_c (lv_at hl 3 rfl) (lv_c (lv_at hl 4 rfl) (lv_c (lv_at hl 5 rfl) (lv_c (lv_at hl 6 rfl) (lv_c (lv_at hl 7 rfl) (lv_c0 hl)))))))))
                          · skip
                            refine lv_iload hx hb dL_isTrack_111 (lv_at hl 0 rfl) ?_
                            refine lv_if_ge (tgt := 120) hx hb dL_isTrack_113 (by decide) (fun c_40 => ?_) (fun c_40 => ?_)
                            · skip
                              refine lv_aload_n hx hb dL_isTrack_120 rfl (lv_at hl 2 rfl) ?_
                              refine lv_iload hx hb dL_isTrack_121 (lv_at hl 5 rfl) ?_
                              refine lv_iload hx hb dL_isTrack_123 (lv_at hl 7 rfl) ?_
                              refine rCallM (As := [.ref (gad G 31), .int (nI f), .int (nI t9)]) (rest := []) ⟨hx, hb, hml, hown, hts⟩ fx hw (kL_way l hlt G hG hF σ f t9 (by omega) (by omega)) (va_cwS 3 hts gL_isTrack_L_way rfl rfl rfl (by decide +kernel) ⟨Nat.le_of_ble_eq_true rfl, Nat.le_of_ble_eq_true rfl⟩) rfl hl.1 rfl (Nat.le_of_ble_eq_true rfl) dL_isTrack_125 ⟨Nat.le_trans (show _ ≤ 4 by omega) (Nat.le_of_ble_eq_true rfl), Nat.le_trans (show _ ≤ 30 by omega) (Nat.le_of_ble_eq_true rfl)⟩ (fun r_41 σ_42 H locs p_43 hw => ?_)
                              obtain ⟨er_41, eσ_42⟩ := p_43
                              have er_41 := er_41.symm; subst er_41
                              have eσ_42 := eσ_42.symm; subst eσ_42
                              refine lv_iload hx hb dL_isTrack_128 (lv_at hl 0 rfl) ?_
                              refine lv_iadd hx hb dL_isTrack_130 ?_
                              have q_44 : ((σ 31 ((12 * f) + t9)) + (σ 3 t9)) = (itsA (σ 2) (σ 3) f t9) := by first | exact its_a hA (show f < g by omega) (show t9 < g by omega) (by assumption) | exact its_b hA (show t9 < g by omega) (by assumption) (by assumption) | exact its_c hA (show f < g by omega) (show t9 < g by omega) (by assumption) (by assumption) | exact its_d hA (show f < g by omega) (show t9 < g by omega) (by assumption) (by assumption) (by assumption)
                              refine lv_rep0 q_44 ?_
                              exact W.widen (by omega) (by omega) (lab_131   _ _ _ hw (lv_c (lv_at hl 1 rfl) (lv_c (lv_at hl 2 rfl) (lv_c (lv_at hl 3 rfl) (lv_c (lv_at hl 4 rfl) (lv_c (lv_at hl 5 rfl) (lv_c (lv_at hl 6 rfl) (lv_c (lv_at hl 7 rfl) (lv_c0 hl)))))))))
                            · skip
                              refine lv_iconst (v := (-1)) hx hb dL_isTrack_116 (by decide) ?_
                              refine lv_goto (tgt := 131) hx hb dL_isTrack_117 (by decide) ?_
                              have q_45 : (-1) = (itsA (σ 2) (σ 3) f t9) := by first | exact its_a hA (show f < g by omega) (show t9 < g by omega) (by assumption) | exact its_b hA (show t9 < g by omega) (by assumption) (by assumption) | exact its_c hA (show f < g by omega) (show t9 < g by omega) (by assumption) (by assumption) | exact its_d hA (show f < g by omega) (show t9 < g by omega) (by assumption) (by assumption) (by assumption)
                              refine lv_rep0 q_45 ?_
                              exact W.widen (by omega) (by omega) (lab_131   _ _ _ hw (lv_c (lv_at hl 1 rfl) (lv_c (lv_at hl 2 rfl) (lv_c (lv_at hl 3 rfl) (lv_c (lv_at hl 4 rfl) (lv_c (lv_at hl 5 rfl) (lv_c (lv_at hl 6 rfl) (lv_c (lv_at hl 7 rfl) (lv_c0 hl)))))))))
                        · skip
                          have c_31 : t9 = 0 := n0_nef (by omega) c_31
                          refine lv_iconst (v := 0) hx hb dL_isTrack_88 (by decide) ?_
                          refine lv_goto (tgt := 98) hx hb dL_isTrack_89 (by decide) ?_
                          refine lv_istore (lv' := [(7, .int 0), (0, .ref (gad G 0)), (1, .ref (gad G 31)), (2, .ref (gad G 33)), (3, .int 1), (4, .int (nI f)), (5, .int (frA (σ 2) (σ 3) f t9)), (6, .int (nI t9))]) hx hb dL_isTrack_98 hl (by decide) rfl (fun ls hl => ?_)
                          refine lv_aload_n hx hb dL_isTrack_100 rfl (lv_at hl 2 rfl) ?_
                          refine lv_iload hx hb dL_isTrack_101 (lv_at hl 5 rfl) ?_
                          refine lv_iload hx hb dL_isTrack_103 (lv_at hl 7 rfl) ?_
                          refine rCallM (As := [.ref (gad G 31), .int (nI f), .int (nI t9)]) (rest := []) ⟨hx, hb, hml, hown, hts⟩ fx hw (kL_way l hlt G hG hF σ f t9 (by omega) (by omega)) (va_cwS 3 hts gL_isTrack_L_way rfl rfl rfl (by decide +kernel) ⟨Nat.le_of_ble_eq_true rfl, Nat.le_of_ble_eq_true rfl⟩) rfl hl.1 rfl (Nat.le_of_ble_eq_true rfl) dL_isTrack_105 ⟨Nat.le_trans (show _ ≤ 4 by omega) (Nat.le_of_ble_eq_true rfl), Nat.le_trans (show _ ≤ 30 by omega) (Nat.le_of_ble_eq_true rfl)⟩ (fun r_46 σ_47 H locs p_48 hw => ?_)
                          obtain ⟨er_46, eσ_47⟩ := p_48
                          have er_46 := er_46.symm; subst er_46
                          have eσ_47 := eσ_47.symm; subst eσ_47
                          refine lv_if_eq (tgt := 116) hx hb dL_isTrack_108 (by decide) (fun c_49 => ?_) (fun c_49 => ?_)
                          · skip
                            refine lv_iconst (v := (-1)) hx hb dL_isTrack_116 (by decide) ?_
                            refine lv_goto (tgt := 131) hx hb dL_isTrack_117 (by decide) ?_
                            have q_50 : (-1) = (itsA (σ 2) (σ 3) f t9) := by first | exact its_a hA (show f < g by omega) (show t9 < g by omega) (by assumption) | exact its_b hA (show t9 < g by omega) (by assumption) (by assumption) | exact its_c hA (show f < g by omega) (show t9 < g by omega) (by assumption) (by assumption) | exact its_d hA (show f < g by omega) (show t9 < g by omega) (by assumption) (by assumption) (by assumption)
                            refine lv_rep0 q_50 ?_
                            exact W.widen (by omega) (by omega) (lab_131   _ _ _ hw (lv_c (lv_at hl 1 rfl) (lv_c (lv_at hl 2 rfl) (lv_c (lv_at hl 3 rfl) (lv_c (lv_at hl 4 rfl) (lv_c (lv_at hl 5 rfl) (lv_c (lv_at hl 6 rfl) (lv_c (lv_at hl 7 rfl) (lv_c0 hl)))))))))
                          · skip
                            refine lv_iload hx hb dL_isTrack_111 (lv_at hl 0 rfl) ?_
                            refine lv_if_ge (tgt := 120) hx hb dL_isTrack_113 (by decide) (fun c_51 => ?_) (fun c_51 => ?_)
                            · skip
                              refine lv_aload_n hx hb dL_isTrack_120 rfl (lv_at hl 2 rfl) ?_
                              refine lv_iload hx hb dL_isTrack_121 (lv_at hl 5 rfl) ?_
                              refine lv_iload hx hb dL_isTrack_123 (lv_at hl 7 rfl) ?_
                              refine rCallM (As := [.ref (gad G 31), .int (nI f), .int (nI t9)]) (rest := []) ⟨hx, hb, hml, hown, hts⟩ fx hw (kL_way l hlt G hG hF σ f t9 (by omega) (by omega)) (va_cwS 3 hts gL_isTrack_L_way rfl rfl rfl (by decide +kernel) ⟨Nat.le_of_ble_eq_true rfl, Nat.le_of_ble_eq_true rfl⟩) rfl hl.1 rfl (Nat.le_of_ble_eq_true rfl) dL_isTrack_125 ⟨Nat.le_trans (show _ ≤ 4 by omega) (Nat.le_of_ble_eq_true rfl), Nat.le_trans (show _ ≤ 30 by omega) (Nat.le_of_ble_eq_true rfl)⟩ (fun r_52 σ_53 H locs p_54 hw => ?_)
                              obtain ⟨er_52, eσ_53⟩ := p_54
                              have er_52 := er_52.symm; subst er_52
                              have eσ_53 := eσ_53.symm; subst eσ_53
                              refine lv_iload hx hb dL_isTrack_128 (lv_at hl 0 rfl) ?_
                              refine lv_iadd hx hb dL_isTrack_130 ?_
                              have q_55 : ((σ 31 ((12 * f) + t9)) + 0) = (itsA (σ 2) (σ 3) f t9) := by first | exact its_a hA (show f < g by omega) (show t9 < g by omega) (by assumption) | exact its_b hA (show t9 < g by omega) (by assumption) (by assumption) | exact its_c hA (show f < g by omega) (show t9 < g by omega) (by assumption) (by assumption) | exact its_d hA (show f < g by omega) (show t9 < g by omega) (by assumption) (by assumption) (by assumption)
                              refine lv_rep0 q_55 ?_
                              exact W.widen (by omega) (by omega) (lab_131   _ _ _ hw (lv_c (lv_at hl 1 rfl) (lv_c (lv_at hl 2 rfl) (lv_c (lv_at hl 3 rfl) (lv_c (lv_at hl 4 rfl) (lv_c (lv_at hl 5 rfl) (lv_c (lv_at hl 6 rfl) (lv_c (lv_at hl 7 rfl) (lv_c0 hl)))))))))
                            · skip
                              exact absurd c_51 (by decide)
                  have q_56 : (-1) = (frA (σ 2) (σ 3) f 0) := by first | rfl | (rw [decide_eq_true (by omega)]; rfl) | (rw [decide_eq_false (by omega)]; rfl) | (congr 1; omega)
                  have q_57 : 0 = (nI 0) := by first | rfl | (rw [decide_eq_true (by omega)]; rfl) | (rw [decide_eq_false (by omega)]; rfl) | (congr 1; omega)
                  exact W.widen (by omega) (by omega) (lab_75 (g - 0 + 1) 0 (by omega) (by omega) _ _ _ hw (lv_c (lv_at hl 2 rfl) (lv_c (lv_at hl 3 rfl) (lv_c (lv_at hl 4 rfl) (lv_c (lv_at hl 5 rfl) (lv_c (lv_at hl 6 rfl) (lv_c (lv_atq hl 1 rfl q_56) (lv_c (lv_atq hl 0 rfl q_57) (lv_c0 hl)))))))))
          have q_58 : 0 = (nI 0) := by first | rfl | (rw [decide_eq_true (by omega)]; rfl) | (rw [decide_eq_false (by omega)]; rfl) | (congr 1; omega)
          exact W.widen (by omega) (by omega) (lab_57 (g - 0 + 1) 0 (by omega) (by omega) _ _ _ hw (lv_c (lv_at hl 2 rfl) (lv_c (lv_at hl 3 rfl) (lv_c (lv_at hl 4 rfl) (lv_c (lv_at hl 1 rfl) (lv_c (lv_atq hl 0 rfl q_58) (lv_c0 hl)))))))
