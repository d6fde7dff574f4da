/-! isStarted -/
theorem kz_a {T : St} {f : Nat → Int32} {i : Nat} (h : ¬ i % 6 = 0) : upA (upA T 32 (kzA f i)) 32 (upd (upA T 32 (kzA f i) 32) i 0) = upA T 32 (kzA f (i + 1)) := by
  rw [upA_upA, upA_s, kzA_s h]
theorem kz_b {T : St} {f : Nat → Int32} {i : Nat} (h : i % 6 = 0) : upA (upA T 32 (kzA f i)) 32 (upd (upA T 32 (kzA f i) 32) i (upA T 32 (kzA f i) 32 i)) = upA T 32 (kzA f (i + 1)) := by
  rw [upA_upA, upA_s, kzA_k h]
def hsB (σ : St) (f : Nat) : Nat → Bool
  | 0 => false
  | i + 1 => hsB σ f i || ldB (σ 2) f i
def cnB (σ : St) (g : Nat) : Nat → Bool
  | 0 => true
  | f + 1 => cnB σ g f && hsB σ f g
section STL
variable {σ : St} {g n e z d t j f i : Nat} {b : Bool}
theorem hs_ld (h : PAll σ g n e z d t b j) (hf : f < g) (hi : i < g) : ldB (σ 2) f i = !decide (σ 31 (12 * f + i) ≤ 0) := by
  rw [w31 h hf hi]; rfl
theorem hs_1 (h : hsB σ f i = true) : (1 : Int32) = bI (hsB σ f (i + 1)) := by rw [hsB, h]; rfl
theorem hs_2 (hA : PAll σ g n e z d t b j) (hf : f < g) (hi : i < g) (h : ¬ σ 31 (12 * f + i) ≤ 0) : (1 : Int32) = bI (hsB σ f (i + 1)) := by
  rw [hsB, hs_ld hA hf hi, decide_eq_false h, Bool.not_false, Bool.or_true]; rfl
theorem hs_3 (hA : PAll σ g n e z d t b j) (hf : f < g) (hi : i < g) (h0 : hsB σ f i = false) (h : σ 31 (12 * f + i) ≤ 0) : (0 : Int32) = bI (hsB σ f (i + 1)) := by
  rw [hsB, hs_ld hA hf hi, decide_eq_true h, h0]; rfl
theorem cn_0 (h : cnB σ g f = false) : (0 : Int32) = bI (cnB σ g (f + 1)) := by rw [cnB, h]; rfl
theorem cn_f (hi : i = g) (h : hsB σ f i = false) : (0 : Int32) = bI (cnB σ g (f + 1)) := by rw [cnB, ← hi, h, Bool.and_false]; rfl
theorem cn_t (hi : i = g) (h0 : cnB σ g f = true) (h : hsB σ f i = true) : (1 : Int32) = bI (cnB σ g (f + 1)) := by rw [cnB, h0, ← hi, h]; rfl
theorem hs_any (f : Nat) : ∀ i, hsB σ f i = ldOn (σ 2) i f
  | 0 => rfl
  | i + 1 => by
    rw [hsB, hs_any f i]
    unfold ldOn
    rw [List.range_succ, List.any_append]
    simp
theorem cn_dead : ∀ f, cnB σ g f = !(List.range f).any (fun a => !ldOn (σ 2) g a)
  | 0 => rfl
  | f + 1 => by
    rw [cnB, cn_dead f, hs_any, List.range_succ, List.any_append]
    simp
theorem cnx {v : Bool} (h : cnB σ g f = v) (hf : f = g) : cnB σ g g = v := by rw [← hf]; rw [hf] at h ⊢; exact h
theorem st_no (h : b = true ∨ 8 ≤ e ∨ n = 0 ∨ cnB σ g g = false) : (!b && decide (e < 8) && decide (0 < n) && !deadB (σ 2) g) = false := by
  rcases h with h | h | h | h
  · rw [h]; rfl
  · rw [decide_eq_false (show ¬ e < 8 by omega), Bool.and_false]; rfl
  · rw [decide_eq_false (show ¬ 0 < n by omega), Bool.and_false]; rfl
  · have h2 := (cn_dead (σ := σ) (g := g) g).symm.trans h
    have h3 : (!deadB (σ 2) g) = false := h2
    rw [h3, Bool.and_false]
theorem st_y (hb : b = false) (he : e < 8) (hn : 0 < n) (h : cnB σ g g = true) : (!b && decide (e < 8) && decide (0 < n) && !deadB (σ 2) g) = true := by
  have h2 := (cn_dead (σ := σ) (g := g) g).symm.trans h
  have h3 : (!deadB (σ 2) g) = true := h2
  rw [h3, hb, decide_eq_true he, decide_eq_true hn]; rfl
end STL

def rmL_isStarted : Room := ({ frames := 8, cells := 3, slots := 20, locals := 133 } : Room)
set_option maxHeartbeats 4000000 in
set_option maxRecDepth 100000 in
theorem kL_isStarted (l : Launch) (hlt : l.stackTraces = false) (G : Gx) (hG : gOk G) (hF : Full G) (σ : St) {g n e9 z d t j : Nat} {b : Bool} (hA : PAll σ g n e9 z d t b j) (hGa : PGat σ g) (hj : j < 100) (v9 : Nat) (hv1 : 1 ≤ v9) (hv2 : v9 ≤ 10)  : CmI l yL_isStarted wsL_isStarted rmL_isStarted G σ [.ref (gad G 0), .ref (gad G 31), .ref (gad G 32), .ref (gad G 33), .int (nI v9)] (fun r σ' => r = 1 ∧ PIn σ' (j + 1)) 3 20 := by
  refine bgM (cc := cL_isStarted) (maxL := 9) (ret := (some .boolean)) (own := RL) (by decide) rfl rfl hG (Nat.le_of_ble_eq_true rfl) rfl ?_
  intro p e s m args below meth c ls Bd hl
  obtain ⟨hx, hb, hr, hml, hts, hown, hlocks, fx, hw⟩ := Bd
  have hl : lv_has ls 9 [(0, .ref (gad G 0)), (1, .ref (gad G 31)), (2, .ref (gad G 32)), (3, .ref (gad G 33)), (4, .int (nI v9))] := hl
  have hg5 := (pg hA).2
  have hn6 := (pn hA).2
  have he8 := (pe hA).2
  rcases (show b = true ∨ (b = false ∧ 8 ≤ e9) ∨ (b = false ∧ e9 < 8 ∧ n = 0) ∨ (b = false ∧ e9 < 8 ∧ 0 < n) by cases b; (rcases Nat.lt_or_ge e9 8 with q | q; (rcases Nat.eq_zero_or_pos n with q2 | q2; exact Or.inr (Or.inr (Or.inl ⟨rfl, q, q2⟩)); exact Or.inr (Or.inr (Or.inr ⟨rfl, q, q2⟩))); exact Or.inr (Or.inl ⟨rfl, q⟩)); exact Or.inl rfl) with hbo | ⟨hbo, hq⟩ | ⟨hbo, hq, hq2⟩ | ⟨hbo, hq, hq2⟩ <;> rcases (show v9 = 10 ∨ v9 ≤ 9 by omega) with hv | hv
  · skip
    refine lv_aload_n hx hb dL_isStarted_0 rfl (lv_at hl 3 rfl) ?_
    refine lv_iconst (v := 3) hx hb dL_isStarted_1 (by decide) ?_
    refine lv_rep0 (x := 3) (y := nI 3) rfl ?_
    refine rAld hx hb fx hw 33 (hF.1 33 (by decide)) hF.2.1 (fun _ => rfl) 3 rfl (by omega) (by decide) dL_isStarted_2 ?_
    refine lv_rep0 (x := (σ 33 3)) (y := 1) ((pon hA).trans (by rw [hbo]; rfl)) ?_
    refine lv_if_ne (tgt := 24) hx hb dL_isStarted_3 (by decide) (fun c_1 => ?_) (fun c_1 => ?_)
    · skip
      refine lv_iconst (v := 0) hx hb dL_isStarted_24 (by decide) ?_
      refine lv_istore (lv' := [(5, .int 0), (0, .ref (gad G 0)), (1, .ref (gad G 31)), (2, .ref (gad G 32)), (3, .ref (gad G 33)), (4, .int (nI v9))]) hx hb dL_isStarted_25 hl (by decide) rfl (fun ls hl => ?_)
      refine lv_iconst (v := 0) hx hb dL_isStarted_27 (by decide) ?_
      refine lv_istore (lv' := [(6, .int 0), (5, .int 0), (0, .ref (gad G 0)), (1, .ref (gad G 31)), (2, .ref (gad G 32)), (3, .ref (gad G 33)), (4, .int (nI v9))]) hx hb dL_isStarted_28 hl (by decide) rfl (fun ls hl => ?_)
      have lab_30 : ∀ (n9 : Nat), ∀ (f : Nat), g - f < n9 → f ≤ g → ∀ (H : Heap) (locs : List Loc) (ls : Array Slot), Wd G s σ H locs → lv_has ls 9 [(0, .ref (gad G 0)), (1, .ref (gad G 31)), (2, .ref (gad G 32)), (3, .ref (gad G 33)), (4, .int (nI v9)), (5, .int 0), (6, .int (nI f))] → W p l e rmL_isStarted s m args below meth c H locs (0) (0) (MQ below (va_Qi (fun r σ' => r = 1 ∧ PIn σ' (j + 1)) (BW G) (gA G)) args s 3 20 (gA G)) (F0 m 30 ls []) := by
        intro n9
        induction n9 with
        | zero => intro f hn9; exact absurd hn9 (Nat.not_lt_zero _)
        | succ n9 ih30 =>
          intro f hn9 h30_0 H locs ls hw hl
          refine lv_iload hx hb dL_isStarted_30 (lv_at hl 6 rfl) ?_
          refine lv_aload_n hx hb dL_isStarted_32 rfl (lv_at hl 3 rfl) ?_
          refine lv_iconst (v := 0) hx hb dL_isStarted_33 (by decide) ?_
          refine lv_rep0 (x := 0) (y := nI 0) rfl ?_
          refine rAld hx hb fx hw 33 (hF.1 33 (by decide)) hF.2.1 (fun _ => rfl) 0 rfl (by omega) (by decide) dL_isStarted_34 ?_
          refine lv_rep0 (x := (σ 33 0)) (y := (nI g)) (pg hA).1 ?_
          refine lv_icmp_ge (tgt := 104) hx hb dL_isStarted_35 (by decide) (fun c_2 => ?_) (fun c_2 => ?_)
          · skip
            have c_2 : g ≤ f := (nI_leI (by omega) (by omega)).mp c_2
            refine lv_iload hx hb dL_isStarted_104 (lv_at hl 4 rfl) ?_
            refine lv_iconst (v := 1) hx hb dL_isStarted_106 (by decide) ?_
            refine lv_rep0 (x := 1) (y := nI 1) rfl ?_
            refine lv_icmp_lt (tgt := 117) hx hb dL_isStarted_107 (by decide) (fun c_3 => ?_) (fun c_3 => ?_)
            · skip
              have c_3 : v9 < 1 := (nI_ltI (by omega) (by omega)).mp c_3
              omega
            · skip
              have c_3 : ¬ v9 < 1 := fun h9 => c_3 ((nI_ltI (by omega) (by omega)).mpr h9)
              refine lv_iload hx hb dL_isStarted_110 (lv_at hl 4 rfl) ?_
              refine lv_bipush (v := 9) hx hb dL_isStarted_112 (by decide) ?_
              refine lv_rep0 (x := 9) (y := nI 9) rfl ?_
              refine lv_icmp_le (tgt := 122) hx hb dL_isStarted_114 (by decide) (fun c_4 => ?_) (fun c_4 => ?_)
              · skip
                have c_4 : v9 ≤ 9 := (nI_leI (by omega) (by omega)).mp c_4
                omega
              · skip
                have c_4 : ¬ v9 ≤ 9 := fun h9 => c_4 ((nI_leI (by omega) (by omega)).mpr h9)
                refine lv_bipush (v := (-20)) hx hb dL_isStarted_117 (by decide) ?_
                refine lv_goto (tgt := 135) hx hb dL_isStarted_119 (by decide) ?_
                refine lv_istore (lv' := [(6, .int (-20)), (0, .ref (gad G 0)), (1, .ref (gad G 31)), (2, .ref (gad G 32)), (3, .ref (gad G 33)), (4, .int (nI v9)), (5, .int 0)]) hx hb dL_isStarted_135 hl (by decide) rfl (fun ls hl => ?_)
                refine lv_iload hx hb dL_isStarted_137 (lv_at hl 0 rfl) ?_
                refine lv_if_lt (tgt := 194) hx hb dL_isStarted_139 (by decide) (fun c_5 => ?_) (fun c_5 => ?_)
                · skip
                  refine lv_aload_n hx hb dL_isStarted_194 rfl (lv_at hl 1 rfl) ?_
                  refine lv_iconst (v := 3) hx hb dL_isStarted_195 (by decide) ?_
                  refine lv_iload hx hb dL_isStarted_196 (lv_at hl 5 rfl) ?_
                  refine lv_iconst (v := 0) hx hb dL_isStarted_198 (by decide) ?_
                  refine lv_iconst (v := 0) hx hb dL_isStarted_199 (by decide) ?_
                  refine rCallLS (As := [.ref (gad G 0), .int 3, .int (nI v9), .int 0, .int 0]) (rest := []) ⟨hx, hb, hml, hown, hts⟩ fx hw (d3_t1 l hlt G hG hF σ (pcv hA) ((nI v9)) 0 0 (inR_no (lo := 1) (hi := 9) (by omega) (by decide) (by decide) (by omega))) (vx_cwSW 5 hts gL_isStarted_L_does rfl rfl rfl (by decide +kernel) ⟨Nat.le_of_ble_eq_true rfl, Nat.le_of_ble_eq_true rfl⟩) rfl hl.1 rfl (Nat.le_of_ble_eq_true rfl) dL_isStarted_200 ⟨Nat.le_trans (show _ ≤ 3 by omega) (Nat.le_of_ble_eq_true rfl), Nat.le_trans (show _ ≤ 20 by omega) (Nat.le_of_ble_eq_true rfl)⟩ (fun r_6 σ_7 H locs p_8 hw => ?_)
                  obtain ⟨er_6, eσ_7⟩ := p_8
                  have er_6 := er_6.symm; subst er_6
                  have eσ_7 := eσ_7.symm; subst eσ_7
                  refine lv_iload hx hb dL_isStarted_203 (lv_at hl 0 rfl) ?_
                  refine lv_icmp_ne (tgt := 212) hx hb dL_isStarted_205 (by decide) (fun c_9 => ?_) (fun c_9 => ?_)
                  · skip
                    exact absurd c_9 (by decide)
                  · skip
                    refine lv_iconst (v := 1) hx hb dL_isStarted_208 (by decide) ?_
                    refine lv_goto (tgt := 213) hx hb dL_isStarted_209 (by decide) ?_
                    exact rRetZw hx hb hr hw (by decide) (by exact ⟨rfl, po_same hA hGa⟩) hlocks dL_isStarted_213 (by omega) (by omega)
                · skip
                  exact absurd c_5 (by decide)
          · skip
            have c_2 : ¬ g ≤ f := fun h9 => c_2 ((nI_leI (by omega) (by omega)).mpr h9)
            refine lv_iconst (v := 0) hx hb dL_isStarted_38 (by decide) ?_
            refine lv_istore (lv' := [(7, .int 0), (0, .ref (gad G 0)), (1, .ref (gad G 31)), (2, .ref (gad G 32)), (3, .ref (gad G 33)), (4, .int (nI v9)), (5, .int 0), (6, .int (nI f))]) hx hb dL_isStarted_39 hl (by decide) rfl (fun ls hl => ?_)
            refine lv_iconst (v := 0) hx hb dL_isStarted_41 (by decide) ?_
            refine lv_istore (lv' := [(8, .int 0), (7, .int 0), (0, .ref (gad G 0)), (1, .ref (gad G 31)), (2, .ref (gad G 32)), (3, .ref (gad G 33)), (4, .int (nI v9)), (5, .int 0), (6, .int (nI f))]) hx hb dL_isStarted_42 hl (by decide) rfl (fun ls hl => ?_)
            have lab_44 : ∀ (n9 : Nat), ∀ (i : Nat), g - i < n9 → i ≤ g → ∀ (H : Heap) (locs : List Loc) (ls : Array Slot), Wd G s σ H locs → lv_has ls 9 [(0, .ref (gad G 0)), (1, .ref (gad G 31)), (2, .ref (gad G 32)), (3, .ref (gad G 33)), (4, .int (nI v9)), (5, .int 0), (6, .int (nI f)), (7, .int (bI (hsB σ f i))), (8, .int (nI i))] → W p l e rmL_isStarted s m args below meth c H locs (0) (0) (MQ below (va_Qi (fun r σ' => r = 1 ∧ PIn σ' (j + 1)) (BW G) (gA G)) args s 3 20 (gA G)) (F0 m 44 ls []) := by
              intro n9
              induction n9 with
              | zero => intro i hn9; exact absurd hn9 (Nat.not_lt_zero _)
              | succ n9 ih44 =>
                intro i hn9 h44_0 H locs ls hw hl
                refine lv_iload hx hb dL_isStarted_44 (lv_at hl 8 rfl) ?_
                refine lv_aload_n hx hb dL_isStarted_46 rfl (lv_at hl 3 rfl) ?_
                refine lv_iconst (v := 0) hx hb dL_isStarted_47 (by decide) ?_
                refine lv_rep0 (x := 0) (y := nI 0) rfl ?_
                refine rAld hx hb fx hw 33 (hF.1 33 (by decide)) hF.2.1 (fun _ => rfl) 0 rfl (by omega) (by decide) dL_isStarted_48 ?_
                refine lv_rep0 (x := (σ 33 0)) (y := (nI g)) (pg hA).1 ?_
                refine lv_icmp_ge (tgt := 81) hx hb dL_isStarted_49 (by decide) (fun c_10 => ?_) (fun c_10 => ?_)
                · skip
                  have c_10 : g ≤ i := (nI_leI (by omega) (by omega)).mp c_10
                  refine lv_iload hx hb dL_isStarted_81 (lv_at hl 5 rfl) ?_
                  refine lv_if_eq (tgt := 95) hx hb dL_isStarted_83 (by decide) (fun c_11 => ?_) (fun c_11 => ?_)
                  · skip
                    refine lv_iconst (v := 0) hx hb dL_isStarted_95 (by decide) ?_
                    refine lv_istore (lv' := [(5, .int 0), (0, .ref (gad G 0)), (1, .ref (gad G 31)), (2, .ref (gad G 32)), (3, .ref (gad G 33)), (4, .int (nI v9)), (6, .int (nI f)), (7, .int (bI (hsB σ f i))), (8, .int (nI i))]) hx hb dL_isStarted_96 hl (by decide) rfl (fun ls hl => ?_)
                    refine lv_iinc (v := (nI (f + 1))) (lv' := [(6, .int (nI (f + 1))), (5, .int 0), (0, .ref (gad G 0)), (1, .ref (gad G 31)), (2, .ref (gad G 32)), (3, .ref (gad G 33)), (4, .int (nI v9)), (7, .int (bI (hsB σ f i))), (8, .int (nI i))]) hx hb dL_isStarted_98 hl (k := 6) rfl (nI_1 _) (by decide) rfl (fun ls hl => ?_)
                    refine lv_goto (tgt := 30) hx hb dL_isStarted_101 (by decide) ?_
                    exact W.widen (by omega) (by omega) (ih30 (f + 1) (by omega) (by omega) _ _ _ hw (lv_c (lv_at hl 2 rfl) (lv_c (lv_at hl 3 rfl) (lv_c (lv_at hl 4 rfl) (lv_c (lv_at hl 5 rfl) (lv_c (lv_at hl 6 rfl) (lv_c (lv_at hl 1 rfl) (lv_c (lv_at hl 0 rfl) (lv_c0 hl)))))))))
                  · skip
                    exact absurd c_11 (by decide)
                · skip
                  have c_10 : ¬ g ≤ i := fun h9 => c_10 ((nI_leI (by omega) (by omega)).mpr h9)
                  refine lv_iload hx hb dL_isStarted_52 (lv_at hl 7 rfl) ?_
                  refine lv_b_ne (tgt := 68) hx hb dL_isStarted_54 (by decide) (fun c_12 => ?_) (fun c_12 => ?_)
                  · skip
                    refine lv_iconst (v := 1) hx hb dL_isStarted_68 (by decide) ?_
                    refine lv_goto (tgt := 73) hx hb dL_isStarted_69 (by decide) ?_
                    refine lv_istore (lv' := [(7, .int 1), (0, .ref (gad G 0)), (1, .ref (gad G 31)), (2, .ref (gad G 32)), (3, .ref (gad G 33)), (4, .int (nI v9)), (5, .int 0), (6, .int (nI f)), (8, .int (nI i))]) hx hb dL_isStarted_73 hl (by decide) rfl (fun ls hl => ?_)
                    refine lv_iinc (v := (nI (i + 1))) (lv' := [(8, .int (nI (i + 1))), (7, .int 1), (0, .ref (gad G 0)), (1, .ref (gad G 31)), (2, .ref (gad G 32)), (3, .ref (gad G 33)), (4, .int (nI v9)), (5, .int 0), (6, .int (nI f))]) hx hb dL_isStarted_75 hl (k := 8) rfl (nI_1 _) (by decide) rfl (fun ls hl => ?_)
                    refine lv_goto (tgt := 44) hx hb dL_isStarted_78 (by decide) ?_
                    have q_13 : 1 = (bI (hsB σ f (i + 1))) := by first | exact hs_1 (by assumption) | exact hs_2 hA (show f < g by omega) (show i < g by omega) (by assumption) | exact hs_3 hA (show f < g by omega) (show i < g by omega) (by assumption) (by assumption)
                    exact W.widen (by omega) (by omega) (ih44 (i + 1) (by omega) (by omega) _ _ _ hw (lv_c (lv_at hl 2 rfl) (lv_c (lv_at hl 3 rfl) (lv_c (lv_at hl 4 rfl) (lv_c (lv_at hl 5 rfl) (lv_c (lv_at hl 6 rfl) (lv_c (lv_at hl 7 rfl) (lv_c (lv_at hl 8 rfl) (lv_c (lv_atq hl 1 rfl q_13) (lv_c (lv_at hl 0 rfl) (lv_c0 hl)))))))))))
                  · skip
                    refine lv_aload_n hx hb dL_isStarted_57 rfl (lv_at hl 1 rfl) ?_
                    refine lv_iload hx hb dL_isStarted_58 (lv_at hl 6 rfl) ?_
                    refine lv_iload hx hb dL_isStarted_60 (lv_at hl 8 rfl) ?_
                    refine rCallM (As := [.ref (gad G 31), .int (nI f), .int (nI i)]) (rest := []) ⟨hx, hb, hml, hown, hts⟩ fx hw (kL_way l hlt G hG hF σ f i (by omega) (by omega)) (va_cwS 3 hts gL_isStarted_L_way rfl rfl rfl (by decide +kernel) ⟨Nat.le_of_ble_eq_true rfl, Nat.le_of_ble_eq_true rfl⟩) rfl hl.1 rfl (Nat.le_of_ble_eq_true rfl) dL_isStarted_62 ⟨Nat.le_trans (show _ ≤ 3 by omega) (Nat.le_of_ble_eq_true rfl), Nat.le_trans (show _ ≤ 20 by omega) (Nat.le_of_ble_eq_true rfl)⟩ (fun r_14 σ_15 H locs p_16 hw => ?_)
                    obtain ⟨er_14, eσ_15⟩ := p_16
                    have er_14 := er_14.symm; subst er_14
                    have eσ_15 := eσ_15.symm; subst eσ_15
                    refine lv_if_le (tgt := 72) hx hb dL_isStarted_65 (by decide) (fun c_17 => ?_) (fun c_17 => ?_)
                    · skip
                      refine lv_iconst (v := 0) hx hb dL_isStarted_72 (by decide) ?_
                      refine lv_istore (lv' := [(7, .int 0), (0, .ref (gad G 0)), (1, .ref (gad G 31)), (2, .ref (gad G 32)), (3, .ref (gad G 33)), (4, .int (nI v9)), (5, .int 0), (6, .int (nI f)), (8, .int (nI i))]) hx hb dL_isStarted_73 hl (by decide) rfl (fun ls hl => ?_)
                      refine lv_iinc (v := (nI (i + 1))) (lv' := [(8, .int (nI (i + 1))), (7, .int 0), (0, .ref (gad G 0)), (1, .ref (gad G 31)), (2, .ref (gad G 32)), (3, .ref (gad G 33)), (4, .int (nI v9)), (5, .int 0), (6, .int (nI f))]) hx hb dL_isStarted_75 hl (k := 8) rfl (nI_1 _) (by decide) rfl (fun ls hl => ?_)
                      refine lv_goto (tgt := 44) hx hb dL_isStarted_78 (by decide) ?_
                      have q_18 : 0 = (bI (hsB σ f (i + 1))) := by first | exact hs_1 (by assumption) | exact hs_2 hA (show f < g by omega) (show i < g by omega) (by assumption) | exact hs_3 hA (show f < g by omega) (show i < g by omega) (by assumption) (by assumption)
                      exact W.widen (by omega) (by omega) (ih44 (i + 1) (by omega) (by omega) _ _ _ hw (lv_c (lv_at hl 2 rfl) (lv_c (lv_at hl 3 rfl) (lv_c (lv_at hl 4 rfl) (lv_c (lv_at hl 5 rfl) (lv_c (lv_at hl 6 rfl) (lv_c (lv_at hl 7 rfl) (lv_c (lv_at hl 8 rfl) (lv_c (lv_atq hl 1 rfl q_18) (lv_c (lv_at hl 0 rfl) (lv_c0 hl)))))))))))
                    · skip
                      refine lv_iconst (v := 1) hx hb dL_isStarted_68 (by decide) ?_
                      refine lv_goto (tgt := 73) hx hb dL_isStarted_69 (by decide) ?_
                      refine lv_istore (lv' := [(7, .int 1), (0, .ref (gad G 0)), (1, .ref (gad G 31)), (2, .ref (gad G 32)), (3, .ref (gad G 33)), (4, .int (nI v9)), (5, .int 0), (6, .int (nI f)), (8, .int (nI i))]) hx hb dL_isStarted_73 hl (by decide) rfl (fun ls hl => ?_)
                      refine lv_iinc (v := (nI (i + 1))) (lv' := [(8, .int (nI (i + 1))), (7, .int 1), (0, .ref (gad G 0)), (1, .ref (gad G 31)), (2, .ref (gad G 32)), (3, .ref (gad G 33)), (4, .int (nI v9)), (5, .int 0), (6, .int (nI f))]) hx hb dL_isStarted_75 hl (k := 8) rfl (nI_1 _) (by decide) rfl (fun ls hl => ?_)
                      refine lv_goto (tgt := 44) hx hb dL_isStarted_78 (by decide) ?_
                      have q_19 : 1 = (bI (hsB σ f (i + 1))) := by first | exact hs_1 (by assumption) | exact hs_2 hA (show f < g by omega) (show i < g by omega) (by assumption) | exact hs_3 hA (show f < g by omega) (show i < g by omega) (by assumption) (by assumption)
                      exact W.widen (by omega) (by omega) (ih44 (i + 1) (by omega) (by omega) _ _ _ hw (lv_c (lv_at hl 2 rfl) (lv_c (lv_at hl 3 rfl) (lv_c (lv_at hl 4 rfl) (lv_c (lv_at hl 5 rfl) (lv_c (lv_at hl 6 rfl) (lv_c (lv_at hl 7 rfl) (lv_c (lv_at hl 8 rfl) (lv_c (lv_atq hl 1 rfl q_19) (lv_c (lv_at hl 0 rfl) (lv_c0 hl)))))))))))
            have q_20 : 0 = (bI (hsB σ f 0)) := by first | rfl | (rw [decide_eq_true (by omega)]; rfl) | (rw [decide_eq_false (by omega)]; rfl) | (congr 1; omega)
            have q_21 : 0 = (nI 0) := by first | rfl | (rw [decide_eq_true (by omega)]; rfl) | (rw [decide_eq_false (by omega)]; rfl) | (congr 1; omega)
            exact W.widen (by omega) (by omega) (lab_44 (g - 0 + 1) 0 (by omega) (by omega) _ _ _ hw (lv_c (lv_at hl 2 rfl) (lv_c (lv_at hl 3 rfl) (lv_c (lv_at hl 4 rfl) (lv_c (lv_at hl 5 rfl) (lv_c (lv_at hl 6 rfl) (lv_c (lv_at hl 7 rfl) (lv_c (lv_at hl 8 rfl) (lv_c (lv_atq hl 1 rfl q_20) (lv_c (lv_atq hl 0 rfl q_21) (lv_c0 hl)))))))))))
      have q_22 : 0 = (nI 0) := by first | rfl | (rw [decide_eq_true (by omega)]; rfl) | (rw [decide_eq_false (by omega)]; rfl) | (congr 1; omega)
      exact W.widen (by omega) (by omega) (lab_30 (g - 0 + 1) 0 (by omega) (by omega) _ _ _ hw (lv_c (lv_at hl 2 rfl) (lv_c (lv_at hl 3 rfl) (lv_c (lv_at hl 4 rfl) (lv_c (lv_at hl 5 rfl) (lv_c (lv_at hl 6 rfl) (lv_c (lv_at hl 1 rfl) (lv_c (lv_atq hl 0 rfl q_22) (lv_c0 hl)))))))))
    · skip
      exact absurd c_1 (by decide)
  · skip
    refine lv_aload_n hx hb dL_isStarted_0 rfl (lv_at hl 3 rfl) ?_
    refine lv_iconst (v := 3) hx hb dL_isStarted_1 (by decide) ?_
    refine lv_rep0 (x := 3) (y := nI 3) rfl ?_
    refine rAld hx hb fx hw 33 (hF.1 33 (by decide)) hF.2.1 (fun _ => rfl) 3 rfl (by omega) (by decide) dL_isStarted_2 ?_
    refine lv_rep0 (x := (σ 33 3)) (y := 1) ((pon hA).trans (by rw [hbo]; rfl)) ?_
    refine lv_if_ne (tgt := 24) hx hb dL_isStarted_3 (by decide) (fun c_23 => ?_) (fun c_23 => ?_)
    · skip
      refine lv_iconst (v := 0) hx hb dL_isStarted_24 (by decide) ?_
      refine lv_istore (lv' := [(5, .int 0), (0, .ref (gad G 0)), (1, .ref (gad G 31)), (2, .ref (gad G 32)), (3, .ref (gad G 33)), (4, .int (nI v9))]) hx hb dL_isStarted_25 hl (by decide) rfl (fun ls hl => ?_)
      refine lv_iconst (v := 0) hx hb dL_isStarted_27 (by decide) ?_
      refine lv_istore (lv' := [(6, .int 0), (5, .int 0), (0, .ref (gad G 0)), (1, .ref (gad G 31)), (2, .ref (gad G 32)), (3, .ref (gad G 33)), (4, .int (nI v9))]) hx hb dL_isStarted_28 hl (by decide) rfl (fun ls hl => ?_)
      have lab_30 : ∀ (n9 : Nat), ∀ (f : Nat), g - f < n9 → f ≤ g → ∀ (H : Heap) (locs : List Loc) (ls : Array Slot), Wd G s σ H locs → lv_has ls 9 [(0, .ref (gad G 0)), (1, .ref (gad G 31)), (2, .ref (gad G 32)), (3, .ref (gad G 33)), (4, .int (nI v9)), (5, .int 0), (6, .int (nI f))] → W p l e rmL_isStarted s m args below meth c H locs (0) (0) (MQ below (va_Qi (fun r σ' => r = 1 ∧ PIn σ' (j + 1)) (BW G) (gA G)) args s 3 20 (gA G)) (F0 m 30 ls []) := by
        intro n9
        induction n9 with
        | zero => intro f hn9; exact absurd hn9 (Nat.not_lt_zero _)
        | succ n9 ih30 =>
          intro f hn9 h30_0 H locs ls hw hl
          refine lv_iload hx hb dL_isStarted_30 (lv_at hl 6 rfl) ?_
          refine lv_aload_n hx hb dL_isStarted_32 rfl (lv_at hl 3 rfl) ?_
          refine lv_iconst (v := 0) hx hb dL_isStarted_33 (by decide) ?_
          refine lv_rep0 (x := 0) (y := nI 0) rfl ?_
          refine rAld hx hb fx hw 33 (hF.1 33 (by decide)) hF.2.1 (fun _ => rfl) 0 rfl (by omega) (by decide) dL_isStarted_34 ?_
          refine lv_rep0 (x := (σ 33 0)) (y := (nI g)) (pg hA).1 ?_
          refine lv_icmp_ge (tgt := 104) hx hb dL_isStarted_35 (by decide) (fun c_24 => ?_) (fun c_24 => ?_)
          · skip
            have c_24 : g ≤ f := (nI_leI (by omega) (by omega)).mp c_24
            refine lv_iload hx hb dL_isStarted_104 (lv_at hl 4 rfl) ?_
            refine lv_iconst (v := 1) hx hb dL_isStarted_106 (by decide) ?_
            refine lv_rep0 (x := 1) (y := nI 1) rfl ?_
            refine lv_icmp_lt (tgt := 117) hx hb dL_isStarted_107 (by decide) (fun c_25 => ?_) (fun c_25 => ?_)
            · skip
              have c_25 : v9 < 1 := (nI_ltI (by omega) (by omega)).mp c_25
              omega
            · skip
              have c_25 : ¬ v9 < 1 := fun h9 => c_25 ((nI_ltI (by omega) (by omega)).mpr h9)
              refine lv_iload hx hb dL_isStarted_110 (lv_at hl 4 rfl) ?_
              refine lv_bipush (v := 9) hx hb dL_isStarted_112 (by decide) ?_
              refine lv_rep0 (x := 9) (y := nI 9) rfl ?_
              refine lv_icmp_le (tgt := 122) hx hb dL_isStarted_114 (by decide) (fun c_26 => ?_) (fun c_26 => ?_)
              · skip
                have c_26 : v9 ≤ 9 := (nI_leI (by omega) (by omega)).mp c_26
                refine lv_iload hx hb dL_isStarted_122 (lv_at hl 5 rfl) ?_
                refine lv_if_eq (tgt := 133) hx hb dL_isStarted_124 (by decide) (fun c_27 => ?_) (fun c_27 => ?_)
                · skip
                  refine lv_bipush (v := (-10)) hx hb dL_isStarted_133 (by decide) ?_
                  refine lv_istore (lv' := [(6, .int (-10)), (0, .ref (gad G 0)), (1, .ref (gad G 31)), (2, .ref (gad G 32)), (3, .ref (gad G 33)), (4, .int (nI v9)), (5, .int 0)]) hx hb dL_isStarted_135 hl (by decide) rfl (fun ls hl => ?_)
                  refine lv_iload hx hb dL_isStarted_137 (lv_at hl 0 rfl) ?_
                  refine lv_if_lt (tgt := 194) hx hb dL_isStarted_139 (by decide) (fun c_28 => ?_) (fun c_28 => ?_)
                  · skip
                    refine lv_aload_n hx hb dL_isStarted_194 rfl (lv_at hl 1 rfl) ?_
                    refine lv_iconst (v := 3) hx hb dL_isStarted_195 (by decide) ?_
                    refine lv_iload hx hb dL_isStarted_196 (lv_at hl 5 rfl) ?_
                    refine lv_iconst (v := 0) hx hb dL_isStarted_198 (by decide) ?_
                    refine lv_iconst (v := 0) hx hb dL_isStarted_199 (by decide) ?_
                    refine rCallLS (As := [.ref (gad G 0), .int 3, .int (nI v9), .int 0, .int 0]) (rest := []) ⟨hx, hb, hml, hown, hts⟩ fx hw (d3_t2 l hlt G hG hF σ (pcv hA) ((nI v9)) 0 0 (inR_y (lo := 1) (hi := 9) (by omega) (by decide) (by decide) (by omega) (by omega)) (st_no (by first | exact Or.inl hbo | exact Or.inr (Or.inl (by omega)) | exact Or.inr (Or.inr (Or.inl (by omega))) | exact Or.inr (Or.inr (Or.inr (cnx (σ := σ) (f := f) (by assumption) (by omega))))))) (vx_cwSW 5 hts gL_isStarted_L_does rfl rfl rfl (by decide +kernel) ⟨Nat.le_of_ble_eq_true rfl, Nat.le_of_ble_eq_true rfl⟩) rfl hl.1 rfl (Nat.le_of_ble_eq_true rfl) dL_isStarted_200 ⟨Nat.le_trans (show _ ≤ 3 by omega) (Nat.le_of_ble_eq_true rfl), Nat.le_trans (show _ ≤ 20 by omega) (Nat.le_of_ble_eq_true rfl)⟩ (fun r_29 σ_30 H locs p_31 hw => ?_)
                    obtain ⟨er_29, eσ_30⟩ := p_31
                    have er_29 := er_29.symm; subst er_29
                    have eσ_30 := eσ_30.symm; subst eσ_30
                    refine lv_iload hx hb dL_isStarted_203 (lv_at hl 0 rfl) ?_
                    refine lv_icmp_ne (tgt := 212) hx hb dL_isStarted_205 (by decide) (fun c_32 => ?_) (fun c_32 => ?_)
                    · skip
                      exact absurd c_32 (by decide)
                    · skip
                      refine lv_iconst (v := 1) hx hb dL_isStarted_208 (by decide) ?_
                      refine lv_goto (tgt := 213) hx hb dL_isStarted_209 (by decide) ?_
                      exact rRetZw hx hb hr hw (by decide) (by exact ⟨rfl, po_same hA hGa⟩) hlocks dL_isStarted_213 (by omega) (by omega)
                  · skip
                    exact absurd c_28 (by decide)
                · skip
                  exact absurd c_27 (by decide)
              · skip
                have c_26 : ¬ v9 ≤ 9 := fun h9 => c_26 ((nI_leI (by omega) (by omega)).mpr h9)
                omega
          · skip
            have c_24 : ¬ g ≤ f := fun h9 => c_24 ((nI_leI (by omega) (by omega)).mpr h9)
            refine lv_iconst (v := 0) hx hb dL_isStarted_38 (by decide) ?_
            refine lv_istore (lv' := [(7, .int 0), (0, .ref (gad G 0)), (1, .ref (gad G 31)), (2, .ref (gad G 32)), (3, .ref (gad G 33)), (4, .int (nI v9)), (5, .int 0), (6, .int (nI f))]) hx hb dL_isStarted_39 hl (by decide) rfl (fun ls hl => ?_)
            refine lv_iconst (v := 0) hx hb dL_isStarted_41 (by decide) ?_
            refine lv_istore (lv' := [(8, .int 0), (7, .int 0), (0, .ref (gad G 0)), (1, .ref (gad G 31)), (2, .ref (gad G 32)), (3, .ref (gad G 33)), (4, .int (nI v9)), (5, .int 0), (6, .int (nI f))]) hx hb dL_isStarted_42 hl (by decide) rfl (fun ls hl => ?_)
            have lab_44 : ∀ (n9 : Nat), ∀ (i : Nat), g - i < n9 → i ≤ g → ∀ (H : Heap) (locs : List Loc) (ls : Array Slot), Wd G s σ H locs → lv_has ls 9 [(0, .ref (gad G 0)), (1, .ref (gad G 31)), (2, .ref (gad G 32)), (3, .ref (gad G 33)), (4, .int (nI v9)), (5, .int 0), (6, .int (nI f)), (7, .int (bI (hsB σ f i))), (8, .int (nI i))] → W p l e rmL_isStarted s m args below meth c H locs (0) (0) (MQ below (va_Qi (fun r σ' => r = 1 ∧ PIn σ' (j + 1)) (BW G) (gA G)) args s 3 20 (gA G)) (F0 m 44 ls []) := by
              intro n9
              induction n9 with
              | zero => intro i hn9; exact absurd hn9 (Nat.not_lt_zero _)
              | succ n9 ih44 =>
                intro i hn9 h44_0 H locs ls hw hl
                refine lv_iload hx hb dL_isStarted_44 (lv_at hl 8 rfl) ?_
                refine lv_aload_n hx hb dL_isStarted_46 rfl (lv_at hl 3 rfl) ?_
                refine lv_iconst (v := 0) hx hb dL_isStarted_47 (by decide) ?_
                refine lv_rep0 (x := 0) (y := nI 0) rfl ?_
                refine rAld hx hb fx hw 33 (hF.1 33 (by decide)) hF.2.1 (fun _ => rfl) 0 rfl (by omega) (by decide) dL_isStarted_48 ?_
                refine lv_rep0 (x := (σ 33 0)) (y := (nI g)) (pg hA).1 ?_
                refine lv_icmp_ge (tgt := 81) hx hb dL_isStarted_49 (by decide) (fun c_33 => ?_) (fun c_33 => ?_)
                · skip
                  have c_33 : g ≤ i := (nI_leI (by omega) (by omega)).mp c_33
                  refine lv_iload hx hb dL_isStarted_81 (lv_at hl 5 rfl) ?_
                  refine lv_if_eq (tgt := 95) hx hb dL_isStarted_83 (by decide) (fun c_34 => ?_) (fun c_34 => ?_)
                  · skip
                    refine lv_iconst (v := 0) hx hb dL_isStarted_95 (by decide) ?_
                    refine lv_istore (lv' := [(5, .int 0), (0, .ref (gad G 0)), (1, .ref (gad G 31)), (2, .ref (gad G 32)), (3, .ref (gad G 33)), (4, .int (nI v9)), (6, .int (nI f)), (7, .int (bI (hsB σ f i))), (8, .int (nI i))]) hx hb dL_isStarted_96 hl (by decide) rfl (fun ls hl => ?_)
                    refine lv_iinc (v := (nI (f + 1))) (lv' := [(6, .int (nI (f + 1))), (5, .int 0), (0, .ref (gad G 0)), (1, .ref (gad G 31)), (2, .ref (gad G 32)), (3, .ref (gad G 33)), (4, .int (nI v9)), (7, .int (bI (hsB σ f i))), (8, .int (nI i))]) hx hb dL_isStarted_98 hl (k := 6) rfl (nI_1 _) (by decide) rfl (fun ls hl => ?_)
                    refine lv_goto (tgt := 30) hx hb dL_isStarted_101 (by decide) ?_
                    exact W.widen (by omega) (by omega) (ih30 (f + 1) (by omega) (by omega) _ _ _ hw (lv_c (lv_at hl 2 rfl) (lv_c (lv_at hl 3 rfl) (lv_c (lv_at hl 4 rfl) (lv_c (lv_at hl 5 rfl) (lv_c (lv_at hl 6 rfl) (lv_c (lv_at hl 1 rfl) (lv_c (lv_at hl 0 rfl) (lv_c0 hl)))))))))
                  · skip
                    exact absurd c_34 (by decide)
                · skip
                  have c_33 : ¬ g ≤ i := fun h9 => c_33 ((nI_leI (by omega) (by omega)).mpr h9)
                  refine lv_iload hx hb dL_isStarted_52 (lv_at hl 7 rfl) ?_
                  refine lv_b_ne (tgt := 68) hx hb dL_isStarted_54 (by decide) (fun c_35 => ?_) (fun c_35 => ?_)
                  · skip
                    refine lv_iconst (v := 1) hx hb dL_isStarted_68 (by decide) ?_
                    refine lv_goto (tgt := 73) hx hb dL_isStarted_69 (by decide) ?_
                    refine lv_istore (lv' := [(7, .int 1), (0, .ref (gad G 0)), (1, .ref (gad G 31)), (2, .ref (gad G 32)), (3, .ref (gad G 33)), (4, .int (nI v9)), (5, .int 0), (6, .int (nI f)), (8, .int (nI i))]) hx hb dL_isStarted_73 hl (by decide) rfl (fun ls hl => ?_)
                    refine lv_iinc (v := (nI (i + 1))) (lv' := [(8, .int (nI (i + 1))), (7, .int 1), (0, .ref (gad G 0)), (1, .ref (gad G 31)), (2, .ref (gad G 32)), (3, .ref (gad G 33)), (4, .int (nI v9)), (5, .int 0), (6, .int (nI f))]) hx hb dL_isStarted_75 hl (k := 8) rfl (nI_1 _) (by decide) rfl (fun ls hl => ?_)
                    refine lv_goto (tgt := 44) hx hb dL_isStarted_78 (by decide) ?_
                    have q_36 : 1 = (bI (hsB σ f (i + 1))) := by first | exact hs_1 (by assumption) | exact hs_2 hA (show f < g by omega) (show i < g by omega) (by assumption) | exact hs_3 hA (show f < g by omega) (show i < g by omega) (by assumption) (by assumption)
                    exact W.widen (by omega) (by omega) (ih44 (i + 1) (by omega) (by omega) _ _ _ hw (lv_c (lv_at hl 2 rfl) (lv_c (lv_at hl 3 rfl) (lv_c (lv_at hl 4 rfl) (lv_c (lv_at hl 5 rfl) (lv_c (lv_at hl 6 rfl) (lv_c (lv_at hl 7 rfl) (lv_c (lv_at hl 8 rfl) (lv_c (lv_atq hl 1 rfl q_36) (lv_c (lv_at hl 0 rfl) (lv_c0 hl)))))))))))
                  · skip
                    refine lv_aload_n hx hb dL_isStarted_57 rfl (lv_at hl 1 rfl) ?_
                    refine lv_iload hx hb dL_isStarted_58 (lv_at hl 6 rfl) ?_
                    refine lv_iload hx hb dL_isStarted_60 (lv_at hl 8 rfl) ?_
                    refine rCallM (As := [.ref (gad G 31), .int (nI f), .int (nI i)]) (rest := []) ⟨hx, hb, hml, hown, hts⟩ fx hw (kL_way l hlt G hG hF σ f i (by omega) (by omega)) (va_cwS 3 hts gL_isStarted_L_way rfl rfl rfl (by decide +kernel) ⟨Nat.le_of_ble_eq_true rfl, Nat.le_of_ble_eq_true rfl⟩) rfl hl.1 rfl (Nat.le_of_ble_eq_true rfl) dL_isStarted_62 ⟨Nat.le_trans (show _ ≤ 3 by omega) (Nat.le_of_ble_eq_true rfl), Nat.le_trans (show _ ≤ 20 by omega) (Nat.le_of_ble_eq_true rfl)⟩ (fun r_37 σ_38 H locs p_39 hw => ?_)
                    obtain ⟨er_37, eσ_38⟩ := p_39
                    have er_37 := er_37.symm; subst er_37
                    have eσ_38 := eσ_38.symm; subst eσ_38
                    refine lv_if_le (tgt := 72) hx hb dL_isStarted_65 (by decide) (fun c_40 => ?_) (fun c_40 => ?_)
                    · skip
                      refine lv_iconst (v := 0) hx hb dL_isStarted_72 (by decide) ?_
                      refine lv_istore (lv' := [(7, .int 0), (0, .ref (gad G 0)), (1, .ref (gad G 31)), (2, .ref (gad G 32)), (3, .ref (gad G 33)), (4, .int (nI v9)), (5, .int 0), (6, .int (nI f)), (8, .int (nI i))]) hx hb dL_isStarted_73 hl (by decide) rfl (fun ls hl => ?_)
                      refine lv_iinc (v := (nI (i + 1))) (lv' := [(8, .int (nI (i + 1))), (7, .int 0), (0, .ref (gad G 0)), (1, .ref (gad G 31)), (2, .ref (gad G 32)), (3, .ref (gad G 33)), (4, .int (nI v9)), (5, .int 0), (6, .int (nI f))]) hx hb dL_isStarted_75 hl (k := 8) rfl (nI_1 _) (by decide) rfl (fun ls hl => ?_)
                      refine lv_goto (tgt := 44) hx hb dL_isStarted_78 (by decide) ?_
                      have q_41 : 0 = (bI (hsB σ f (i + 1))) := by first | exact hs_1 (by assumption) | exact hs_2 hA (show f < g by omega) (show i < g by omega) (by assumption) | exact hs_3 hA (show f < g by omega) (show i < g by omega) (by assumption) (by assumption)
                      exact W.widen (by omega) (by omega) (ih44 (i + 1) (by omega) (by omega) _ _ _ hw (lv_c (lv_at hl 2 rfl) (lv_c (lv_at hl 3 rfl) (lv_c (lv_at hl 4 rfl) (lv_c (lv_at hl 5 rfl) (lv_c (lv_at hl 6 rfl) (lv_c (lv_at hl 7 rfl) (lv_c (lv_at hl 8 rfl) (lv_c (lv_atq hl 1 rfl q_41) (lv_c (lv_at hl 0 rfl) (lv_c0 hl)))))))))))
                    · skip
                      refine lv_iconst (v := 1) hx hb dL_isStarted_68 (by decide) ?_
                      refine lv_goto (tgt := 73) hx hb dL_isStarted_69 (by decide) ?_
                      refine lv_istore (lv' := [(7, .int 1), (0, .ref (gad G 0)), (1, .ref (gad G 31)), (2, .ref (gad G 32)), (3, .ref (gad G 33)), (4, .int (nI v9)), (5, .int 0), (6, .int (nI f)), (8, .int (nI i))]) hx hb dL_isStarted_73 hl (by decide) rfl (fun ls hl => ?_)
                      refine lv_iinc (v := (nI (i + 1))) (lv' := [(8, .int (nI (i + 1))), (7, .int 1), (0, .ref (gad G 0)), (1, .ref (gad G 31)), (2, .ref (gad G 32)), (3, .ref (gad G 33)), (4, .int (nI v9)), (5, .int 0), (6, .int (nI f))]) hx hb dL_isStarted_75 hl (k := 8) rfl (nI_1 _) (by decide) rfl (fun ls hl => ?_)
                      refine lv_goto (tgt := 44) hx hb dL_isStarted_78 (by decide) ?_
                      have q_42 : 1 = (bI (hsB σ f (i + 1))) := by first | exact hs_1 (by assumption) | exact hs_2 hA (show f < g by omega) (show i < g by omega) (by assumption) | exact hs_3 hA (show f < g by omega) (show i < g by omega) (by assumption) (by assumption)
                      exact W.widen (by omega) (by omega) (ih44 (i + 1) (by omega) (by omega) _ _ _ hw (lv_c (lv_at hl 2 rfl) (lv_c (lv_at hl 3 rfl) (lv_c (lv_at hl 4 rfl) (lv_c (lv_at hl 5 rfl) (lv_c (lv_at hl 6 rfl) (lv_c (lv_at hl 7 rfl) (lv_c (lv_at hl 8 rfl) (lv_c (lv_atq hl 1 rfl q_42) (lv_c (lv_at hl 0 rfl) (lv_c0 hl)))))))))))
            have q_43 : 0 = (bI (hsB σ f 0)) := by first | rfl | (rw [decide_eq_true (by omega)]; rfl) | (rw [decide_eq_false (by omega)]; rfl) | (congr 1; omega)
            have q_44 : 0 = (nI 0) := by first | rfl | (rw [decide_eq_true (by omega)]; rfl) | (rw [decide_eq_false (by omega)]; rfl) | (congr 1; omega)
            exact W.widen (by omega) (by omega) (lab_44 (g - 0 + 1) 0 (by omega) (by omega) _ _ _ hw (lv_c (lv_at hl 2 rfl) (lv_c (lv_at hl 3 rfl) (lv_c (lv_at hl 4 rfl) (lv_c (lv_at hl 5 rfl) (lv_c (lv_at hl 6 rfl) (lv_c (lv_at hl 7 rfl) (lv_c (lv_at hl 8 rfl) (lv_c (lv_atq hl 1 rfl q_43) (lv_c (lv_atq hl 0 rfl q_44) (lv_c0 hl)))))))))))
      have q_45 : 0 = (nI 0) := by first | rfl | (rw [decide_eq_true (by omega)]; rfl) | (rw [decide_eq_false (by omega)]; rfl) | (congr 1; omega)
      exact W.widen (by omega) (by omega) (lab_30 (g - 0 + 1) 0 (by omega) (by omega) _ _ _ hw (lv_c (lv_at hl 2 rfl) (lv_c (lv_at hl 3 rfl) (lv_c (lv_at hl 4 rfl) (lv_c (lv_at hl 5 rfl) (lv_c (lv_at hl 6 rfl) (lv_c (lv_at hl 1 rfl) (lv_c (lv_atq hl 0 rfl q_45) (lv_c0 hl)))))))))
    · skip
      exact absurd c_23 (by decide)
  · skip
    refine lv_aload_n hx hb dL_isStarted_0 rfl (lv_at hl 3 rfl) ?_
    refine lv_iconst (v := 3) hx hb dL_isStarted_1 (by decide) ?_
    refine lv_rep0 (x := 3) (y := nI 3) rfl ?_
    refine rAld hx hb fx hw 33 (hF.1 33 (by decide)) hF.2.1 (fun _ => rfl) 3 rfl (by omega) (by decide) dL_isStarted_2 ?_
    refine lv_rep0 (x := (σ 33 3)) (y := 0) ((pon hA).trans (by rw [hbo]; rfl)) ?_
    refine lv_if_ne (tgt := 24) hx hb dL_isStarted_3 (by decide) (fun c_46 => ?_) (fun c_46 => ?_)
    · skip
      exact absurd c_46 (by decide)
    · skip
      refine lv_aload_n hx hb dL_isStarted_6 rfl (lv_at hl 3 rfl) ?_
      refine lv_iconst (v := 5) hx hb dL_isStarted_7 (by decide) ?_
      refine lv_rep0 (x := 5) (y := nI 5) rfl ?_
      refine rAld hx hb fx hw 33 (hF.1 33 (by decide)) hF.2.1 (fun _ => rfl) 5 rfl (by omega) (by decide) dL_isStarted_8 ?_
      refine lv_rep0 (x := (σ 33 5)) (y := (nI e9)) ((pst hA).trans (by rw [hbo]; rfl)) ?_
      refine lv_bipush (v := 8) hx hb dL_isStarted_9 (by decide) ?_
      refine lv_rep0 (x := 8) (y := nI 8) rfl ?_
      refine lv_icmp_ge (tgt := 24) hx hb dL_isStarted_11 (by decide) (fun c_47 => ?_) (fun c_47 => ?_)
      · skip
        have c_47 : 8 ≤ e9 := (nI_leI (by omega) (by omega)).mp c_47
        refine lv_iconst (v := 0) hx hb dL_isStarted_24 (by decide) ?_
        refine lv_istore (lv' := [(5, .int 0), (0, .ref (gad G 0)), (1, .ref (gad G 31)), (2, .ref (gad G 32)), (3, .ref (gad G 33)), (4, .int (nI v9))]) hx hb dL_isStarted_25 hl (by decide) rfl (fun ls hl => ?_)
        refine lv_iconst (v := 0) hx hb dL_isStarted_27 (by decide) ?_
        refine lv_istore (lv' := [(6, .int 0), (5, .int 0), (0, .ref (gad G 0)), (1, .ref (gad G 31)), (2, .ref (gad G 32)), (3, .ref (gad G 33)), (4, .int (nI v9))]) hx hb dL_isStarted_28 hl (by decide) rfl (fun ls hl => ?_)
        have lab_30 : ∀ (n9 : Nat), ∀ (f : Nat), g - f < n9 → f ≤ g → ∀ (H : Heap) (locs : List Loc) (ls : Array Slot), Wd G s σ H locs → lv_has ls 9 [(0, .ref (gad G 0)), (1, .ref (gad G 31)), (2, .ref (gad G 32)), (3, .ref (gad G 33)), (4, .int (nI v9)), (5, .int 0), (6, .int (nI f))] → W p l e rmL_isStarted s m args below meth c H locs (0) (0) (MQ below (va_Qi (fun r σ' => r = 1 ∧ PIn σ' (j + 1)) (BW G) (gA G)) args s 3 20 (gA G)) (F0 m 30 ls []) := by
          intro n9
          induction n9 with
          | zero => intro f hn9; exact absurd hn9 (Nat.not_lt_zero _)
          | succ n9 ih30 =>
            intro f hn9 h30_0 H locs ls hw hl
            refine lv_iload hx hb dL_isStarted_30 (lv_at hl 6 rfl) ?_
            refine lv_aload_n hx hb dL_isStarted_32 rfl (lv_at hl 3 rfl) ?_
            refine lv_iconst (v := 0) hx hb dL_isStarted_33 (by decide) ?_
            refine lv_rep0 (x := 0) (y := nI 0) rfl ?_
            refine rAld hx hb fx hw 33 (hF.1 33 (by decide)) hF.2.1 (fun _ => rfl) 0 rfl (by omega) (by decide) dL_isStarted_34 ?_
            refine lv_rep0 (x := (σ 33 0)) (y := (nI g)) (pg hA).1 ?_
            refine lv_icmp_ge (tgt := 104) hx hb dL_isStarted_35 (by decide) (fun c_48 => ?_) (fun c_48 => ?_)
            · skip
              have c_48 : g ≤ f := (nI_leI (by omega) (by omega)).mp c_48
              refine lv_iload hx hb dL_isStarted_104 (lv_at hl 4 rfl) ?_
              refine lv_iconst (v := 1) hx hb dL_isStarted_106 (by decide) ?_
              refine lv_rep0 (x := 1) (y := nI 1) rfl ?_
              refine lv_icmp_lt (tgt := 117) hx hb dL_isStarted_107 (by decide) (fun c_49 => ?_) (fun c_49 => ?_)
              · skip
                have c_49 : v9 < 1 := (nI_ltI (by omega) (by omega)).mp c_49
                omega
              · skip
                have c_49 : ¬ v9 < 1 := fun h9 => c_49 ((nI_ltI (by omega) (by omega)).mpr h9)
                refine lv_iload hx hb dL_isStarted_110 (lv_at hl 4 rfl) ?_
                refine lv_bipush (v := 9) hx hb dL_isStarted_112 (by decide) ?_
                refine lv_rep0 (x := 9) (y := nI 9) rfl ?_
                refine lv_icmp_le (tgt := 122) hx hb dL_isStarted_114 (by decide) (fun c_50 => ?_) (fun c_50 => ?_)
                · skip
                  have c_50 : v9 ≤ 9 := (nI_leI (by omega) (by omega)).mp c_50
                  omega
                · skip
                  have c_50 : ¬ v9 ≤ 9 := fun h9 => c_50 ((nI_leI (by omega) (by omega)).mpr h9)
                  refine lv_bipush (v := (-20)) hx hb dL_isStarted_117 (by decide) ?_
                  refine lv_goto (tgt := 135) hx hb dL_isStarted_119 (by decide) ?_
                  refine lv_istore (lv' := [(6, .int (-20)), (0, .ref (gad G 0)), (1, .ref (gad G 31)), (2, .ref (gad G 32)), (3, .ref (gad G 33)), (4, .int (nI v9)), (5, .int 0)]) hx hb dL_isStarted_135 hl (by decide) rfl (fun ls hl => ?_)
                  refine lv_iload hx hb dL_isStarted_137 (lv_at hl 0 rfl) ?_
                  refine lv_if_lt (tgt := 194) hx hb dL_isStarted_139 (by decide) (fun c_51 => ?_) (fun c_51 => ?_)
                  · skip
                    refine lv_aload_n hx hb dL_isStarted_194 rfl (lv_at hl 1 rfl) ?_
                    refine lv_iconst (v := 3) hx hb dL_isStarted_195 (by decide) ?_
                    refine lv_iload hx hb dL_isStarted_196 (lv_at hl 5 rfl) ?_
                    refine lv_iconst (v := 0) hx hb dL_isStarted_198 (by decide) ?_
                    refine lv_iconst (v := 0) hx hb dL_isStarted_199 (by decide) ?_
                    refine rCallLS (As := [.ref (gad G 0), .int 3, .int (nI v9), .int 0, .int 0]) (rest := []) ⟨hx, hb, hml, hown, hts⟩ fx hw (d3_t1 l hlt G hG hF σ (pcv hA) ((nI v9)) 0 0 (inR_no (lo := 1) (hi := 9) (by omega) (by decide) (by decide) (by omega))) (vx_cwSW 5 hts gL_isStarted_L_does rfl rfl rfl (by decide +kernel) ⟨Nat.le_of_ble_eq_true rfl, Nat.le_of_ble_eq_true rfl⟩) rfl hl.1 rfl (Nat.le_of_ble_eq_true rfl) dL_isStarted_200 ⟨Nat.le_trans (show _ ≤ 3 by omega) (Nat.le_of_ble_eq_true rfl), Nat.le_trans (show _ ≤ 20 by omega) (Nat.le_of_ble_eq_true rfl)⟩ (fun r_52 σ_53 H locs p_54 hw => ?_)
                    obtain ⟨er_52, eσ_53⟩ := p_54
                    have er_52 := er_52.symm; subst er_52
                    have eσ_53 := eσ_53.symm; subst eσ_53
                    refine lv_iload hx hb dL_isStarted_203 (lv_at hl 0 rfl) ?_
                    refine lv_icmp_ne (tgt := 212) hx hb dL_isStarted_205 (by decide) (fun c_55 => ?_) (fun c_55 => ?_)
                    · skip
                      exact absurd c_55 (by decide)
                    · skip
                      refine lv_iconst (v := 1) hx hb dL_isStarted_208 (by decide) ?_
                      refine lv_goto (tgt := 213) hx hb dL_isStarted_209 (by decide) ?_
                      exact rRetZw hx hb hr hw (by decide) (by exact ⟨rfl, po_same hA hGa⟩) hlocks dL_isStarted_213 (by omega) (by omega)
                  · skip
                    exact absurd c_51 (by decide)
            · skip
              have c_48 : ¬ g ≤ f := fun h9 => c_48 ((nI_leI (by omega) (by omega)).mpr h9)
              refine lv_iconst (v := 0) hx hb dL_isStarted_38 (by decide) ?_
              refine lv_istore (lv' := [(7, .int 0), (0, .ref (gad G 0)), (1, .ref (gad G 31)), (2, .ref (gad G 32)), (3, .ref (gad G 33)), (4, .int (nI v9)), (5, .int 0), (6, .int (nI f))]) hx hb dL_isStarted_39 hl (by decide) rfl (fun ls hl => ?_)
              refine lv_iconst (v := 0) hx hb dL_isStarted_41 (by decide) ?_
              refine lv_istore (lv' := [(8, .int 0), (7, .int 0), (0, .ref (gad G 0)), (1, .ref (gad G 31)), (2, .ref (gad G 32)), (3, .ref (gad G 33)), (4, .int (nI v9)), (5, .int 0), (6, .int (nI f))]) hx hb dL_isStarted_42 hl (by decide) rfl (fun ls hl => ?_)
              have lab_44 : ∀ (n9 : Nat), ∀ (i : Nat), g - i < n9 → i ≤ g → ∀ (H : Heap) (locs : List Loc) (ls : Array Slot), Wd G s σ H locs → lv_has ls 9 [(0, .ref (gad G 0)), (1, .ref (gad G 31)), (2, .ref (gad G 32)), (3, .ref (gad G 33)), (4, .int (nI v9)), (5, .int 0), (6, .int (nI f)), (7, .int (bI (hsB σ f i))), (8, .int (nI i))] → W p l e rmL_isStarted s m args below meth c H locs (0) (0) (MQ below (va_Qi (fun r σ' => r = 1 ∧ PIn σ' (j + 1)) (BW G) (gA G)) args s 3 20 (gA G)) (F0 m 44 ls []) := by
                intro n9
                induction n9 with
                | zero => intro i hn9; exact absurd hn9 (Nat.not_lt_zero _)
                | succ n9 ih44 =>
                  intro i hn9 h44_0 H locs ls hw hl
                  refine lv_iload hx hb dL_isStarted_44 (lv_at hl 8 rfl) ?_
                  refine lv_aload_n hx hb dL_isStarted_46 rfl (lv_at hl 3 rfl) ?_
                  refine lv_iconst (v := 0) hx hb dL_isStarted_47 (by decide) ?_
                  refine lv_rep0 (x := 0) (y := nI 0) rfl ?_
                  refine rAld hx hb fx hw 33 (hF.1 33 (by decide)) hF.2.1 (fun _ => rfl) 0 rfl (by omega) (by decide) dL_isStarted_48 ?_
                  refine lv_rep0 (x := (σ 33 0)) (y := (nI g)) (pg hA).1 ?_
                  refine lv_icmp_ge (tgt := 81) hx hb dL_isStarted_49 (by decide) (fun c_56 => ?_) (fun c_56 => ?_)
                  · skip
                    have c_56 : g ≤ i := (nI_leI (by omega) (by omega)).mp c_56
                    refine lv_iload hx hb dL_isStarted_81 (lv_at hl 5 rfl) ?_
                    refine lv_if_eq (tgt := 95) hx hb dL_isStarted_83 (by decide) (fun c_57 => ?_) (fun c_57 => ?_)
                    · skip
                      refine lv_iconst (v := 0) hx hb dL_isStarted_95 (by decide) ?_
                      refine lv_istore (lv' := [(5, .int 0), (0, .ref (gad G 0)), (1, .ref (gad G 31)), (2, .ref (gad G 32)), (3, .ref (gad G 33)), (4, .int (nI v9)), (6, .int (nI f)), (7, .int (bI (hsB σ f i))), (8, .int (nI i))]) hx hb dL_isStarted_96 hl (by decide) rfl (fun ls hl => ?_)
                      refine lv_iinc (v := (nI (f + 1))) (lv' := [(6, .int (nI (f + 1))), (5, .int 0), (0, .ref (gad G 0)), (1, .ref (gad G 31)), (2, .ref (gad G 32)), (3, .ref (gad G 33)), (4, .int (nI v9)), (7, .int (bI (hsB σ f i))), (8, .int (nI i))]) hx hb dL_isStarted_98 hl (k := 6) rfl (nI_1 _) (by decide) rfl (fun ls hl => ?_)
                      refine lv_goto (tgt := 30) hx hb dL_isStarted_101 (by decide) ?_
                      exact W.widen (by omega) (by omega) (ih30 (f + 1) (by omega) (by omega) _ _ _ hw (lv_c (lv_at hl 2 rfl) (lv_c (lv_at hl 3 rfl) (lv_c (lv_at hl 4 rfl) (lv_c (lv_at hl 5 rfl) (lv_c (lv_at hl 6 rfl) (lv_c (lv_at hl 1 rfl) (lv_c (lv_at hl 0 rfl) (lv_c0 hl)))))))))
                    · skip
                      exact absurd c_57 (by decide)
                  · skip
                    have c_56 : ¬ g ≤ i := fun h9 => c_56 ((nI_leI (by omega) (by omega)).mpr h9)
                    refine lv_iload hx hb dL_isStarted_52 (lv_at hl 7 rfl) ?_
                    refine lv_b_ne (tgt := 68) hx hb dL_isStarted_54 (by decide) (fun c_58 => ?_) (fun c_58 => ?_)
                    · skip
                      refine lv_iconst (v := 1) hx hb dL_isStarted_68 (by decide) ?_
                      refine lv_goto (tgt := 73) hx hb dL_isStarted_69 (by decide) ?_
                      refine lv_istore (lv' := [(7, .int 1), (0, .ref (gad G 0)), (1, .ref (gad G 31)), (2, .ref (gad G 32)), (3, .ref (gad G 33)), (4, .int (nI v9)), (5, .int 0), (6, .int (nI f)), (8, .int (nI i))]) hx hb dL_isStarted_73 hl (by decide) rfl (fun ls hl => ?_)
                      refine lv_iinc (v := (nI (i + 1))) (lv' := [(8, .int (nI (i + 1))), (7, .int 1), (0, .ref (gad G 0)), (1, .ref (gad G 31)), (2, .ref (gad G 32)), (3, .ref (gad G 33)), (4, .int (nI v9)), (5, .int 0), (6, .int (nI f))]) hx hb dL_isStarted_75 hl (k := 8) rfl (nI_1 _) (by decide) rfl (fun ls hl => ?_)
                      refine lv_goto (tgt := 44) hx hb dL_isStarted_78 (by decide) ?_
                      have q_59 : 1 = (bI (hsB σ f (i + 1))) := by first | exact hs_1 (by assumption) | exact hs_2 hA (show f < g by omega) (show i < g by omega) (by assumption) | exact hs_3 hA (show f < g by omega) (show i < g by omega) (by assumption) (by assumption)
                      exact W.widen (by omega) (by omega) (ih44 (i + 1) (by omega) (by omega) _ _ _ hw (lv_c (lv_at hl 2 rfl) (lv_c (lv_at hl 3 rfl) (lv_c (lv_at hl 4 rfl) (lv_c (lv_at hl 5 rfl) (lv_c (lv_at hl 6 rfl) (lv_c (lv_at hl 7 rfl) (lv_c (lv_at hl 8 rfl) (lv_c (lv_atq hl 1 rfl q_59) (lv_c (lv_at hl 0 rfl) (lv_c0 hl)))))))))))
                    · skip
                      refine lv_aload_n hx hb dL_isStarted_57 rfl (lv_at hl 1 rfl) ?_
                      refine lv_iload hx hb dL_isStarted_58 (lv_at hl 6 rfl) ?_
                      refine lv_iload hx hb dL_isStarted_60 (lv_at hl 8 rfl) ?_
                      refine rCallM (As := [.ref (gad G 31), .int (nI f), .int (nI i)]) (rest := []) ⟨hx, hb, hml, hown, hts⟩ fx hw (kL_way l hlt G hG hF σ f i (by omega) (by omega)) (va_cwS 3 hts gL_isStarted_L_way rfl rfl rfl (by decide +kernel) ⟨Nat.le_of_ble_eq_true rfl, Nat.le_of_ble_eq_true rfl⟩) rfl hl.1 rfl (Nat.le_of_ble_eq_true rfl) dL_isStarted_62 ⟨Nat.le_trans (show _ ≤ 3 by omega) (Nat.le_of_ble_eq_true rfl), Nat.le_trans (show _ ≤ 20 by omega) (Nat.le_of_ble_eq_true rfl)⟩ (fun r_60 σ_61 H locs p_62 hw => ?_)
                      obtain ⟨er_60, eσ_61⟩ := p_62
                      have er_60 := er_60.symm; subst er_60
                      have eσ_61 := eσ_61.symm; subst eσ_61
                      refine lv_if_le (tgt := 72) hx hb dL_isStarted_65 (by decide) (fun c_63 => ?_) (fun c_63 => ?_)
                      · skip
                        refine lv_iconst (v := 0) hx hb dL_isStarted_72 (by decide) ?_
                        refine lv_istore (lv' := [(7, .int 0), (0, .ref (gad G 0)), (1, .ref (gad G 31)), (2, .ref (gad G 32)), (3, .ref (gad G 33)), (4, .int (nI v9)), (5, .int 0), (6, .int (nI f)), (8, .int (nI i))]) hx hb dL_isStarted_73 hl (by decide) rfl (fun ls hl => ?_)
                        refine lv_iinc (v := (nI (i + 1))) (lv' := [(8, .int (nI (i + 1))), (7, .int 0), (0, .ref (gad G 0)), (1, .ref (gad G 31)), (2, .ref (gad G 32)), (3, .ref (gad G 33)), (4, .int (nI v9)), (5, .int 0), (6, .int (nI f))]) hx hb dL_isStarted_75 hl (k := 8) rfl (nI_1 _) (by decide) rfl (fun ls hl => ?_)
                        refine lv_goto (tgt := 44) hx hb dL_isStarted_78 (by decide) ?_
                        have q_64 : 0 = (bI (hsB σ f (i + 1))) := by first | exact hs_1 (by assumption) | exact hs_2 hA (show f < g by omega) (show i < g by omega) (by assumption) | exact hs_3 hA (show f < g by omega) (show i < g by omega) (by assumption) (by assumption)
                        exact W.widen (by omega) (by omega) (ih44 (i + 1) (by omega) (by omega) _ _ _ hw (lv_c (lv_at hl 2 rfl) (lv_c (lv_at hl 3 rfl) (lv_c (lv_at hl 4 rfl) (lv_c (lv_at hl 5 rfl) (lv_c (lv_at hl 6 rfl) (lv_c (lv_at hl 7 rfl) (lv_c (lv_at hl 8 rfl) (lv_c (lv_atq hl 1 rfl q_64) (lv_c (lv_at hl 0 rfl) (lv_c0 hl)))))))))))
                      · skip
                        refine lv_iconst (v := 1) hx hb dL_isStarted_68 (by decide) ?_
                        refine lv_goto (tgt := 73) hx hb dL_isStarted_69 (by decide) ?_
                        refine lv_istore (lv' := [(7, .int 1), (0, .ref (gad G 0)), (1, .ref (gad G 31)), (2, .ref (gad G 32)), (3, .ref (gad G 33)), (4, .int (nI v9)), (5, .int 0), (6, .int (nI f)), (8, .int (nI i))]) hx hb dL_isStarted_73 hl (by decide) rfl (fun ls hl => ?_)
                        refine lv_iinc (v := (nI (i + 1))) (lv' := [(8, .int (nI (i + 1))), (7, .int 1), (0, .ref (gad G 0)), (1, .ref (gad G 31)), (2, .ref (gad G 32)), (3, .ref (gad G 33)), (4, .int (nI v9)), (5, .int 0), (6, .int (nI f))]) hx hb dL_isStarted_75 hl (k := 8) rfl (nI_1 _) (by decide) rfl (fun ls hl => ?_)
                        refine lv_goto (tgt := 44) hx hb dL_isStarted_78 (by decide) ?_
                        have q_65 : 1 = (bI (hsB σ f (i + 1))) := by first | exact hs_1 (by assumption) | exact hs_2 hA (show f < g by omega) (show i < g by omega) (by assumption) | exact hs_3 hA (show f < g by omega) (show i < g by omega) (by assumption) (by assumption)
                        exact W.widen (by omega) (by omega) (ih44 (i + 1) (by omega) (by omega) _ _ _ hw (lv_c (lv_at hl 2 rfl) (lv_c (lv_at hl 3 rfl) (lv_c (lv_at hl 4 rfl) (lv_c (lv_at hl 5 rfl) (lv_c (lv_at hl 6 rfl) (lv_c (lv_at hl 7 rfl) (lv_c (lv_at hl 8 rfl) (lv_c (lv_atq hl 1 rfl q_65) (lv_c (lv_at hl 0 rfl) (lv_c0 hl)))))))))))
              have q_66 : 0 = (bI (hsB σ f 0)) := by first | rfl | (rw [decide_eq_true (by omega)]; rfl) | (rw [decide_eq_false (by omega)]; rfl) | (congr 1; omega)
              have q_67 : 0 = (nI 0) := by first | rfl | (rw [decide_eq_true (by omega)]; rfl) | (rw [decide_eq_false (by omega)]; rfl) | (congr 1; omega)
              exact W.widen (by omega) (by omega) (lab_44 (g - 0 + 1) 0 (by omega) (by omega) _ _ _ hw (lv_c (lv_at hl 2 rfl) (lv_c (lv_at hl 3 rfl) (lv_c (lv_at hl 4 rfl) (lv_c (lv_at hl 5 rfl) (lv_c (lv_at hl 6 rfl) (lv_c (lv_at hl 7 rfl) (lv_c (lv_at hl 8 rfl) (lv_c (lv_atq hl 1 rfl q_66) (lv_c (lv_atq hl 0 rfl q_67) (lv_c0 hl)))))))))))
        have q_68 : 0 = (nI 0) := by first | rfl | (rw [decide_eq_true (by omega)]; rfl) | (rw [decide_eq_false (by omega)]; rfl) | (congr 1; omega)
        exact W.widen (by omega) (by omega) (lab_30 (g - 0 + 1) 0 (by omega) (by omega) _ _ _ hw (lv_c (lv_at hl 2 rfl) (lv_c (lv_at hl 3 rfl) (lv_c (lv_at hl 4 rfl) (lv_c (lv_at hl 5 rfl) (lv_c (lv_at hl 6 rfl) (lv_c (lv_at hl 1 rfl) (lv_c (lv_atq hl 0 rfl q_68) (lv_c0 hl)))))))))
      · skip
        have c_47 : ¬ 8 ≤ e9 := fun h9 => c_47 ((nI_leI (by omega) (by omega)).mpr h9)
        omega
  · skip
    refine lv_aload_n hx hb dL_isStarted_0 rfl (lv_at hl 3 rfl) ?_
    refine lv_iconst (v := 3) hx hb dL_isStarted_1 (by decide) ?_
    refine lv_rep0 (x := 3) (y := nI 3) rfl ?_
    refine rAld hx hb fx hw 33 (hF.1 33 (by decide)) hF.2.1 (fun _ => rfl) 3 rfl (by omega) (by decide) dL_isStarted_2 ?_
    refine lv_rep0 (x := (σ 33 3)) (y := 0) ((pon hA).trans (by rw [hbo]; rfl)) ?_
    refine lv_if_ne (tgt := 24) hx hb dL_isStarted_3 (by decide) (fun c_69 => ?_) (fun c_69 => ?_)
    · skip
      exact absurd c_69 (by decide)
    · skip
      refine lv_aload_n hx hb dL_isStarted_6 rfl (lv_at hl 3 rfl) ?_
      refine lv_iconst (v := 5) hx hb dL_isStarted_7 (by decide) ?_
      refine lv_rep0 (x := 5) (y := nI 5) rfl ?_
      refine rAld hx hb fx hw 33 (hF.1 33 (by decide)) hF.2.1 (fun _ => rfl) 5 rfl (by omega) (by decide) dL_isStarted_8 ?_
      refine lv_rep0 (x := (σ 33 5)) (y := (nI e9)) ((pst hA).trans (by rw [hbo]; rfl)) ?_
      refine lv_bipush (v := 8) hx hb dL_isStarted_9 (by decide) ?_
      refine lv_rep0 (x := 8) (y := nI 8) rfl ?_
      refine lv_icmp_ge (tgt := 24) hx hb dL_isStarted_11 (by decide) (fun c_70 => ?_) (fun c_70 => ?_)
      · skip
        have c_70 : 8 ≤ e9 := (nI_leI (by omega) (by omega)).mp c_70
        refine lv_iconst (v := 0) hx hb dL_isStarted_24 (by decide) ?_
        refine lv_istore (lv' := [(5, .int 0), (0, .ref (gad G 0)), (1, .ref (gad G 31)), (2, .ref (gad G 32)), (3, .ref (gad G 33)), (4, .int (nI v9))]) hx hb dL_isStarted_25 hl (by decide) rfl (fun ls hl => ?_)
        refine lv_iconst (v := 0) hx hb dL_isStarted_27 (by decide) ?_
        refine lv_istore (lv' := [(6, .int 0), (5, .int 0), (0, .ref (gad G 0)), (1, .ref (gad G 31)), (2, .ref (gad G 32)), (3, .ref (gad G 33)), (4, .int (nI v9))]) hx hb dL_isStarted_28 hl (by decide) rfl (fun ls hl => ?_)
        have lab_30 : ∀ (n9 : Nat), ∀ (f : Nat), g - f < n9 → f ≤ g → ∀ (H : Heap) (locs : List Loc) (ls : Array Slot), Wd G s σ H locs → lv_has ls 9 [(0, .ref (gad G 0)), (1, .ref (gad G 31)), (2, .ref (gad G 32)), (3, .ref (gad G 33)), (4, .int (nI v9)), (5, .int 0), (6, .int (nI f))] → W p l e rmL_isStarted s m args below meth c H locs (0) (0) (MQ below (va_Qi (fun r σ' => r = 1 ∧ PIn σ' (j + 1)) (BW G) (gA G)) args s 3 20 (gA G)) (F0 m 30 ls []) := by
          intro n9
          induction n9 with
          | zero => intro f hn9; exact absurd hn9 (Nat.not_lt_zero _)
          | succ n9 ih30 =>
            intro f hn9 h30_0 H locs ls hw hl
            refine lv_iload hx hb dL_isStarted_30 (lv_at hl 6 rfl) ?_
            refine lv_aload_n hx hb dL_isStarted_32 rfl (lv_at hl 3 rfl) ?_
            refine lv_iconst (v := 0) hx hb dL_isStarted_33 (by decide) ?_
            refine lv_rep0 (x := 0) (y := nI 0) rfl ?_
            refine rAld hx hb fx hw 33 (hF.1 33 (by decide)) hF.2.1 (fun _ => rfl) 0 rfl (by omega) (by decide) dL_isStarted_34 ?_
            refine lv_rep0 (x := (σ 33 0)) (y := (nI g)) (pg hA).1 ?_
            refine lv_icmp_ge (tgt := 104) hx hb dL_isStarted_35 (by decide) (fun c_71 => ?_) (fun c_71 => ?_)
            · skip
              have c_71 : g ≤ f := (nI_leI (by omega) (by omega)).mp c_71
              refine lv_iload hx hb dL_isStarted_104 (lv_at hl 4 rfl) ?_
              refine lv_iconst (v := 1) hx hb dL_isStarted_106 (by decide) ?_
              refine lv_rep0 (x := 1) (y := nI 1) rfl ?_
              refine lv_icmp_lt (tgt := 117) hx hb dL_isStarted_107 (by decide) (fun c_72 => ?_) (fun c_72 => ?_)
              · skip
                have c_72 : v9 < 1 := (nI_ltI (by omega) (by omega)).mp c_72
                omega
              · skip
                have c_72 : ¬ v9 < 1 := fun h9 => c_72 ((nI_ltI (by omega) (by omega)).mpr h9)
                refine lv_iload hx hb dL_isStarted_110 (lv_at hl 4 rfl) ?_
                refine lv_bipush (v := 9) hx hb dL_isStarted_112 (by decide) ?_
                refine lv_rep0 (x := 9) (y := nI 9) rfl ?_
                refine lv_icmp_le (tgt := 122) hx hb dL_isStarted_114 (by decide) (fun c_73 => ?_) (fun c_73 => ?_)
                · skip
                  have c_73 : v9 ≤ 9 := (nI_leI (by omega) (by omega)).mp c_73
                  refine lv_iload hx hb dL_isStarted_122 (lv_at hl 5 rfl) ?_
                  refine lv_if_eq (tgt := 133) hx hb dL_isStarted_124 (by decide) (fun c_74 => ?_) (fun c_74 => ?_)
                  · skip
                    refine lv_bipush (v := (-10)) hx hb dL_isStarted_133 (by decide) ?_
                    refine lv_istore (lv' := [(6, .int (-10)), (0, .ref (gad G 0)), (1, .ref (gad G 31)), (2, .ref (gad G 32)), (3, .ref (gad G 33)), (4, .int (nI v9)), (5, .int 0)]) hx hb dL_isStarted_135 hl (by decide) rfl (fun ls hl => ?_)
                    refine lv_iload hx hb dL_isStarted_137 (lv_at hl 0 rfl) ?_
                    refine lv_if_lt (tgt := 194) hx hb dL_isStarted_139 (by decide) (fun c_75 => ?_) (fun c_75 => ?_)
                    · skip
                      refine lv_aload_n hx hb dL_isStarted_194 rfl (lv_at hl 1 rfl) ?_
                      refine lv_iconst (v := 3) hx hb dL_isStarted_195 (by decide) ?_
                      refine lv_iload hx hb dL_isStarted_196 (lv_at hl 5 rfl) ?_
                      refine lv_iconst (v := 0) hx hb dL_isStarted_198 (by decide) ?_
                      refine lv_iconst (v := 0) hx hb dL_isStarted_199 (by decide) ?_
                      refine rCallLS (As := [.ref (gad G 0), .int 3, .int (nI v9), .int 0, .int 0]) (rest := []) ⟨hx, hb, hml, hown, hts⟩ fx hw (d3_t2 l hlt G hG hF σ (pcv hA) ((nI v9)) 0 0 (inR_y (lo := 1) (hi := 9) (by omega) (by decide) (by decide) (by omega) (by omega)) (st_no (by first | exact Or.inl hbo | exact Or.inr (Or.inl (by omega)) | exact Or.inr (Or.inr (Or.inl (by omega))) | exact Or.inr (Or.inr (Or.inr (cnx (σ := σ) (f := f) (by assumption) (by omega))))))) (vx_cwSW 5 hts gL_isStarted_L_does rfl rfl rfl (by decide +kernel) ⟨Nat.le_of_ble_eq_true rfl, Nat.le_of_ble_eq_true rfl⟩) rfl hl.1 rfl (Nat.le_of_ble_eq_true rfl) dL_isStarted_200 ⟨Nat.le_trans (show _ ≤ 3 by omega) (Nat.le_of_ble_eq_true rfl), Nat.le_trans (show _ ≤ 20 by omega) (Nat.le_of_ble_eq_true rfl)⟩ (fun r_76 σ_77 H locs p_78 hw => ?_)
                      obtain ⟨er_76, eσ_77⟩ := p_78
                      have er_76 := er_76.symm; subst er_76
                      have eσ_77 := eσ_77.symm; subst eσ_77
                      refine lv_iload hx hb dL_isStarted_203 (lv_at hl 0 rfl) ?_
                      refine lv_icmp_ne (tgt := 212) hx hb dL_isStarted_205 (by decide) (fun c_79 => ?_) (fun c_79 => ?_)
                      · skip
                        exact absurd c_79 (by decide)
                      · skip
                        refine lv_iconst (v := 1) hx hb dL_isStarted_208 (by decide) ?_
                        refine lv_goto (tgt := 213) hx hb dL_isStarted_209 (by decide) ?_
                        exact rRetZw hx hb hr hw (by decide) (by exact ⟨rfl, po_same hA hGa⟩) hlocks dL_isStarted_213 (by omega) (by omega)
                    · skip
                      exact absurd c_75 (by decide)
                  · skip
                    exact absurd c_74 (by decide)
                · skip
                  have c_73 : ¬ v9 ≤ 9 := fun h9 => c_73 ((nI_leI (by omega) (by omega)).mpr h9)
                  omega
            · skip
              have c_71 : ¬ g ≤ f := fun h9 => c_71 ((nI_leI (by omega) (by omega)).mpr h9)
              refine lv_iconst (v := 0) hx hb dL_isStarted_38 (by decide) ?_
              refine lv_istore (lv' := [(7, .int 0), (0, .ref (gad G 0)), (1, .ref (gad G 31)), (2, .ref (gad G 32)), (3, .ref (gad G 33)), (4, .int (nI v9)), (5, .int 0), (6, .int (nI f))]) hx hb dL_isStarted_39 hl (by decide) rfl (fun ls hl => ?_)
              refine lv_iconst (v := 0) hx hb dL_isStarted_41 (by decide) ?_
              refine lv_istore (lv' := [(8, .int 0), (7, .int 0), (0, .ref (gad G 0)), (1, .ref (gad G 31)), (2, .ref (gad G 32)), (3, .ref (gad G 33)), (4, .int (nI v9)), (5, .int 0), (6, .int (nI f))]) hx hb dL_isStarted_42 hl (by decide) rfl (fun ls hl => ?_)
              have lab_44 : ∀ (n9 : Nat), ∀ (i : Nat), g - i < n9 → i ≤ g → ∀ (H : Heap) (locs : List Loc) (ls : Array Slot), Wd G s σ H locs → lv_has ls 9 [(0, .ref (gad G 0)), (1, .ref (gad G 31)), (2, .ref (gad G 32)), (3, .ref (gad G 33)), (4, .int (nI v9)), (5, .int 0), (6, .int (nI f)), (7, .int (bI (hsB σ f i))), (8, .int (nI i))] → W p l e rmL_isStarted s m args below meth c H locs (0) (0) (MQ below (va_Qi (fun r σ' => r = 1 ∧ PIn σ' (j + 1)) (BW G) (gA G)) args s 3 20 (gA G)) (F0 m 44 ls []) := by
                intro n9
                induction n9 with
                | zero => intro i hn9; exact absurd hn9 (Nat.not_lt_zero _)
                | succ n9 ih44 =>
                  intro i hn9 h44_0 H locs ls hw hl
                  refine lv_iload hx hb dL_isStarted_44 (lv_at hl 8 rfl) ?_
                  refine lv_aload_n hx hb dL_isStarted_46 rfl (lv_at hl 3 rfl) ?_
                  refine lv_iconst (v := 0) hx hb dL_isStarted_47 (by decide) ?_
                  refine lv_rep0 (x := 0) (y := nI 0) rfl ?_
                  refine rAld hx hb fx hw 33 (hF.1 33 (by decide)) hF.2.1 (fun _ => rfl) 0 rfl (by omega) (by decide) dL_isStarted_48 ?_
                  refine lv_rep0 (x := (σ 33 0)) (y := (nI g)) (pg hA).1 ?_
                  refine lv_icmp_ge (tgt := 81) hx hb dL_isStarted_49 (by decide) (fun c_80 => ?_) (fun c_80 => ?_)
                  · skip
                    have c_80 : g ≤ i := (nI_leI (by omega) (by omega)).mp c_80
                    refine lv_iload hx hb dL_isStarted_81 (lv_at hl 5 rfl) ?_
                    refine lv_if_eq (tgt := 95) hx hb dL_isStarted_83 (by decide) (fun c_81 => ?_) (fun c_81 => ?_)
                    · skip
                      refine lv_iconst (v := 0) hx hb dL_isStarted_95 (by decide) ?_
                      refine lv_istore (lv' := [(5, .int 0), (0, .ref (gad G 0)), (1, .ref (gad G 31)), (2, .ref (gad G 32)), (3, .ref (gad G 33)), (4, .int (nI v9)), (6, .int (nI f)), (7, .int (bI (hsB σ f i))), (8, .int (nI i))]) hx hb dL_isStarted_96 hl (by decide) rfl (fun ls hl => ?_)
                      refine lv_iinc (v := (nI (f + 1))) (lv' := [(6, .int (nI (f + 1))), (5, .int 0), (0, .ref (gad G 0)), (1, .ref (gad G 31)), (2, .ref (gad G 32)), (3, .ref (gad G 33)), (4, .int (nI v9)), (7, .int (bI (hsB σ f i))), (8, .int (nI i))]) hx hb dL_isStarted_98 hl (k := 6) rfl (nI_1 _) (by decide) rfl (fun ls hl => ?_)
                      refine lv_goto (tgt := 30) hx hb dL_isStarted_101 (by decide) ?_
                      exact W.widen (by omega) (by omega) (ih30 (f + 1) (by omega) (by omega) _ _ _ hw (lv_c (lv_at hl 2 rfl) (lv_c (lv_at hl 3 rfl) (lv_c (lv_at hl 4 rfl) (lv_c (lv_at hl 5 rfl) (lv_c (lv_at hl 6 rfl) (lv_c (lv_at hl 1 rfl) (lv_c (lv_at hl 0 rfl) (lv_c0 hl)))))))))
                    · skip
                      exact absurd c_81 (by decide)
                  · skip
                    have c_80 : ¬ g ≤ i := fun h9 => c_80 ((nI_leI (by omega) (by omega)).mpr h9)
                    refine lv_iload hx hb dL_isStarted_52 (lv_at hl 7 rfl) ?_
                    refine lv_b_ne (tgt := 68) hx hb dL_isStarted_54 (by decide) (fun c_82 => ?_) (fun c_82 => ?_)
                    · skip
                      refine lv_iconst (v := 1) hx hb dL_isStarted_68 (by decide) ?_
                      refine lv_goto (tgt := 73) hx hb dL_isStarted_69 (by decide) ?_
                      refine lv_istore (lv' := [(7, .int 1), (0, .ref (gad G 0)), (1, .ref (gad G 31)), (2, .ref (gad G 32)), (3, .ref (gad G 33)), (4, .int (nI v9)), (5, .int 0), (6, .int (nI f)), (8, .int (nI i))]) hx hb dL_isStarted_73 hl (by decide) rfl (fun ls hl => ?_)
                      refine lv_iinc (v := (nI (i + 1))) (lv' := [(8, .int (nI (i + 1))), (7, .int 1), (0, .ref (gad G 0)), (1, .ref (gad G 31)), (2, .ref (gad G 32)), (3, .ref (gad G 33)), (4, .int (nI v9)), (5, .int 0), (6, .int (nI f))]) hx hb dL_isStarted_75 hl (k := 8) rfl (nI_1 _) (by decide) rfl (fun ls hl => ?_)
                      refine lv_goto (tgt := 44) hx hb dL_isStarted_78 (by decide) ?_
                      have q_83 : 1 = (bI (hsB σ f (i + 1))) := by first | exact hs_1 (by assumption) | exact hs_2 hA (show f < g by omega) (show i < g by omega) (by assumption) | exact hs_3 hA (show f < g by omega) (show i < g by omega) (by assumption) (by assumption)
                      exact W.widen (by omega) (by omega) (ih44 (i + 1) (by omega) (by omega) _ _ _ hw (lv_c (lv_at hl 2 rfl) (lv_c (lv_at hl 3 rfl) (lv_c (lv_at hl 4 rfl) (lv_c (lv_at hl 5 rfl) (lv_c (lv_at hl 6 rfl) (lv_c (lv_at hl 7 rfl) (lv_c (lv_at hl 8 rfl) (lv_c (lv_atq hl 1 rfl q_83) (lv_c (lv_at hl 0 rfl) (lv_c0 hl)))))))))))
                    · skip
                      refine lv_aload_n hx hb dL_isStarted_57 rfl (lv_at hl 1 rfl) ?_
                      refine lv_iload hx hb dL_isStarted_58 (lv_at hl 6 rfl) ?_
                      refine lv_iload hx hb dL_isStarted_60 (lv_at hl 8 rfl) ?_
                      refine rCallM (As := [.ref (gad G 31), .int (nI f), .int (nI i)]) (rest := []) ⟨hx, hb, hml, hown, hts⟩ fx hw (kL_way l hlt G hG hF σ f i (by omega) (by omega)) (va_cwS 3 hts gL_isStarted_L_way rfl rfl rfl (by decide +kernel) ⟨Nat.le_of_ble_eq_true rfl, Nat.le_of_ble_eq_true rfl⟩) rfl hl.1 rfl (Nat.le_of_ble_eq_true rfl) dL_isStarted_62 ⟨Nat.le_trans (show _ ≤ 3 by omega) (Nat.le_of_ble_eq_true rfl), Nat.le_trans (show _ ≤ 20 by omega) (Nat.le_of_ble_eq_true rfl)⟩ (fun r_84 σ_85 H locs p_86 hw => ?_)
                      obtain ⟨er_84, eσ_85⟩ := p_86
                      have er_84 := er_84.symm; subst er_84
                      have eσ_85 := eσ_85.symm; subst eσ_85
                      refine lv_if_le (tgt := 72) hx hb dL_isStarted_65 (by decide) (fun c_87 => ?_) (fun c_87 => ?_)
                      · skip
                        refine lv_iconst (v := 0) hx hb dL_isStarted_72 (by decide) ?_
                        refine lv_istore (lv' := [(7, .int 0), (0, .ref (gad G 0)), (1, .ref (gad G 31)), (2, .ref (gad G 32)), (3, .ref (gad G 33)), (4, .int (nI v9)), (5, .int 0), (6, .int (nI f)), (8, .int (nI i))]) hx hb dL_isStarted_73 hl (by decide) rfl (fun ls hl => ?_)
                        refine lv_iinc (v := (nI (i + 1))) (lv' := [(8, .int (nI (i + 1))), (7, .int 0), (0, .ref (gad G 0)), (1, .ref (gad G 31)), (2, .ref (gad G 32)), (3, .ref (gad G 33)), (4, .int (nI v9)), (5, .int 0), (6, .int (nI f))]) hx hb dL_isStarted_75 hl (k := 8) rfl (nI_1 _) (by decide) rfl (fun ls hl => ?_)
                        refine lv_goto (tgt := 44) hx hb dL_isStarted_78 (by decide) ?_
                        have q_88 : 0 = (bI (hsB σ f (i + 1))) := by first | exact hs_1 (by assumption) | exact hs_2 hA (show f < g by omega) (show i < g by omega) (by assumption) | exact hs_3 hA (show f < g by omega) (show i < g by omega) (by assumption) (by assumption)
                        exact W.widen (by omega) (by omega) (ih44 (i + 1) (by omega) (by omega) _ _ _ hw (lv_c (lv_at hl 2 rfl) (lv_c (lv_at hl 3 rfl) (lv_c (lv_at hl 4 rfl) (lv_c (lv_at hl 5 rfl) (lv_c (lv_at hl 6 rfl) (lv_c (lv_at hl 7 rfl) (lv_c (lv_at hl 8 rfl) (lv_c (lv_atq hl 1 rfl q_88) (lv_c (lv_at hl 0 rfl) (lv_c0 hl)))))))))))
                      · skip
                        refine lv_iconst (v := 1) hx hb dL_isStarted_68 (by decide) ?_
                        refine lv_goto (tgt := 73) hx hb dL_isStarted_69 (by decide) ?_
                        refine lv_istore (lv' := [(7, .int 1), (0, .ref (gad G 0)), (1, .ref (gad G 31)), (2, .ref (gad G 32)), (3, .ref (gad G 33)), (4, .int (nI v9)), (5, .int 0), (6, .int (nI f)), (8, .int (nI i))]) hx hb dL_isStarted_73 hl (by decide) rfl (fun ls hl => ?_)
                        refine lv_iinc (v := (nI (i + 1))) (lv' := [(8, .int (nI (i + 1))), (7, .int 1), (0, .ref (gad G 0)), (1, .ref (gad G 31)), (2, .ref (gad G 32)), (3, .ref (gad G 33)), (4, .int (nI v9)), (5, .int 0), (6, .int (nI f))]) hx hb dL_isStarted_75 hl (k := 8) rfl (nI_1 _) (by decide) rfl (fun ls hl => ?_)
                        refine lv_goto (tgt := 44) hx hb dL_isStarted_78 (by decide) ?_
                        have q_89 : 1 = (bI (hsB σ f (i + 1))) := by first | exact hs_1 (by assumption) | exact hs_2 hA (show f < g by omega) (show i < g by omega) (by assumption) | exact hs_3 hA (show f < g by omega) (show i < g by omega) (by assumption) (by assumption)
                        exact W.widen (by omega) (by omega) (ih44 (i + 1) (by omega) (by omega) _ _ _ hw (lv_c (lv_at hl 2 rfl) (lv_c (lv_at hl 3 rfl) (lv_c (lv_at hl 4 rfl) (lv_c (lv_at hl 5 rfl) (lv_c (lv_at hl 6 rfl) (lv_c (lv_at hl 7 rfl) (lv_c (lv_at hl 8 rfl) (lv_c (lv_atq hl 1 rfl q_89) (lv_c (lv_at hl 0 rfl) (lv_c0 hl)))))))))))
              have q_90 : 0 = (bI (hsB σ f 0)) := by first | rfl | (rw [decide_eq_true (by omega)]; rfl) | (rw [decide_eq_false (by omega)]; rfl) | (congr 1; omega)
              have q_91 : 0 = (nI 0) := by first | rfl | (rw [decide_eq_true (by omega)]; rfl) | (rw [decide_eq_false (by omega)]; rfl) | (congr 1; omega)
              exact W.widen (by omega) (by omega) (lab_44 (g - 0 + 1) 0 (by omega) (by omega) _ _ _ hw (lv_c (lv_at hl 2 rfl) (lv_c (lv_at hl 3 rfl) (lv_c (lv_at hl 4 rfl) (lv_c (lv_at hl 5 rfl) (lv_c (lv_at hl 6 rfl) (lv_c (lv_at hl 7 rfl) (lv_c (lv_at hl 8 rfl) (lv_c (lv_atq hl 1 rfl q_90) (lv_c (lv_atq hl 0 rfl q_91) (lv_c0 hl)))))))))))
        have q_92 : 0 = (nI 0) := by first | rfl | (rw [decide_eq_true (by omega)]; rfl) | (rw [decide_eq_false (by omega)]; rfl) | (congr 1; omega)
        exact W.widen (by omega) (by omega) (lab_30 (g - 0 + 1) 0 (by omega) (by omega) _ _ _ hw (lv_c (lv_at hl 2 rfl) (lv_c (lv_at hl 3 rfl) (lv_c (lv_at hl 4 rfl) (lv_c (lv_at hl 5 rfl) (lv_c (lv_at hl 6 rfl) (lv_c (lv_at hl 1 rfl) (lv_c (lv_atq hl 0 rfl q_92) (lv_c0 hl)))))))))
      · skip
        have c_70 : ¬ 8 ≤ e9 := fun h9 => c_70 ((nI_leI (by omega) (by omega)).mpr h9)
        omega
  · skip
    refine lv_aload_n hx hb dL_isStarted_0 rfl (lv_at hl 3 rfl) ?_
    refine lv_iconst (v := 3) hx hb dL_isStarted_1 (by decide) ?_
    refine lv_rep0 (x := 3) (y := nI 3) rfl ?_
    refine rAld hx hb fx hw 33 (hF.1 33 (by decide)) hF.2.1 (fun _ => rfl) 3 rfl (by omega) (by decide) dL_isStarted_2 ?_
    refine lv_rep0 (x := (σ 33 3)) (y := 0) ((pon hA).trans (by rw [hbo]; rfl)) ?_
    refine lv_if_ne (tgt := 24) hx hb dL_isStarted_3 (by decide) (fun c_93 => ?_) (fun c_93 => ?_)
    · skip
      exact absurd c_93 (by decide)
    · skip
      refine lv_aload_n hx hb dL_isStarted_6 rfl (lv_at hl 3 rfl) ?_
      refine lv_iconst (v := 5) hx hb dL_isStarted_7 (by decide) ?_
      refine lv_rep0 (x := 5) (y := nI 5) rfl ?_
      refine rAld hx hb fx hw 33 (hF.1 33 (by decide)) hF.2.1 (fun _ => rfl) 5 rfl (by omega) (by decide) dL_isStarted_8 ?_
      refine lv_rep0 (x := (σ 33 5)) (y := (nI e9)) ((pst hA).trans (by rw [hbo]; rfl)) ?_
      refine lv_bipush (v := 8) hx hb dL_isStarted_9 (by decide) ?_
      refine lv_rep0 (x := 8) (y := nI 8) rfl ?_
      refine lv_icmp_ge (tgt := 24) hx hb dL_isStarted_11 (by decide) (fun c_94 => ?_) (fun c_94 => ?_)
      · skip
        have c_94 : 8 ≤ e9 := (nI_leI (by omega) (by omega)).mp c_94
        omega
      · skip
        have c_94 : ¬ 8 ≤ e9 := fun h9 => c_94 ((nI_leI (by omega) (by omega)).mpr h9)
        refine lv_aload_n hx hb dL_isStarted_14 rfl (lv_at hl 3 rfl) ?_
        refine lv_iconst (v := 2) hx hb dL_isStarted_15 (by decide) ?_
        refine lv_rep0 (x := 2) (y := nI 2) rfl ?_
        refine rAld hx hb fx hw 33 (hF.1 33 (by decide)) hF.2.1 (fun _ => rfl) 2 rfl (by omega) (by decide) dL_isStarted_16 ?_
        refine lv_rep0 (x := (σ 33 2)) (y := (nI n)) (pn hA).1 ?_
        refine lv_if_le (tgt := 24) hx hb dL_isStarted_17 (by decide) (fun c_95 => ?_) (fun c_95 => ?_)
        · skip
          have c_95 : n = 0 := n0_let (by omega) c_95
          refine lv_iconst (v := 0) hx hb dL_isStarted_24 (by decide) ?_
          refine lv_istore (lv' := [(5, .int 0), (0, .ref (gad G 0)), (1, .ref (gad G 31)), (2, .ref (gad G 32)), (3, .ref (gad G 33)), (4, .int (nI v9))]) hx hb dL_isStarted_25 hl (by decide) rfl (fun ls hl => ?_)
          refine lv_iconst (v := 0) hx hb dL_isStarted_27 (by decide) ?_
          refine lv_istore (lv' := [(6, .int 0), (5, .int 0), (0, .ref (gad G 0)), (1, .ref (gad G 31)), (2, .ref (gad G 32)), (3, .ref (gad G 33)), (4, .int (nI v9))]) hx hb dL_isStarted_28 hl (by decide) rfl (fun ls hl => ?_)
          have lab_30 : ∀ (n9 : Nat), ∀ (f : Nat), g - f < n9 → f ≤ g → ∀ (H : Heap) (locs : List Loc) (ls : Array Slot), Wd G s σ H locs → lv_has ls 9 [(0, .ref (gad G 0)), (1, .ref (gad G 31)), (2, .ref (gad G 32)), (3, .ref (gad G 33)), (4, .int (nI v9)), (5, .int 0), (6, .int (nI f))] → W p l e rmL_isStarted s m args below meth c H locs (0) (0) (MQ below (va_Qi (fun r σ' => r = 1 ∧ PIn σ' (j + 1)) (BW G) (gA G)) args s 3 20 (gA G)) (F0 m 30 ls []) := by
            intro n9
            induction n9 with
            | zero => intro f hn9; exact absurd hn9 (Nat.not_lt_zero _)
            | succ n9 ih30 =>
              intro f hn9 h30_0 H locs ls hw hl
              refine lv_iload hx hb dL_isStarted_30 (lv_at hl 6 rfl) ?_
              refine lv_aload_n hx hb dL_isStarted_32 rfl (lv_at hl 3 rfl) ?_
              refine lv_iconst (v := 0) hx hb dL_isStarted_33 (by decide) ?_
              refine lv_rep0 (x := 0) (y := nI 0) rfl ?_
              refine rAld hx hb fx hw 33 (hF.1 33 (by decide)) hF.2.1 (fun _ => rfl) 0 rfl (by omega) (by decide) dL_isStarted_34 ?_
              refine lv_rep0 (x := (σ 33 0)) (y := (nI g)) (pg hA).1 ?_
              refine lv_icmp_ge (tgt := 104) hx hb dL_isStarted_35 (by decide) (fun c_96 => ?_) (fun c_96 => ?_)
              · skip
                have c_96 : g ≤ f := (nI_leI (by omega) (by omega)).mp c_96
                refine lv_iload hx hb dL_isStarted_104 (lv_at hl 4 rfl) ?_
                refine lv_iconst (v := 1) hx hb dL_isStarted_106 (by decide) ?_
                refine lv_rep0 (x := 1) (y := nI 1) rfl ?_
                refine lv_icmp_lt (tgt := 117) hx hb dL_isStarted_107 (by decide) (fun c_97 => ?_) (fun c_97 => ?_)
                · skip
                  have c_97 : v9 < 1 := (nI_ltI (by omega) (by omega)).mp c_97
                  omega
                · skip
                  have c_97 : ¬ v9 < 1 := fun h9 => c_97 ((nI_ltI (by omega) (by omega)).mpr h9)
                  refine lv_iload hx hb dL_isStarted_110 (lv_at hl 4 rfl) ?_
                  refine lv_bipush (v := 9) hx hb dL_isStarted_112 (by decide) ?_
                  refine lv_rep0 (x := 9) (y := nI 9) rfl ?_
                  refine lv_icmp_le (tgt := 122) hx hb dL_isStarted_114 (by decide) (fun c_98 => ?_) (fun c_98 => ?_)
                  · skip
                    have c_98 : v9 ≤ 9 := (nI_leI (by omega) (by omega)).mp c_98
                    omega
                  · skip
                    have c_98 : ¬ v9 ≤ 9 := fun h9 => c_98 ((nI_leI (by omega) (by omega)).mpr h9)
                    refine lv_bipush (v := (-20)) hx hb dL_isStarted_117 (by decide) ?_
                    refine lv_goto (tgt := 135) hx hb dL_isStarted_119 (by decide) ?_
                    refine lv_istore (lv' := [(6, .int (-20)), (0, .ref (gad G 0)), (1, .ref (gad G 31)), (2, .ref (gad G 32)), (3, .ref (gad G 33)), (4, .int (nI v9)), (5, .int 0)]) hx hb dL_isStarted_135 hl (by decide) rfl (fun ls hl => ?_)
                    refine lv_iload hx hb dL_isStarted_137 (lv_at hl 0 rfl) ?_
                    refine lv_if_lt (tgt := 194) hx hb dL_isStarted_139 (by decide) (fun c_99 => ?_) (fun c_99 => ?_)
                    · skip
                      refine lv_aload_n hx hb dL_isStarted_194 rfl (lv_at hl 1 rfl) ?_
                      refine lv_iconst (v := 3) hx hb dL_isStarted_195 (by decide) ?_
                      refine lv_iload hx hb dL_isStarted_196 (lv_at hl 5 rfl) ?_
                      refine lv_iconst (v := 0) hx hb dL_isStarted_198 (by decide) ?_
                      refine lv_iconst (v := 0) hx hb dL_isStarted_199 (by decide) ?_
                      refine rCallLS (As := [.ref (gad G 0), .int 3, .int (nI v9), .int 0, .int 0]) (rest := []) ⟨hx, hb, hml, hown, hts⟩ fx hw (d3_t1 l hlt G hG hF σ (pcv hA) ((nI v9)) 0 0 (inR_no (lo := 1) (hi := 9) (by omega) (by decide) (by decide) (by omega))) (vx_cwSW 5 hts gL_isStarted_L_does rfl rfl rfl (by decide +kernel) ⟨Nat.le_of_ble_eq_true rfl, Nat.le_of_ble_eq_true rfl⟩) rfl hl.1 rfl (Nat.le_of_ble_eq_true rfl) dL_isStarted_200 ⟨Nat.le_trans (show _ ≤ 3 by omega) (Nat.le_of_ble_eq_true rfl), Nat.le_trans (show _ ≤ 20 by omega) (Nat.le_of_ble_eq_true rfl)⟩ (fun r_100 σ_101 H locs p_102 hw => ?_)
                      obtain ⟨er_100, eσ_101⟩ := p_102
                      have er_100 := er_100.symm; subst er_100
                      have eσ_101 := eσ_101.symm; subst eσ_101
                      refine lv_iload hx hb dL_isStarted_203 (lv_at hl 0 rfl) ?_
                      refine lv_icmp_ne (tgt := 212) hx hb dL_isStarted_205 (by decide) (fun c_103 => ?_) (fun c_103 => ?_)
                      · skip
                        exact absurd c_103 (by decide)
                      · skip
                        refine lv_iconst (v := 1) hx hb dL_isStarted_208 (by decide) ?_
                        refine lv_goto (tgt := 213) hx hb dL_isStarted_209 (by decide) ?_
                        exact rRetZw hx hb hr hw (by decide) (by exact ⟨rfl, po_same hA hGa⟩) hlocks dL_isStarted_213 (by omega) (by omega)
                    · skip
                      exact absurd c_99 (by decide)
              · skip
                have c_96 : ¬ g ≤ f := fun h9 => c_96 ((nI_leI (by omega) (by omega)).mpr h9)
                refine lv_iconst (v := 0) hx hb dL_isStarted_38 (by decide) ?_
                refine lv_istore (lv' := [(7, .int 0), (0, .ref (gad G 0)), (1, .ref (gad G 31)), (2, .ref (gad G 32)), (3, .ref (gad G 33)), (4, .int (nI v9)), (5, .int 0), (6, .int (nI f))]) hx hb dL_isStarted_39 hl (by decide) rfl (fun ls hl => ?_)
                refine lv_iconst (v := 0) hx hb dL_isStarted_41 (by decide) ?_
                refine lv_istore (lv' := [(8, .int 0), (7, .int 0), (0, .ref (gad G 0)), (1, .ref (gad G 31)), (2, .ref (gad G 32)), (3, .ref (gad G 33)), (4, .int (nI v9)), (5, .int 0), (6, .int (nI f))]) hx hb dL_isStarted_42 hl (by decide) rfl (fun ls hl => ?_)
                have lab_44 : ∀ (n9 : Nat), ∀ (i : Nat), g - i < n9 → i ≤ g → ∀ (H : Heap) (locs : List Loc) (ls : Array Slot), Wd G s σ H locs → lv_has ls 9 [(0, .ref (gad G 0)), (1, .ref (gad G 31)), (2, .ref (gad G 32)), (3, .ref (gad G 33)), (4, .int (nI v9)), (5, .int 0), (6, .int (nI f)), (7, .int (bI (hsB σ f i))), (8, .int (nI i))] → W p l e rmL_isStarted s m args below meth c H locs (0) (0) (MQ below (va_Qi (fun r σ' => r = 1 ∧ PIn σ' (j + 1)) (BW G) (gA G)) args s 3 20 (gA G)) (F0 m 44 ls []) := by
                  intro n9
                  induction n9 with
                  | zero => intro i hn9; exact absurd hn9 (Nat.not_lt_zero _)
                  | succ n9 ih44 =>
                    intro i hn9 h44_0 H locs ls hw hl
                    refine lv_iload hx hb dL_isStarted_44 (lv_at hl 8 rfl) ?_
                    refine lv_aload_n hx hb dL_isStarted_46 rfl (lv_at hl 3 rfl) ?_
                    refine lv_iconst (v := 0) hx hb dL_isStarted_47 (by decide) ?_
                    refine lv_rep0 (x := 0) (y := nI 0) rfl ?_
                    refine rAld hx hb fx hw 33 (hF.1 33 (by decide)) hF.2.1 (fun _ => rfl) 0 rfl (by omega) (by decide) dL_isStarted_48 ?_
                    refine lv_rep0 (x := (σ 33 0)) (y := (nI g)) (pg hA).1 ?_
                    refine lv_icmp_ge (tgt := 81) hx hb dL_isStarted_49 (by decide) (fun c_104 => ?_) (fun c_104 => ?_)
                    · skip
                      have c_104 : g ≤ i := (nI_leI (by omega) (by omega)).mp c_104
                      refine lv_iload hx hb dL_isStarted_81 (lv_at hl 5 rfl) ?_
                      refine lv_if_eq (tgt := 95) hx hb dL_isStarted_83 (by decide) (fun c_105 => ?_) (fun c_105 => ?_)
                      · skip
                        refine lv_iconst (v := 0) hx hb dL_isStarted_95 (by decide) ?_
                        refine lv_istore (lv' := [(5, .int 0), (0, .ref (gad G 0)), (1, .ref (gad G 31)), (2, .ref (gad G 32)), (3, .ref (gad G 33)), (4, .int (nI v9)), (6, .int (nI f)), (7, .int (bI (hsB σ f i))), (8, .int (nI i))]) hx hb dL_isStarted_96 hl (by decide) rfl (fun ls hl => ?_)
                        refine lv_iinc (v := (nI (f + 1))) (lv' := [(6, .int (nI (f + 1))), (5, .int 0), (0, .ref (gad G 0)), (1, .ref (gad G 31)), (2, .ref (gad G 32)), (3, .ref (gad G 33)), (4, .int (nI v9)), (7, .int (bI (hsB σ f i))), (8, .int (nI i))]) hx hb dL_isStarted_98 hl (k := 6) rfl (nI_1 _) (by decide) rfl (fun ls hl => ?_)
                        refine lv_goto (tgt := 30) hx hb dL_isStarted_101 (by decide) ?_
                        exact W.widen (by omega) (by omega) (ih30 (f + 1) (by omega) (by omega) _ _ _ hw (lv_c (lv_at hl 2 rfl) (lv_c (lv_at hl 3 rfl) (lv_c (lv_at hl 4 rfl) (lv_c (lv_at hl 5 rfl) (lv_c (lv_at hl 6 rfl) (lv_c (lv_at hl 1 rfl) (lv_c (lv_at hl 0 rfl) (lv_c0 hl)))))))))
                      · skip
                        exact absurd c_105 (by decide)
                    · skip
                      have c_104 : ¬ g ≤ i := fun h9 => c_104 ((nI_leI (by omega) (by omega)).mpr h9)
                      refine lv_iload hx hb dL_isStarted_52 (lv_at hl 7 rfl) ?_
                      refine lv_b_ne (tgt := 68) hx hb dL_isStarted_54 (by decide) (fun c_106 => ?_) (fun c_106 => ?_)
                      · skip
                        refine lv_iconst (v := 1) hx hb dL_isStarted_68 (by decide) ?_
                        refine lv_goto (tgt := 73) hx hb dL_isStarted_69 (by decide) ?_
                        refine lv_istore (lv' := [(7, .int 1), (0, .ref (gad G 0)), (1, .ref (gad G 31)), (2, .ref (gad G 32)), (3, .ref (gad G 33)), (4, .int (nI v9)), (5, .int 0), (6, .int (nI f)), (8, .int (nI i))]) hx hb dL_isStarted_73 hl (by decide) rfl (fun ls hl => ?_)
                        refine lv_iinc (v := (nI (i + 1))) (lv' := [(8, .int (nI (i + 1))), (7, .int 1), (0, .ref (gad G 0)), (1, .ref (gad G 31)), (2, .ref (gad G 32)), (3, .ref (gad G 33)), (4, .int (nI v9)), (5, .int 0), (6, .int (nI f))]) hx hb dL_isStarted_75 hl (k := 8) rfl (nI_1 _) (by decide) rfl (fun ls hl => ?_)
                        refine lv_goto (tgt := 44) hx hb dL_isStarted_78 (by decide) ?_
                        have q_107 : 1 = (bI (hsB σ f (i + 1))) := by first | exact hs_1 (by assumption) | exact hs_2 hA (show f < g by omega) (show i < g by omega) (by assumption) | exact hs_3 hA (show f < g by omega) (show i < g by omega) (by assumption) (by assumption)
                        exact W.widen (by omega) (by omega) (ih44 (i + 1) (by omega) (by omega) _ _ _ hw (lv_c (lv_at hl 2 rfl) (lv_c (lv_at hl 3 rfl) (lv_c (lv_at hl 4 rfl) (lv_c (lv_at hl 5 rfl) (lv_c (lv_at hl 6 rfl) (lv_c (lv_at hl 7 rfl) (lv_c (lv_at hl 8 rfl) (lv_c (lv_atq hl 1 rfl q_107) (lv_c (lv_at hl 0 rfl) (lv_c0 hl)))))))))))
                      · skip
                        refine lv_aload_n hx hb dL_isStarted_57 rfl (lv_at hl 1 rfl) ?_
                        refine lv_iload hx hb dL_isStarted_58 (lv_at hl 6 rfl) ?_
                        refine lv_iload hx hb dL_isStarted_60 (lv_at hl 8 rfl) ?_
                        refine rCallM (As := [.ref (gad G 31), .int (nI f), .int (nI i)]) (rest := []) ⟨hx, hb, hml, hown, hts⟩ fx hw (kL_way l hlt G hG hF σ f i (by omega) (by omega)) (va_cwS 3 hts gL_isStarted_L_way rfl rfl rfl (by decide +kernel) ⟨Nat.le_of_ble_eq_true rfl, Nat.le_of_ble_eq_true rfl⟩) rfl hl.1 rfl (Nat.le_of_ble_eq_true rfl) dL_isStarted_62 ⟨Nat.le_trans (show _ ≤ 3 by omega) (Nat.le_of_ble_eq_true rfl), Nat.le_trans (show _ ≤ 20 by omega) (Nat.le_of_ble_eq_true rfl)⟩ (fun r_108 σ_109 H locs p_110 hw => ?_)
                        obtain ⟨er_108, eσ_109⟩ := p_110
                        have er_108 := er_108.symm; subst er_108
                        have eσ_109 := eσ_109.symm; subst eσ_109
                        refine lv_if_le (tgt := 72) hx hb dL_isStarted_65 (by decide) (fun c_111 => ?_) (fun c_111 => ?_)
                        · skip
                          refine lv_iconst (v := 0) hx hb dL_isStarted_72 (by decide) ?_
                          refine lv_istore (lv' := [(7, .int 0), (0, .ref (gad G 0)), (1, .ref (gad G 31)), (2, .ref (gad G 32)), (3, .ref (gad G 33)), (4, .int (nI v9)), (5, .int 0), (6, .int (nI f)), (8, .int (nI i))]) hx hb dL_isStarted_73 hl (by decide) rfl (fun ls hl => ?_)
                          refine lv_iinc (v := (nI (i + 1))) (lv' := [(8, .int (nI (i + 1))), (7, .int 0), (0, .ref (gad G 0)), (1, .ref (gad G 31)), (2, .ref (gad G 32)), (3, .ref (gad G 33)), (4, .int (nI v9)), (5, .int 0), (6, .int (nI f))]) hx hb dL_isStarted_75 hl (k := 8) rfl (nI_1 _) (by decide) rfl (fun ls hl => ?_)
                          refine lv_goto (tgt := 44) hx hb dL_isStarted_78 (by decide) ?_
                          have q_112 : 0 = (bI (hsB σ f (i + 1))) := by first | exact hs_1 (by assumption) | exact hs_2 hA (show f < g by omega) (show i < g by omega) (by assumption) | exact hs_3 hA (show f < g by omega) (show i < g by omega) (by assumption) (by assumption)
                          exact W.widen (by omega) (by omega) (ih44 (i + 1) (by omega) (by omega) _ _ _ hw (lv_c (lv_at hl 2 rfl) (lv_c (lv_at hl 3 rfl) (lv_c (lv_at hl 4 rfl) (lv_c (lv_at hl 5 rfl) (lv_c (lv_at hl 6 rfl) (lv_c (lv_at hl 7 rfl) (lv_c (lv_at hl 8 rfl) (lv_c (lv_atq hl 1 rfl q_112) (lv_c (lv_at hl 0 rfl) (lv_c0 hl)))))))))))
                        · skip
                          refine lv_iconst (v := 1) hx hb dL_isStarted_68 (by decide) ?_
                          refine lv_goto (tgt := 73) hx hb dL_isStarted_69 (by decide) ?_
                          refine lv_istore (lv' := [(7, .int 1), (0, .ref (gad G 0)), (1, .ref (gad G 31)), (2, .ref (gad G 32)), (3, .ref (gad G 33)), (4, .int (nI v9)), (5, .int 0), (6, .int (nI f)), (8, .int (nI i))]) hx hb dL_isStarted_73 hl (by decide) rfl (fun ls hl => ?_)
                          refine lv_iinc (v := (nI (i + 1))) (lv' := [(8, .int (nI (i + 1))), (7, .int 1), (0, .ref (gad G 0)), (1, .ref (gad G 31)), (2, .ref (gad G 32)), (3, .ref (gad G 33)), (4, .int (nI v9)), (5, .int 0), (6, .int (nI f))]) hx hb dL_isStarted_75 hl (k := 8) rfl (nI_1 _) (by decide) rfl (fun ls hl => ?_)
                          refine lv_goto (tgt := 44) hx hb dL_isStarted_78 (by decide) ?_
                          have q_113 : 1 = (bI (hsB σ f (i + 1))) := by first | exact hs_1 (by assumption) | exact hs_2 hA (show f < g by omega) (show i < g by omega) (by assumption) | exact hs_3 hA (show f < g by omega) (show i < g by omega) (by assumption) (by assumption)
                          exact W.widen (by omega) (by omega) (ih44 (i + 1) (by omega) (by omega) _ _ _ hw (lv_c (lv_at hl 2 rfl) (lv_c (lv_at hl 3 rfl) (lv_c (lv_at hl 4 rfl) (lv_c (lv_at hl 5 rfl) (lv_c (lv_at hl 6 rfl) (lv_c (lv_at hl 7 rfl) (lv_c (lv_at hl 8 rfl) (lv_c (lv_atq hl 1 rfl q_113) (lv_c (lv_at hl 0 rfl) (lv_c0 hl)))))))))))
                have q_114 : 0 = (bI (hsB σ f 0)) := by first | rfl | (rw [decide_eq_true (by omega)]; rfl) | (rw [decide_eq_false (by omega)]; rfl) | (congr 1; omega)
                have q_115 : 0 = (nI 0) := by first | rfl | (rw [decide_eq_true (by omega)]; rfl) | (rw [decide_eq_false (by omega)]; rfl) | (congr 1; omega)
                exact W.widen (by omega) (by omega) (lab_44 (g - 0 + 1) 0 (by omega) (by omega) _ _ _ hw (lv_c (lv_at hl 2 rfl) (lv_c (lv_at hl 3 rfl) (lv_c (lv_at hl 4 rfl) (lv_c (lv_at hl 5 rfl) (lv_c (lv_at hl 6 rfl) (lv_c (lv_at hl 7 rfl) (lv_c (lv_at hl 8 rfl) (lv_c (lv_atq hl 1 rfl q_114) (lv_c (lv_atq hl 0 rfl q_115) (lv_c0 hl)))))))))))
          have q_116 : 0 = (nI 0) := by first | rfl | (rw [decide_eq_true (by omega)]; rfl) | (rw [decide_eq_false (by omega)]; rfl) | (congr 1; omega)
          exact W.widen (by omega) (by omega) (lab_30 (g - 0 + 1) 0 (by omega) (by omega) _ _ _ hw (lv_c (lv_at hl 2 rfl) (lv_c (lv_at hl 3 rfl) (lv_c (lv_at hl 4 rfl) (lv_c (lv_at hl 5 rfl) (lv_c (lv_at hl 6 rfl) (lv_c (lv_at hl 1 rfl) (lv_c (lv_atq hl 0 rfl q_116) (lv_c0 hl)))))))))
        · skip
          have c_95 : 0 < n := n0_lef (by omega) c_95
          omega
  · skip
    refine lv_aload_n hx hb dL_isStarted_0 rfl (lv_at hl 3 rfl) ?_
    refine lv_iconst (v := 3) hx hb dL_isStarted_1 (by decide) ?_
    refine lv_rep0 (x := 3) (y := nI 3) rfl ?_
    refine rAld hx hb fx hw 33 (hF.1 33 (by decide)) hF.2.1 (fun _ => rfl) 3 rfl (by omega) (by decide) dL_isStarted_2 ?_
    refine lv_rep0 (x := (σ 33 3)) (y := 0) ((pon hA).trans (by rw [hbo]; rfl)) ?_
    refine lv_if_ne (tgt := 24) hx hb dL_isStarted_3 (by decide) (fun c_117 => ?_) (fun c_117 => ?_)
    · skip
      exact absurd c_117 (by decide)
    · skip
      refine lv_aload_n hx hb dL_isStarted_6 rfl (lv_at hl 3 rfl) ?_
      refine lv_iconst (v := 5) hx hb dL_isStarted_7 (by decide) ?_
      refine lv_rep0 (x := 5) (y := nI 5) rfl ?_
      refine rAld hx hb fx hw 33 (hF.1 33 (by decide)) hF.2.1 (fun _ => rfl) 5 rfl (by omega) (by decide) dL_isStarted_8 ?_
      refine lv_rep0 (x := (σ 33 5)) (y := (nI e9)) ((pst hA).trans (by rw [hbo]; rfl)) ?_
      refine lv_bipush (v := 8) hx hb dL_isStarted_9 (by decide) ?_
      refine lv_rep0 (x := 8) (y := nI 8) rfl ?_
      refine lv_icmp_ge (tgt := 24) hx hb dL_isStarted_11 (by decide) (fun c_118 => ?_) (fun c_118 => ?_)
      · skip
        have c_118 : 8 ≤ e9 := (nI_leI (by omega) (by omega)).mp c_118
        omega
      · skip
        have c_118 : ¬ 8 ≤ e9 := fun h9 => c_118 ((nI_leI (by omega) (by omega)).mpr h9)
        refine lv_aload_n hx hb dL_isStarted_14 rfl (lv_at hl 3 rfl) ?_
        refine lv_iconst (v := 2) hx hb dL_isStarted_15 (by decide) ?_
        refine lv_rep0 (x := 2) (y := nI 2) rfl ?_
        refine rAld hx hb fx hw 33 (hF.1 33 (by decide)) hF.2.1 (fun _ => rfl) 2 rfl (by omega) (by decide) dL_isStarted_16 ?_
        refine lv_rep0 (x := (σ 33 2)) (y := (nI n)) (pn hA).1 ?_
        refine lv_if_le (tgt := 24) hx hb dL_isStarted_17 (by decide) (fun c_119 => ?_) (fun c_119 => ?_)
        · skip
          have c_119 : n = 0 := n0_let (by omega) c_119
          refine lv_iconst (v := 0) hx hb dL_isStarted_24 (by decide) ?_
          refine lv_istore (lv' := [(5, .int 0), (0, .ref (gad G 0)), (1, .ref (gad G 31)), (2, .ref (gad G 32)), (3, .ref (gad G 33)), (4, .int (nI v9))]) hx hb dL_isStarted_25 hl (by decide) rfl (fun ls hl => ?_)
          refine lv_iconst (v := 0) hx hb dL_isStarted_27 (by decide) ?_
          refine lv_istore (lv' := [(6, .int 0), (5, .int 0), (0, .ref (gad G 0)), (1, .ref (gad G 31)), (2, .ref (gad G 32)), (3, .ref (gad G 33)), (4, .int (nI v9))]) hx hb dL_isStarted_28 hl (by decide) rfl (fun ls hl => ?_)
          have lab_30 : ∀ (n9 : Nat), ∀ (f : Nat), g - f < n9 → f ≤ g → ∀ (H : Heap) (locs : List Loc) (ls : Array Slot), Wd G s σ H locs → lv_has ls 9 [(0, .ref (gad G 0)), (1, .ref (gad G 31)), (2, .ref (gad G 32)), (3, .ref (gad G 33)), (4, .int (nI v9)), (5, .int 0), (6, .int (nI f))] → W p l e rmL_isStarted s m args below meth c H locs (0) (0) (MQ below (va_Qi (fun r σ' => r = 1 ∧ PIn σ' (j + 1)) (BW G) (gA G)) args s 3 20 (gA G)) (F0 m 30 ls []) := by
            intro n9
            induction n9 with
            | zero => intro f hn9; exact absurd hn9 (Nat.not_lt_zero _)
            | succ n9 ih30 =>
              intro f hn9 h30_0 H locs ls hw hl
              refine lv_iload hx hb dL_isStarted_30 (lv_at hl 6 rfl) ?_
              refine lv_aload_n hx hb dL_isStarted_32 rfl (lv_at hl 3 rfl) ?_
              refine lv_iconst (v := 0) hx hb dL_isStarted_33 (by decide) ?_
              refine lv_rep0 (x := 0) (y := nI 0) rfl ?_
              refine rAld hx hb fx hw 33 (hF.1 33 (by decide)) hF.2.1 (fun _ => rfl) 0 rfl (by omega) (by decide) dL_isStarted_34 ?_
              refine lv_rep0 (x := (σ 33 0)) (y := (nI g)) (pg hA).1 ?_
              refine lv_icmp_ge (tgt := 104) hx hb dL_isStarted_35 (by decide) (fun c_120 => ?_) (fun c_120 => ?_)
              · skip
                have c_120 : g ≤ f := (nI_leI (by omega) (by omega)).mp c_120
                refine lv_iload hx hb dL_isStarted_104 (lv_at hl 4 rfl) ?_
                refine lv_iconst (v := 1) hx hb dL_isStarted_106 (by decide) ?_
                refine lv_rep0 (x := 1) (y := nI 1) rfl ?_
                refine lv_icmp_lt (tgt := 117) hx hb dL_isStarted_107 (by decide) (fun c_121 => ?_) (fun c_121 => ?_)
                · skip
                  have c_121 : v9 < 1 := (nI_ltI (by omega) (by omega)).mp c_121
                  omega
                · skip
                  have c_121 : ¬ v9 < 1 := fun h9 => c_121 ((nI_ltI (by omega) (by omega)).mpr h9)
                  refine lv_iload hx hb dL_isStarted_110 (lv_at hl 4 rfl) ?_
                  refine lv_bipush (v := 9) hx hb dL_isStarted_112 (by decide) ?_
                  refine lv_rep0 (x := 9) (y := nI 9) rfl ?_
                  refine lv_icmp_le (tgt := 122) hx hb dL_isStarted_114 (by decide) (fun c_122 => ?_) (fun c_122 => ?_)
                  · skip
                    have c_122 : v9 ≤ 9 := (nI_leI (by omega) (by omega)).mp c_122
                    refine lv_iload hx hb dL_isStarted_122 (lv_at hl 5 rfl) ?_
                    refine lv_if_eq (tgt := 133) hx hb dL_isStarted_124 (by decide) (fun c_123 => ?_) (fun c_123 => ?_)
                    · skip
                      refine lv_bipush (v := (-10)) hx hb dL_isStarted_133 (by decide) ?_
                      refine lv_istore (lv' := [(6, .int (-10)), (0, .ref (gad G 0)), (1, .ref (gad G 31)), (2, .ref (gad G 32)), (3, .ref (gad G 33)), (4, .int (nI v9)), (5, .int 0)]) hx hb dL_isStarted_135 hl (by decide) rfl (fun ls hl => ?_)
                      refine lv_iload hx hb dL_isStarted_137 (lv_at hl 0 rfl) ?_
                      refine lv_if_lt (tgt := 194) hx hb dL_isStarted_139 (by decide) (fun c_124 => ?_) (fun c_124 => ?_)
                      · skip
                        refine lv_aload_n hx hb dL_isStarted_194 rfl (lv_at hl 1 rfl) ?_
                        refine lv_iconst (v := 3) hx hb dL_isStarted_195 (by decide) ?_
                        refine lv_iload hx hb dL_isStarted_196 (lv_at hl 5 rfl) ?_
                        refine lv_iconst (v := 0) hx hb dL_isStarted_198 (by decide) ?_
                        refine lv_iconst (v := 0) hx hb dL_isStarted_199 (by decide) ?_
                        refine rCallLS (As := [.ref (gad G 0), .int 3, .int (nI v9), .int 0, .int 0]) (rest := []) ⟨hx, hb, hml, hown, hts⟩ fx hw (d3_t2 l hlt G hG hF σ (pcv hA) ((nI v9)) 0 0 (inR_y (lo := 1) (hi := 9) (by omega) (by decide) (by decide) (by omega) (by omega)) (st_no (by first | exact Or.inl hbo | exact Or.inr (Or.inl (by omega)) | exact Or.inr (Or.inr (Or.inl (by omega))) | exact Or.inr (Or.inr (Or.inr (cnx (σ := σ) (f := f) (by assumption) (by omega))))))) (vx_cwSW 5 hts gL_isStarted_L_does rfl rfl rfl (by decide +kernel) ⟨Nat.le_of_ble_eq_true rfl, Nat.le_of_ble_eq_true rfl⟩) rfl hl.1 rfl (Nat.le_of_ble_eq_true rfl) dL_isStarted_200 ⟨Nat.le_trans (show _ ≤ 3 by omega) (Nat.le_of_ble_eq_true rfl), Nat.le_trans (show _ ≤ 20 by omega) (Nat.le_of_ble_eq_true rfl)⟩ (fun r_125 σ_126 H locs p_127 hw => ?_)
                        obtain ⟨er_125, eσ_126⟩ := p_127
                        have er_125 := er_125.symm; subst er_125
                        have eσ_126 := eσ_126.symm; subst eσ_126
                        refine lv_iload hx hb dL_isStarted_203 (lv_at hl 0 rfl) ?_
                        refine lv_icmp_ne (tgt := 212) hx hb dL_isStarted_205 (by decide) (fun c_128 => ?_) (fun c_128 => ?_)
                        · skip
                          exact absurd c_128 (by decide)
                        · skip
                          refine lv_iconst (v := 1) hx hb dL_isStarted_208 (by decide) ?_
                          refine lv_goto (tgt := 213) hx hb dL_isStarted_209 (by decide) ?_
                          exact rRetZw hx hb hr hw (by decide) (by exact ⟨rfl, po_same hA hGa⟩) hlocks dL_isStarted_213 (by omega) (by omega)
                      · skip
                        exact absurd c_124 (by decide)
                    · skip
                      exact absurd c_123 (by decide)
                  · skip
                    have c_122 : ¬ v9 ≤ 9 := fun h9 => c_122 ((nI_leI (by omega) (by omega)).mpr h9)
                    omega
              · skip
                have c_120 : ¬ g ≤ f := fun h9 => c_120 ((nI_leI (by omega) (by omega)).mpr h9)
                refine lv_iconst (v := 0) hx hb dL_isStarted_38 (by decide) ?_
                refine lv_istore (lv' := [(7, .int 0), (0, .ref (gad G 0)), (1, .ref (gad G 31)), (2, .ref (gad G 32)), (3, .ref (gad G 33)), (4, .int (nI v9)), (5, .int 0), (6, .int (nI f))]) hx hb dL_isStarted_39 hl (by decide) rfl (fun ls hl => ?_)
                refine lv_iconst (v := 0) hx hb dL_isStarted_41 (by decide) ?_
                refine lv_istore (lv' := [(8, .int 0), (7, .int 0), (0, .ref (gad G 0)), (1, .ref (gad G 31)), (2, .ref (gad G 32)), (3, .ref (gad G 33)), (4, .int (nI v9)), (5, .int 0), (6, .int (nI f))]) hx hb dL_isStarted_42 hl (by decide) rfl (fun ls hl => ?_)
                have lab_44 : ∀ (n9 : Nat), ∀ (i : Nat), g - i < n9 → i ≤ g → ∀ (H : Heap) (locs : List Loc) (ls : Array Slot), Wd G s σ H locs → lv_has ls 9 [(0, .ref (gad G 0)), (1, .ref (gad G 31)), (2, .ref (gad G 32)), (3, .ref (gad G 33)), (4, .int (nI v9)), (5, .int 0), (6, .int (nI f)), (7, .int (bI (hsB σ f i))), (8, .int (nI i))] → W p l e rmL_isStarted s m args below meth c H locs (0) (0) (MQ below (va_Qi (fun r σ' => r = 1 ∧ PIn σ' (j + 1)) (BW G) (gA G)) args s 3 20 (gA G)) (F0 m 44 ls []) := by
                  intro n9
                  induction n9 with
                  | zero => intro i hn9; exact absurd hn9 (Nat.not_lt_zero _)
                  | succ n9 ih44 =>
                    intro i hn9 h44_0 H locs ls hw hl
                    refine lv_iload hx hb dL_isStarted_44 (lv_at hl 8 rfl) ?_
                    refine lv_aload_n hx hb dL_isStarted_46 rfl (lv_at hl 3 rfl) ?_
                    refine lv_iconst (v := 0) hx hb dL_isStarted_47 (by decide) ?_
                    refine lv_rep0 (x := 0) (y := nI 0) rfl ?_
                    refine rAld hx hb fx hw 33 (hF.1 33 (by decide)) hF.2.1 (fun _ => rfl) 0 rfl (by omega) (by decide) dL_isStarted_48 ?_
                    refine lv_rep0 (x := (σ 33 0)) (y := (nI g)) (pg hA).1 ?_
                    refine lv_icmp_ge (tgt := 81) hx hb dL_isStarted_49 (by decide) (fun c_129 => ?_) (fun c_129 => ?_)
                    · skip
                      have c_129 : g ≤ i := (nI_leI (by omega) (by omega)).mp c_129
                      refine lv_iload hx hb dL_isStarted_81 (lv_at hl 5 rfl) ?_
                      refine lv_if_eq (tgt := 95) hx hb dL_isStarted_83 (by decide) (fun c_130 => ?_) (fun c_130 => ?_)
                      · skip
                        refine lv_iconst (v := 0) hx hb dL_isStarted_95 (by decide) ?_
                        refine lv_istore (lv' := [(5, .int 0), (0, .ref (gad G 0)), (1, .ref (gad G 31)), (2, .ref (gad G 32)), (3, .ref (gad G 33)), (4, .int (nI v9)), (6, .int (nI f)), (7, .int (bI (hsB σ f i))), (8, .int (nI i))]) hx hb dL_isStarted_96 hl (by decide) rfl (fun ls hl => ?_)
                        refine lv_iinc (v := (nI (f + 1))) (lv' := [(6, .int (nI (f + 1))), (5, .int 0), (0, .ref (gad G 0)), (1, .ref (gad G 31)), (2, .ref (gad G 32)), (3, .ref (gad G 33)), (4, .int (nI v9)), (7, .int (bI (hsB σ f i))), (8, .int (nI i))]) hx hb dL_isStarted_98 hl (k := 6) rfl (nI_1 _) (by decide) rfl (fun ls hl => ?_)
                        refine lv_goto (tgt := 30) hx hb dL_isStarted_101 (by decide) ?_
                        exact W.widen (by omega) (by omega) (ih30 (f + 1) (by omega) (by omega) _ _ _ hw (lv_c (lv_at hl 2 rfl) (lv_c (lv_at hl 3 rfl) (lv_c (lv_at hl 4 rfl) (lv_c (lv_at hl 5 rfl) (lv_c (lv_at hl 6 rfl) (lv_c (lv_at hl 1 rfl) (lv_c (lv_at hl 0 rfl) (lv_c0 hl)))))))))
                      · skip
                        exact absurd c_130 (by decide)
                    · skip
                      have c_129 : ¬ g ≤ i := fun h9 => c_129 ((nI_leI (by omega) (by omega)).mpr h9)
                      refine lv_iload hx hb dL_isStarted_52 (lv_at hl 7 rfl) ?_
                      refine lv_b_ne (tgt := 68) hx hb dL_isStarted_54 (by decide) (fun c_131 => ?_) (fun c_131 => ?_)
                      · skip
                        refine lv_iconst (v := 1) hx hb dL_isStarted_68 (by decide) ?_
                        refine lv_goto (tgt := 73) hx hb dL_isStarted_69 (by decide) ?_
                        refine lv_istore (lv' := [(7, .int 1), (0, .ref (gad G 0)), (1, .ref (gad G 31)), (2, .ref (gad G 32)), (3, .ref (gad G 33)), (4, .int (nI v9)), (5, .int 0), (6, .int (nI f)), (8, .int (nI i))]) hx hb dL_isStarted_73 hl (by decide) rfl (fun ls hl => ?_)
                        refine lv_iinc (v := (nI (i + 1))) (lv' := [(8, .int (nI (i + 1))), (7, .int 1), (0, .ref (gad G 0)), (1, .ref (gad G 31)), (2, .ref (gad G 32)), (3, .ref (gad G 33)), (4, .int (nI v9)), (5, .int 0), (6, .int (nI f))]) hx hb dL_isStarted_75 hl (k := 8) rfl (nI_1 _) (by decide) rfl (fun ls hl => ?_)
                        refine lv_goto (tgt := 44) hx hb dL_isStarted_78 (by decide) ?_
                        have q_132 : 1 = (bI (hsB σ f (i + 1))) := by first | exact hs_1 (by assumption) | exact hs_2 hA (show f < g by omega) (show i < g by omega) (by assumption) | exact hs_3 hA (show f < g by omega) (show i < g by omega) (by assumption) (by assumption)
                        exact W.widen (by omega) (by omega) (ih44 (i + 1) (by omega) (by omega) _ _ _ hw (lv_c (lv_at hl 2 rfl) (lv_c (lv_at hl 3 rfl) (lv_c (lv_at hl 4 rfl) (lv_c (lv_at hl 5 rfl) (lv_c (lv_at hl 6 rfl) (lv_c (lv_at hl 7 rfl) (lv_c (lv_at hl 8 rfl) (lv_c (lv_atq hl 1 rfl q_132) (lv_c (lv_at hl 0 rfl) (lv_c0 hl)))))))))))
                      · skip
                        refine lv_aload_n hx hb dL_isStarted_57 rfl (lv_at hl 1 rfl) ?_
                        refine lv_iload hx hb dL_isStarted_58 (lv_at hl 6 rfl) ?_
                        refine lv_iload hx hb dL_isStarted_60 (lv_at hl 8 rfl) ?_
                        refine rCallM (As := [.ref (gad G 31), .int (nI f), .int (nI i)]) (rest := []) ⟨hx, hb, hml, hown, hts⟩ fx hw (kL_way l hlt G hG hF σ f i (by omega) (by omega)) (va_cwS 3 hts gL_isStarted_L_way rfl rfl rfl (by decide +kernel) ⟨Nat.le_of_ble_eq_true rfl, Nat.le_of_ble_eq_true rfl⟩) rfl hl.1 rfl (Nat.le_of_ble_eq_true rfl) dL_isStarted_62 ⟨Nat.le_trans (show _ ≤ 3 by omega) (Nat.le_of_ble_eq_true rfl), Nat.le_trans (show _ ≤ 20 by omega) (Nat.le_of_ble_eq_true rfl)⟩ (fun r_133 σ_134 H locs p_135 hw => ?_)
                        obtain ⟨er_133, eσ_134⟩ := p_135
                        have er_133 := er_133.symm; subst er_133
                        have eσ_134 := eσ_134.symm; subst eσ_134
                        refine lv_if_le (tgt := 72) hx hb dL_isStarted_65 (by decide) (fun c_136 => ?_) (fun c_136 => ?_)
                        · skip
                          refine lv_iconst (v := 0) hx hb dL_isStarted_72 (by decide) ?_
                          refine lv_istore (lv' := [(7, .int 0), (0, .ref (gad G 0)), (1, .ref (gad G 31)), (2, .ref (gad G 32)), (3, .ref (gad G 33)), (4, .int (nI v9)), (5, .int 0), (6, .int (nI f)), (8, .int (nI i))]) hx hb dL_isStarted_73 hl (by decide) rfl (fun ls hl => ?_)
                          refine lv_iinc (v := (nI (i + 1))) (lv' := [(8, .int (nI (i + 1))), (7, .int 0), (0, .ref (gad G 0)), (1, .ref (gad G 31)), (2, .ref (gad G 32)), (3, .ref (gad G 33)), (4, .int (nI v9)), (5, .int 0), (6, .int (nI f))]) hx hb dL_isStarted_75 hl (k := 8) rfl (nI_1 _) (by decide) rfl (fun ls hl => ?_)
                          refine lv_goto (tgt := 44) hx hb dL_isStarted_78 (by decide) ?_
                          have q_137 : 0 = (bI (hsB σ f (i + 1))) := by first | exact hs_1 (by assumption) | exact hs_2 hA (show f < g by omega) (show i < g by omega) (by assumption) | exact hs_3 hA (show f < g by omega) (show i < g by omega) (by assumption) (by assumption)
                          exact W.widen (by omega) (by omega) (ih44 (i + 1) (by omega) (by omega) _ _ _ hw (lv_c (lv_at hl 2 rfl) (lv_c (lv_at hl 3 rfl) (lv_c (lv_at hl 4 rfl) (lv_c (lv_at hl 5 rfl) (lv_c (lv_at hl 6 rfl) (lv_c (lv_at hl 7 rfl) (lv_c (lv_at hl 8 rfl) (lv_c (lv_atq hl 1 rfl q_137) (lv_c (lv_at hl 0 rfl) (lv_c0 hl)))))))))))
                        · skip
                          refine lv_iconst (v := 1) hx hb dL_isStarted_68 (by decide) ?_
                          refine lv_goto (tgt := 73) hx hb dL_isStarted_69 (by decide) ?_
                          refine lv_istore (lv' := [(7, .int 1), (0, .ref (gad G 0)), (1, .ref (gad G 31)), (2, .ref (gad G 32)), (3, .ref (gad G 33)), (4, .int (nI v9)), (5, .int 0), (6, .int (nI f)), (8, .int (nI i))]) hx hb dL_isStarted_73 hl (by decide) rfl (fun ls hl => ?_)
                          refine lv_iinc (v := (nI (i + 1))) (lv' := [(8, .int (nI (i + 1))), (7, .int 1), (0, .ref (gad G 0)), (1, .ref (gad G 31)), (2, .ref (gad G 32)), (3, .ref (gad G 33)), (4, .int (nI v9)), (5, .int 0), (6, .int (nI f))]) hx hb dL_isStarted_75 hl (k := 8) rfl (nI_1 _) (by decide) rfl (fun ls hl => ?_)
                          refine lv_goto (tgt := 44) hx hb dL_isStarted_78 (by decide) ?_
                          have q_138 : 1 = (bI (hsB σ f (i + 1))) := by first | exact hs_1 (by assumption) | exact hs_2 hA (show f < g by omega) (show i < g by omega) (by assumption) | exact hs_3 hA (show f < g by omega) (show i < g by omega) (by assumption) (by assumption)
                          exact W.widen (by omega) (by omega) (ih44 (i + 1) (by omega) (by omega) _ _ _ hw (lv_c (lv_at hl 2 rfl) (lv_c (lv_at hl 3 rfl) (lv_c (lv_at hl 4 rfl) (lv_c (lv_at hl 5 rfl) (lv_c (lv_at hl 6 rfl) (lv_c (lv_at hl 7 rfl) (lv_c (lv_at hl 8 rfl) (lv_c (lv_atq hl 1 rfl q_138) (lv_c (lv_at hl 0 rfl) (lv_c0 hl)))))))))))
                have q_139 : 0 = (bI (hsB σ f 0)) := by first | rfl | (rw [decide_eq_true (by omega)]; rfl) | (rw [decide_eq_false (by omega)]; rfl) | (congr 1; omega)
                have q_140 : 0 = (nI 0) := by first | rfl | (rw [decide_eq_true (by omega)]; rfl) | (rw [decide_eq_false (by omega)]; rfl) | (congr 1; omega)
                exact W.widen (by omega) (by omega) (lab_44 (g - 0 + 1) 0 (by omega) (by omega) _ _ _ hw (lv_c (lv_at hl 2 rfl) (lv_c (lv_at hl 3 rfl) (lv_c (lv_at hl 4 rfl) (lv_c (lv_at hl 5 rfl) (lv_c (lv_at hl 6 rfl) (lv_c (lv_at hl 7 rfl) (lv_c (lv_at hl 8 rfl) (lv_c (lv_atq hl 1 rfl q_139) (lv_c (lv_atq hl 0 rfl q_140) (lv_c0 hl)))))))))))
          have q_141 : 0 = (nI 0) := by first | rfl | (rw [decide_eq_true (by omega)]; rfl) | (rw [decide_eq_false (by omega)]; rfl) | (congr 1; omega)
          exact W.widen (by omega) (by omega) (lab_30 (g - 0 + 1) 0 (by omega) (by omega) _ _ _ hw (lv_c (lv_at hl 2 rfl) (lv_c (lv_at hl 3 rfl) (lv_c (lv_at hl 4 rfl) (lv_c (lv_at hl 5 rfl) (lv_c (lv_at hl 6 rfl) (lv_c (lv_at hl 1 rfl) (lv_c (lv_atq hl 0 rfl q_141) (lv_c0 hl)))))))))
        · skip
          have c_119 : 0 < n := n0_lef (by omega) c_119
          omega
  · skip
    refine lv_aload_n hx hb dL_isStarted_0 rfl (lv_at hl 3 rfl) ?_
    refine lv_iconst (v := 3) hx hb dL_isStarted_1 (by decide) ?_
    refine lv_rep0 (x := 3) (y := nI 3) rfl ?_
    refine rAld hx hb fx hw 33 (hF.1 33 (by decide)) hF.2.1 (fun _ => rfl) 3 rfl (by omega) (by decide) dL_isStarted_2 ?_
    refine lv_rep0 (x := (σ 33 3)) (y := 0) ((pon hA).trans (by rw [hbo]; rfl)) ?_
    refine lv_if_ne (tgt := 24) hx hb dL_isStarted_3 (by decide) (fun c_142 => ?_) (fun c_142 => ?_)
    · skip
      exact absurd c_142 (by decide)
    · skip
      refine lv_aload_n hx hb dL_isStarted_6 rfl (lv_at hl 3 rfl) ?_
      refine lv_iconst (v := 5) hx hb dL_isStarted_7 (by decide) ?_
      refine lv_rep0 (x := 5) (y := nI 5) rfl ?_
      refine rAld hx hb fx hw 33 (hF.1 33 (by decide)) hF.2.1 (fun _ => rfl) 5 rfl (by omega) (by decide) dL_isStarted_8 ?_
      refine lv_rep0 (x := (σ 33 5)) (y := (nI e9)) ((pst hA).trans (by rw [hbo]; rfl)) ?_
      refine lv_bipush (v := 8) hx hb dL_isStarted_9 (by decide) ?_
      refine lv_rep0 (x := 8) (y := nI 8) rfl ?_
      refine lv_icmp_ge (tgt := 24) hx hb dL_isStarted_11 (by decide) (fun c_143 => ?_) (fun c_143 => ?_)
      · skip
        have c_143 : 8 ≤ e9 := (nI_leI (by omega) (by omega)).mp c_143
        omega
      · skip
        have c_143 : ¬ 8 ≤ e9 := fun h9 => c_143 ((nI_leI (by omega) (by omega)).mpr h9)
        refine lv_aload_n hx hb dL_isStarted_14 rfl (lv_at hl 3 rfl) ?_
        refine lv_iconst (v := 2) hx hb dL_isStarted_15 (by decide) ?_
        refine lv_rep0 (x := 2) (y := nI 2) rfl ?_
        refine rAld hx hb fx hw 33 (hF.1 33 (by decide)) hF.2.1 (fun _ => rfl) 2 rfl (by omega) (by decide) dL_isStarted_16 ?_
        refine lv_rep0 (x := (σ 33 2)) (y := (nI n)) (pn hA).1 ?_
        refine lv_if_le (tgt := 24) hx hb dL_isStarted_17 (by decide) (fun c_144 => ?_) (fun c_144 => ?_)
        · skip
          have c_144 : n = 0 := n0_let (by omega) c_144
          omega
        · skip
          have c_144 : 0 < n := n0_lef (by omega) c_144
          refine lv_iconst (v := 1) hx hb dL_isStarted_20 (by decide) ?_
          refine lv_goto (tgt := 25) hx hb dL_isStarted_21 (by decide) ?_
          refine lv_istore (lv' := [(5, .int 1), (0, .ref (gad G 0)), (1, .ref (gad G 31)), (2, .ref (gad G 32)), (3, .ref (gad G 33)), (4, .int (nI v9))]) hx hb dL_isStarted_25 hl (by decide) rfl (fun ls hl => ?_)
          refine lv_iconst (v := 0) hx hb dL_isStarted_27 (by decide) ?_
          refine lv_istore (lv' := [(6, .int 0), (5, .int 1), (0, .ref (gad G 0)), (1, .ref (gad G 31)), (2, .ref (gad G 32)), (3, .ref (gad G 33)), (4, .int (nI v9))]) hx hb dL_isStarted_28 hl (by decide) rfl (fun ls hl => ?_)
          have lab_30 : ∀ (n9 : Nat), ∀ (f : Nat), g - f < n9 → f ≤ g → ∀ (H : Heap) (locs : List Loc) (ls : Array Slot), Wd G s σ H locs → lv_has ls 9 [(0, .ref (gad G 0)), (1, .ref (gad G 31)), (2, .ref (gad G 32)), (3, .ref (gad G 33)), (4, .int (nI v9)), (5, .int (bI (cnB σ g f))), (6, .int (nI f))] → W p l e rmL_isStarted s m args below meth c H locs (0) (0) (MQ below (va_Qi (fun r σ' => r = 1 ∧ PIn σ' (j + 1)) (BW G) (gA G)) args s 3 20 (gA G)) (F0 m 30 ls []) := by
            intro n9
            induction n9 with
            | zero => intro f hn9; exact absurd hn9 (Nat.not_lt_zero _)
            | succ n9 ih30 =>
              intro f hn9 h30_0 H locs ls hw hl
              refine lv_iload hx hb dL_isStarted_30 (lv_at hl 6 rfl) ?_
              refine lv_aload_n hx hb dL_isStarted_32 rfl (lv_at hl 3 rfl) ?_
              refine lv_iconst (v := 0) hx hb dL_isStarted_33 (by decide) ?_
              refine lv_rep0 (x := 0) (y := nI 0) rfl ?_
              refine rAld hx hb fx hw 33 (hF.1 33 (by decide)) hF.2.1 (fun _ => rfl) 0 rfl (by omega) (by decide) dL_isStarted_34 ?_
              refine lv_rep0 (x := (σ 33 0)) (y := (nI g)) (pg hA).1 ?_
              refine lv_icmp_ge (tgt := 104) hx hb dL_isStarted_35 (by decide) (fun c_145 => ?_) (fun c_145 => ?_)
              · skip
                have c_145 : g ≤ f := (nI_leI (by omega) (by omega)).mp c_145
                refine lv_iload hx hb dL_isStarted_104 (lv_at hl 4 rfl) ?_
                refine lv_iconst (v := 1) hx hb dL_isStarted_106 (by decide) ?_
                refine lv_rep0 (x := 1) (y := nI 1) rfl ?_
                refine lv_icmp_lt (tgt := 117) hx hb dL_isStarted_107 (by decide) (fun c_146 => ?_) (fun c_146 => ?_)
                · skip
                  have c_146 : v9 < 1 := (nI_ltI (by omega) (by omega)).mp c_146
                  omega
                · skip
                  have c_146 : ¬ v9 < 1 := fun h9 => c_146 ((nI_ltI (by omega) (by omega)).mpr h9)
                  refine lv_iload hx hb dL_isStarted_110 (lv_at hl 4 rfl) ?_
                  refine lv_bipush (v := 9) hx hb dL_isStarted_112 (by decide) ?_
                  refine lv_rep0 (x := 9) (y := nI 9) rfl ?_
                  refine lv_icmp_le (tgt := 122) hx hb dL_isStarted_114 (by decide) (fun c_147 => ?_) (fun c_147 => ?_)
                  · skip
                    have c_147 : v9 ≤ 9 := (nI_leI (by omega) (by omega)).mp c_147
                    omega
                  · skip
                    have c_147 : ¬ v9 ≤ 9 := fun h9 => c_147 ((nI_leI (by omega) (by omega)).mpr h9)
                    refine lv_bipush (v := (-20)) hx hb dL_isStarted_117 (by decide) ?_
                    refine lv_goto (tgt := 135) hx hb dL_isStarted_119 (by decide) ?_
                    refine lv_istore (lv' := [(6, .int (-20)), (0, .ref (gad G 0)), (1, .ref (gad G 31)), (2, .ref (gad G 32)), (3, .ref (gad G 33)), (4, .int (nI v9)), (5, .int (bI (cnB σ g f)))]) hx hb dL_isStarted_135 hl (by decide) rfl (fun ls hl => ?_)
                    refine lv_iload hx hb dL_isStarted_137 (lv_at hl 0 rfl) ?_
                    refine lv_if_lt (tgt := 194) hx hb dL_isStarted_139 (by decide) (fun c_148 => ?_) (fun c_148 => ?_)
                    · skip
                      refine lv_aload_n hx hb dL_isStarted_194 rfl (lv_at hl 1 rfl) ?_
                      refine lv_iconst (v := 3) hx hb dL_isStarted_195 (by decide) ?_
                      refine lv_iload hx hb dL_isStarted_196 (lv_at hl 5 rfl) ?_
                      refine lv_iconst (v := 0) hx hb dL_isStarted_198 (by decide) ?_
                      refine lv_iconst (v := 0) hx hb dL_isStarted_199 (by decide) ?_
                      refine rCallLS (As := [.ref (gad G 0), .int 3, .int (nI v9), .int 0, .int 0]) (rest := []) ⟨hx, hb, hml, hown, hts⟩ fx hw (d3_t1 l hlt G hG hF σ (pcv hA) ((nI v9)) 0 0 (inR_no (lo := 1) (hi := 9) (by omega) (by decide) (by decide) (by omega))) (vx_cwSW 5 hts gL_isStarted_L_does rfl rfl rfl (by decide +kernel) ⟨Nat.le_of_ble_eq_true rfl, Nat.le_of_ble_eq_true rfl⟩) rfl hl.1 rfl (Nat.le_of_ble_eq_true rfl) dL_isStarted_200 ⟨Nat.le_trans (show _ ≤ 3 by omega) (Nat.le_of_ble_eq_true rfl), Nat.le_trans (show _ ≤ 20 by omega) (Nat.le_of_ble_eq_true rfl)⟩ (fun r_149 σ_150 H locs p_151 hw => ?_)
                      obtain ⟨er_149, eσ_150⟩ := p_151
                      have er_149 := er_149.symm; subst er_149
                      have eσ_150 := eσ_150.symm; subst eσ_150
                      refine lv_iload hx hb dL_isStarted_203 (lv_at hl 0 rfl) ?_
                      refine lv_icmp_ne (tgt := 212) hx hb dL_isStarted_205 (by decide) (fun c_152 => ?_) (fun c_152 => ?_)
                      · skip
                        exact absurd c_152 (by decide)
                      · skip
                        refine lv_iconst (v := 1) hx hb dL_isStarted_208 (by decide) ?_
                        refine lv_goto (tgt := 213) hx hb dL_isStarted_209 (by decide) ?_
                        exact rRetZw hx hb hr hw (by decide) (by exact ⟨rfl, po_same hA hGa⟩) hlocks dL_isStarted_213 (by omega) (by omega)
                    · skip
                      exact absurd c_148 (by decide)
              · skip
                have c_145 : ¬ g ≤ f := fun h9 => c_145 ((nI_leI (by omega) (by omega)).mpr h9)
                refine lv_iconst (v := 0) hx hb dL_isStarted_38 (by decide) ?_
                refine lv_istore (lv' := [(7, .int 0), (0, .ref (gad G 0)), (1, .ref (gad G 31)), (2, .ref (gad G 32)), (3, .ref (gad G 33)), (4, .int (nI v9)), (5, .int (bI (cnB σ g f))), (6, .int (nI f))]) hx hb dL_isStarted_39 hl (by decide) rfl (fun ls hl => ?_)
                refine lv_iconst (v := 0) hx hb dL_isStarted_41 (by decide) ?_
                refine lv_istore (lv' := [(8, .int 0), (7, .int 0), (0, .ref (gad G 0)), (1, .ref (gad G 31)), (2, .ref (gad G 32)), (3, .ref (gad G 33)), (4, .int (nI v9)), (5, .int (bI (cnB σ g f))), (6, .int (nI f))]) hx hb dL_isStarted_42 hl (by decide) rfl (fun ls hl => ?_)
                have lab_44 : ∀ (n9 : Nat), ∀ (i : Nat), g - i < n9 → i ≤ g → ∀ (H : Heap) (locs : List Loc) (ls : Array Slot), Wd G s σ H locs → lv_has ls 9 [(0, .ref (gad G 0)), (1, .ref (gad G 31)), (2, .ref (gad G 32)), (3, .ref (gad G 33)), (4, .int (nI v9)), (5, .int (bI (cnB σ g f))), (6, .int (nI f)), (7, .int (bI (hsB σ f i))), (8, .int (nI i))] → W p l e rmL_isStarted s m args below meth c H locs (0) (0) (MQ below (va_Qi (fun r σ' => r = 1 ∧ PIn σ' (j + 1)) (BW G) (gA G)) args s 3 20 (gA G)) (F0 m 44 ls []) := by
                  intro n9
                  induction n9 with
                  | zero => intro i hn9; exact absurd hn9 (Nat.not_lt_zero _)
                  | succ n9 ih44 =>
                    intro i hn9 h44_0 H locs ls hw hl
                    refine lv_iload hx hb dL_isStarted_44 (lv_at hl 8 rfl) ?_
                    refine lv_aload_n hx hb dL_isStarted_46 rfl (lv_at hl 3 rfl) ?_
                    refine lv_iconst (v := 0) hx hb dL_isStarted_47 (by decide) ?_
                    refine lv_rep0 (x := 0) (y := nI 0) rfl ?_
                    refine rAld hx hb fx hw 33 (hF.1 33 (by decide)) hF.2.1 (fun _ => rfl) 0 rfl (by omega) (by decide) dL_isStarted_48 ?_
                    refine lv_rep0 (x := (σ 33 0)) (y := (nI g)) (pg hA).1 ?_
                    refine lv_icmp_ge (tgt := 81) hx hb dL_isStarted_49 (by decide) (fun c_153 => ?_) (fun c_153 => ?_)
                    · skip
                      have c_153 : g ≤ i := (nI_leI (by omega) (by omega)).mp c_153
                      refine lv_iload hx hb dL_isStarted_81 (lv_at hl 5 rfl) ?_
                      refine lv_b_eq (tgt := 95) hx hb dL_isStarted_83 (by decide) (fun c_154 => ?_) (fun c_154 => ?_)
                      · skip
                        refine lv_iconst (v := 0) hx hb dL_isStarted_95 (by decide) ?_
                        refine lv_istore (lv' := [(5, .int 0), (0, .ref (gad G 0)), (1, .ref (gad G 31)), (2, .ref (gad G 32)), (3, .ref (gad G 33)), (4, .int (nI v9)), (6, .int (nI f)), (7, .int (bI (hsB σ f i))), (8, .int (nI i))]) hx hb dL_isStarted_96 hl (by decide) rfl (fun ls hl => ?_)
                        refine lv_iinc (v := (nI (f + 1))) (lv' := [(6, .int (nI (f + 1))), (5, .int 0), (0, .ref (gad G 0)), (1, .ref (gad G 31)), (2, .ref (gad G 32)), (3, .ref (gad G 33)), (4, .int (nI v9)), (7, .int (bI (hsB σ f i))), (8, .int (nI i))]) hx hb dL_isStarted_98 hl (k := 6) rfl (nI_1 _) (by decide) rfl (fun ls hl => ?_)
                        refine lv_goto (tgt := 30) hx hb dL_isStarted_101 (by decide) ?_
                        have q_155 : 0 = (bI (cnB σ g (f + 1))) := by first | rfl | exact cn_0 (by assumption) | exact cn_f (σ := σ) (f := f) (show i = g by omega) (by assumption) | exact cn_t (σ := σ) (f := f) (show i = g by omega) (by assumption) (by assumption)
                        exact W.widen (by omega) (by omega) (ih30 (f + 1) (by omega) (by omega) _ _ _ hw (lv_c (lv_at hl 2 rfl) (lv_c (lv_at hl 3 rfl) (lv_c (lv_at hl 4 rfl) (lv_c (lv_at hl 5 rfl) (lv_c (lv_at hl 6 rfl) (lv_c (lv_atq hl 1 rfl q_155) (lv_c (lv_at hl 0 rfl) (lv_c0 hl)))))))))
                      · skip
                        refine lv_iload hx hb dL_isStarted_86 (lv_at hl 7 rfl) ?_
                        refine lv_b_eq (tgt := 95) hx hb dL_isStarted_88 (by decide) (fun c_156 => ?_) (fun c_156 => ?_)
                        · skip
                          refine lv_iconst (v := 0) hx hb dL_isStarted_95 (by decide) ?_
                          refine lv_istore (lv' := [(5, .int 0), (0, .ref (gad G 0)), (1, .ref (gad G 31)), (2, .ref (gad G 32)), (3, .ref (gad G 33)), (4, .int (nI v9)), (6, .int (nI f)), (7, .int (bI (hsB σ f i))), (8, .int (nI i))]) hx hb dL_isStarted_96 hl (by decide) rfl (fun ls hl => ?_)
                          refine lv_iinc (v := (nI (f + 1))) (lv' := [(6, .int (nI (f + 1))), (5, .int 0), (0, .ref (gad G 0)), (1, .ref (gad G 31)), (2, .ref (gad G 32)), (3, .ref (gad G 33)), (4, .int (nI v9)), (7, .int (bI (hsB σ f i))), (8, .int (nI i))]) hx hb dL_isStarted_98 hl (k := 6) rfl (nI_1 _) (by decide) rfl (fun ls hl => ?_)
                          refine lv_goto (tgt := 30) hx hb dL_isStarted_101 (by decide) ?_
                          have q_157 : 0 = (bI (cnB σ g (f + 1))) := by first | rfl | exact cn_0 (by assumption) | exact cn_f (σ := σ) (f := f) (show i = g by omega) (by assumption) | exact cn_t (σ := σ) (f := f) (show i = g by omega) (by assumption) (by assumption)
                          exact W.widen (by omega) (by omega) (ih30 (f + 1) (by omega) (by omega) _ _ _ hw (lv_c (lv_at hl 2 rfl) (lv_c (lv_at hl 3 rfl) (lv_c (lv_at hl 4 rfl) (lv_c (lv_at hl 5 rfl) (lv_c (lv_at hl 6 rfl) (lv_c (lv_atq hl 1 rfl q_157) (lv_c (lv_at hl 0 rfl) (lv_c0 hl)))))))))
                        · skip
                          refine lv_iconst (v := 1) hx hb dL_isStarted_91 (by decide) ?_
                          refine lv_goto (tgt := 96) hx hb dL_isStarted_92 (by decide) ?_
                          refine lv_istore (lv' := [(5, .int 1), (0, .ref (gad G 0)), (1, .ref (gad G 31)), (2, .ref (gad G 32)), (3, .ref (gad G 33)), (4, .int (nI v9)), (6, .int (nI f)), (7, .int (bI (hsB σ f i))), (8, .int (nI i))]) hx hb dL_isStarted_96 hl (by decide) rfl (fun ls hl => ?_)
                          refine lv_iinc (v := (nI (f + 1))) (lv' := [(6, .int (nI (f + 1))), (5, .int 1), (0, .ref (gad G 0)), (1, .ref (gad G 31)), (2, .ref (gad G 32)), (3, .ref (gad G 33)), (4, .int (nI v9)), (7, .int (bI (hsB σ f i))), (8, .int (nI i))]) hx hb dL_isStarted_98 hl (k := 6) rfl (nI_1 _) (by decide) rfl (fun ls hl => ?_)
                          refine lv_goto (tgt := 30) hx hb dL_isStarted_101 (by decide) ?_
                          have q_158 : 1 = (bI (cnB σ g (f + 1))) := by first | rfl | exact cn_0 (by assumption) | exact cn_f (σ := σ) (f := f) (show i = g by omega) (by assumption) | exact cn_t (σ := σ) (f := f) (show i = g by omega) (by assumption) (by assumption)
                          exact W.widen (by omega) (by omega) (ih30 (f + 1) (by omega) (by omega) _ _ _ hw (lv_c (lv_at hl 2 rfl) (lv_c (lv_at hl 3 rfl) (lv_c (lv_at hl 4 rfl) (lv_c (lv_at hl 5 rfl) (lv_c (lv_at hl 6 rfl) (lv_c (lv_atq hl 1 rfl q_158) (lv_c (lv_at hl 0 rfl) (lv_c0 hl)))))))))
                    · skip
                      have c_153 : ¬ g ≤ i := fun h9 => c_153 ((nI_leI (by omega) (by omega)).mpr h9)
                      refine lv_iload hx hb dL_isStarted_52 (lv_at hl 7 rfl) ?_
                      refine lv_b_ne (tgt := 68) hx hb dL_isStarted_54 (by decide) (fun c_159 => ?_) (fun c_159 => ?_)
                      · skip
                        refine lv_iconst (v := 1) hx hb dL_isStarted_68 (by decide) ?_
                        refine lv_goto (tgt := 73) hx hb dL_isStarted_69 (by decide) ?_
                        refine lv_istore (lv' := [(7, .int 1), (0, .ref (gad G 0)), (1, .ref (gad G 31)), (2, .ref (gad G 32)), (3, .ref (gad G 33)), (4, .int (nI v9)), (5, .int (bI (cnB σ g f))), (6, .int (nI f)), (8, .int (nI i))]) hx hb dL_isStarted_73 hl (by decide) rfl (fun ls hl => ?_)
                        refine lv_iinc (v := (nI (i + 1))) (lv' := [(8, .int (nI (i + 1))), (7, .int 1), (0, .ref (gad G 0)), (1, .ref (gad G 31)), (2, .ref (gad G 32)), (3, .ref (gad G 33)), (4, .int (nI v9)), (5, .int (bI (cnB σ g f))), (6, .int (nI f))]) hx hb dL_isStarted_75 hl (k := 8) rfl (nI_1 _) (by decide) rfl (fun ls hl => ?_)
                        refine lv_goto (tgt := 44) hx hb dL_isStarted_78 (by decide) ?_
                        have q_160 : 1 = (bI (hsB σ f (i + 1))) := by first | exact hs_1 (by assumption) | exact hs_2 hA (show f < g by omega) (show i < g by omega) (by assumption) | exact hs_3 hA (show f < g by omega) (show i < g by omega) (by assumption) (by assumption)
                        exact W.widen (by omega) (by omega) (ih44 (i + 1) (by omega) (by omega) _ _ _ hw (lv_c (lv_at hl 2 rfl) (lv_c (lv_at hl 3 rfl) (lv_c (lv_at hl 4 rfl) (lv_c (lv_at hl 5 rfl) (lv_c (lv_at hl 6 rfl) (lv_c (lv_at hl 7 rfl) (lv_c (lv_at hl 8 rfl) (lv_c (lv_atq hl 1 rfl q_160) (lv_c (lv_at hl 0 rfl) (lv_c0 hl)))))))))))
                      · skip
                        refine lv_aload_n hx hb dL_isStarted_57 rfl (lv_at hl 1 rfl) ?_
                        refine lv_iload hx hb dL_isStarted_58 (lv_at hl 6 rfl) ?_
                        refine lv_iload hx hb dL_isStarted_60 (lv_at hl 8 rfl) ?_
                        refine rCallM (As := [.ref (gad G 31), .int (nI f), .int (nI i)]) (rest := []) ⟨hx, hb, hml, hown, hts⟩ fx hw (kL_way l hlt G hG hF σ f i (by omega) (by omega)) (va_cwS 3 hts gL_isStarted_L_way rfl rfl rfl (by decide +kernel) ⟨Nat.le_of_ble_eq_true rfl, Nat.le_of_ble_eq_true rfl⟩) rfl hl.1 rfl (Nat.le_of_ble_eq_true rfl) dL_isStarted_62 ⟨Nat.le_trans (show _ ≤ 3 by omega) (Nat.le_of_ble_eq_true rfl), Nat.le_trans (show _ ≤ 20 by omega) (Nat.le_of_ble_eq_true rfl)⟩ (fun r_161 σ_162 H locs p_163 hw => ?_)
                        obtain ⟨er_161, eσ_162⟩ := p_163
                        have er_161 := er_161.symm; subst er_161
                        have eσ_162 := eσ_162.symm; subst eσ_162
                        refine lv_if_le (tgt := 72) hx hb dL_isStarted_65 (by decide) (fun c_164 => ?_) (fun c_164 => ?_)
                        · skip
                          refine lv_iconst (v := 0) hx hb dL_isStarted_72 (by decide) ?_
                          refine lv_istore (lv' := [(7, .int 0), (0, .ref (gad G 0)), (1, .ref (gad G 31)), (2, .ref (gad G 32)), (3, .ref (gad G 33)), (4, .int (nI v9)), (5, .int (bI (cnB σ g f))), (6, .int (nI f)), (8, .int (nI i))]) hx hb dL_isStarted_73 hl (by decide) rfl (fun ls hl => ?_)
                          refine lv_iinc (v := (nI (i + 1))) (lv' := [(8, .int (nI (i + 1))), (7, .int 0), (0, .ref (gad G 0)), (1, .ref (gad G 31)), (2, .ref (gad G 32)), (3, .ref (gad G 33)), (4, .int (nI v9)), (5, .int (bI (cnB σ g f))), (6, .int (nI f))]) hx hb dL_isStarted_75 hl (k := 8) rfl (nI_1 _) (by decide) rfl (fun ls hl => ?_)
                          refine lv_goto (tgt := 44) hx hb dL_isStarted_78 (by decide) ?_
                          have q_165 : 0 = (bI (hsB σ f (i + 1))) := by first | exact hs_1 (by assumption) | exact hs_2 hA (show f < g by omega) (show i < g by omega) (by assumption) | exact hs_3 hA (show f < g by omega) (show i < g by omega) (by assumption) (by assumption)
                          exact W.widen (by omega) (by omega) (ih44 (i + 1) (by omega) (by omega) _ _ _ hw (lv_c (lv_at hl 2 rfl) (lv_c (lv_at hl 3 rfl) (lv_c (lv_at hl 4 rfl) (lv_c (lv_at hl 5 rfl) (lv_c (lv_at hl 6 rfl) (lv_c (lv_at hl 7 rfl) (lv_c (lv_at hl 8 rfl) (lv_c (lv_atq hl 1 rfl q_165) (lv_c (lv_at hl 0 rfl) (lv_c0 hl)))))))))))
                        · skip
                          refine lv_iconst (v := 1) hx hb dL_isStarted_68 (by decide) ?_
                          refine lv_goto (tgt := 73) hx hb dL_isStarted_69 (by decide) ?_
                          refine lv_istore (lv' := [(7, .int 1), (0, .ref (gad G 0)), (1, .ref (gad G 31)), (2, .ref (gad G 32)), (3, .ref (gad G 33)), (4, .int (nI v9)), (5, .int (bI (cnB σ g f))), (6, .int (nI f)), (8, .int (nI i))]) hx hb dL_isStarted_73 hl (by decide) rfl (fun ls hl => ?_)
                          refine lv_iinc (v := (nI (i + 1))) (lv' := [(8, .int (nI (i + 1))), (7, .int 1), (0, .ref (gad G 0)), (1, .ref (gad G 31)), (2, .ref (gad G 32)), (3, .ref (gad G 33)), (4, .int (nI v9)), (5, .int (bI (cnB σ g f))), (6, .int (nI f))]) hx hb dL_isStarted_75 hl (k := 8) rfl (nI_1 _) (by decide) rfl (fun ls hl => ?_)
                          refine lv_goto (tgt := 44) hx hb dL_isStarted_78 (by decide) ?_
                          have q_166 : 1 = (bI (hsB σ f (i + 1))) := by first | exact hs_1 (by assumption) | exact hs_2 hA (show f < g by omega) (show i < g by omega) (by assumption) | exact hs_3 hA (show f < g by omega) (show i < g by omega) (by assumption) (by assumption)
                          exact W.widen (by omega) (by omega) (ih44 (i + 1) (by omega) (by omega) _ _ _ hw (lv_c (lv_at hl 2 rfl) (lv_c (lv_at hl 3 rfl) (lv_c (lv_at hl 4 rfl) (lv_c (lv_at hl 5 rfl) (lv_c (lv_at hl 6 rfl) (lv_c (lv_at hl 7 rfl) (lv_c (lv_at hl 8 rfl) (lv_c (lv_atq hl 1 rfl q_166) (lv_c (lv_at hl 0 rfl) (lv_c0 hl)))))))))))
                have q_167 : 0 = (bI (hsB σ f 0)) := by first | rfl | (rw [decide_eq_true (by omega)]; rfl) | (rw [decide_eq_false (by omega)]; rfl) | (congr 1; omega)
                have q_168 : 0 = (nI 0) := by first | rfl | (rw [decide_eq_true (by omega)]; rfl) | (rw [decide_eq_false (by omega)]; rfl) | (congr 1; omega)
                exact W.widen (by omega) (by omega) (lab_44 (g - 0 + 1) 0 (by omega) (by omega) _ _ _ hw (lv_c (lv_at hl 2 rfl) (lv_c (lv_at hl 3 rfl) (lv_c (lv_at hl 4 rfl) (lv_c (lv_at hl 5 rfl) (lv_c (lv_at hl 6 rfl) (lv_c (lv_at hl 7 rfl) (lv_c (lv_at hl 8 rfl) (lv_c (lv_atq hl 1 rfl q_167) (lv_c (lv_atq hl 0 rfl q_168) (lv_c0 hl)))))))))))
          have q_169 : 1 = (bI (cnB σ g 0)) := by rfl
          have q_170 : 0 = (nI 0) := by first | rfl | (rw [decide_eq_true (by omega)]; rfl) | (rw [decide_eq_false (by omega)]; rfl) | (congr 1; omega)
          exact W.widen (by omega) (by omega) (lab_30 (g - 0 + 1) 0 (by omega) (by omega) _ _ _ hw (lv_c (lv_at hl 2 rfl) (lv_c (lv_at hl 3 rfl) (lv_c (lv_at hl 4 rfl) (lv_c (lv_at hl 5 rfl) (lv_c (lv_at hl 6 rfl) (lv_c (lv_atq hl 1 rfl q_169) (lv_c (lv_atq hl 0 rfl q_170) (lv_c0 hl)))))))))
  · skip
    refine lv_aload_n hx hb dL_isStarted_0 rfl (lv_at hl 3 rfl) ?_
    refine lv_iconst (v := 3) hx hb dL_isStarted_1 (by decide) ?_
    refine lv_rep0 (x := 3) (y := nI 3) rfl ?_
    refine rAld hx hb fx hw 33 (hF.1 33 (by decide)) hF.2.1 (fun _ => rfl) 3 rfl (by omega) (by decide) dL_isStarted_2 ?_
    refine lv_rep0 (x := (σ 33 3)) (y := 0) ((pon hA).trans (by rw [hbo]; rfl)) ?_
    refine lv_if_ne (tgt := 24) hx hb dL_isStarted_3 (by decide) (fun c_171 => ?_) (fun c_171 => ?_)
    · skip
      exact absurd c_171 (by decide)
    · skip
      refine lv_aload_n hx hb dL_isStarted_6 rfl (lv_at hl 3 rfl) ?_
      refine lv_iconst (v := 5) hx hb dL_isStarted_7 (by decide) ?_
      refine lv_rep0 (x := 5) (y := nI 5) rfl ?_
      refine rAld hx hb fx hw 33 (hF.1 33 (by decide)) hF.2.1 (fun _ => rfl) 5 rfl (by omega) (by decide) dL_isStarted_8 ?_
      refine lv_rep0 (x := (σ 33 5)) (y := (nI e9)) ((pst hA).trans (by rw [hbo]; rfl)) ?_
      refine lv_bipush (v := 8) hx hb dL_isStarted_9 (by decide) ?_
      refine lv_rep0 (x := 8) (y := nI 8) rfl ?_
      refine lv_icmp_ge (tgt := 24) hx hb dL_isStarted_11 (by decide) (fun c_172 => ?_) (fun c_172 => ?_)
      · skip
        have c_172 : 8 ≤ e9 := (nI_leI (by omega) (by omega)).mp c_172
        omega
      · skip
        have c_172 : ¬ 8 ≤ e9 := fun h9 => c_172 ((nI_leI (by omega) (by omega)).mpr h9)
        refine lv_aload_n hx hb dL_isStarted_14 rfl (lv_at hl 3 rfl) ?_
        refine lv_iconst (v := 2) hx hb dL_isStarted_15 (by decide) ?_
        refine lv_rep0 (x := 2) (y := nI 2) rfl ?_
        refine rAld hx hb fx hw 33 (hF.1 33 (by decide)) hF.2.1 (fun _ => rfl) 2 rfl (by omega) (by decide) dL_isStarted_16 ?_
        refine lv_rep0 (x := (σ 33 2)) (y := (nI n)) (pn hA).1 ?_
        refine lv_if_le (tgt := 24) hx hb dL_isStarted_17 (by decide) (fun c_173 => ?_) (fun c_173 => ?_)
        · skip
          have c_173 : n = 0 := n0_let (by omega) c_173
          omega
        · skip
          have c_173 : 0 < n := n0_lef (by omega) c_173
          refine lv_iconst (v := 1) hx hb dL_isStarted_20 (by decide) ?_
          refine lv_goto (tgt := 25) hx hb dL_isStarted_21 (by decide) ?_
          refine lv_istore (lv' := [(5, .int 1), (0, .ref (gad G 0)), (1, .ref (gad G 31)), (2, .ref (gad G 32)), (3, .ref (gad G 33)), (4, .int (nI v9))]) hx hb dL_isStarted_25 hl (by decide) rfl (fun ls hl => ?_)
          refine lv_iconst (v := 0) hx hb dL_isStarted_27 (by decide) ?_
          refine lv_istore (lv' := [(6, .int 0), (5, .int 1), (0, .ref (gad G 0)), (1, .ref (gad G 31)), (2, .ref (gad G 32)), (3, .ref (gad G 33)), (4, .int (nI v9))]) hx hb dL_isStarted_28 hl (by decide) rfl (fun ls hl => ?_)
          have lab_30 : ∀ (n9 : Nat), ∀ (f : Nat), g - f < n9 → f ≤ g → ∀ (H : Heap) (locs : List Loc) (ls : Array Slot), Wd G s σ H locs → lv_has ls 9 [(0, .ref (gad G 0)), (1, .ref (gad G 31)), (2, .ref (gad G 32)), (3, .ref (gad G 33)), (4, .int (nI v9)), (5, .int (bI (cnB σ g f))), (6, .int (nI f))] → W p l e rmL_isStarted s m args below meth c H locs (0) (0) (MQ below (va_Qi (fun r σ' => r = 1 ∧ PIn σ' (j + 1)) (BW G) (gA G)) args s 3 20 (gA G)) (F0 m 30 ls []) := by
            intro n9
            induction n9 with
            | zero => intro f hn9; exact absurd hn9 (Nat.not_lt_zero _)
            | succ n9 ih30 =>
              intro f hn9 h30_0 H locs ls hw hl
              refine lv_iload hx hb dL_isStarted_30 (lv_at hl 6 rfl) ?_
              refine lv_aload_n hx hb dL_isStarted_32 rfl (lv_at hl 3 rfl) ?_
              refine lv_iconst (v := 0) hx hb dL_isStarted_33 (by decide) ?_
              refine lv_rep0 (x := 0) (y := nI 0) rfl ?_
              refine rAld hx hb fx hw 33 (hF.1 33 (by decide)) hF.2.1 (fun _ => rfl) 0 rfl (by omega) (by decide) dL_isStarted_34 ?_
              refine lv_rep0 (x := (σ 33 0)) (y := (nI g)) (pg hA).1 ?_
              refine lv_icmp_ge (tgt := 104) hx hb dL_isStarted_35 (by decide) (fun c_174 => ?_) (fun c_174 => ?_)
              · skip
                have c_174 : g ≤ f := (nI_leI (by omega) (by omega)).mp c_174
                refine lv_iload hx hb dL_isStarted_104 (lv_at hl 4 rfl) ?_
                refine lv_iconst (v := 1) hx hb dL_isStarted_106 (by decide) ?_
                refine lv_rep0 (x := 1) (y := nI 1) rfl ?_
                refine lv_icmp_lt (tgt := 117) hx hb dL_isStarted_107 (by decide) (fun c_175 => ?_) (fun c_175 => ?_)
                · skip
                  have c_175 : v9 < 1 := (nI_ltI (by omega) (by omega)).mp c_175
                  omega
                · skip
                  have c_175 : ¬ v9 < 1 := fun h9 => c_175 ((nI_ltI (by omega) (by omega)).mpr h9)
                  refine lv_iload hx hb dL_isStarted_110 (lv_at hl 4 rfl) ?_
                  refine lv_bipush (v := 9) hx hb dL_isStarted_112 (by decide) ?_
                  refine lv_rep0 (x := 9) (y := nI 9) rfl ?_
                  refine lv_icmp_le (tgt := 122) hx hb dL_isStarted_114 (by decide) (fun c_176 => ?_) (fun c_176 => ?_)
                  · skip
                    have c_176 : v9 ≤ 9 := (nI_leI (by omega) (by omega)).mp c_176
                    refine lv_iload hx hb dL_isStarted_122 (lv_at hl 5 rfl) ?_
                    refine lv_b_eq (tgt := 133) hx hb dL_isStarted_124 (by decide) (fun c_177 => ?_) (fun c_177 => ?_)
                    · skip
                      refine lv_bipush (v := (-10)) hx hb dL_isStarted_133 (by decide) ?_
                      refine lv_istore (lv' := [(6, .int (-10)), (0, .ref (gad G 0)), (1, .ref (gad G 31)), (2, .ref (gad G 32)), (3, .ref (gad G 33)), (4, .int (nI v9)), (5, .int (bI (cnB σ g f)))]) hx hb dL_isStarted_135 hl (by decide) rfl (fun ls hl => ?_)
                      refine lv_iload hx hb dL_isStarted_137 (lv_at hl 0 rfl) ?_
                      refine lv_if_lt (tgt := 194) hx hb dL_isStarted_139 (by decide) (fun c_178 => ?_) (fun c_178 => ?_)
                      · skip
                        refine lv_aload_n hx hb dL_isStarted_194 rfl (lv_at hl 1 rfl) ?_
                        refine lv_iconst (v := 3) hx hb dL_isStarted_195 (by decide) ?_
                        refine lv_iload hx hb dL_isStarted_196 (lv_at hl 5 rfl) ?_
                        refine lv_iconst (v := 0) hx hb dL_isStarted_198 (by decide) ?_
                        refine lv_iconst (v := 0) hx hb dL_isStarted_199 (by decide) ?_
                        refine rCallLS (As := [.ref (gad G 0), .int 3, .int (nI v9), .int 0, .int 0]) (rest := []) ⟨hx, hb, hml, hown, hts⟩ fx hw (d3_t2 l hlt G hG hF σ (pcv hA) ((nI v9)) 0 0 (inR_y (lo := 1) (hi := 9) (by omega) (by decide) (by decide) (by omega) (by omega)) (st_no (by first | exact Or.inl hbo | exact Or.inr (Or.inl (by omega)) | exact Or.inr (Or.inr (Or.inl (by omega))) | exact Or.inr (Or.inr (Or.inr (cnx (σ := σ) (f := f) (by assumption) (by omega))))))) (vx_cwSW 5 hts gL_isStarted_L_does rfl rfl rfl (by decide +kernel) ⟨Nat.le_of_ble_eq_true rfl, Nat.le_of_ble_eq_true rfl⟩) rfl hl.1 rfl (Nat.le_of_ble_eq_true rfl) dL_isStarted_200 ⟨Nat.le_trans (show _ ≤ 3 by omega) (Nat.le_of_ble_eq_true rfl), Nat.le_trans (show _ ≤ 20 by omega) (Nat.le_of_ble_eq_true rfl)⟩ (fun r_179 σ_180 H locs p_181 hw => ?_)
                        obtain ⟨er_179, eσ_180⟩ := p_181
                        have er_179 := er_179.symm; subst er_179
                        have eσ_180 := eσ_180.symm; subst eσ_180
                        refine lv_iload hx hb dL_isStarted_203 (lv_at hl 0 rfl) ?_
                        refine lv_icmp_ne (tgt := 212) hx hb dL_isStarted_205 (by decide) (fun c_182 => ?_) (fun c_182 => ?_)
                        · skip
                          exact absurd c_182 (by decide)
                        · skip
                          refine lv_iconst (v := 1) hx hb dL_isStarted_208 (by decide) ?_
                          refine lv_goto (tgt := 213) hx hb dL_isStarted_209 (by decide) ?_
                          exact rRetZw hx hb hr hw (by decide) (by exact ⟨rfl, po_same hA hGa⟩) hlocks dL_isStarted_213 (by omega) (by omega)
                      · skip
                        exact absurd c_178 (by decide)
                    · skip
                      refine lv_aload_n hx hb dL_isStarted_127 rfl (lv_at hl 3 rfl) ?_
                      refine lv_iconst (v := 5) hx hb dL_isStarted_128 (by decide) ?_
                      refine lv_rep0 (x := 5) (y := nI 5) rfl ?_
                      refine rAld hx hb fx hw 33 (hF.1 33 (by decide)) hF.2.1 (fun _ => rfl) 5 rfl (by omega) (by decide) dL_isStarted_129 ?_
                      refine lv_rep0 (x := (σ 33 5)) (y := (nI e9)) ((pst hA).trans (by rw [hbo]; rfl)) ?_
                      refine lv_goto (tgt := 135) hx hb dL_isStarted_130 (by decide) ?_
                      refine lv_istore (lv' := [(6, .int (nI e9)), (0, .ref (gad G 0)), (1, .ref (gad G 31)), (2, .ref (gad G 32)), (3, .ref (gad G 33)), (4, .int (nI v9)), (5, .int (bI (cnB σ g f)))]) hx hb dL_isStarted_135 hl (by decide) rfl (fun ls hl => ?_)
                      refine lv_iload hx hb dL_isStarted_137 (lv_at hl 0 rfl) ?_
                      refine lv_if_lt (tgt := 194) hx hb dL_isStarted_139 (by decide) (fun c_183 => ?_) (fun c_183 => ?_)
                      · skip
                        exact (n0_ltt (by omega) c_183).elim
                      · skip
                        have c_183 : True := n0_ltf (by omega) c_183
                        refine lv_aload_n hx hb dL_isStarted_142 rfl (lv_at hl 4 rfl) ?_
                        refine lv_iconst (v := 3) hx hb dL_isStarted_143 (by decide) ?_
                        refine lv_iconst (v := 1) hx hb dL_isStarted_144 (by decide) ?_
                        refine lv_rep1 (x := 3) (y := nI 3) rfl ?_
                        refine rAst (x := 1) hx hb fx hw 33 (hF.1 33 (by decide)) hF.2.1 (fun _ => rfl) 3 rfl (by omega) (by decide) dL_isStarted_145 (fun H locs hw => ?_)
                        obtain ⟨σ_184, eσ_184⟩ : ∃ w9, w9 = upA σ 33 (upd (σ 33) 3 1) := ⟨_, rfl⟩
                        rw [← eσ_184] at hw
                        refine lv_aload_n hx hb dL_isStarted_146 rfl (lv_at hl 4 rfl) ?_
                        refine lv_iconst (v := 4) hx hb dL_isStarted_147 (by decide) ?_
                        refine lv_iload hx hb dL_isStarted_148 (lv_at hl 5 rfl) ?_
                        refine lv_rep1 (x := 4) (y := nI 4) rfl ?_
                        refine rAst (x := (nI v9)) hx hb fx hw 33 (hF.1 33 (by decide)) hF.2.1 (fun _ => rfl) 4 rfl (by omega) (by decide) dL_isStarted_150 (fun H locs hw => ?_)
                        obtain ⟨σ_185, eσ_185⟩ : ∃ w9, w9 = upA σ_184 33 (upd (σ_184 33) 4 (nI v9)) := ⟨_, rfl⟩
                        rw [← eσ_185] at hw
                        refine lv_aload_n hx hb dL_isStarted_151 rfl (lv_at hl 4 rfl) ?_
                        refine lv_iconst (v := 5) hx hb dL_isStarted_152 (by decide) ?_
                        refine lv_rep0 (x := 5) (y := nI 5) rfl ?_
                        refine lv_dup2_11 hx hb dL_isStarted_153 rfl rfl ?_
                        refine rAld hx hb fx hw 33 (hF.1 33 (by decide)) hF.2.1 (fun _ => rfl) 5 rfl (by omega) (by decide) dL_isStarted_154 ?_
                        refine lv_rep0 (x := (σ_185 33 5)) (y := (nI e9)) ((ld_m eσ_185 (by decide)).trans ((ld_m eσ_184 (by decide)).trans ((pst hA).trans (by rw [hbo]; rfl)))) ?_
                        refine lv_iconst (v := 1) hx hb dL_isStarted_155 (by decide) ?_
                        refine lv_rep0 (x := 1) (y := nI 1) rfl ?_
                        refine lv_iadd hx hb dL_isStarted_156 ?_
                        refine lv_rep0 (x := ((nI e9) + (nI 1))) (y := nI (e9 + 1)) (nI_add _ _) ?_
                        refine rAst (x := (nI (e9 + 1))) hx hb fx hw 33 (hF.1 33 (by decide)) hF.2.1 (fun _ => rfl) 5 rfl (by omega) (by decide) dL_isStarted_157 (fun H locs hw => ?_)
                        obtain ⟨σ_186, eσ_186⟩ : ∃ w9, w9 = upA σ_185 33 (upd (σ_185 33) 5 (nI (e9 + 1))) := ⟨_, rfl⟩
                        rw [← eσ_186] at hw
                        refine lv_iconst (v := 0) hx hb dL_isStarted_158 (by decide) ?_
                        refine lv_istore (lv' := [(7, .int 0), (6, .int (nI e9)), (0, .ref (gad G 0)), (1, .ref (gad G 31)), (2, .ref (gad G 32)), (3, .ref (gad G 33)), (4, .int (nI v9)), (5, .int (bI (cnB σ g f)))]) hx hb dL_isStarted_159 hl (by decide) rfl (fun ls hl => ?_)
                        have lab_161 : ∀ (n9 : Nat), ∀ (i : Nat), 36 - i < n9 → i ≤ 36 → ∀ (H : Heap) (locs : List Loc) (ls : Array Slot), Wd G s ((upA σ_186 32 (kzA (σ 32) i))) H locs → lv_has ls 9 [(0, .ref (gad G 0)), (1, .ref (gad G 31)), (2, .ref (gad G 32)), (3, .ref (gad G 33)), (4, .int (nI v9)), (6, .int (nI e9)), (7, .int (nI i))] → W p l e rmL_isStarted s m args below meth c H locs (0) (0) (MQ below (va_Qi (fun r σ' => r = 1 ∧ PIn σ' (j + 1)) (BW G) (gA G)) args s 3 20 (gA G)) (F0 m 161 ls []) := by
                          intro n9
                          induction n9 with
                          | zero => intro i hn9; exact absurd hn9 (Nat.not_lt_zero _)
                          | succ n9 ih161 =>
                            intro i hn9 h161_0 H locs ls hw hl
                            obtain ⟨σ_187, eσ_187⟩ : ∃ w9, w9 = (upA σ_186 32 (kzA (σ 32) i)) := ⟨_, rfl⟩
                            rw [← eσ_187] at hw
                            refine lv_iload hx hb dL_isStarted_161 (lv_at hl 6 rfl) ?_
                            refine lv_bipush (v := 36) hx hb dL_isStarted_163 (by decide) ?_
                            refine lv_rep0 (x := 36) (y := nI 36) rfl ?_
                            refine lv_icmp_ge (tgt := 194) hx hb dL_isStarted_165 (by decide) (fun c_188 => ?_) (fun c_188 => ?_)
                            · skip
                              have c_188 : 36 ≤ i := (nI_leI (by omega) (by omega)).mp c_188
                              refine lv_aload_n hx hb dL_isStarted_194 rfl (lv_at hl 0 rfl) ?_
                              refine lv_iconst (v := 3) hx hb dL_isStarted_195 (by decide) ?_
                              refine lv_iload hx hb dL_isStarted_196 (lv_at hl 4 rfl) ?_
                              refine lv_iconst (v := 0) hx hb dL_isStarted_198 (by decide) ?_
                              refine lv_iconst (v := 0) hx hb dL_isStarted_199 (by decide) ?_
                              refine rCallLS (As := [.ref (gad G 0), .int 3, .int (nI v9), .int 0, .int 0]) (rest := []) ⟨hx, hb, hml, hown, hts⟩ fx hw (d3_ok l hlt G hG hF σ_187 (show CIv σ_187 g n b e9 z from by rw [eσ_187, eσ_186, eσ_185, eσ_184]; exact (show CIv σ g n b e9 z from pcv hA)) v9 0 0 (by omega) (by omega) (by rw [eσ_187, eσ_186, eσ_185, eσ_184]; exact st_y (σ := σ) hbo (by omega) (by omega) (cnx (σ := σ) (f := f) (by assumption) (by omega)))) (vx_cwSW 5 hts gL_isStarted_L_does rfl rfl rfl (by decide +kernel) ⟨Nat.le_of_ble_eq_true rfl, Nat.le_of_ble_eq_true rfl⟩) rfl hl.1 rfl (Nat.le_of_ble_eq_true rfl) dL_isStarted_200 ⟨Nat.le_trans (show _ ≤ 3 by omega) (Nat.le_of_ble_eq_true rfl), Nat.le_trans (show _ ≤ 20 by omega) (Nat.le_of_ble_eq_true rfl)⟩ (fun r_189 σ_190 H locs p_191 hw => ?_)
                              obtain ⟨er_189, eσ_190⟩ := p_191
                              have er_189 := er_189.symm; subst er_189
                              refine lv_iload hx hb dL_isStarted_203 (lv_at hl 5 rfl) ?_
                              refine lv_icmp_ne (tgt := 212) hx hb dL_isStarted_205 (by decide) (fun c_192 => ?_) (fun c_192 => ?_)
                              · skip
                                exact absurd rfl c_192
                              · skip
                                refine lv_iconst (v := 1) hx hb dL_isStarted_208 (by decide) ?_
                                refine lv_goto (tgt := 213) hx hb dL_isStarted_209 (by decide) ?_
                                subst eσ_190
                                subst eσ_187
                                subst eσ_186
                                subst eσ_185
                                subst eσ_184
                                exact rRetZw hx hb hr hw (by decide) (by have hi9 : i = 36 := (by omega); subst hi9; exact ⟨rfl, po_start hA hbo (by omega) (by omega) (by omega) (by omega) rfl rfl (fun c q1 q2 => by rw [upA_n q1, upA_n q2, upA_n q2, upA_n q2])⟩) hlocks dL_isStarted_213 (by omega) (by omega)
                            · skip
                              have c_188 : ¬ 36 ≤ i := fun h9 => c_188 ((nI_leI (by omega) (by omega)).mpr h9)
                              refine lv_aload_n hx hb dL_isStarted_168 rfl (lv_at hl 2 rfl) ?_
                              refine lv_iload hx hb dL_isStarted_169 (lv_at hl 6 rfl) ?_
                              refine lv_iload hx hb dL_isStarted_171 (lv_at hl 6 rfl) ?_
                              refine lv_bipush (v := 6) hx hb dL_isStarted_173 (by decide) ?_
                              refine lv_rep0 (x := 6) (y := nI 6) rfl ?_
                              refine lv_irem hx hb dL_isStarted_175 (nI_ne0 (by omega) (by omega)) ?_
                              refine lv_rep0 (y := nI (i % 6)) (pk_rem (by omega) (by omega) (by omega)) ?_
                              refine lv_if_ne (tgt := 186) hx hb dL_isStarted_176 (by decide) (fun c_193 => ?_) (fun c_193 => ?_)
                              · skip
                                have c_193 : ¬ (i % 6) = 0 := n0_net (by omega) c_193
                                refine lv_iconst (v := 0) hx hb dL_isStarted_186 (by decide) ?_
                                refine rAst (x := 0) hx hb fx hw 32 (hF.1 32 (by decide)) hF.2.1 (fun _ => rfl) i rfl (by omega) (by decide) dL_isStarted_187 (fun H locs hw => ?_)
                                obtain ⟨σ_194, eσ_194⟩ : ∃ w9, w9 = upA σ_187 32 (upd (σ_187 32) i 0) := ⟨_, rfl⟩
                                rw [← eσ_194] at hw
                                refine lv_iinc (v := (nI (i + 1))) (lv' := [(7, .int (nI (i + 1))), (0, .ref (gad G 0)), (1, .ref (gad G 31)), (2, .ref (gad G 32)), (3, .ref (gad G 33)), (4, .int (nI v9)), (6, .int (nI e9))]) hx hb dL_isStarted_188 hl (k := 6) rfl (nI_1 _) (by decide) rfl (fun ls hl => ?_)
                                refine lv_goto (tgt := 161) hx hb dL_isStarted_191 (by decide) ?_
                                have q_195 : σ_194 = (upA σ_186 32 (kzA (σ 32) (i + 1))) := by subst eσ_194 eσ_187 eσ_186 eσ_185 eσ_184; first | exact kz_a (by omega) | exact kz_b (by omega)
                                rw [q_195] at hw
                                exact W.widen (by omega) (by omega) (ih161 (i + 1) (by omega) (by omega) _ _ _ hw (lv_c (lv_at hl 1 rfl) (lv_c (lv_at hl 2 rfl) (lv_c (lv_at hl 3 rfl) (lv_c (lv_at hl 4 rfl) (lv_c (lv_at hl 5 rfl) (lv_c (lv_at hl 6 rfl) (lv_c (lv_at hl 0 rfl) (lv_c0 hl)))))))))
                              · skip
                                have c_193 : (i % 6) = 0 := n0_nef (by omega) c_193
                                refine lv_aload_n hx hb dL_isStarted_179 rfl (lv_at hl 2 rfl) ?_
                                refine lv_iload hx hb dL_isStarted_180 (lv_at hl 6 rfl) ?_
                                refine rAld hx hb fx hw 32 (hF.1 32 (by decide)) hF.2.1 (fun _ => rfl) i rfl (by omega) (by decide) dL_isStarted_182 ?_
                                refine lv_goto (tgt := 187) hx hb dL_isStarted_183 (by decide) ?_
                                refine rAst (x := (σ_187 32 i)) hx hb fx hw 32 (hF.1 32 (by decide)) hF.2.1 (fun _ => rfl) i rfl (by omega) (by decide) dL_isStarted_187 (fun H locs hw => ?_)
                                obtain ⟨σ_196, eσ_196⟩ : ∃ w9, w9 = upA σ_187 32 (upd (σ_187 32) i (σ_187 32 i)) := ⟨_, rfl⟩
                                rw [← eσ_196] at hw
                                refine lv_iinc (v := (nI (i + 1))) (lv' := [(7, .int (nI (i + 1))), (0, .ref (gad G 0)), (1, .ref (gad G 31)), (2, .ref (gad G 32)), (3, .ref (gad G 33)), (4, .int (nI v9)), (6, .int (nI e9))]) hx hb dL_isStarted_188 hl (k := 6) rfl (nI_1 _) (by decide) rfl (fun ls hl => ?_)
                                refine lv_goto (tgt := 161) hx hb dL_isStarted_191 (by decide) ?_
                                have q_197 : σ_196 = (upA σ_186 32 (kzA (σ 32) (i + 1))) := by subst eσ_196 eσ_187 eσ_186 eσ_185 eσ_184; first | exact kz_a (by omega) | exact kz_b (by omega)
                                rw [q_197] at hw
                                exact W.widen (by omega) (by omega) (ih161 (i + 1) (by omega) (by omega) _ _ _ hw (lv_c (lv_at hl 1 rfl) (lv_c (lv_at hl 2 rfl) (lv_c (lv_at hl 3 rfl) (lv_c (lv_at hl 4 rfl) (lv_c (lv_at hl 5 rfl) (lv_c (lv_at hl 6 rfl) (lv_c (lv_at hl 0 rfl) (lv_c0 hl)))))))))
                        have q_198 : 0 = (nI 0) := by first | rfl | (rw [decide_eq_true (by omega)]; rfl) | (rw [decide_eq_false (by omega)]; rfl) | (congr 1; omega)
                        have q_199 : σ_186 = (upA σ_186 32 (kzA (σ 32) 0)) := by subst eσ_186 eσ_185 eσ_184; rw [kzA_0]; exact (upA_self _ 32).symm
                        rw [q_199] at hw
                        exact W.widen (by omega) (by omega) (lab_161 (36 - 0 + 1) 0 (by omega) (by omega) _ _ _ hw (lv_c (lv_at hl 2 rfl) (lv_c (lv_at hl 3 rfl) (lv_c (lv_at hl 4 rfl) (lv_c (lv_at hl 5 rfl) (lv_c (lv_at hl 6 rfl) (lv_c (lv_at hl 1 rfl) (lv_c (lv_atq hl 0 rfl q_198) (lv_c0 hl)))))))))
                  · skip
                    have c_176 : ¬ v9 ≤ 9 := fun h9 => c_176 ((nI_leI (by omega) (by omega)).mpr h9)
                    omega
              · skip
                have c_174 : ¬ g ≤ f := fun h9 => c_174 ((nI_leI (by omega) (by omega)).mpr h9)
                refine lv_iconst (v := 0) hx hb dL_isStarted_38 (by decide) ?_
                refine lv_istore (lv' := [(7, .int 0), (0, .ref (gad G 0)), (1, .ref (gad G 31)), (2, .ref (gad G 32)), (3, .ref (gad G 33)), (4, .int (nI v9)), (5, .int (bI (cnB σ g f))), (6, .int (nI f))]) hx hb dL_isStarted_39 hl (by decide) rfl (fun ls hl => ?_)
                refine lv_iconst (v := 0) hx hb dL_isStarted_41 (by decide) ?_
                refine lv_istore (lv' := [(8, .int 0), (7, .int 0), (0, .ref (gad G 0)), (1, .ref (gad G 31)), (2, .ref (gad G 32)), (3, .ref (gad G 33)), (4, .int (nI v9)), (5, .int (bI (cnB σ g f))), (6, .int (nI f))]) hx hb dL_isStarted_42 hl (by decide) rfl (fun ls hl => ?_)
                have lab_44 : ∀ (n9 : Nat), ∀ (i : Nat), g - i < n9 → i ≤ g → ∀ (H : Heap) (locs : List Loc) (ls : Array Slot), Wd G s σ H locs → lv_has ls 9 [(0, .ref (gad G 0)), (1, .ref (gad G 31)), (2, .ref (gad G 32)), (3, .ref (gad G 33)), (4, .int (nI v9)), (5, .int (bI (cnB σ g f))), (6, .int (nI f)), (7, .int (bI (hsB σ f i))), (8, .int (nI i))] → W p l e rmL_isStarted s m args below meth c H locs (0) (0) (MQ below (va_Qi (fun r σ' => r = 1 ∧ PIn σ' (j + 1)) (BW G) (gA G)) args s 3 20 (gA G)) (F0 m 44 ls []) := by
                  intro n9
                  induction n9 with
                  | zero => intro i hn9; exact absurd hn9 (Nat.not_lt_zero _)
                  | succ n9 ih44 =>
                    intro i hn9 h44_0 H locs ls hw hl
                    refine lv_iload hx hb dL_isStarted_44 (lv_at hl 8 rfl) ?_
                    refine lv_aload_n hx hb dL_isStarted_46 rfl (lv_at hl 3 rfl) ?_
                    refine lv_iconst (v := 0) hx hb dL_isStarted_47 (by decide) ?_
                    refine lv_rep0 (x := 0) (y := nI 0) rfl ?_
                    refine rAld hx hb fx hw 33 (hF.1 33 (by decide)) hF.2.1 (fun _ => rfl) 0 rfl (by omega) (by decide) dL_isStarted_48 ?_
                    refine lv_rep0 (x := (σ 33 0)) (y := (nI g)) (pg hA).1 ?_
                    refine lv_icmp_ge (tgt := 81) hx hb dL_isStarted_49 (by decide) (fun c_200 => ?_) (fun c_200 => ?_)
                    · skip
                      have c_200 : g ≤ i := (nI_leI (by omega) (by omega)).mp c_200
                      refine lv_iload hx hb dL_isStarted_81 (lv_at hl 5 rfl) ?_
                      refine lv_b_eq (tgt := 95) hx hb dL_isStarted_83 (by decide) (fun c_201 => ?_) (fun c_201 => ?_)
                      · skip
                        refine lv_iconst (v := 0) hx hb dL_isStarted_95 (by decide) ?_
                        refine lv_istore (lv' := [(5, .int 0), (0, .ref (gad G 0)), (1, .ref (gad G 31)), (2, .ref (gad G 32)), (3, .ref (gad G 33)), (4, .int (nI v9)), (6, .int (nI f)), (7, .int (bI (hsB σ f i))), (8, .int (nI i))]) hx hb dL_isStarted_96 hl (by decide) rfl (fun ls hl => ?_)
                        refine lv_iinc (v := (nI (f + 1))) (lv' := [(6, .int (nI (f + 1))), (5, .int 0), (0, .ref (gad G 0)), (1, .ref (gad G 31)), (2, .ref (gad G 32)), (3, .ref (gad G 33)), (4, .int (nI v9)), (7, .int (bI (hsB σ f i))), (8, .int (nI i))]) hx hb dL_isStarted_98 hl (k := 6) rfl (nI_1 _) (by decide) rfl (fun ls hl => ?_)
                        refine lv_goto (tgt := 30) hx hb dL_isStarted_101 (by decide) ?_
                        have q_202 : 0 = (bI (cnB σ g (f + 1))) := by first | rfl | exact cn_0 (by assumption) | exact cn_f (σ := σ) (f := f) (show i = g by omega) (by assumption) | exact cn_t (σ := σ) (f := f) (show i = g by omega) (by assumption) (by assumption)
                        exact W.widen (by omega) (by omega) (ih30 (f + 1) (by omega) (by omega) _ _ _ hw (lv_c (lv_at hl 2 rfl) (lv_c (lv_at hl 3 rfl) (lv_c (lv_at hl 4 rfl) (lv_c (lv_at hl 5 rfl) (lv_c (lv_at hl 6 rfl) (lv_c (lv_atq hl 1 rfl q_202) (lv_c (lv_at hl 0 rfl) (lv_c0 hl)))))))))
                      · skip
                        refine lv_iload hx hb dL_isStarted_86 (lv_at hl 7 rfl) ?_
                        refine lv_b_eq (tgt := 95) hx hb dL_isStarted_88 (by decide) (fun c_203 => ?_) (fun c_203 => ?_)
                        · skip
                          refine lv_iconst (v := 0) hx hb dL_isStarted_95 (by decide) ?_
                          refine lv_istore (lv' := [(5, .int 0), (0, .ref (gad G 0)), (1, .ref (gad G 31)), (2, .ref (gad G 32)), (3, .ref (gad G 33)), (4, .int (nI v9)), (6, .int (nI f)), (7, .int (bI (hsB σ f i))), (8, .int (nI i))]) hx hb dL_isStarted_96 hl (by decide) rfl (fun ls hl => ?_)
                          refine lv_iinc (v := (nI (f + 1))) (lv' := [(6, .int (nI (f + 1))), (5, .int 0), (0, .ref (gad G 0)), (1, .ref (gad G 31)), (2, .ref (gad G 32)), (3, .ref (gad G 33)), (4, .int (nI v9)), (7, .int (bI (hsB σ f i))), (8, .int (nI i))]) hx hb dL_isStarted_98 hl (k := 6) rfl (nI_1 _) (by decide) rfl (fun ls hl => ?_)
                          refine lv_goto (tgt := 30) hx hb dL_isStarted_101 (by decide) ?_
                          have q_204 : 0 = (bI (cnB σ g (f + 1))) := by first | rfl | exact cn_0 (by assumption) | exact cn_f (σ := σ) (f := f) (show i = g by omega) (by assumption) | exact cn_t (σ := σ) (f := f) (show i = g by omega) (by assumption) (by assumption)
                          exact W.widen (by omega) (by omega) (ih30 (f + 1) (by omega) (by omega) _ _ _ hw (lv_c (lv_at hl 2 rfl) (lv_c (lv_at hl 3 rfl) (lv_c (lv_at hl 4 rfl) (lv_c (lv_at hl 5 rfl) (lv_c (lv_at hl 6 rfl) (lv_c (lv_atq hl 1 rfl q_204) (lv_c (lv_at hl 0 rfl) (lv_c0 hl)))))))))
                        · skip
                          refine lv_iconst (v := 1) hx hb dL_isStarted_91 (by decide) ?_
                          refine lv_goto (tgt := 96) hx hb dL_isStarted_92 (by decide) ?_
                          refine lv_istore (lv' := [(5, .int 1), (0, .ref (gad G 0)), (1, .ref (gad G 31)), (2, .ref (gad G 32)), (3, .ref (gad G 33)), (4, .int (nI v9)), (6, .int (nI f)), (7, .int (bI (hsB σ f i))), (8, .int (nI i))]) hx hb dL_isStarted_96 hl (by decide) rfl (fun ls hl => ?_)
                          refine lv_iinc (v := (nI (f + 1))) (lv' := [(6, .int (nI (f + 1))), (5, .int 1), (0, .ref (gad G 0)), (1, .ref (gad G 31)), (2, .ref (gad G 32)), (3, .ref (gad G 33)), (4, .int (nI v9)), (7, .int (bI (hsB σ f i))), (8, .int (nI i))]) hx hb dL_isStarted_98 hl (k := 6) rfl (nI_1 _) (by decide) rfl (fun ls hl => ?_)
                          refine lv_goto (tgt := 30) hx hb dL_isStarted_101 (by decide) ?_
                          have q_205 : 1 = (bI (cnB σ g (f + 1))) := by first | rfl | exact cn_0 (by assumption) | exact cn_f (σ := σ) (f := f) (show i = g by omega) (by assumption) | exact cn_t (σ := σ) (f := f) (show i = g by omega) (by assumption) (by assumption)
                          exact W.widen (by omega) (by omega) (ih30 (f + 1) (by omega) (by omega) _ _ _ hw (lv_c (lv_at hl 2 rfl) (lv_c (lv_at hl 3 rfl) (lv_c (lv_at hl 4 rfl) (lv_c (lv_at hl 5 rfl) (lv_c (lv_at hl 6 rfl) (lv_c (lv_atq hl 1 rfl q_205) (lv_c (lv_at hl 0 rfl) (lv_c0 hl)))))))))
                    · skip
                      have c_200 : ¬ g ≤ i := fun h9 => c_200 ((nI_leI (by omega) (by omega)).mpr h9)
                      refine lv_iload hx hb dL_isStarted_52 (lv_at hl 7 rfl) ?_
                      refine lv_b_ne (tgt := 68) hx hb dL_isStarted_54 (by decide) (fun c_206 => ?_) (fun c_206 => ?_)
                      · skip
                        refine lv_iconst (v := 1) hx hb dL_isStarted_68 (by decide) ?_
                        refine lv_goto (tgt := 73) hx hb dL_isStarted_69 (by decide) ?_
                        refine lv_istore (lv' := [(7, .int 1), (0, .ref (gad G 0)), (1, .ref (gad G 31)), (2, .ref (gad G 32)), (3, .ref (gad G 33)), (4, .int (nI v9)), (5, .int (bI (cnB σ g f))), (6, .int (nI f)), (8, .int (nI i))]) hx hb dL_isStarted_73 hl (by decide) rfl (fun ls hl => ?_)
                        refine lv_iinc (v := (nI (i + 1))) (lv' := [(8, .int (nI (i + 1))), (7, .int 1), (0, .ref (gad G 0)), (1, .ref (gad G 31)), (2, .ref (gad G 32)), (3, .ref (gad G 33)), (4, .int (nI v9)), (5, .int (bI (cnB σ g f))), (6, .int (nI f))]) hx hb dL_isStarted_75 hl (k := 8) rfl (nI_1 _) (by decide) rfl (fun ls hl => ?_)
                        refine lv_goto (tgt := 44) hx hb dL_isStarted_78 (by decide) ?_
                        have q_207 : 1 = (bI (hsB σ f (i + 1))) := by first | exact hs_1 (by assumption) | exact hs_2 hA (show f < g by omega) (show i < g by omega) (by assumption) | exact hs_3 hA (show f < g by omega) (show i < g by omega) (by assumption) (by assumption)
                        exact W.widen (by omega) (by omega) (ih44 (i + 1) (by omega) (by omega) _ _ _ hw (lv_c (lv_at hl 2 rfl) (lv_c (lv_at hl 3 rfl) (lv_c (lv_at hl 4 rfl) (lv_c (lv_at hl 5 rfl) (lv_c (lv_at hl 6 rfl) (lv_c (lv_at hl 7 rfl) (lv_c (lv_at hl 8 rfl) (lv_c (lv_atq hl 1 rfl q_207) (lv_c (lv_at hl 0 rfl) (lv_c0 hl)))))))))))
                      · skip
                        refine lv_aload_n hx hb dL_isStarted_57 rfl (lv_at hl 1 rfl) ?_
                        refine lv_iload hx hb dL_isStarted_58 (lv_at hl 6 rfl) ?_
                        refine lv_iload hx hb dL_isStarted_60 (lv_at hl 8 rfl) ?_
                        refine rCallM (As := [.ref (gad G 31), .int (nI f), .int (nI i)]) (rest := []) ⟨hx, hb, hml, hown, hts⟩ fx hw (kL_way l hlt G hG hF σ f i (by omega) (by omega)) (va_cwS 3 hts gL_isStarted_L_way rfl rfl rfl (by decide +kernel) ⟨Nat.le_of_ble_eq_true rfl, Nat.le_of_ble_eq_true rfl⟩) rfl hl.1 rfl (Nat.le_of_ble_eq_true rfl) dL_isStarted_62 ⟨Nat.le_trans (show _ ≤ 3 by omega) (Nat.le_of_ble_eq_true rfl), Nat.le_trans (show _ ≤ 20 by omega) (Nat.le_of_ble_eq_true rfl)⟩ (fun r_208 σ_209 H locs p_210 hw => ?_)
                        obtain ⟨er_208, eσ_209⟩ := p_210
                        have er_208 := er_208.symm; subst er_208
                        have eσ_209 := eσ_209.symm; subst eσ_209
                        refine lv_if_le (tgt := 72) hx hb dL_isStarted_65 (by decide) (fun c_211 => ?_) (fun c_211 => ?_)
                        · skip
                          refine lv_iconst (v := 0) hx hb dL_isStarted_72 (by decide) ?_
                          refine lv_istore (lv' := [(7, .int 0), (0, .ref (gad G 0)), (1, .ref (gad G 31)), (2, .ref (gad G 32)), (3, .ref (gad G 33)), (4, .int (nI v9)), (5, .int (bI (cnB σ g f))), (6, .int (nI f)), (8, .int (nI i))]) hx hb dL_isStarted_73 hl (by decide) rfl (fun ls hl => ?_)
                          refine lv_iinc (v := (nI (i + 1))) (lv' := [(8, .int (nI (i + 1))), (7, .int 0), (0, .ref (gad G 0)), (1, .ref (gad G 31)), (2, .ref (gad G 32)), (3, .ref (gad G 33)), (4, .int (nI v9)), (5, .int (bI (cnB σ g f))), (6, .int (nI f))]) hx hb dL_isStarted_75 hl (k := 8) rfl (nI_1 _) (by decide) rfl (fun ls hl => ?_)
                          refine lv_goto (tgt := 44) hx hb dL_isStarted_78 (by decide) ?_
                          have q_212 : 0 = (bI (hsB σ f (i + 1))) := by first | exact hs_1 (by assumption) | exact hs_2 hA (show f < g by omega) (show i < g by omega) (by assumption) | exact hs_3 hA (show f < g by omega) (show i < g by omega) (by assumption) (by assumption)
                          exact W.widen (by omega) (by omega) (ih44 (i + 1) (by omega) (by omega) _ _ _ hw (lv_c (lv_at hl 2 rfl) (lv_c (lv_at hl 3 rfl) (lv_c (lv_at hl 4 rfl) (lv_c (lv_at hl 5 rfl) (lv_c (lv_at hl 6 rfl) (lv_c (lv_at hl 7 rfl) (lv_c (lv_at hl 8 rfl) (lv_c (lv_atq hl 1 rfl q_212) (lv_c (lv_at hl 0 rfl) (lv_c0 hl)))))))))))
                        · skip
                          refine lv_iconst (v := 1) hx hb dL_isStarted_68 (by decide) ?_
                          refine lv_goto (tgt := 73) hx hb dL_isStarted_69 (by decide) ?_
                          refine lv_istore (lv' := [(7, .int 1), (0, .ref (gad G 0)), (1, .ref (gad G 31)), (2, .ref (gad G 32)), (3, .ref (gad G 33)), (4, .int (nI v9)), (5, .int (bI (cnB σ g f))), (6, .int (nI f)), (8, .int (nI i))]) hx hb dL_isStarted_73 hl (by decide) rfl (fun ls hl => ?_)
                          refine lv_iinc (v := (nI (i + 1))) (lv' := [(8, .int (nI (i + 1))), (7, .int 1), (0, .ref (gad G 0)), (1, .ref (gad G 31)), (2, .ref (gad G 32)), (3, .ref (gad G 33)), (4, .int (nI v9)), (5, .int (bI (cnB σ g f))), (6, .int (nI f))]) hx hb dL_isStarted_75 hl (k := 8) rfl (nI_1 _) (by decide) rfl (fun ls hl => ?_)
                          refine lv_goto (tgt := 44) hx hb dL_isStarted_78 (by decide) ?_
                          have q_213 : 1 = (bI (hsB σ f (i + 1))) := by first | exact hs_1 (by assumption) | exact hs_2 hA (show f < g by omega) (show i < g by omega) (by assumption) | exact hs_3 hA (show f < g by omega) (show i < g by omega) (by assumption) (by assumption)
                          exact W.widen (by omega) (by omega) (ih44 (i + 1) (by omega) (by omega) _ _ _ hw (lv_c (lv_at hl 2 rfl) (lv_c (lv_at hl 3 rfl) (lv_c (lv_at hl 4 rfl) (lv_c (lv_at hl 5 rfl) (lv_c (lv_at hl 6 rfl) (lv_c (lv_at hl 7 rfl) (lv_c (lv_at hl 8 rfl) (lv_c (lv_atq hl 1 rfl q_213) (lv_c (lv_at hl 0 rfl) (lv_c0 hl)))))))))))
                have q_214 : 0 = (bI (hsB σ f 0)) := by first | rfl | (rw [decide_eq_true (by omega)]; rfl) | (rw [decide_eq_false (by omega)]; rfl) | (congr 1; omega)
                have q_215 : 0 = (nI 0) := by first | rfl | (rw [decide_eq_true (by omega)]; rfl) | (rw [decide_eq_false (by omega)]; rfl) | (congr 1; omega)
                exact W.widen (by omega) (by omega) (lab_44 (g - 0 + 1) 0 (by omega) (by omega) _ _ _ hw (lv_c (lv_at hl 2 rfl) (lv_c (lv_at hl 3 rfl) (lv_c (lv_at hl 4 rfl) (lv_c (lv_at hl 5 rfl) (lv_c (lv_at hl 6 rfl) (lv_c (lv_at hl 7 rfl) (lv_c (lv_at hl 8 rfl) (lv_c (lv_atq hl 1 rfl q_214) (lv_c (lv_atq hl 0 rfl q_215) (lv_c0 hl)))))))))))
          have q_216 : 1 = (bI (cnB σ g 0)) := by rfl
          have q_217 : 0 = (nI 0) := by first | rfl | (rw [decide_eq_true (by omega)]; rfl) | (rw [decide_eq_false (by omega)]; rfl) | (congr 1; omega)
          exact W.widen (by omega) (by omega) (lab_30 (g - 0 + 1) 0 (by omega) (by omega) _ _ _ hw (lv_c (lv_at hl 2 rfl) (lv_c (lv_at hl 3 rfl) (lv_c (lv_at hl 4 rfl) (lv_c (lv_at hl 5 rfl) (lv_c (lv_at hl 6 rfl) (lv_c (lv_atq hl 1 rfl q_216) (lv_c (lv_atq hl 0 rfl q_217) (lv_c0 hl)))))))))
