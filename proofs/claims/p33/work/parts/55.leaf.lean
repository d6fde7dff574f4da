def prV (G : Gx) (k : Nat) : Int32 := if k < (gsc G).2.1 then (gsc G).2.2 k else nI (331 * k + 197 * k * k)
def prN (G : Gx) (k : Nat) : Nat := (prV G k).toBitVec.toNat % 2 ^ 31
def rmL_part : Room := ({ frames := 0, cells := 0, slots := 0, locals := 0 } : Room)
set_option maxHeartbeats 4000000 in
set_option maxRecDepth 100000 in
theorem kL_part (l : Launch) (hlt : l.stackTraces = false) (G : Gx) (hG : gOk G) (hF : Full G) (σ : St) (k m9 : Nat) (hk : k < 1000) (hm0 : 0 < m9) (hm : m9 < 10000) (hLs : (gsc G).2.1 < 1000)  : CmI l yL_part wsL_part rmL_part G σ [.ref (gsc G).1, .int (nI k), .int (nI m9)] (fun r σ' => r = nI (prN G k % m9) ∧ σ' = σ ∧ prN G k % m9 < m9) 0 0 := by
  refine bgM (cc := cL_part) (maxL := 4) (ret := (some .int)) (own := RL) (by decide) rfl rfl hG (Nat.le_of_ble_eq_true rfl) rfl ?_
  intro p e s m args below meth c ls Bd hl
  obtain ⟨hx, hb, hr, hml, hts, hown, hlocks, fx, hw⟩ := Bd
  have hl : lv_has ls 4 [(0, .ref (gsc G).1), (1, .int (nI k)), (2, .int (nI m9))] := hl
  refine lv_iload_n hx hb dL_part_0 rfl (lv_at hl 1 rfl) ?_
  refine lv_aload_n hx hb dL_part_1 rfl (lv_at hl 0 rfl) ?_
  refine rSln hx hb hF.2.2.2.2 fx hw dL_part_2 ?_
  refine lv_icmp_ge (tgt := 12) hx hb dL_part_3 (by decide) (fun c_1 => ?_) (fun c_1 => ?_)
  · skip
    have c_1 : (gsc G).2.1 ≤ k := (nI_leI (by omega) (by omega)).mp c_1
    refine lv_sipush (v := 331) hx hb dL_part_12 (by decide) ?_
    refine lv_iload_n hx hb dL_part_15 rfl (lv_at hl 1 rfl) ?_
    refine lv_rep1 (x := 331) (y := nI 331) rfl ?_
    refine lv_imul hx hb dL_part_16 ?_
    refine lv_rep0 (x := ((nI 331) * (nI k))) (y := nI (331 * k)) (pk_mul _ _) ?_
    refine lv_sipush (v := 197) hx hb dL_part_17 (by decide) ?_
    refine lv_iload_n hx hb dL_part_20 rfl (lv_at hl 1 rfl) ?_
    refine lv_rep1 (x := 197) (y := nI 197) rfl ?_
    refine lv_imul hx hb dL_part_21 ?_
    refine lv_rep0 (x := ((nI 197) * (nI k))) (y := nI (197 * k)) (pk_mul _ _) ?_
    refine lv_iload_n hx hb dL_part_22 rfl (lv_at hl 1 rfl) ?_
    refine lv_imul hx hb dL_part_23 ?_
    refine lv_rep0 (x := ((nI (197 * k)) * (nI k))) (y := nI ((197 * k) * k)) (pk_mul _ _) ?_
    refine lv_iadd hx hb dL_part_24 ?_
    refine lv_rep0 (x := ((nI (331 * k)) + (nI ((197 * k) * k)))) (y := nI ((331 * k) + ((197 * k) * k))) (nI_add _ _) ?_
    refine lv_istore_n (lv' := [(3, .int (nI ((331 * k) + ((197 * k) * k)))), (0, .ref (gsc G).1), (1, .int (nI k)), (2, .int (nI m9))]) hx hb dL_part_25 rfl hl (by decide) rfl (fun ls hl => ?_)
    have q_2 : (nI ((331 * k) + ((197 * k) * k))) = (prV G k) := by unfold prV; first | rw [if_pos (by omega)] | rw [if_neg (by omega)]
    have hl : lv_has ls 4 [(3, .int (prV G k)), (0, .ref (gsc G).1), (1, .int (nI k)), (2, .int (nI m9))] := (lv_c (lv_atq hl 0 rfl q_2) (lv_c (lv_at hl 1 rfl) (lv_c (lv_at hl 2 rfl) (lv_c (lv_at hl 3 rfl) (lv_c0 hl)))))
    refine lv_iload_n hx hb dL_part_26 rfl (lv_at hl 0 rfl) ?_
    refine lv_ldc (v := 2147483647) hx hb hown (hts (.constant RL 7 (2147483647)) (by decide +kernel)) dL_part_27 ?_
    refine lv_iand hx hb dL_part_29 ?_
    refine lv_rep0 (x := ((prV G k) &&& 2147483647)) (y := nI (prN G k)) (by exact pk_and _ 31 (by decide)) ?_
    have hp9 : prN G k < 2 ^ 31 := Nat.mod_lt _ (by decide)
    refine lv_iload_n hx hb dL_part_30 rfl (lv_at hl 3 rfl) ?_
    refine lv_irem hx hb dL_part_31 (nI_ne0 (by omega) (by omega)) ?_
    refine lv_rep0 (y := nI ((prN G k) % m9)) (pk_rem (by omega) (by omega) (by omega)) ?_
    have hrm9 := Nat.mod_lt (prN G k) (show 0 < m9 by omega)
    exact rRetIw hx hb hr hw (by exact ⟨rfl, rfl, Nat.mod_lt _ hm0⟩) hlocks dL_part_32 (by omega) (by omega)
  · skip
    have c_1 : ¬ (gsc G).2.1 ≤ k := fun h9 => c_1 ((nI_leI (by omega) (by omega)).mpr h9)
    refine lv_aload_n hx hb dL_part_6 rfl (lv_at hl 0 rfl) ?_
    refine lv_iload_n hx hb dL_part_7 rfl (lv_at hl 1 rfl) ?_
    refine rSld hx hb hF.2.2.2.2 fx hw k (by omega) (by omega) dL_part_8 ?_
    refine lv_goto (tgt := 25) hx hb dL_part_9 (by decide) ?_
    refine lv_istore_n (lv' := [(3, .int ((gsc G).2.2 k)), (0, .ref (gsc G).1), (1, .int (nI k)), (2, .int (nI m9))]) hx hb dL_part_25 rfl hl (by decide) rfl (fun ls hl => ?_)
    have q_3 : ((gsc G).2.2 k) = (prV G k) := by unfold prV; first | rw [if_pos (by omega)] | rw [if_neg (by omega)]
    have hl : lv_has ls 4 [(3, .int (prV G k)), (0, .ref (gsc G).1), (1, .int (nI k)), (2, .int (nI m9))] := (lv_c (lv_atq hl 0 rfl q_3) (lv_c (lv_at hl 1 rfl) (lv_c (lv_at hl 2 rfl) (lv_c (lv_at hl 3 rfl) (lv_c0 hl)))))
    refine lv_iload_n hx hb dL_part_26 rfl (lv_at hl 0 rfl) ?_
    refine lv_ldc (v := 2147483647) hx hb hown (hts (.constant RL 7 (2147483647)) (by decide +kernel)) dL_part_27 ?_
    refine lv_iand hx hb dL_part_29 ?_
    refine lv_rep0 (x := ((prV G k) &&& 2147483647)) (y := nI (prN G k)) (by exact pk_and _ 31 (by decide)) ?_
    have hp9 : prN G k < 2 ^ 31 := Nat.mod_lt _ (by decide)
    refine lv_iload_n hx hb dL_part_30 rfl (lv_at hl 3 rfl) ?_
    refine lv_irem hx hb dL_part_31 (nI_ne0 (by omega) (by omega)) ?_
    refine lv_rep0 (y := nI ((prN G k) % m9)) (pk_rem (by omega) (by omega) (by omega)) ?_
    have hrm9 := Nat.mod_lt (prN G k) (show 0 < m9 by omega)
    exact rRetIw hx hb hr hw (by exact ⟨rfl, rfl, Nat.mod_lt _ hm0⟩) hlocks dL_part_32 (by omega) (by omega)

def rmL_way : Room := ({ frames := 0, cells := 0, slots := 0, locals := 0 } : Room)
set_option maxHeartbeats 4000000 in
set_option maxRecDepth 100000 in
theorem kL_way (l : Launch) (hlt : l.stackTraces = false) (G : Gx) (hG : gOk G) (hF : Full G) (σ : St) (f t9 : Nat) (hf : f < 5) (ht : t9 < 12)  : CmI l yL_way wsL_way rmL_way G σ [.ref (gad G 31), .int (nI f), .int (nI t9)] (fun r σ' => r = σ 31 ((12 * f) + t9) ∧ σ' = σ) 0 0 := by
  refine bgM (cc := cL_way) (maxL := 3) (ret := (some .int)) (own := RL) (by decide) rfl rfl hG (Nat.le_of_ble_eq_true rfl) rfl ?_
  intro p e s m args below meth c ls Bd hl
  obtain ⟨hx, hb, hr, hml, hts, hown, hlocks, fx, hw⟩ := Bd
  have hl : lv_has ls 3 [(0, .ref (gad G 31)), (1, .int (nI f)), (2, .int (nI t9))] := hl
  refine lv_iload_n hx hb dL_way_0 rfl (lv_at hl 1 rfl) ?_
  refine lv_iconst (v := 5) hx hb dL_way_1 (by decide) ?_
  refine lv_rep0 (x := 5) (y := nI 5) rfl ?_
  refine lv_icmp_ge (tgt := 22) hx hb dL_way_2 (by decide) (fun c_1 => ?_) (fun c_1 => ?_)
  · skip
    have c_1 : 5 ≤ f := (nI_leI (by omega) (by omega)).mp c_1
    omega
  · skip
    have c_1 : ¬ 5 ≤ f := fun h9 => c_1 ((nI_leI (by omega) (by omega)).mpr h9)
    refine lv_iload_n hx hb dL_way_5 rfl (lv_at hl 2 rfl) ?_
    refine lv_bipush (v := 12) hx hb dL_way_6 (by decide) ?_
    refine lv_rep0 (x := 12) (y := nI 12) rfl ?_
    refine lv_icmp_ge (tgt := 22) hx hb dL_way_8 (by decide) (fun c_2 => ?_) (fun c_2 => ?_)
    · skip
      have c_2 : 12 ≤ t9 := (nI_leI (by omega) (by omega)).mp c_2
      omega
    · skip
      have c_2 : ¬ 12 ≤ t9 := fun h9 => c_2 ((nI_leI (by omega) (by omega)).mpr h9)
      refine lv_aload_n hx hb dL_way_11 rfl (lv_at hl 0 rfl) ?_
      refine lv_bipush (v := 12) hx hb dL_way_12 (by decide) ?_
      refine lv_iload_n hx hb dL_way_14 rfl (lv_at hl 1 rfl) ?_
      refine lv_rep1 (x := 12) (y := nI 12) rfl ?_
      refine lv_imul hx hb dL_way_15 ?_
      refine lv_rep0 (x := ((nI 12) * (nI f))) (y := nI (12 * f)) (pk_mul _ _) ?_
      refine lv_iload_n hx hb dL_way_16 rfl (lv_at hl 2 rfl) ?_
      refine lv_iadd hx hb dL_way_17 ?_
      refine lv_rep0 (x := ((nI (12 * f)) + (nI t9))) (y := nI ((12 * f) + t9)) (nI_add _ _) ?_
      refine rAld hx hb fx hw 31 (hF.1 31 (by decide)) hF.2.1 (fun _ => rfl) ((12 * f) + t9) rfl (by omega) (by decide) dL_way_18 ?_
      refine lv_goto (tgt := 23) hx hb dL_way_19 (by decide) ?_
      exact rRetIw hx hb hr hw (by exact ⟨rfl, rfl⟩) hlocks dL_way_23 (by omega) (by omega)

def rmL_worth : Room := ({ frames := 0, cells := 0, slots := 0, locals := 0 } : Room)
set_option maxHeartbeats 4000000 in
set_option maxRecDepth 100000 in
theorem kL_worth (l : Launch) (hlt : l.stackTraces = false) (G : Gx) (hG : gOk G) (hF : Full G) (σ : St) (p9 : Nat) (hp : p9 < 6)  : CmI l yL_worth wsL_worth rmL_worth G σ [.int (nI p9)] (fun r σ' => r = nI (wtN p9) ∧ σ' = σ) 0 0 := by
  refine bgM (cc := cL_worth) (maxL := 1) (ret := (some .int)) (own := RL) (by decide) rfl rfl hG (Nat.le_of_ble_eq_true rfl) rfl ?_
  intro p e s m args below meth c ls Bd hl
  obtain ⟨hx, hb, hr, hml, hts, hown, hlocks, fx, hw⟩ := Bd
  have hl : lv_has ls 1 [(0, .int (nI p9))] := hl
  refine lv_iload_n hx hb dL_worth_0 rfl (lv_at hl 0 rfl) ?_
  refine lv_if_ne (tgt := 9) hx hb dL_worth_1 (by decide) (fun c_1 => ?_) (fun c_1 => ?_)
  · skip
    have c_1 : ¬ p9 = 0 := n0_net (by omega) c_1
    refine lv_iload_n hx hb dL_worth_9 rfl (lv_at hl 0 rfl) ?_
    refine lv_iconst (v := 1) hx hb dL_worth_10 (by decide) ?_
    refine lv_rep0 (x := 1) (y := nI 1) rfl ?_
    refine lv_icmp_ne (tgt := 19) hx hb dL_worth_11 (by decide) (fun c_2 => ?_) (fun c_2 => ?_)
    · skip
      have c_2 : ¬ p9 = 1 := fun h9 => c_2 ((nI_eq (by omega) (by omega)).mpr h9)
      refine lv_iload_n hx hb dL_worth_19 rfl (lv_at hl 0 rfl) ?_
      refine lv_iconst (v := 2) hx hb dL_worth_20 (by decide) ?_
      refine lv_rep0 (x := 2) (y := nI 2) rfl ?_
      refine lv_icmp_ne (tgt := 29) hx hb dL_worth_21 (by decide) (fun c_3 => ?_) (fun c_3 => ?_)
      · skip
        have c_3 : ¬ p9 = 2 := fun h9 => c_3 ((nI_eq (by omega) (by omega)).mpr h9)
        refine lv_iload_n hx hb dL_worth_29 rfl (lv_at hl 0 rfl) ?_
        refine lv_iconst (v := 3) hx hb dL_worth_30 (by decide) ?_
        refine lv_rep0 (x := 3) (y := nI 3) rfl ?_
        refine lv_icmp_ne (tgt := 38) hx hb dL_worth_31 (by decide) (fun c_4 => ?_) (fun c_4 => ?_)
        · skip
          have c_4 : ¬ p9 = 3 := fun h9 => c_4 ((nI_eq (by omega) (by omega)).mpr h9)
          refine lv_iload_n hx hb dL_worth_38 rfl (lv_at hl 0 rfl) ?_
          refine lv_iconst (v := 4) hx hb dL_worth_39 (by decide) ?_
          refine lv_rep0 (x := 4) (y := nI 4) rfl ?_
          refine lv_icmp_ne (tgt := 47) hx hb dL_worth_40 (by decide) (fun c_5 => ?_) (fun c_5 => ?_)
          · skip
            have c_5 : ¬ p9 = 4 := fun h9 => c_5 ((nI_eq (by omega) (by omega)).mpr h9)
            refine lv_iconst (v := 3) hx hb dL_worth_47 (by decide) ?_
            exact rRetIw hx hb hr hw (by refine ⟨?_, rfl⟩; rcases (show p9 = 0 ∨ p9 = 1 ∨ p9 = 2 ∨ p9 = 3 ∨ p9 = 4 ∨ p9 = 5 by omega) with rfl | rfl | rfl | rfl | rfl | rfl <;> first | rfl | (exfalso; omega)) hlocks dL_worth_48 (by omega) (by omega)
          · skip
            have c_5 : p9 = 4 := (nI_eq (by omega) (by omega)).mp c_5
            refine lv_iconst (v := 4) hx hb dL_worth_43 (by decide) ?_
            refine lv_goto (tgt := 48) hx hb dL_worth_44 (by decide) ?_
            exact rRetIw hx hb hr hw (by refine ⟨?_, rfl⟩; rcases (show p9 = 0 ∨ p9 = 1 ∨ p9 = 2 ∨ p9 = 3 ∨ p9 = 4 ∨ p9 = 5 by omega) with rfl | rfl | rfl | rfl | rfl | rfl <;> first | rfl | (exfalso; omega)) hlocks dL_worth_48 (by omega) (by omega)
        · skip
          have c_4 : p9 = 3 := (nI_eq (by omega) (by omega)).mp c_4
          refine lv_iconst (v := 5) hx hb dL_worth_34 (by decide) ?_
          refine lv_goto (tgt := 48) hx hb dL_worth_35 (by decide) ?_
          exact rRetIw hx hb hr hw (by refine ⟨?_, rfl⟩; rcases (show p9 = 0 ∨ p9 = 1 ∨ p9 = 2 ∨ p9 = 3 ∨ p9 = 4 ∨ p9 = 5 by omega) with rfl | rfl | rfl | rfl | rfl | rfl <;> first | rfl | (exfalso; omega)) hlocks dL_worth_48 (by omega) (by omega)
      · skip
        have c_3 : p9 = 2 := (nI_eq (by omega) (by omega)).mp c_3
        refine lv_bipush (v := 6) hx hb dL_worth_24 (by decide) ?_
        refine lv_goto (tgt := 48) hx hb dL_worth_26 (by decide) ?_
        exact rRetIw hx hb hr hw (by refine ⟨?_, rfl⟩; rcases (show p9 = 0 ∨ p9 = 1 ∨ p9 = 2 ∨ p9 = 3 ∨ p9 = 4 ∨ p9 = 5 by omega) with rfl | rfl | rfl | rfl | rfl | rfl <;> first | rfl | (exfalso; omega)) hlocks dL_worth_48 (by omega) (by omega)
    · skip
      have c_2 : p9 = 1 := (nI_eq (by omega) (by omega)).mp c_2
      refine lv_bipush (v := 8) hx hb dL_worth_14 (by decide) ?_
      refine lv_goto (tgt := 48) hx hb dL_worth_16 (by decide) ?_
      exact rRetIw hx hb hr hw (by refine ⟨?_, rfl⟩; rcases (show p9 = 0 ∨ p9 = 1 ∨ p9 = 2 ∨ p9 = 3 ∨ p9 = 4 ∨ p9 = 5 by omega) with rfl | rfl | rfl | rfl | rfl | rfl <;> first | rfl | (exfalso; omega)) hlocks dL_worth_48 (by omega) (by omega)
  · skip
    have c_1 : p9 = 0 := n0_nef (by omega) c_1
    refine lv_bipush (v := 10) hx hb dL_worth_4 (by decide) ?_
    refine lv_goto (tgt := 48) hx hb dL_worth_6 (by decide) ?_
    exact rRetIw hx hb hr hw (by refine ⟨?_, rfl⟩; rcases (show p9 = 0 ∨ p9 = 1 ∨ p9 = 2 ∨ p9 = 3 ∨ p9 = 4 ∨ p9 = 5 by omega) with rfl | rfl | rfl | rfl | rfl | rfl <;> first | rfl | (exfalso; omega)) hlocks dL_worth_48 (by omega) (by omega)
