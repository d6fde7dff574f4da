/-! a passing, as the law keeps it and as the class does -/
def PKx (σ : St) (g z G9 k lp db ga : Nat) : Prop := (σ 4 9 = nI G9 ∧ G9 ≤ 9) ∧ (σ 6 k = nI lp ∧ lp ≤ G9) ∧ (σ 7 k = nI db ∧ db ≤ z) ∧ (σ 5 k = nI ga ∧ ga < g) ∧ σ 32 (6 * k + 1) = nI ga ∧ σ 32 (6 * k + 2) = nI lp ∧ σ 32 (6 * k + 3) = nI db ∧ (σ 1 3 &&& (σ 32 (6 * k + 4) ^^^ (-1)) = misA σ 4 k ∧ σ 32 (6 * k + 4) &&& 1 = 0) ∧ σ 32 (6 * k + 5) = nI (if lp = G9 then 1 else 0) ∧ σ 33 4 = nI G9
section PASS
variable {σ τ W : St} {g n e z d t j k y lp db ga G9 : Nat} {b : Bool}
theorem pkx (hA : PAll σ g n e z d t b j) (hb : b = true) (hk : k < 6) : ∃ G9 lp db ga : Nat, PKx σ g z G9 k lp db ga := by
  obtain ⟨G9, ⟨p1, p2, p3, p4, p5⟩, p6, -⟩ := prace hA hb
  obtain ⟨lp, db, mo, aw, ga, a1, a2, a3, a4, a5, a6, a7, a8, a9, a10, a11, a12⟩ := p6 k hk
  exact ⟨G9, lp, db, ga, ⟨p3, p2⟩, a1, a2, a5, a8, a9, a10, a11, a12, p4⟩
theorem pmom (hA : PAll σ g n e z d t b j) (hb : b = true) : σ 4 10 = nI z := by
  obtain ⟨G9, ⟨p1, p2, p3, p4, p5⟩, -⟩ := prace hA hb
  exact p5
theorem lp_lt (hX : PKx σ g z G9 k lp db ga) (hf : finB σ 4 k = false) : lp < G9 := by
  obtain ⟨x1, x2, -⟩ := hX
  unfold finB at hf
  rw [show σ (4 + 2) k = nI lp from x2.1, x1.1] at hf
  have h2 : decide (nI lp < nI G9) = true := by
    cases q : decide (nI lp < nI G9)
    · rw [q] at hf; exact absurd hf (by decide)
    · rfl
  exact (nI_ltI (by omega) (by omega)).mp (of_decide_eq_true h2)
theorem cp_no (hA : PAll σ g n e z d t b j) (hX : b = true → σ 5 k = nI ga ∧ ga < g) (hy : y < g) (h : b = false ∨ finB σ 4 k = true ∨ (b = true ∧ stuA σ k = nI (stN σ k) ∧ stN σ k < 6 ∧ ¬ stN σ k = 0) ∨ (b = true ∧ σ 31 (12 * ga + y) ≤ 0 ∧ σ 31 (12 * y + ga) ≤ 0)) : canP σ b z k y = false := by
  unfold canP
  rcases h with h | h | ⟨-, h, h1, h2⟩ | ⟨hb, h, h2⟩
  · rw [h]; rfl
  · rw [h, Bool.not_true, Bool.and_false]; rfl
  · rw [h, decide_eq_false (nI_nle (by omega) (by omega)), Bool.and_false]; rfl
  · obtain ⟨x1, x2⟩ := hX hb
    have hg : gN σ 4 k = ga := by
      show (σ 5 k).toNatClampNeg = ga
      rw [x1]; exact nI_clamp (by have := (pg hA).2.1; omega)
    unfold wayB
    rw [hg, hs_ld hA x2 hy, hs_ld hA hy x2, decide_eq_true h, decide_eq_true h2]
    simp
theorem cp_y (hA : PAll σ g n e z d t b j) (hj : j < 100) (hX : PKx σ g z G9 k lp db ga) (hy : y < g) (hb : b = true) (hf : finB σ 4 k = false) (hs : stuA σ k = nI (stN σ k)) (hs0 : stN σ k = 0) (h : ¬ σ 31 (12 * ga + y) ≤ 0 ∨ ¬ σ 31 (12 * y + ga) ≤ 0) : canP σ b z k y = true := by
  obtain ⟨x1, x2, x3, x4, -⟩ := hX
  have hz : z ≤ j := hA.2.2.2.2.2.2.2
  have hg : gN σ 4 k = ga := by
    show (σ 5 k).toNatClampNeg = ga
    rw [x4.1]; exact nI_clamp (by have := (pg hA).2.1; omega)
  unfold canP wayB
  rw [hb, hf, hs, hs0, hg, hs_ld hA x4.2 hy, hs_ld hA hy x4.2, decide_eq_true (show z < 512 by omega), decide_eq_true (show nI 0 ≤ 0 by decide)]
  rcases h with h | h
  · rw [decide_eq_false h]; simp
  · rw [decide_eq_false h]; simp
theorem m_o {c : Nat} (h4 : c ≠ 4) (h9 : c ≠ 9) (h5 : c ≠ 5) (h20 : c ≠ 20) (h21 : c ≠ 21) (h22 : c ≠ 22) : mv0 (noSt σ z k y) 4 k y c = σ c := by
  unfold mv0
  rw [upA_n h5, upA_n h9, upA_n h4, noSt_o h20 h21 h22]
theorem m_9 (h : σ 4 10 = nI z) : mv0 (noSt σ z k y) 4 k y 9 = upd (σ 9) k (nI (z + 1)) := by
  unfold mv0
  rw [upA_n (by decide), show (4 + 5) = 9 from rfl, upA_s, noSt_o (by decide) (by decide) (by decide), noSt_o (by decide) (by decide) (by decide), h, nI_1]
theorem w_b (hg : ga < 12) (h5 : σ 5 k = nI ga) (h : ldB (σ 2) ga y = false) : mvS (noSt σ z k y) 4 k y = bkS (mv0 (noSt σ z k y) 4 k y) 4 k ga ∧ mvR (noSt σ z k y) 4 k y = 3 := by
  have hgn : gN (noSt σ z k y) 4 k = ga := by
    show (noSt σ z k y 5 k).toNatClampNeg = ga
    rw [noSt_o (by decide) (by decide) (by decide), h5]; exact nI_clamp (by omega)
  unfold mvS mvR
  rw [hgn, noSt_o (by decide) (by decide) (by decide), h]
  exact ⟨if_neg (by decide), if_neg (by decide)⟩
theorem w_f (hg : ga < 12) (h5 : σ 5 k = nI ga) (h : ldB (σ 2) ga y = true) (hy : ¬ y = 0) : mvS (noSt σ z k y) 4 k y = rgS (mv0 (noSt σ z k y) 4 k y) 4 k y ∧ mvR (noSt σ z k y) 4 k y = 0 := by
  have hgn : gN (noSt σ z k y) 4 k = ga := by
    show (noSt σ z k y 5 k).toNatClampNeg = ga
    rw [noSt_o (by decide) (by decide) (by decide), h5]; exact nI_clamp (by omega)
  unfold mvS mvR
  rw [hgn, noSt_o (by decide) (by decide) (by decide), h, if_pos rfl, if_pos rfl, if_neg hy, if_neg hy]
  exact ⟨rfl, rfl⟩
theorem w_l (hg : ga < 12) (h5 : σ 5 k = nI ga) (h : ldB (σ 2) ga 0 = true) : mvS (noSt σ z k 0) 4 k 0 = crS (mv0 (noSt σ z k 0) 4 k 0) 4 k ∧ mvR (noSt σ z k 0) 4 k 0 = crR (mv0 (noSt σ z k 0) 4 k 0) 4 k := by
  have hgn : gN (noSt σ z k 0) 4 k = ga := by
    show (noSt σ z k 0 5 k).toNatClampNeg = ga
    rw [noSt_o (by decide) (by decide) (by decide), h5]; exact nI_clamp (by omega)
  unfold mvS mvR
  rw [hgn, noSt_o (by decide) (by decide) (by decide), h, if_pos rfl, if_pos rfl, if_pos rfl, if_pos rfl]
  exact ⟨rfl, rfl⟩
theorem W32 : mvS (noSt σ z k y) 4 k y 32 = σ 32 := by rw [mvS_o (by omega), noSt_o (by decide) (by decide) (by decide)]
/-- backwards -/
theorem pass_b {db' : Nat} (hA : PAll σ g n e z d t b j) (hG : PGat σ g) (hj : j < 100) (hb : b = true) (hk : k < 6) (hy : y < g) (hX : PKx σ g z G9 k lp db ga) (hf : σ 31 (12 * ga + y) ≤ 0) (hdb : db' = db + (if ga = 0 then 1 else 0))
    (hc : ∀ c, c ≠ 32 → τ c = mvS (noSt σ z k y) 4 k y c) (h32 : τ 32 = upd (upd (upd (mvS (noSt σ z k y) 4 k y 32) (6 * k + 1) (nI y)) (6 * k + 3) (nI db')) (6 * k + 4) (σ 32 (6 * k + 4) &&& (((1 : Int32) <<< (nI ga &&& 31)) ^^^ (-1)))) : PIn τ (j + 1) := by
  subst hb
  have hm := pmom hA rfl
  obtain ⟨x1, x2, x3, x4, x5, x6, x7, x8, x9, x10⟩ := id hX
  have hg5 := (pg hA).2.1
  have hld : ldB (σ 2) ga y = false := by rw [hs_ld hA x4.2 hy, decide_eq_true hf]; rfl
  obtain ⟨eW, -⟩ := w_b (z := z) (by omega) x4.1 hld
  have m6 : mv0 (noSt σ z k y) 4 k y 6 = σ 6 := m_o (by decide) (by decide) (by decide) (by decide) (by decide) (by decide)
  have m7 : mv0 (noSt σ z k y) 4 k y 7 = σ 7 := m_o (by decide) (by decide) (by decide) (by decide) (by decide) (by decide)
  have m8 : mv0 (noSt σ z k y) 4 k y 8 = σ 8 := m_o (by decide) (by decide) (by decide) (by decide) (by decide) (by decide)
  have m9 := m_9 (k := k) (y := y) hm
  rw [W32] at h32
  by_cases q : ga = 0
  · subst q
    rw [if_pos rfl] at hdb
    have eb : bkS (mv0 (noSt σ z k y) 4 k y) 4 k 0 = upA (mv0 (noSt σ z k y) 4 k y) 7 (upd (σ 7) k (nI (db + 1))) := by
      unfold bkS
      rw [if_pos rfl, show (4 + 3) = 7 from rfl, m7, x3.1, nI_1]
    rw [eb] at eW
    refine po_pass (v8 := σ 8 k) (kp := σ 32 (6 * k + 4)) hA hG (by omega) hk hy rfl x1.1 x1.2 hc (lp := lp) (db := db + 1) ?_ x2.2 ?_ (by omega) ?_ ?_ ?_ ?_ ?_ ?_ x8.1 x8.2 ?_ ?_
    · rw [eW, upA_n (by decide), m6]; exact upd_v x2.1
    · rw [eW, upA_s]
    · rw [eW, upA_n (by decide), m8]; exact upd_v rfl
    · rw [eW, upA_n (by decide), m9]
    · rw [h32, pk_un (by omega), pk_un (by omega), pk_us]
    · rw [h32, pk_un (by omega), pk_un (by omega), pk_un (by omega)]; exact x6
    · rw [h32, pk_un (by omega), pk_us, hdb]
    · rw [h32, pk_us]; exact bt_0 x8.2
    · rw [h32, pk_un (by omega), pk_un (by omega), pk_un (by omega)]; exact x9
    · intro a c a1 a2 a3 a4
      rw [h32, pk_un (by omega), pk_un (by omega), pk_un (by omega)]
  · rw [if_neg q] at hdb
    have eb : bkS (mv0 (noSt σ z k y) 4 k y) 4 k ga = upA (mv0 (noSt σ z k y) 4 k y) 8 (upd (σ 8) k (σ 8 k &&& (((1 : Int32) <<< (nI ga &&& 31)) ^^^ (-1)))) := by
      unfold bkS
      rw [if_neg q, show (4 + 4) = 8 from rfl, m8]
    rw [eb] at eW
    refine po_pass (v8 := σ 8 k &&& (((1 : Int32) <<< (nI ga &&& 31)) ^^^ (-1))) (kp := σ 32 (6 * k + 4) &&& (((1 : Int32) <<< (nI ga &&& 31)) ^^^ (-1))) hA hG (by omega) hk hy rfl x1.1 x1.2 hc (lp := lp) (db := db) ?_ x2.2 ?_ (by omega) ?_ ?_ ?_ ?_ ?_ ?_ (mi_an x8.1) (bt_and x8.2) ?_ ?_
    · rw [eW, upA_n (by decide), m6]; exact upd_v x2.1
    · rw [eW, upA_n (by decide), m7]; exact upd_v x3.1
    · rw [eW, upA_s]
    · rw [eW, upA_n (by decide), m9]
    · rw [h32, pk_un (by omega), pk_un (by omega), pk_us]
    · rw [h32, pk_un (by omega), pk_un (by omega), pk_un (by omega)]; exact x6
    · rw [h32, pk_un (by omega), pk_us, hdb]; rfl
    · rw [h32, pk_us]
    · rw [h32, pk_un (by omega), pk_un (by omega), pk_un (by omega)]; exact x9
    · intro a c a1 a2 a3 a4
      rw [h32, pk_un (by omega), pk_un (by omega), pk_un (by omega)]
/-- to another gate -/
theorem pass_f {kx : Int32} (hA : PAll σ g n e z d t b j) (hG : PGat σ g) (hj : j < 100) (hb : b = true) (hk : k < 6) (hy : y < g) (hX : PKx σ g z G9 k lp db ga) (hf : ¬ σ 31 (12 * ga + y) ≤ 0) (h0 : 0 < y) (hkx : kx = if db = 0 then (1 : Int32) <<< (nI y &&& 31) else 0)
    (hc : ∀ c, c ≠ 32 → τ c = mvS (noSt σ z k y) 4 k y c) (h32 : τ 32 = upd (upd (mvS (noSt σ z k y) 4 k y 32) (6 * k + 1) (nI y)) (6 * k + 4) (σ 32 (6 * k + 4) ||| kx)) : PIn τ (j + 1) := by
  subst hb
  have hm := pmom hA rfl
  obtain ⟨x1, x2, x3, x4, x5, x6, x7, x8, x9, x10⟩ := id hX
  have hg5 := (pg hA).2.1
  have hd9 := x3.2
  have hz9 : z ≤ j := hA.2.2.2.2.2.2.2
  have hld : ldB (σ 2) ga y = true := by rw [hs_ld hA x4.2 hy, decide_eq_false hf]; rfl
  obtain ⟨eW, -⟩ := w_f (z := z) (by omega) x4.1 hld (by omega)
  have m1 : mv0 (noSt σ z k y) 4 k y 1 = σ 1 := m_o (by decide) (by decide) (by decide) (by decide) (by decide) (by decide)
  have m6 : mv0 (noSt σ z k y) 4 k y 6 = σ 6 := m_o (by decide) (by decide) (by decide) (by decide) (by decide) (by decide)
  have m7 : mv0 (noSt σ z k y) 4 k y 7 = σ 7 := m_o (by decide) (by decide) (by decide) (by decide) (by decide) (by decide)
  have m8 : mv0 (noSt σ z k y) 4 k y 8 = σ 8 := m_o (by decide) (by decide) (by decide) (by decide) (by decide) (by decide)
  have m9 := m_9 (k := k) (y := y) hm
  rw [W32] at h32
  have k1 : τ 32 (6 * k + 1) = nI y := by rw [h32, pk_un (by omega), pk_us]
  have k2 : τ 32 (6 * k + 2) = nI lp := by rw [h32, pk_un (by omega), pk_un (by omega)]; exact x6
  have k3 : τ 32 (6 * k + 3) = nI db := by rw [h32, pk_un (by omega), pk_un (by omega)]; exact x7
  have k5 : τ 32 (6 * k + 5) = nI (if lp = G9 then 1 else 0) := by rw [h32, pk_un (by omega), pk_un (by omega)]; exact x9
  have ko : ∀ a c, a < 6 → 1 ≤ c → c ≤ 5 → a ≠ k → τ 32 (6 * a + c) = σ 32 (6 * a + c) := fun a c a1 a2 a3 a4 => by
    rw [h32, pk_un (by omega), pk_un (by omega)]
  have h7 : mv0 (noSt σ z k y) 4 k y (4 + 3) k = nI db := by rw [show (4 + 3) = 7 from rfl, m7]; exact x3.1
  by_cases q : rgC (mv0 (noSt σ z k y) 4 k y) 4 k y
  · have e1 := rgS_t q.1 q.2
    rw [← e1, show (4 + 4) = 8 from rfl, m8] at eW
    have hd0 : db = 0 := by
      have := h7.symm.trans q.2
      exact (nI_eq (b := 0) (by omega) (by decide)).mp (this.trans nI_0.symm)
    rw [if_pos hd0] at hkx
    refine po_pass (v8 := σ 8 k ||| ((1 : Int32) <<< (nI y &&& 31))) (kp := σ 32 (6 * k + 4) ||| kx) hA hG (by omega) hk hy rfl x1.1 x1.2 hc (lp := lp) (db := db) ?_ x2.2 ?_ (by omega) ?_ ?_ k1 k2 k3 ?_ ?_ ?_ k5 ko
    · rw [eW, upA_n (by decide), m6]; exact upd_v x2.1
    · rw [eW, upA_n (by decide), m7]; exact upd_v x3.1
    · rw [eW, upA_s]
    · rw [eW, upA_n (by decide), m9]
    · rw [h32, pk_us]
    · rw [hkx]; exact mi_or x8.1
    · rw [hkx]; exact bt_or x8.2 h0 (by omega)
  · have e1 := rgS_f q
    rw [← e1] at eW
    refine po_pass (v8 := σ 8 k) (kp := σ 32 (6 * k + 4) ||| kx) hA hG (by omega) hk hy rfl x1.1 x1.2 hc (lp := lp) (db := db) ?_ x2.2 ?_ (by omega) ?_ ?_ k1 k2 k3 ?_ ?_ ?_ k5 ko
    · rw [eW, m6]; exact upd_v x2.1
    · rw [eW, m7]; exact upd_v x3.1
    · rw [eW, m8]; exact upd_v rfl
    · rw [eW, m9]
    · rw [h32, pk_us]
    · by_cases q0 : db = 0
      · rw [if_pos q0] at hkx
        have hN : σ 1 3 &&& ((1 : Int32) <<< (nI y &&& 31)) = 0 := by
          by_cases q1 : σ 1 3 &&& ((1 : Int32) <<< (nI y &&& 31)) = 0
          · exact q1
          · exact absurd ⟨by rw [m1]; exact q1, by rw [h7, q0]; rfl⟩ q
        rw [hkx, mi_or0 hN]; exact x8.1
      · rw [if_neg q0] at hkx
        rw [hkx, or_0]; exact x8.1
    · by_cases q0 : db = 0
      · rw [if_pos q0] at hkx
        rw [hkx]; exact bt_or x8.2 h0 (by omega)
      · rw [if_neg q0] at hkx
        rw [hkx, or_0]; exact x8.2
/-- over the line -/
theorem cr_v (hX : PKx σ g z G9 k lp db ga) (hz : z < 1000) (h33 : σ 33 1 = σ 1 3) : crR (mv0 (noSt σ z k 0) 4 k 0) 4 k = (if db = 0 then (if σ 33 1 &&& (σ 32 (6 * k + 4) ^^^ (-1)) = 0 then (if lp + 1 < G9 then 1 else 5) else 2) else 4) := by
  obtain ⟨x1, x2, x3, x4, x5, x6, x7, x8, x9, x10⟩ := id hX
  have hd9 := x3.2
  have hl9 := x2.2
  have hg9 := x1.2
  have m1 : mv0 (noSt σ z k 0) 4 k 0 1 = σ 1 := m_o (by decide) (by decide) (by decide) (by decide) (by decide) (by decide)
  have m6 : mv0 (noSt σ z k 0) 4 k 0 (4 + 2) = σ 6 := m_o (by decide) (by decide) (by decide) (by decide) (by decide) (by decide)
  have m7 : mv0 (noSt σ z k 0) 4 k 0 (4 + 3) = σ 7 := m_o (by decide) (by decide) (by decide) (by decide) (by decide) (by decide)
  have m8 : mv0 (noSt σ z k 0) 4 k 0 (4 + 4) = σ 8 := m_o (by decide) (by decide) (by decide) (by decide) (by decide) (by decide)
  have m49 : mv0 (noSt σ z k 0) 4 k 0 4 9 = σ 4 9 := by
    unfold mv0
    rw [upA_n (by decide), upA_n (by decide), upA_s, pk_un (by decide), noSt_o (by decide) (by decide) (by decide)]
  unfold crR misA
  rw [m7, m1, m8, m6, m49, x3.1, x2.1, x1.1, h33, x8.1, nI_1]
  unfold misA
  by_cases q : db = 0
  · subst q
    rw [if_pos (show nI 0 ≤ 0 by decide), if_pos rfl]
    by_cases q2 : σ 1 3 &&& (σ (4 + 4) k ^^^ (-1)) = 0
    · rw [if_pos q2, if_pos (show σ 1 3 &&& (σ 8 k ^^^ (-1)) = 0 from q2)]
      by_cases q3 : lp + 1 < G9
      · rw [if_pos q3, if_pos ((nI_ltI (by omega) (by omega)).mpr q3)]
      · rw [if_neg q3, if_neg (fun h => q3 ((nI_ltI (by omega) (by omega)).mp h))]
    · rw [if_neg q2, if_neg (show ¬ σ 1 3 &&& (σ 8 k ^^^ (-1)) = 0 from q2)]
  · rw [if_neg (nI_nle (by omega) (by omega)), if_neg q]
theorem pass_l {lp' db' fi : Nat} (hA : PAll σ g n e z d t b j) (hG : PGat σ g) (hj : j < 100) (hb : b = true) (hk : k < 6) (hX : PKx σ g z G9 k lp db ga) (hfi : finB σ 4 k = false) (hf : ¬ σ 31 (12 * ga + 0) ≤ 0)
    (hdb : db' = db - 1) (hlp : lp' = if db = 0 ∧ σ 33 1 &&& (σ 32 (6 * k + 4) ^^^ (-1)) = 0 then lp + 1 else lp) (hf5 : fi = if lp' = G9 then 1 else 0)
    (hc : ∀ c, c ≠ 32 → τ c = mvS (noSt σ z k 0) 4 k 0 c) (k1 : τ 32 (6 * k + 1) = nI 0) (k2 : τ 32 (6 * k + 2) = nI lp') (k3 : τ 32 (6 * k + 3) = nI db') (k4 : τ 32 (6 * k + 4) = 0) (k5 : τ 32 (6 * k + 5) = nI fi) (ko : ∀ a c, a < 6 → 1 ≤ c → c ≤ 5 → a ≠ k → τ 32 (6 * a + c) = mvS (noSt σ z k 0) 4 k 0 32 (6 * a + c)) : PIn τ (j + 1) := by
  subst hb
  have hm := pmom hA rfl
  have hlt := lp_lt hX hfi
  obtain ⟨x1, x2, x3, x4, x5, x6, x7, x8, x9, x10⟩ := id hX
  have hg5 := (pg hA).2
  have h33 : σ 33 1 = σ 1 3 := hA.2.1.2.1
  have hz : z ≤ j := hA.2.2.2.2.2.2.2
  have hld : ldB (σ 2) ga 0 = true := by rw [hs_ld hA x4.2 (by omega), decide_eq_false hf]; rfl
  obtain ⟨eW, -⟩ := w_l (z := z) (by omega) x4.1 hld
  have m1 : mv0 (noSt σ z k 0) 4 k 0 1 = σ 1 := m_o (by decide) (by decide) (by decide) (by decide) (by decide) (by decide)
  have m6 : mv0 (noSt σ z k 0) 4 k 0 6 = σ 6 := m_o (by decide) (by decide) (by decide) (by decide) (by decide) (by decide)
  have m7 : mv0 (noSt σ z k 0) 4 k 0 7 = σ 7 := m_o (by decide) (by decide) (by decide) (by decide) (by decide) (by decide)
  have m8 : mv0 (noSt σ z k 0) 4 k 0 8 = σ 8 := m_o (by decide) (by decide) (by decide) (by decide) (by decide) (by decide)
  have m9 := m_9 (k := k) (y := 0) hm
  have ko' : ∀ a c, a < 6 → 1 ≤ c → c ≤ 5 → a ≠ k → τ 32 (6 * a + c) = σ 32 (6 * a + c) := fun a c a1 a2 a3 a4 => by rw [ko a c a1 a2 a3 a4, W32]
  have hmis : misA (mv0 (noSt σ z k 0) 4 k 0) 4 k = σ 33 1 &&& (σ 32 (6 * k + 4) ^^^ (-1)) := by
    rw [h33, x8.1]
    unfold misA
    rw [m1, show (4 + 4) = 8 from rfl, m8]
  have h73 : mv0 (noSt σ z k 0) 4 k 0 (4 + 3) k = nI db := by rw [show (4 + 3) = 7 from rfl, m7]; exact x3.1
  have hz0 : σ 1 3 &&& ((0 : Int32) ^^^ (-1)) = σ 1 3 &&& ((0 : Int32) ^^^ (-1)) := rfl
  by_cases q : db = 0
  · have hle : mv0 (noSt σ z k 0) 4 k 0 (4 + 3) k ≤ 0 := by rw [h73, q]; decide
    by_cases q2 : σ 33 1 &&& (σ 32 (6 * k + 4) ^^^ (-1)) = 0
    · rw [if_pos ⟨q, q2⟩] at hlp
      have eb : crS (mv0 (noSt σ z k 0) 4 k 0) 4 k = upA (upA (mv0 (noSt σ z k 0) 4 k 0) 8 (upd (σ 8) k 0)) 6 (upd (σ 6) k (nI (lp + 1))) := by
        unfold crS
        rw [if_pos hle, hmis, if_pos q2, show (4 + 4) = 8 from rfl, show (4 + 2) = 6 from rfl, m8, m6, x2.1, nI_1]
      rw [eb] at eW
      refine po_pass (v8 := 0) (kp := 0) hA hG (by omega) hk (by omega) rfl x1.1 x1.2 hc (lp := lp') (db := db') ?_ (by omega) ?_ (by omega) ?_ ?_ k1 k2 k3 k4 rfl (by decide) (by rw [k5, hf5]) ko'
      · rw [eW, upA_s, hlp]
      · rw [eW, upA_n (by decide), upA_n (by decide), m7]; exact upd_v (by rw [x3.1, hdb, q])
      · rw [eW, upA_n (by decide), upA_s]
      · rw [eW, upA_n (by decide), upA_n (by decide), m9]
    · rw [if_neg (fun h => q2 h.2)] at hlp
      have eb : crS (mv0 (noSt σ z k 0) 4 k 0) 4 k = upA (mv0 (noSt σ z k 0) 4 k 0) 8 (upd (σ 8) k 0) := by
        unfold crS
        rw [if_pos hle, hmis, if_neg q2, show (4 + 4) = 8 from rfl, m8]
      rw [eb] at eW
      refine po_pass (v8 := 0) (kp := 0) hA hG (by omega) hk (by omega) rfl x1.1 x1.2 hc (lp := lp') (db := db') ?_ (by omega) ?_ (by omega) ?_ ?_ k1 k2 k3 k4 rfl (by decide) (by rw [k5, hf5]) ko'
      · rw [eW, upA_n (by decide), m6]; exact upd_v (by rw [hlp]; exact x2.1)
      · rw [eW, upA_n (by decide), m7]; exact upd_v (by rw [x3.1, hdb, q])
      · rw [eW, upA_s]
      · rw [eW, upA_n (by decide), m9]
  · have hle : ¬ mv0 (noSt σ z k 0) 4 k 0 (4 + 3) k ≤ 0 := by rw [h73]; exact nI_nle (by omega) (by omega)
    rw [if_neg (fun h => q h.1)] at hlp
    have eb : crS (mv0 (noSt σ z k 0) 4 k 0) 4 k = upA (upA (mv0 (noSt σ z k 0) 4 k 0) 8 (upd (σ 8) k 0)) 7 (upd (σ 7) k (nI db')) := by
      unfold crS
      rw [if_neg hle, show (4 + 4) = 8 from rfl, show (4 + 3) = 7 from rfl, m8, m7, x3.1, hdb, show (1 : Int32) = nI 1 from rfl, pk_sub (by omega)]
    rw [eb] at eW
    refine po_pass (v8 := 0) (kp := 0) hA hG (by omega) hk (by omega) rfl x1.1 x1.2 hc (lp := lp') (db := db') ?_ (by omega) ?_ (by omega) ?_ ?_ k1 k2 k3 k4 rfl (by decide) (by rw [k5, hf5]) ko'
    · rw [eW, upA_n (by decide), upA_n (by decide), m6]; exact upd_v (by rw [hlp]; exact x2.1)
    · rw [eW, upA_s]
    · rw [eW, upA_n (by decide), upA_s]
    · rw [eW, upA_n (by decide), upA_n (by decide), m9]
end PASS
