/-! what the law's steps leave -/
def PGat (σ : St) (g : Nat) : Prop := ∀ k, k < 6 → ∃ ga : Nat, ga < g ∧ σ 32 (6 * k + 1) = nI ga
def PIn (σ : St) (j : Nat) : Prop := ∃ (g n e z d t : Nat) (b : Bool), PAll σ g n e z d t b j ∧ PGat σ g
section OPS
variable {σ τ : St} {g n e z d t j : Nat} {b : Bool}
theorem po_same (hA : PAll σ g n e z d t b j) (hG : PGat σ g) : PIn σ (j + 1) := ⟨g, n, e, z, d, t, b, PAll_s hA, hG⟩
theorem pst_cases (hA : PAll σ g n e z d t b j) : (b = false ∧ e = 0 ∧ σ 33 5 = 0) ∨ ∃ s9 : Nat, σ 33 5 = nI s9 ∧ 0 < s9 ∧ s9 ≤ 8 ∧ nev b e = false := by
  have h := pst hA
  have h8 := (pe hA).2
  cases hb : b
  · rw [hb, if_neg (by decide), Nat.add_zero] at h
    by_cases q : e = 0
    · exact Or.inl ⟨rfl, q, by rw [h, q]; rfl⟩
    · exact Or.inr ⟨e, h, by omega, h8, by unfold nev; rw [decide_eq_false q]; rfl⟩
  · have h7 := pe8 hA hb
    rw [hb, if_pos rfl] at h
    exact Or.inr ⟨e + 1, h, by omega, by omega, rfl⟩
theorem po_gate {v : Bool} {x : Int32} (hA : PAll σ g n e z d t b j) (hG : PGat σ g) (hb : b = false) (hg4 : g < 5) (hx : x = if v = true then σ 33 1 ||| ((1 : Int32) <<< (nI g &&& 31)) else σ 33 1 ||| 0) : PIn (stGate (upA (upA σ 33 (upd (σ 33) 1 x)) 33 (upd (upA σ 33 (upd (σ 33) 1 x) 33) 0 (nI (g + 1)))) v g) (j + 1) := by
  obtain ⟨⟨hC1, hC2, hC3, hC4, hC5, hC6, hC7, hC8⟩, ⟨n1, n2, n3, n4, n5, n6, n7, n8, n9, n10⟩, ⟨w1, w2, w3⟩, hcu, hte, hra, ht, hz⟩ := hA
  refine ⟨g + 1, n, e, z, d, t, b, ⟨⟨⟨rfl, by omega, by omega⟩, hC2, hC3, hC4, hC5, hC6, hC7, hC8⟩, ⟨rfl, ?_, n3, n4, n5, n6, n7, n8, by omega, n10⟩, ⟨wOk_s w1, FX_s w1 (by omega) w2, w3⟩, hcu, hte, fun h => absurd (hb.symm.trans h) (by decide), by omega, by omega⟩, fun k hk => ?_⟩
  · show x = (if v = true then σ 1 3 ||| ((1 : Int32) <<< (nI g &&& 31)) else σ 1 3)
    rw [hx, n2]
    cases v
    · exact or_0 _
    · rfl
  · obtain ⟨ga, a1, a2⟩ := hG k hk
    exact ⟨ga, by omega, a2⟩
theorem po_way {x y w : Nat} (hA : PAll σ g n e z d t b j) (hG : PGat σ g) (hb : b = false) (hx : x < g) (hy : y < g) (hd : x < y ∨ (y = 0 ∧ 0 < x)) (hw : w ≤ 100) : PIn (wySt (upA σ 31 (upd (σ 31) (12 * x + y) (nI w))) g x y (nI w)) (j + 1) := by
  obtain ⟨⟨hC1, hC2, hC3, hC4, hC5, hC6, hC7, hC8⟩, ⟨n1, n2, n3, n4, n5, n6, n7, n8, n9, n10⟩, ⟨w1, w2, w3⟩, hcu, hte, hra, ht, hz⟩ := hA
  have hw9 : wOk (upd (σ 2) (x * 12 + y) (nI w)) g := wOk_u w1 hx hy hC1.2.2 hw hd
  refine ⟨g, n, e, z, d, t, b, ⟨⟨hC1, hC2, hC3, hC4, hC5, hC6, hC7, hC8⟩, ⟨n1, n2, n3, n4, n5, n6, n7, n8, n9, n10⟩, ⟨hw9, FX_mr hw9 hC1.2.2 _, fun i hi => ?_⟩, hcu, hte, fun h => absurd (hb.symm.trans h) (by decide), by omega, by omega⟩, hG⟩
  show upd (σ 31) (12 * x + y) (nI w) i = upd (σ 2) (x * 12 + y) (nI w) i
  rw [Nat.mul_comm]
  unfold upd
  split
  · rfl
  · exact w3 i hi
theorem po_kart {q : Nat} (hA : PAll σ g n e z d t b j) (hG : PGat σ g) (hb : b = false) (he : e = 0) (hn : n < 6) (hq : q < 4) : PIn (ktSt (upA (upA σ 32 (upd (σ 32) (6 * n) (nI q))) 33 (upd (upA σ 32 (upd (σ 32) (6 * n) (nI q)) 33) 2 (nI (n + 1)))) n (nI q)) (j + 1) := by
  obtain ⟨⟨hC1, hC2, hC3, hC4, hC5, hC6, hC7, hC8⟩, ⟨n1, n2, n3, n4, n5, n6, n7, n8, n9, n10⟩, ⟨w1, w2, w3⟩, hcu, hte, hra, ht, hz⟩ := hA
  refine ⟨g, n + 1, e, z, d, t, b, ⟨⟨hC1, ⟨rfl, by omega⟩, hC3, hC4, hC5, hC6, fun h => absurd (hb.symm.trans h) (by decide), hC8⟩, ⟨n1, n2, rfl, n4, n5, n6, n7, n8, n9, fun h => absurd (hb.symm.trans h) (by decide)⟩, ⟨w1, w2, w3⟩, fun i hi => absurd hi (by omega), fun k hk => ?_, fun h => absurd (hb.symm.trans h) (by decide), by omega, by omega⟩, fun k hk => ?_⟩
  · show ∃ q9 : Nat, q9 < 4 ∧ upd (σ 30) n (nI q) k = nI q9
    by_cases c : k = n
    · subst c
      exact ⟨q, hq, pk_us⟩
    · rw [pk_un c]
      exact hte k (by omega)
  · obtain ⟨ga, a1, a2⟩ := hG k hk
    refine ⟨ga, a1, ?_⟩
    show upd (σ 32) (6 * n) (nI q) (6 * k + 1) = nI ga
    rw [pk_un (by omega)]
    exact a2
theorem po_idle {q : Nat} (hA : PAll σ g n e z d t b j) (hG : PGat σ g) (hq : q ≤ 100) : PIn (upA (upA σ 33 (upd (σ 33) 8 (nI (t + q)))) 0 (upd (upA σ 33 (upd (σ 33) 8 (nI (t + q))) 0) 9 (upA σ 33 (upd (σ 33) 8 (nI (t + q))) 0 9 + nI q))) (j + 1) := by
  have hA0 := hA
  obtain ⟨⟨hC1, hC2, hC3, hC4, hC5, hC6, hC7, hC8⟩, ⟨n1, n2, n3, n4, n5, n6, n7, n8, n9, n10⟩, ⟨w1, w2, w3⟩, hcu, hte, hra, ht, hz⟩ := hA
  refine ⟨g, n, e, z, d, t + q, b, ⟨⟨hC1, hC2, hC3, hC4, hC5, hC6, hC7, hC8⟩, ⟨n1, n2, n3, n4, n5, n6, n7, ⟨rfl, ?_⟩, n9, n10⟩, ⟨w1, w2, w3⟩, hcu, hte, fun h => ?_, by omega, by omega⟩, hG⟩
  · show σ 0 9 + nI q = nI (t + q)
    rw [n8.2, nI_add]
  · exact PRace_of (σ := σ) (Nat.le_add_right t q) rfl rfl rfl rfl rfl rfl rfl rfl rfl rfl rfl (P24 (σ := σ) (hra h)) (P26 (σ := σ) (Nat.le_add_right t q) (hra h)) rfl rfl (prec hA0) (hra h)
theorem po_drop {q : Nat} (hA : PAll σ g n e z d t b j) (hG : PGat σ g) (hq : q ≤ 3) : PIn (upA (upA σ 33 (upd (σ 33) 7 (nI q))) 27 (upd (upA σ 33 (upd (σ 33) 7 (nI q)) 27) 3 (nI q))) (j + 1) := by
  have hA0 := hA
  obtain ⟨⟨hC1, hC2, hC3, hC4, hC5, hC6, hC7, hC8⟩, ⟨n1, n2, n3, n4, n5, n6, n7, n8, n9, n10⟩, ⟨w1, w2, w3⟩, hcu, hte, hra, ht, hz⟩ := hA
  refine ⟨g, n, e, z, q, t, b, ⟨⟨hC1, hC2, hC3, hC4, hC5, hC6, hC7, hC8⟩, ⟨n1, n2, n3, n4, n5, n6, ⟨rfl, rfl, hq⟩, n8, n9, n10⟩, ⟨w1, w2, w3⟩, hcu, hte, fun h => ?_, by omega, by omega⟩, hG⟩
  exact PRace_of (σ := σ) (Nat.le_refl t) rfl rfl rfl rfl rfl rfl rfl rfl rfl rfl rfl (P24 (σ := σ) (hra h)) (P26 (σ := σ) (Nat.le_refl t) (hra h)) rfl rfl (prec hA0) (hra h)
/-- items drawn, used -/
theorem po_it (hA : PAll σ g n e z d t b j) (ho : ∀ c, c ≠ 23 → c ≠ 24 → c ≠ 25 → c ≠ 26 → τ c = σ c) (h24 : b = true → ∀ k, k < 6 → τ 24 k = -1 ∨ ∃ q : Nat, q < 4 ∧ τ 24 k = nI q) (h26 : b = true → ∀ k, k < 6 → ∃ aw : Nat, τ 26 k = nI aw ∧ aw ≤ t + 5) : PAll τ g n e z d t b j := by
  have H : ∀ c, c < 23 ∨ 26 < c → τ c = σ c := fun c hc => ho c (by omega) (by omega) (by omega) (by omega)
  obtain ⟨⟨hC1, hC2, hC3, hC4, hC5, hC6, hC7, hC8⟩, h2, h3, h4, h5, h6, h7, h8⟩ := id hA
  refine ⟨⟨?_, ?_, ?_, ?_, ?_, rOk_of (H (4 + 1) (by omega)) hC6, ?_, ?_⟩, ?_, ?_, ?_, ?_, fun hb => ?_, h7, h8⟩
  · rw [H 1 (by omega)]; exact hC1
  · rw [H 0 (by omega)]; exact hC2
  · rw [H 0 (by omega)]; exact hC3
  · rw [H 27 (by omega)]; exact hC4
  · rw [H 20 (by omega)]; exact hC5
  · rw [H 4 (by omega)]; exact hC7
  · rw [H 21 (by omega), H 22 (by omega)]; exact hC8
  · unfold PNum
    rw [H 33 (by omega), H 1 (by omega), H 27 (by omega), H 0 (by omega)]
    exact h2
  · unfold PTrk
    rw [H 2 (by omega), H 3 (by omega), H 31 (by omega)]
    exact h3
  · unfold PCup
    rw [H 28 (by omega), H 29 (by omega)]
    exact h4
  · unfold PTeam
    rw [H 30 (by omega)]
    exact h5
  · exact PRace_of (Nat.le_refl t) (by rw [H 0 (by omega)]) (by rw [H 1 (by omega)]) (H 2 (by omega)) (H 4 (by omega)) (H 5 (by omega)) (H 6 (by omega)) (H 7 (by omega)) (H 8 (by omega)) (H 9 (by omega)) (H 21 (by omega)) (H 22 (by omega)) (h24 hb) (h26 hb) (H 32 (by omega)) (by rw [H 33 (by omega)]) (prec hA) (h6 hb)
theorem po_setDraw {f : Nat → Int32} (hA : PAll σ g n e z d t b j) : PAll (upA σ 23 f) g n e z d t b j :=
  po_it hA (fun c h _ _ _ => upA_n h) (fun hb => by rw [upA_n (by decide)]; exact P24 (prace hA hb)) (fun hb => by rw [upA_n (by decide)]; exact P26 (Nat.le_refl t) (prace hA hb))
theorem itA_v (m x : Nat) (hx : x < 4) : ∃ q : Nat, q < 4 ∧ itA m x = nI q ∧ (m = 0 → q ≠ 3) ∧ (3 ≤ m → q ≠ 2) := by
  have h4 : x = 0 ∨ x = 1 ∨ x = 2 ∨ x = 3 := by omega
  unfold itA
  by_cases h0 : m = 0
  · rw [if_pos h0]
    rcases h4 with rfl | rfl | rfl | rfl
    · exact ⟨2, by decide, rfl, fun _ => by decide, fun h => by omega⟩
    · exact ⟨2, by decide, rfl, fun _ => by decide, fun h => by omega⟩
    · exact ⟨1, by decide, rfl, fun _ => by decide, fun h => by omega⟩
    · exact ⟨0, by decide, rfl, fun _ => by decide, fun h => by omega⟩
  · rw [if_neg h0]
    by_cases h2 : m ≤ 2
    · rw [if_pos h2]
      rcases h4 with rfl | rfl | rfl | rfl
      · exact ⟨1, by decide, rfl, fun h => absurd h h0, fun h => by omega⟩
      · exact ⟨2, by decide, rfl, fun h => absurd h h0, fun h => by omega⟩
      · exact ⟨0, by decide, rfl, fun h => absurd h h0, fun h => by omega⟩
      · exact ⟨1, by decide, rfl, fun h => absurd h h0, fun h => by omega⟩
    · rw [if_neg h2]
      rcases h4 with rfl | rfl | rfl | rfl
      · exact ⟨3, by decide, rfl, fun h => absurd h h0, fun _ => by decide⟩
      · exact ⟨0, by decide, rfl, fun h => absurd h h0, fun _ => by decide⟩
      · exact ⟨1, by decide, rfl, fun h => absurd h h0, fun _ => by decide⟩
      · exact ⟨3, by decide, rfl, fun h => absurd h h0, fun _ => by decide⟩
def kzA (f : Nat → Int32) (i : Nat) : Nat → Int32 := fun x => if x < i ∧ ¬ x % 6 = 0 then 0 else f x
theorem kzA_0 (f : Nat → Int32) : kzA f 0 = f := by
  funext x
  unfold kzA
  rw [if_neg (by omega)]
theorem kzA_s {f : Nat → Int32} {i : Nat} (h : ¬ i % 6 = 0) : upd (kzA f i) i 0 = kzA f (i + 1) := by
  funext x
  unfold upd kzA
  by_cases e : x = i
  · subst e
    rw [if_pos rfl, if_pos ⟨by omega, h⟩]
  · rw [if_neg e]
    by_cases c : x < i ∧ ¬ x % 6 = 0
    · rw [if_pos c, if_pos ⟨by omega, c.2⟩]
    · rw [if_neg c, if_neg (fun q => c ⟨by omega, q.2⟩)]
theorem kzA_k {f : Nat → Int32} {i : Nat} (h : i % 6 = 0) : upd (kzA f i) i (kzA f i i) = kzA f (i + 1) := by
  rw [upd_self]
  funext x
  unfold kzA
  by_cases c : x < i ∧ ¬ x % 6 = 0
  · rw [if_pos c, if_pos ⟨by omega, c.2⟩]
  · rw [if_neg c, if_neg]
    intro q
    by_cases e : x = i
    · subst e; exact q.2 h
    · exact c ⟨by omega, q.2⟩
theorem kzA_z {f : Nat → Int32} {k c : Nat} (hk : k < 6) (h1 : 1 ≤ c) (h5 : c ≤ 5) : kzA f 36 (6 * k + c) = 0 := if_pos ⟨by omega, by omega⟩
set_option maxRecDepth 10000 in
theorem po_start {L : Nat} (hA : PAll σ g n e z d t b j) (hb : b = false) (he : e < 8) (hn : 0 < n) (h1 : 1 ≤ L) (h9 : L ≤ 9)
    (h33 : τ 33 = upd (upd (upd (σ 33) 3 1) 4 (nI L)) 5 (nI (e + 1))) (h32 : τ 32 = kzA (σ 32) 36) (ho : ∀ c, c ≠ 32 → c ≠ 33 → τ c = σ c) : PIn (srSt τ n (nI L)) (j + 1) := by
  have hg1 := hA.1.1.2.1
  obtain ⟨⟨hC1, hC2, hC3, hC4, hC5, hC6, hC7, hC8⟩, ⟨n1, n2, n3, n4, n5, n6, n7, n8, n9, n10⟩, ⟨w1, w2, w3⟩, hcu, hte, hra, ht, hz⟩ := hA
  have O : ∀ c, c < 32 → τ c = σ c := fun c hc => ho c (by omega) (by omega)
  have s33 : srSt τ n (nI L) 33 = τ 33 := rfl
  have s32 : srSt τ n (nI L) 32 = τ 32 := rfl
  have hKZ : ∀ k c, k < 6 → 1 ≤ c → c ≤ 5 → srSt τ n (nI L) 32 (6 * k + c) = 0 := fun k c a1 a2 a3 => by
    rw [s32, h32]
    exact kzA_z a1 a2 a3
  refine ⟨g, n, e, 0, d, t, true, ⟨⟨?_, ?_, rfl, ?_, ⟨rfl, by omega⟩, fun k hk => ?_, fun _ => ⟨rfl, he⟩, fun i hi => absurd hi (by omega)⟩, ⟨?_, ?_, ?_, ?_, ?_, ?_, ⟨?_, ?_, n7.2.2⟩, ⟨?_, ?_⟩, n9, fun _ => hn⟩, ⟨?_, ?_, ?_⟩, ?_, ?_, fun _ => ⟨L, ⟨h1, h9, rfl, ?_, rfl⟩, fun k hk => ?_, fun i1 i2 q1 q2 q3 q4 => clrK_lt q1, ?_⟩, by omega, by omega⟩, fun k hk => ⟨0, by omega, hKZ k 1 hk (by omega) (by omega)⟩⟩
  · rw [show srSt τ n (nI L) 1 = τ 1 from rfl, O 1 (by decide)]; exact hC1
  · rw [show srSt τ n (nI L) 0 7 = τ 0 7 from rfl, O 0 (by decide)]; exact hC2
  · rw [show srSt τ n (nI L) 27 = τ 27 from rfl, O 27 (by decide)]; exact hC4
  · exact (rOk_bg (σ := τ) (B := 4) (n := nI n) (laps := nI L)) k hk
  · rw [s33, h33]; exact n1
  · rw [s33, h33, show srSt τ n (nI L) 1 = τ 1 from rfl, O 1 (by decide)]; exact n2
  · rw [s33, h33]; exact n3
  · rw [s33, h33]; rfl
  · rw [s33, h33]; rfl
  · rw [s33, h33]; exact n6
  · rw [s33, h33]; exact n7.1
  · rw [show srSt τ n (nI L) 27 = τ 27 from rfl, O 27 (by decide)]; exact n7.2.1
  · rw [s33, h33]; exact n8.1
  · rw [show srSt τ n (nI L) 0 9 = τ 0 9 from rfl, O 0 (by decide)]; exact n8.2
  · rw [show srSt τ n (nI L) 2 = τ 2 from rfl, O 2 (by decide)]; exact w1
  · rw [show srSt τ n (nI L) 2 = τ 2 from rfl, show srSt τ n (nI L) 3 = τ 3 from rfl, O 2 (by decide), O 3 (by decide)]; exact w2
  · rw [show srSt τ n (nI L) 2 = τ 2 from rfl, show srSt τ n (nI L) 31 = τ 31 from rfl, O 2 (by decide), O 31 (by decide)]; exact w3
  · unfold PCup
    rw [show srSt τ n (nI L) 28 = τ 28 from rfl, show srSt τ n (nI L) 29 = τ 29 from rfl, O 28 (by decide), O 29 (by decide)]; exact hcu
  · unfold PTeam
    rw [show srSt τ n (nI L) 30 = τ 30 from rfl, O 30 (by decide)]; exact hte
  · rw [s33, h33]; rfl
  · have hm : misA (srSt τ n (nI L)) 4 k = srSt τ n (nI L) 1 3 &&& ((0 : Int32) ^^^ (-1)) := by
      unfold misA
      rw [show srSt τ n (nI L) (4 + 4) k = 0 from clrK_lt hk]
    refine ⟨0, 0, 0, 0, 0, ⟨clrK_lt hk, by omega⟩, ⟨clrK_lt hk, by omega⟩, ⟨clrK_lt hk, by omega⟩, ⟨clrK_lt hk, by omega⟩, ⟨clrK_lt hk, by omega⟩, fun q => absurd q (by omega), Or.inl (clrK_lt hk), hKZ k 1 hk (by omega) (by omega), hKZ k 2 hk (by omega) (by omega), hKZ k 3 hk (by omega) (by omega), ⟨?_, ?_⟩, ?_⟩
    · rw [hm, hKZ k 4 hk (by omega) (by omega)]
    · rw [hKZ k 4 hk (by omega) (by omega)]; decide
    · rw [hKZ k 5 hk (by omega) (by omega), if_neg (by omega)]; rfl
  · refine ⟨fun c q1 q2 k hk => ?_, ?_, rfl, rfl⟩
    · have q3 : c = 1 ∨ c = 2 ∨ c = 3 ∨ c = 4 ∨ c = 5 := by omega
      rcases q3 with rfl | rfl | rfl | rfl | rfl <;> exact (clrK_lt hk).trans (clrK_lt hk).symm
    · show τ 0 7 = nI n
      rw [O 0 (by decide)]
      exact hC2.1
/-- what a passing must leave -/
theorem po_pass {W : St} {k y lp db G9 : Nat} {v8 kp : Int32} (hA : PAll σ g n e z d t true j) (hG : PGat σ g) (hj : j < 500) (hk : k < 6) (hy : y < g) (hW : W = mvS (noSt σ z k y) 4 k y) (hG9 : σ 4 9 = nI G9) (hG2 : G9 ≤ 9)
    (hc : ∀ c, c ≠ 32 → τ c = W c)
    (w6 : W 6 = upd (σ 6) k (nI lp)) (hlp : lp ≤ G9) (w7 : W 7 = upd (σ 7) k (nI db)) (hdb : db ≤ z + 1) (w8 : W 8 = upd (σ 8) k v8) (w9 : W 9 = upd (σ 9) k (nI (z + 1)))
    (k1 : τ 32 (6 * k + 1) = nI y) (k2 : τ 32 (6 * k + 2) = nI lp) (k3 : τ 32 (6 * k + 3) = nI db) (k4 : τ 32 (6 * k + 4) = kp) (hkp : σ 1 3 &&& (kp ^^^ (-1)) = σ 1 3 &&& (v8 ^^^ (-1))) (hk0 : kp &&& 1 = 0) (k5 : τ 32 (6 * k + 5) = nI (if lp = G9 then 1 else 0)) (ko : ∀ a c, a < 6 → 1 ≤ c → c ≤ 5 → a ≠ k → τ 32 (6 * a + c) = σ 32 (6 * a + c)) : PIn τ (j + 1) := by
  have hA0 := hA
  obtain ⟨⟨hC1, hC2, hC3, hC4, hC5, hC6, hC7, hC8⟩, h2, h3, h4, h5, h6, h7, h8⟩ := hA
  obtain ⟨G8, ⟨p1, p2, p3, p4, p5⟩, p6, p7, p8⟩ := h6 rfl
  have hGG : G8 = G9 := (nI_eq (by omega) (by omega)).mp (p3.symm.trans hG9)
  subst hGG
  have hg12 := hC1.2.2
  have hN : ∀ c, c < 4 ∨ 9 < c → c ≠ 32 → τ c = noSt σ z k y c := fun c a1 a2 => (hc c a2).trans (by rw [hW]; exact mvS_o (by omega))
  have hS : ∀ c, c < 4 ∨ 9 < c → c ≠ 32 → c ≠ 20 → c ≠ 21 → c ≠ 22 → τ c = σ c := fun c a1 a2 a3 a4 a5 => (hN c a1 a2).trans (noSt_o a3 a4 a5)
  have s20 : τ 20 = upd (σ 20) 2 (nI (z + 1)) := by rw [hN 20 (by decide) (by decide)]; unfold noSt; rw [upA_s]
  have s21 : τ 21 = upd (σ 21) z (nI k) := by rw [hN 21 (by decide) (by decide)]; unfold noSt; rw [upA_n (by decide), upA_n (by decide), upA_s]
  have s22 : τ 22 = upd (σ 22) z (nI y) := by rw [hN 22 (by decide) (by decide)]; unfold noSt; rw [upA_n (by decide), upA_s]
  have s4 : τ 4 = upd (σ 4) 10 (nI (z + 1)) := by
    rw [hc 4 (by decide), hW, mvS_B, noSt_o (by decide) (by decide) (by decide), p5, nI_1]
  have s5 : τ 5 = upd (σ 5) k (nI y) := by
    rw [hc 5 (by decide), hW]
    exact mvS_g.trans (by rw [noSt_o (by decide) (by decide) (by decide)])
  have s6 : τ 6 = upd (σ 6) k (nI lp) := (hc 6 (by decide)).trans w6
  have s7 : τ 7 = upd (σ 7) k (nI db) := (hc 7 (by decide)).trans w7
  have s8 : τ 8 = upd (σ 8) k v8 := (hc 8 (by decide)).trans w8
  have s9 : τ 9 = upd (σ 9) k (nI (z + 1)) := (hc 9 (by decide)).trans w9
  have S0 := hS 0 (by decide) (by decide) (by decide) (by decide) (by decide)
  have S1 := hS 1 (by decide) (by decide) (by decide) (by decide) (by decide)
  have S2 := hS 2 (by decide) (by decide) (by decide) (by decide) (by decide)
  have S3 := hS 3 (by decide) (by decide) (by decide) (by decide) (by decide)
  have S27 := hS 27 (by decide) (by decide) (by decide) (by decide) (by decide)
  have S28 := hS 28 (by decide) (by decide) (by decide) (by decide) (by decide)
  have S33 := hS 33 (by decide) (by decide) (by decide) (by decide) (by decide)
  have ix_n : ∀ v, v < 12 → nI v = nI (ix (nI v)) ∧ ix (nI v) < 12 := fun v hv => by
    have q : ix (nI v) = v := nI_clamp (by omega)
    rw [q]; exact ⟨rfl, hv⟩
  refine ⟨g, n, e, z + 1, d, t, true, ⟨⟨?_, ?_, ?_, ?_, ?_, ?_, ?_, ?_⟩, ?_, ?_, ?_, ?_, fun _ => ⟨G8, ⟨p1, p2, ?_, ?_, ?_⟩, fun a ha => ?_, ?_, ?_⟩, by omega, by omega⟩, fun a ha => ?_⟩
  · rw [S1]; exact hC1
  · rw [S0]; exact hC2
  · rw [S0]; exact hC3
  · rw [S27]; exact hC4
  · rw [s20]; exact ⟨rfl, by omega⟩
  · intro a ha
    have q := hC6 a ha
    unfold gN at q ⊢
    rw [show τ (4 + 1) = upd (σ 5) k (nI y) from s5]
    unfold upd
    split
    · exact ix_n y (by omega)
    · exact q
  · rw [s4]; exact hC7
  · intro i hi
    rw [s21, s22]
    unfold upd
    by_cases q : i = z
    · rw [if_pos q, if_pos q]
      refine ⟨⟨(ix_n k (by omega)).1, ?_⟩, ix_n y (by omega)⟩
      rw [show ix (nI k) = k from nI_clamp (by omega)]
      exact hk
    · rw [if_neg q, if_neg q]
      exact hC8 i (by omega)
  · unfold PNum
    rw [S33, S1, S27, S0]
    exact h2
  · unfold PTrk
    rw [S2, S3, hS 31 (by decide) (by decide) (by decide) (by decide) (by decide)]
    exact h3
  · unfold PCup
    rw [S28, hS 29 (by decide) (by decide) (by decide) (by decide) (by decide)]
    exact h4
  · unfold PTeam
    rw [hS 30 (by decide) (by decide) (by decide) (by decide) (by decide)]
    exact h5
  · rw [s4]; exact p3
  · rw [S33]; exact p4
  · rw [s4]; rfl
  · obtain ⟨lp0, db0, mo, aw, ga, ⟨a1, a2⟩, ⟨a3, a4⟩, ⟨a5, a6⟩, ⟨a7, a8⟩, ⟨a9, a10⟩, a11, a12, b1, b2, b3, b4, b5⟩ := p6 a ha
    unfold PKart misA
    rw [s5, s6, s7, show τ (4 + 4) = upd (σ 8) k v8 from s8, s9, S1, hS 24 (by decide) (by decide) (by decide) (by decide) (by decide), hS 26 (by decide) (by decide) (by decide) (by decide) (by decide)]
    by_cases q : a = k
    · subst q
      rw [k1, k2, k3, k4, k5, pk_us, pk_us, pk_us, pk_us, pk_us]
      exact ⟨lp, db, z + 1, aw, y, ⟨rfl, hlp⟩, ⟨rfl, hdb⟩, ⟨rfl, by omega⟩, ⟨a7, a8⟩, ⟨rfl, hy⟩, fun _ => by omega, a12, rfl, rfl, rfl, ⟨hkp, hk0⟩, rfl⟩
    · rw [ko a 1 ha (by omega) (by omega) q, ko a 2 ha (by omega) (by omega) q, ko a 3 ha (by omega) (by omega) q, ko a 4 ha (by omega) (by omega) q, ko a 5 ha (by omega) (by omega) q, pk_un q, pk_un q, pk_un q, pk_un q, pk_un q]
      exact ⟨lp0, db0, mo, aw, ga, ⟨a1, a2⟩, ⟨a3, by omega⟩, ⟨a5, by omega⟩, ⟨a7, a8⟩, ⟨a9, a10⟩, a11, a12, b1, b2, b3, b4, b5⟩
  · intro i1 i2 hi1 hi2 hne hq
    have hlt : ∀ a, a < 6 → σ 9 a = nI (z + 1) → False := fun a ha q => by
      obtain ⟨lp0, db0, mo, aw, ga, -, -, ⟨a5, a6⟩, -⟩ := p6 a ha
      have := (nI_eq (by omega) (by omega)).mp (a5.symm.trans q)
      omega
    rw [s9] at hq ⊢
    unfold upd at hq ⊢
    by_cases q1 : i1 = k
    · rw [if_pos q1, if_neg (by omega)] at hq
      exact (hlt i2 hi2 hq.symm).elim
    · rw [if_neg q1] at hq ⊢
      by_cases q2 : i2 = k
      · rw [if_pos q2] at hq
        exact (hlt i1 hi1 hq).elim
      · rw [if_neg q2] at hq
        exact p7 i1 i2 hi1 hi2 hne hq
  · exact rc_next p8 (fun c q => by rw [← hW]; exact hc c (by omega)) hk (by omega) (prec hA0)
  · by_cases q : a = k
    · subst q
      exact ⟨y, hy, k1⟩
    · rw [ko a 1 ha (by omega) (by omega) q]
      exact hG a ha
end OPS
