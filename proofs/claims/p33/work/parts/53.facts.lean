/-! numbers that the class's calls answer, as natural ones -/
theorem clN {x : Int32} {a : Nat} (h : x = nI a) (ha : a < 2 ^ 31) : x = nI (ix x) ∧ ix x = a := by
  subst h
  rw [ix_nI ha]
  exact ⟨rfl, rfl⟩
def stN (σ : St) (k : Nat) : Nat := ix (stuA σ k)
def cuE (L : Int32) : Int32 := if 25 < (if L < 0 then 0 else L) / 10 then 25 else (if L < 0 then 0 else L) / 10
def cuN (σ : St) (n k : Nat) : Nat := ix (cuE (ldrA σ 4 n k n))
def snN (σ : St) (n e k : Nat) : Nat := cntA (fun o => stB (σ 28) (σ 29) (σ 27 3) e o k) n
def plN (σ : St) (i k : Nat) : Nat := ix (σ 28 (i * 6 + k))
def ptN (σ : St) (e k : Nat) : Nat := ix (sumA (σ 29) (σ 27 3) k e e)
def pvN (σ : St) (k i : Nat) : Nat := ix (σ 29 (i * 6 + k))
def wtN (p : Nat) : Nat := if p = 0 then 10 else if p = 1 then 8 else if p = 2 then 6 else if p = 3 then 5 else if p = 4 then 4 else 3
def mosN (σ : St) (k : Nat) : Nat → Nat
  | 0 => 0
  | i + 1 => mosN σ k i + wtN (plN σ i k)
def totN (σ : St) (e : Nat) : Nat → Nat
  | 0 => 0
  | i + 1 => totN σ e i + ptN σ e i
def tpN (σ : St) (q e : Nat) : Nat → Nat
  | 0 => 0
  | i + 1 => if ix (σ 30 i) = q then tpN σ q e i + ptN σ e i else tpN σ q e i
theorem tPts_wt (p : Nat) : tPts p = nI (wtN p) := by
  unfold tPts wtN
  split
  · rfl
  · split
    · rfl
    · split
      · rfl
      · split
        · rfl
        · split <;> rfl
theorem wtN_le (p : Nat) : wtN p ≤ 10 := by
  unfold wtN
  repeat' split
  all_goals omega
theorem cu_of (L : Int32) : ∃ q : Nat, q < 26 ∧ cuE L = nI q ∧ (L = 0 → q = 0) := by
  have hM : ¬ (if L < 0 then 0 else L) < 0 := by
    split
    · decide
    · assumption
  obtain ⟨a, ha, e⟩ := nI_of hM
  unfold cuE
  have h0 : L = 0 → a = 0 := fun h => by
    subst h
    have : (if (0 : Int32) < 0 then 0 else 0) = nI 0 := by decide
    exact (nI_eq ha (by decide)).mp (e.symm.trans this)
  rw [e, show (10 : Int32) = nI 10 from rfl, pk_div ha (by decide) (by decide), show (25 : Int32) = nI 25 from rfl]
  by_cases q : 25 < a / 10
  · rw [if_pos ((nI_ltI (by decide) (by omega)).mpr q)]
    exact ⟨25, by decide, rfl, fun h => by have := h0 h; omega⟩
  · rw [if_neg (fun h => q ((nI_ltI (by decide) (by omega)).mp h))]
    exact ⟨a / 10, by omega, rfl, fun h => by have := h0 h; omega⟩
section FACTS
variable {σ : St} {g n e z d t j k : Nat} {b : Bool}
theorem fstu (h : PAll σ g n e z d t b j) (hj : j < 100) (hb : b = true) (hk : k < 6) : stuA σ k = nI (stN σ k) ∧ stN σ k < 6 := by
  obtain ⟨aw, h1, h2⟩ := P26 (Nat.le_refl t) (prace h hb) k hk
  have ht := (pti h).2
  have h3 : t ≤ 100 * j := h.2.2.2.2.2.2.1
  have h4 : stuA σ k = nI (aw - t) := by
    unfold stuA
    rw [h1, ht, stun_eq (by omega) (by omega)]
    by_cases q : aw ≤ t
    · rw [if_pos ((nI_leI (by omega) (by omega)).mpr q), show aw - t = 0 by omega]; rfl
    · rw [if_neg (fun h => q ((nI_leI (by omega) (by omega)).mp h)), pk_sub (by omega)]
  obtain ⟨a1, a2⟩ := clN h4 (by omega)
  exact ⟨a1, by show ix (stuA σ k) < 6; omega⟩
theorem fcu (h : PAll σ g n e z d t b j) (hb : b = true) (hk : k < n) : cuE (ldrA σ 4 n k n) = nI (cuN σ n k) ∧ cuN σ n k < 26 ∧ (rkA σ n k = 0 → cuN σ n k = 0) := by
  obtain ⟨q, h1, h2, h3⟩ := cu_of (ldrA σ 4 n k n)
  obtain ⟨a1, a2⟩ := clN h2 (by omega)
  refine ⟨a1, by show ix _ < 26; omega, fun h0 => ?_⟩
  have h4 : ldrA σ 4 n k n = 0 := by
    rcases plead h hb hk h0 n (Nat.le_refl n) with ⟨_, r⟩ | ⟨_, r⟩
    · exact r
    · rw [r, Int32.sub_self]
  show ix _ = 0
  rw [a2, h3 h4]
theorem fsn_lt (hk : k < n) : snN σ n e k < n := cnt_less (stB_stO n) hk
theorem fsn_inj {i : Nat} (hi : i < n) (hk : k < n) (q : snN σ n e i = snN σ n e k) : i = k := cnt_inj (stB_stO n) hi hk q
theorem fsn_mask (hn : n ≤ 6) : mskA (snN σ n e) n = ((1 : Int32) <<< (nI n &&& 31)) - 1 := mskA_all hn (fun k hk => fsn_lt hk) (fun p hp => cnt_surj (stB_stO n) (by omega) p hp)
theorem fpl (h : PAll σ g n e z d t b j) {i : Nat} (hi : i < e) (hk : k < n) : σ 28 (i * 6 + k) = nI (plN σ i k) ∧ plN σ i k < n := by
  obtain ⟨p, h1, h2, -⟩ := (h.2.2.2.1 i hi).1 k hk
  have hn := (pn h).2
  obtain ⟨a1, a2⟩ := clN h2 (by omega)
  exact ⟨a1, by show ix _ < n; omega⟩
theorem fpl_mask (h : PAll σ g n e z d t b j) {i : Nat} (hi : i < e) : mskA (plN σ i) n = ((1 : Int32) <<< (nI n &&& 31)) - 1 := by
  have hn := (pn h).2
  refine mskA_all hn (fun k hk => (fpl h hi hk).2) (fun p hp => ?_)
  obtain ⟨k, h1, h2⟩ := (h.2.2.2.1 i hi).2 p hp
  exact ⟨k, h1, (clN h2 (by omega)).2⟩
theorem fpv (h : PAll σ g n e z d t b j) {i : Nat} (hi : i < e) (hk : k < n) : σ 29 (i * 6 + k) = nI (pvN σ k i) ∧ pvN σ k i ≤ wtN (plN σ i k) := by
  obtain ⟨p, h1, h2, h3⟩ := (h.2.2.2.1 i hi).1 k hk
  have hn := (pn h).2
  have hp : plN σ i k = p := (clN h2 (by omega)).2
  have hw := wtN_le p
  rw [hp]
  rcases h3 with h3 | h3
  · obtain ⟨a1, a2⟩ := clN (a := 0) h3 (by omega)
    exact ⟨a1, by show ix _ ≤ _; omega⟩
  · rw [tPts_wt] at h3
    obtain ⟨a1, a2⟩ := clN h3 (by omega)
    exact ⟨a1, by show ix _ ≤ _; omega⟩
theorem fpt (h : PAll σ g n e z d t b j) (hk : k < n) : sumA (σ 29) (σ 27 3) k e e = nI (ptN σ e k) ∧ ptN σ e k = sumN (pvN σ k) d e e ∧ ptN σ e k ≤ 80 := by
  obtain ⟨d1, d2, d3⟩ := pdr h
  have he := (pe h).2
  have hv : ∀ i, i < e → σ 29 (i * 6 + k) = nI (pvN σ k i) ∧ pvN σ k i ≤ 10 := fun i hi => by
    obtain ⟨a1, a2⟩ := fpv h hi hk
    have := wtN_le (plN σ i k)
    exact ⟨a1, by omega⟩
  obtain ⟨h1, h2⟩ := sum_eq hv he d3 e (Nat.le_refl e)
  rw [← d2] at h1
  obtain ⟨a1, a2⟩ := clN h1 (by omega)
  exact ⟨a1, a2, by show ix _ ≤ 80; omega⟩
theorem fpt_mos (h : PAll σ g n e z d t b j) (hk : k < n) : ptN σ e k ≤ mosN σ k e := by
  rw [(fpt h hk).2.1]
  exact sum_le (fun i hi => (fpv h hi hk).2) rfl (fun _ => rfl) e (Nat.le_refl e)
theorem mosN_le : ∀ i, mosN σ k i ≤ 10 * i
  | 0 => Nat.le_refl _
  | i + 1 => by
    have := mosN_le i
    have := wtN_le (plN σ i k)
    rw [mosN]
    omega
theorem fpt_0 (h : PAll σ g n e z d t b j) (hk : k < n) (hd : e ≤ d) : ptN σ e k = 0 := by
  rw [(fpt h hk).2.1]
  exact sum_all hd e (Nat.le_refl e)
/-- more points: before -/
theorem fpt_sn (h : PAll σ g n e z d t b j) {i : Nat} (hi : i < n) (hk : k < n) (hp : ptN σ e k < ptN σ e i) : snN σ n e i < snN σ n e k := by
  have h1 := (fpt h hi).1
  have h2 := (fpt h hk).1
  have h3 := (fpt h hi).2.2
  have h4 := (fpt h hk).2.2
  refine cnt_lt (stB_stO n) (Nat.le_refl n) hi hk ((stB_iff i k).mpr (Or.inl ?_))
  rw [h1, h2, nI_toInt (by omega), nI_toInt (by omega)]
  omega
theorem totN_le (h : PAll σ g n e z d t b j) : ∀ i, i ≤ n → totN σ e i ≤ 80 * i
  | 0, _ => Nat.le_refl _
  | i + 1, hi => by
    have := totN_le h i (by omega)
    have := (fpt h (show i < n by omega)).2.2
    rw [totN]
    omega
theorem ftp (h : PAll σ g n e z d t b j) {q : Nat} (hq : q < 4) : ∀ i, i ≤ n → tpA σ (nI q) e i = nI (tpN σ q e i) ∧ tpN σ q e i ≤ 80 * i
  | 0, _ => ⟨rfl, Nat.le_refl _⟩
  | i + 1, hi => by
    obtain ⟨h1, h2⟩ := ftp h hq i (by omega)
    obtain ⟨p1, -, p2⟩ := fpt h (show i < n by omega)
    obtain ⟨w, w1, w2⟩ := h.2.2.2.2.1 i (by omega)
    obtain ⟨-, w3⟩ := clN w2 (by omega)
    rw [tpA, tpN, w3, w2, h1, p1]
    by_cases c : w = q
    · rw [if_pos (by rw [c]), if_pos c, nI_add]
      exact ⟨rfl, by omega⟩
    · rw [if_neg (nI_ne c (by omega) (by omega)), if_neg c]
      exact ⟨rfl, by omega⟩
theorem ftp_sum (h : PAll σ g n e z d t b j) : ∀ i, i ≤ n → tpN σ 0 e i + tpN σ 1 e i + tpN σ 2 e i + tpN σ 3 e i = totN σ e i
  | 0, _ => rfl
  | i + 1, hi => by
    have h1 := ftp_sum h i (by omega)
    obtain ⟨w, w1, w2⟩ := h.2.2.2.2.1 i (by omega)
    obtain ⟨-, w3⟩ := clN w2 (by omega)
    have h9 : w = 0 ∨ w = 1 ∨ w = 2 ∨ w = 3 := by omega
    simp only [tpN, totN, w3]
    rcases h9 with rfl | rfl | rfl | rfl <;> simp <;> omega
theorem inT_y {n i : Nat} (hn : n ≤ 6) (hi : i < 2 * n - 1) : inT (nI i) n = true :=
  inT_t (nI_pos (by omega)) (by rw [pk_sub (by omega)]; exact (nI_ltI (by omega) (by omega)).mpr hi)
theorem inT_n {n i : Nat} (hn : n ≤ 6) (hi : 2 * n - 1 ≤ i) (h : i < 2 ^ 30) : inT (nI i) n = false := by
  refine inT_f2 (fun q => ?_)
  rw [Int32.lt_iff_toInt_lt, pk_sub_toInt (by omega) (by decide), nI_toInt (by omega)] at q
  omega
theorem chN {m : Nat} (h : m < 65536) : (Int32.toUInt32 (nI m) % 65536).toInt32 = nI m := by
  rw [pk_char, pk_tn (by omega), Nat.mod_eq_of_lt h]
theorem ftx (hk : k < n) : fsA (fun z9 => cntA (fun o => stB (σ 28) (σ 29) (σ 27 3) e o z9) n) (2 * snN σ n e k / 2) n = k := by
  rw [show 2 * snN σ n e k / 2 = snN σ n e k by omega]
  exact fs_is (c := fun z9 => cntA (fun o => stB (σ 28) (σ 29) (σ 27 3) e o z9) n) (fun a k ha hk q => fsn_inj (σ := σ) (e := e) ha hk q) hk rfl n hk (Nat.le_refl n)
end FACTS
