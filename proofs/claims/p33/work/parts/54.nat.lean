/-! the class's calls at numbers that are there: they throw not, and answer so -/
theorem inB_m1 (n : Nat) : inB (-1) n = false := inB_f1 (by decide)
theorem n_rest (l : Launch) (hlt : l.stackTraces = false) (G : Gx) (hG : gOk G) (hF : Full G) (σ : St) {g n e9 z d t j : Nat} {b : Bool} (hA : PAll σ g n e9 z d t b j) (x : Nat) (hx : x < g) : CxI l yX5_rest wsX5_rest rmX5_rest G σ [.ref (gad G 0), .int (nI x)] (fun r σ' => r = σ 3 x ∧ σ' = σ) (fun _ => False) := by
  have hg9 := ((pcv hA)).1.2.2
  have hn9 := ((pcv hA)).2.1.2
  have he9 := ((pcv hA)).2.2.2.1.2
  refine (kX5_rest l hlt G hG hF σ (nI x) g n e9 z b (pcv hA)).mono (fun r σ9 h => ?_) (fun E h => ?_)
  · rw [ix_nI (by omega)] at h; exact ⟨h.1, h.2.1⟩
  · rw [inB_y hx (by omega)] at h; exact absurd h.2 (by decide)
theorem n_itemOf1 (l : Launch) (hlt : l.stackTraces = false) (G : Gx) (hG : gOk G) (hF : Full G) (σ : St) {g n e9 z d t j : Nat} {b : Bool} (hA : PAll σ g n e9 z d t b j) (hb : b = true) (x : Nat) (hx : x < n) : CxI l yX5_itemOf wsX5_itemOf rmX5_itemOf G σ [.ref (gad G 0), .int (nI x)] (fun r σ' => r = σ 24 x ∧ σ' = σ) (fun _ => False) := by
  have hg9 := ((pcv hA)).1.2.2
  have hn9 := ((pcv hA)).2.1.2
  have he9 := ((pcv hA)).2.2.2.1.2
  refine (kX5_itemOf l hlt G hG hF σ (nI x) g n e9 z b (pcv hA)).mono (fun r σ9 h => ?_) (fun E h => ?_)
  · rw [ix_nI (by omega), if_pos hb] at h; exact ⟨h.1, h.2.1⟩
  · have q9 := inB_y hx (by omega : n < 2 ^ 31)
    rw [q9] at h
    exact absurd h.2 (by decide)
theorem n_itemOf0 (l : Launch) (hlt : l.stackTraces = false) (G : Gx) (hG : gOk G) (hF : Full G) (σ : St) {g n e9 z d t j : Nat} {b : Bool} (hA : PAll σ g n e9 z d t b j) (hb : b = false) (x : Nat) (hx : x < n) : CxI l yX5_itemOf wsX5_itemOf rmX5_itemOf G σ [.ref (gad G 0), .int (nI x)] (fun r σ' => r = -1 ∧ σ' = σ) (fun _ => False) := by
  have hg9 := ((pcv hA)).1.2.2
  have hn9 := ((pcv hA)).2.1.2
  have he9 := ((pcv hA)).2.2.2.1.2
  refine (kX5_itemOf l hlt G hG hF σ (nI x) g n e9 z b (pcv hA)).mono (fun r σ9 h => ?_) (fun E h => ?_)
  · rw [if_neg (by rw [hb]; decide)] at h; exact ⟨h.1, h.2.1⟩
  · have q9 := inB_y hx (by omega : n < 2 ^ 31)
    rw [q9] at h
    exact absurd h.2 (by decide)
theorem n_stunned1 (l : Launch) (hlt : l.stackTraces = false) (G : Gx) (hG : gOk G) (hF : Full G) (σ : St) {g n e9 z d t j : Nat} {b : Bool} (hA : PAll σ g n e9 z d t b j) (hj : j < 100) (hb : b = true) (x : Nat) (hx : x < n) : CxI l yX5_stunned wsX5_stunned rmX5_stunned G σ [.ref (gad G 0), .int (nI x)] (fun r σ' => r = nI (stN σ x) ∧ σ' = σ ∧ stN σ x < 6) (fun _ => False) := by
  have hg9 := ((pcv hA)).1.2.2
  have hn9 := ((pcv hA)).2.1.2
  have he9 := ((pcv hA)).2.2.2.1.2
  refine (kX5_stunned l hlt G hG hF σ (nI x) g n e9 z b (pcv hA)).mono (fun r σ9 h => ?_) (fun E h => ?_)
  · have f9 := fstu hA hj hb (show x < 6 by omega)
    rw [ix_nI (by omega), if_pos hb] at h; exact ⟨h.1.trans f9.1, h.2.1, f9.2⟩
  · have q9 := inB_y hx (by omega : n < 2 ^ 31)
    rw [q9] at h
    exact absurd h.2 (by decide)
theorem n_stunned0 (l : Launch) (hlt : l.stackTraces = false) (G : Gx) (hG : gOk G) (hF : Full G) (σ : St) {g n e9 z d t j : Nat} {b : Bool} (hA : PAll σ g n e9 z d t b j) (hb : b = false) (x : Nat) (hx : x < n) : CxI l yX5_stunned wsX5_stunned rmX5_stunned G σ [.ref (gad G 0), .int (nI x)] (fun r σ' => r = 0 ∧ σ' = σ) (fun _ => False) := by
  have hg9 := ((pcv hA)).1.2.2
  have hn9 := ((pcv hA)).2.1.2
  have he9 := ((pcv hA)).2.2.2.1.2
  refine (kX5_stunned l hlt G hG hF σ (nI x) g n e9 z b (pcv hA)).mono (fun r σ9 h => ?_) (fun E h => ?_)
  · rw [if_neg (by rw [hb]; decide)] at h; exact ⟨h.1, h.2.1⟩
  · have q9 := inB_y hx (by omega : n < 2 ^ 31)
    rw [q9] at h
    exact absurd h.2 (by decide)
theorem n_rank (l : Launch) (hlt : l.stackTraces = false) (G : Gx) (hG : gOk G) (hF : Full G) (σ : St) {g n e9 z d t j : Nat} {b : Bool} (hA : PAll σ g n e9 z d t b j) (hb : b = true) (x : Nat) (hx : x < n) : CxI l yX5_rank wsX5_rank rmX5_rank G σ [.ref (gad G 0), .int (nI x)] (fun r σ' => r = nI (rkA σ n x) ∧ σ' = σ ∧ rkA σ n x < n) (fun _ => False) := by
  have hg9 := ((pcv hA)).1.2.2
  have hn9 := ((pcv hA)).2.1.2
  have he9 := ((pcv hA)).2.2.2.1.2
  refine (kX5_rank l hlt G hG hF σ (nI x) g n e9 z b (pcv hA)).mono (fun r σ9 h => ?_) (fun E h => ?_)
  · rw [ix_nI (by omega)] at h; exact ⟨h.1, h.2.1, rkA_lt hx⟩
  · have q9 := inB_y hx (by omega : n < 2 ^ 31)
    rw [q9, hb] at h
    rcases h with h | h
    · exact absurd h.2 (by decide)
    · exact absurd h.2.2 (by decide)
theorem n_catchUp (l : Launch) (hlt : l.stackTraces = false) (G : Gx) (hG : gOk G) (hF : Full G) (σ : St) {g n e9 z d t j : Nat} {b : Bool} (hA : PAll σ g n e9 z d t b j) (hb : b = true) (x : Nat) (hx : x < n) : CxI l yX5_catchUp wsX5_catchUp rmX5_catchUp G σ [.ref (gad G 0), .int (nI x)] (fun r σ' => r = nI (cuN σ n x) ∧ σ' = σ ∧ cuN σ n x < 26 ∧ (rkA σ n x = 0 → cuN σ n x = 0)) (fun _ => False) := by
  have hg9 := ((pcv hA)).1.2.2
  have hn9 := ((pcv hA)).2.1.2
  have he9 := ((pcv hA)).2.2.2.1.2
  refine (kX5_catchUp l hlt G hG hF σ (nI x) g n e9 z b (pcv hA)).mono (fun r σ9 h => ?_) (fun E h => ?_)
  · have f9 := fcu hA hb hx
    rw [ix_nI (by omega)] at h; exact ⟨h.1.trans f9.1, h.2.1, f9.2⟩
  · have q9 := inB_y hx (by omega : n < 2 ^ 31)
    rw [q9, hb] at h
    rcases h with h | h
    · exact absurd h.2 (by decide)
    · exact absurd h.2.2 (by decide)
theorem n_gateOf (l : Launch) (hlt : l.stackTraces = false) (G : Gx) (hG : gOk G) (hF : Full G) (σ : St) {g n e9 z d t j : Nat} {b : Bool} (hA : PAll σ g n e9 z d t b j) (hb : b = true) (x : Nat) (hx : x < n) : CxI l yX5_gateOf wsX5_gateOf rmX5_gateOf G σ [.ref (gad G 0), .int (nI x)] (fun r σ' => r = σ 32 (6 * x + 1) ∧ σ' = σ) (fun _ => False) := by
  have hg9 := ((pcv hA)).1.2.2
  have hn9 := ((pcv hA)).2.1.2
  have he9 := ((pcv hA)).2.2.2.1.2
  refine (kX5_gateOf l hlt G hG hF σ (nI x) g n e9 z b (pcv hA)).mono (fun r σ9 h => ?_) (fun E h => ?_)
  · obtain ⟨G9, -, hK9, -⟩ := prace hA hb
    obtain ⟨lp, db, mo, aw, ga, a1, a2, a3, a4, a5, a6, a7, a8, a9, a10, a11, a12⟩ := hK9 x (by omega)
    rw [ix_nI (by omega)] at h; exact ⟨h.1.trans (a5.1.trans a8.symm), h.2.1⟩
  · have q9 := inB_y hx (by omega : n < 2 ^ 31)
    rw [q9, hb] at h
    rcases h with h | h
    · exact absurd h.2 (by decide)
    · exact absurd h.2.2 (by decide)
theorem n_lapsOf (l : Launch) (hlt : l.stackTraces = false) (G : Gx) (hG : gOk G) (hF : Full G) (σ : St) {g n e9 z d t j : Nat} {b : Bool} (hA : PAll σ g n e9 z d t b j) (hb : b = true) (x : Nat) (hx : x < n) : CxI l yX5_lapsOf wsX5_lapsOf rmX5_lapsOf G σ [.ref (gad G 0), .int (nI x)] (fun r σ' => r = σ 32 (6 * x + 2) - σ 32 (6 * x + 3) ∧ σ' = σ) (fun _ => False) := by
  have hg9 := ((pcv hA)).1.2.2
  have hn9 := ((pcv hA)).2.1.2
  have he9 := ((pcv hA)).2.2.2.1.2
  refine (kX5_lapsOf l hlt G hG hF σ (nI x) g n e9 z b (pcv hA)).mono (fun r σ9 h => ?_) (fun E h => ?_)
  · obtain ⟨G9, -, hK9, -⟩ := prace hA hb
    obtain ⟨lp, db, mo, aw, ga, a1, a2, a3, a4, a5, a6, a7, a8, a9, a10, a11, a12⟩ := hK9 x (by omega)
    rw [ix_nI (by omega)] at h
    refine ⟨h.1.trans ?_, h.2.1⟩
    show σ 6 x - σ 7 x = _
    rw [a1.1, a2.1, a9, a10]
  · have q9 := inB_y hx (by omega : n < 2 ^ 31)
    rw [q9, hb] at h
    rcases h with h | h
    · exact absurd h.2 (by decide)
    · exact absurd h.2.2 (by decide)
theorem n_missing (l : Launch) (hlt : l.stackTraces = false) (G : Gx) (hG : gOk G) (hF : Full G) (σ : St) {g n e9 z d t j : Nat} {b : Bool} (hA : PAll σ g n e9 z d t b j) (hb : b = true) (x : Nat) (hx : x < n) : CxI l yX5_missing wsX5_missing rmX5_missing G σ [.ref (gad G 0), .int (nI x)] (fun r σ' => r = σ 33 1 &&& (σ 32 (6 * x + 4) ^^^ (-1)) ∧ σ' = σ) (fun _ => False) := by
  have hg9 := ((pcv hA)).1.2.2
  have hn9 := ((pcv hA)).2.1.2
  have he9 := ((pcv hA)).2.2.2.1.2
  refine (kX5_missing l hlt G hG hF σ (nI x) g n e9 z b (pcv hA)).mono (fun r σ9 h => ?_) (fun E h => ?_)
  · obtain ⟨G9, -, hK9, -⟩ := prace hA hb
    obtain ⟨lp, db, mo, aw, ga, a1, a2, a3, a4, a5, a6, a7, a8, a9, a10, a11, a12⟩ := hK9 x (by omega)
    rw [ix_nI (by omega)] at h
    exact ⟨h.1.trans (by rw [hA.2.1.2.1]; exact a11.1.symm), h.2.1⟩
  · have q9 := inB_y hx (by omega : n < 2 ^ 31)
    rw [q9, hb] at h
    rcases h with h | h
    · exact absurd h.2 (by decide)
    · exact absurd h.2.2 (by decide)
theorem n_rankByRecord (l : Launch) (hlt : l.stackTraces = false) (G : Gx) (hG : gOk G) (hF : Full G) (σ : St) {g n e9 z d t j : Nat} {b : Bool} (hA : PAll σ g n e9 z d t b j) (hb : b = true) (x : Nat) (hx : x < n) : CxI l yX5_rankByRecord wsX5_rankByRecord rmX5_rankByRecord G σ [.ref (gad G 0), .int (nI x)] (fun r σ' => r = nI (rkA σ n x) ∧ σ' = fbS σ n z) (fun _ => False) := by
  have hg9 := ((pcv hA)).1.2.2
  have hn9 := ((pcv hA)).2.1.2
  have he9 := ((pcv hA)).2.2.2.1.2
  refine (kX5_rankByRecord l hlt G hG hF σ (nI x) g n e9 z b (pcv hA)).mono (fun r σ9 h => ?_) (fun E h => ?_)
  · rw [ix_nI (by omega)] at h; exact ⟨h.1.trans (prec_rk hA hb hx), h.2.1⟩
  · have q9 := inB_y hx (by omega : n < 2 ^ 31)
    rw [q9, hb] at h
    rcases h with h | h
    · exact absurd h.2 (by decide)
    · exact absurd h.2.2 (by decide)
theorem n_placeC (l : Launch) (hlt : l.stackTraces = false) (G : Gx) (hG : gOk G) (hF : Full G) (σ : St) {g n e9 z : Nat} {b : Bool} (hC : CIv σ g n b e9 z) (i x : Nat) (hi : i < e9) (hx : x < n) : CxI l yX5_place wsX5_place rmX5_place G σ [.ref (gad G 0), .int (nI i), .int (nI x)] (fun r σ' => r = σ 28 (i * 6 + x) ∧ σ' = σ) (fun _ => False) := by
  have hg9 := (hC).1.2.2
  have hn9 := (hC).2.1.2
  have he9 := (hC).2.2.2.1.2
  refine (kX5_place l hlt G hG hF σ (nI i) (nI x) g n e9 z b hC).mono (fun r σ9 h => ?_) (fun E h => ?_)
  · rw [ix_nI (by omega), ix_nI (by omega)] at h; exact ⟨h.1, h.2.1⟩
  · have q9 := inB_y hx (by omega : n < 2 ^ 31)
    have q8 := inB_y hi (by omega : e9 < 2 ^ 31)
    rw [q9, q8] at h
    exact absurd h.2 (by decide)
theorem n_place (l : Launch) (hlt : l.stackTraces = false) (G : Gx) (hG : gOk G) (hF : Full G) (σ : St) {g n e9 z d t j : Nat} {b : Bool} (hA : PAll σ g n e9 z d t b j) (i x : Nat) (hi : i < e9) (hx : x < n) : CxI l yX5_place wsX5_place rmX5_place G σ [.ref (gad G 0), .int (nI i), .int (nI x)] (fun r σ' => r = nI (plN σ i x) ∧ σ' = σ ∧ plN σ i x < n) (fun _ => False) := by
  have hg9 := ((pcv hA)).1.2.2
  have hn9 := ((pcv hA)).2.1.2
  have he9 := ((pcv hA)).2.2.2.1.2
  refine (kX5_place l hlt G hG hF σ (nI i) (nI x) g n e9 z b (pcv hA)).mono (fun r σ9 h => ?_) (fun E h => ?_)
  · have f9 := fpl hA hi hx
    rw [ix_nI (by omega), ix_nI (by omega)] at h; exact ⟨h.1.trans f9.1, h.2.1, f9.2⟩
  · have q9 := inB_y hx (by omega : n < 2 ^ 31)
    have q8 := inB_y hi (by omega : e9 < 2 ^ 31)
    rw [q9, q8] at h
    exact absurd h.2 (by decide)
theorem n_pointsC (l : Launch) (hlt : l.stackTraces = false) (G : Gx) (hG : gOk G) (hF : Full G) (σ : St) {g n e9 z : Nat} {b : Bool} (hC : CIv σ g n b e9 z) (x : Nat) (hx : x < n) : CxI l yX5_points wsX5_points rmX5_points G σ [.ref (gad G 0), .int (nI x)] (fun r σ' => r = sumA (σ 29) (σ 27 3) x e9 e9 ∧ σ' = σ) (fun _ => False) := by
  have hg9 := (hC).1.2.2
  have hn9 := (hC).2.1.2
  have he9 := (hC).2.2.2.1.2
  refine (kX5_points l hlt G hG hF σ (nI x) g n e9 z b hC).mono (fun r σ9 h => ?_) (fun E h => ?_)
  · rw [ix_nI (by omega)] at h; exact ⟨h.1, h.2.1⟩
  · have q9 := inB_y hx (by omega : n < 2 ^ 31)
    rw [q9] at h
    exact absurd h.2 (by decide)
theorem n_points (l : Launch) (hlt : l.stackTraces = false) (G : Gx) (hG : gOk G) (hF : Full G) (σ : St) {g n e9 z d t j : Nat} {b : Bool} (hA : PAll σ g n e9 z d t b j) (x : Nat) (hx : x < n) : CxI l yX5_points wsX5_points rmX5_points G σ [.ref (gad G 0), .int (nI x)] (fun r σ' => r = nI (ptN σ e9 x) ∧ σ' = σ ∧ ptN σ e9 x ≤ 80) (fun _ => False) := by
  have hg9 := ((pcv hA)).1.2.2
  have hn9 := ((pcv hA)).2.1.2
  have he9 := ((pcv hA)).2.2.2.1.2
  refine (kX5_points l hlt G hG hF σ (nI x) g n e9 z b (pcv hA)).mono (fun r σ9 h => ?_) (fun E h => ?_)
  · have f9 := fpt hA hx
    rw [ix_nI (by omega)] at h; exact ⟨h.1.trans f9.1, h.2.1, f9.2.2⟩
  · have q9 := inB_y hx (by omega : n < 2 ^ 31)
    rw [q9] at h
    exact absurd h.2 (by decide)
theorem n_standing (l : Launch) (hlt : l.stackTraces = false) (G : Gx) (hG : gOk G) (hF : Full G) (σ : St) {g n e9 z d t j : Nat} {b : Bool} (hA : PAll σ g n e9 z d t b j) (x : Nat) (hx : x < n) : CxI l yX5_standing wsX5_standing rmX5_standing G σ [.ref (gad G 0), .int (nI x)] (fun r σ' => r = nI (snN σ n e9 x) ∧ σ' = σ ∧ snN σ n e9 x < n) (fun _ => False) := by
  have hg9 := ((pcv hA)).1.2.2
  have hn9 := ((pcv hA)).2.1.2
  have he9 := ((pcv hA)).2.2.2.1.2
  refine (kX5_standing l hlt G hG hF σ (nI x) g n e9 z b (pcv hA)).mono (fun r σ9 h => ?_) (fun E h => ?_)
  · rw [ix_nI (by omega)] at h; exact ⟨h.1, h.2.1, fsn_lt hx⟩
  · have q9 := inB_y hx (by omega : n < 2 ^ 31)
    rw [q9] at h
    exact absurd h.2 (by decide)
theorem n_textAt2 (l : Launch) (hlt : l.stackTraces = false) (G : Gx) (hG : gOk G) (hF : Full G) (σ : St) {g n e9 z d t j : Nat} {b : Bool} (hA : PAll σ g n e9 z d t b j) (x : Nat) (hx : x < n) : CxI l yX5_textAt wsX5_textAt rmX5_textAt G σ [.ref (gad G 0), .int (nI (2 * snN σ n e9 x))] (fun r σ' => r = nI (48 + x) ∧ σ' = σ) (fun _ => False) := by
  have hg9 := ((pcv hA)).1.2.2
  have hn9 := ((pcv hA)).2.1.2
  have he9 := ((pcv hA)).2.2.2.1.2
  refine (kX5_textAt l hlt G hG hF σ (nI (2 * snN σ n e9 x)) g n e9 z b (pcv hA)).mono (fun r σ9 h => ?_) (fun E h => ?_)
  · have f9 := fsn_lt (σ := σ) (e := e9) hx
    rw [ix_nI (by omega), if_neg (show ¬ 2 * snN σ n e9 x % 2 = 1 by omega), ftx hx, chN (by omega)] at h
    exact ⟨h.1, h.2.1⟩
  · have f9 := fsn_lt (σ := σ) (e := e9) hx
    rw [inT_y hn9 (by omega)] at h; exact absurd h.2 (by decide)
theorem n_textAt1 (l : Launch) (hlt : l.stackTraces = false) (G : Gx) (hG : gOk G) (hF : Full G) (σ : St) {g n e9 z d t j : Nat} {b : Bool} (hA : PAll σ g n e9 z d t b j) (x : Nat) (hx : x < 2 * n - 1) (h1 : x % 2 = 1) : CxI l yX5_textAt wsX5_textAt rmX5_textAt G σ [.ref (gad G 0), .int (nI x)] (fun r σ' => r = 62 ∧ σ' = σ) (fun _ => False) := by
  have hg9 := ((pcv hA)).1.2.2
  have hn9 := ((pcv hA)).2.1.2
  have he9 := ((pcv hA)).2.2.2.1.2
  refine (kX5_textAt l hlt G hG hF σ (nI x) g n e9 z b (pcv hA)).mono (fun r σ9 h => ?_) (fun E h => ?_)
  · rw [ix_nI (by omega), if_pos h1] at h; exact ⟨h.1, h.2.1⟩
  · rw [inT_y hn9 hx] at h; exact absurd h.2 (by decide)
theorem n_teamPoints (l : Launch) (hlt : l.stackTraces = false) (G : Gx) (hG : gOk G) (hF : Full G) (σ : St) {g n e9 z d t j : Nat} {b : Bool} (hA : PAll σ g n e9 z d t b j) (q : Nat) (hq : q < 4) : CxI l yX5_teamPoints wsX5_teamPoints rmX5_teamPoints G σ [.ref (gad G 0), .int (nI q)] (fun r σ' => r = nI (tpN σ q e9 n) ∧ σ' = σ ∧ tpN σ q e9 n ≤ 80 * n) (fun _ => False) := by
  have hg9 := ((pcv hA)).1.2.2
  have hn9 := ((pcv hA)).2.1.2
  have he9 := ((pcv hA)).2.2.2.1.2
  refine (kX5_teamPoints l hlt G hG hF σ (nI q) g n e9 z b (pcv hA)).mono (fun r σ9 h => ?_) (fun E h => ?_)
  · have f9 := ftp hA hq n (Nat.le_refl n)
    exact ⟨h.1.trans f9.1, h.2.1, f9.2⟩
  · rw [inB_y hq (by decide)] at h; exact absurd h.2 (by decide)
theorem n_addGateT (l : Launch) (hlt : l.stackTraces = false) (G : Gx) (hG : gOk G) (hF : Full G) (σ : St) {g n e9 z : Nat} {b : Bool} (hC : CIv σ g n b e9 z) (hb : b = false) (he0 : e9 = 0) (hg : g < 12) : CxI l yX5_addGate wsX5_addGate rmX5_addGate G σ [.ref (gad G 0), .int (bI true)] (fun r σ' => r = nI g ∧ σ' = stGate σ true g) (fun _ => False) := by
  have hg9 := (hC).1.2.2
  have hn9 := (hC).2.1.2
  have he9 := (hC).2.2.2.1.2
  refine (kX5_addGate l hlt G hG hF σ true g n e9 z b hC).mono (fun r σ9 h => ?_) (fun E h => ?_)
  · exact ⟨h.1, h.2.1⟩
  · subst hb; subst he0
    rw [decide_eq_true hg] at h; exact absurd h.2 (by decide)
theorem n_addWay (l : Launch) (hlt : l.stackTraces = false) (G : Gx) (hG : gOk G) (hF : Full G) (σ : St) {g n e9 z : Nat} {b : Bool} (hC : CIv σ g n b e9 z) (hb : b = false) (he0 : e9 = 0) (x y w : Nat) (hx : x < g) (hy : y < g) (hd : x < y ∨ (y = 0 ∧ 0 < x)) (hw : 1 ≤ w) (hw2 : w ≤ 100) : CxI l yX5_addWay wsX5_addWay rmX5_addWay G σ [.ref (gad G 0), .int (nI x), .int (nI y), .int (nI w)] (fun r σ' => r = (if σ 2 (x * 12 + y) = 0 then -1 else σ 2 (x * 12 + y)) ∧ σ' = wySt σ g x y (nI w)) (fun _ => False) := by
  have hg9 := (hC).1.2.2
  have hn9 := (hC).2.1.2
  have he9 := (hC).2.2.2.1.2
  refine (kX5_addWay l hlt G hG hF σ (nI x) (nI y) (nI w) g n e9 z b hC).mono (fun r σ9 h => ?_) (fun E h => ?_)
  · rw [ix_nI (by omega), ix_nI (by omega)] at h; exact ⟨h.1, h.2.1⟩
  · subst hb; subst he0
    have q1 : inR (nI w) 1 100 = true := inR_t (by rw [show (1 : Int32) = nI 1 from rfl]; exact fun q => by have := (nI_ltI (by omega) (by decide)).mp q; omega) (by rw [show (100 : Int32) = nI 100 from rfl]; exact (nI_leI (by omega) (by decide)).mpr hw2)
    have q2 : rgtB (nI x) (nI y) (nI w) = true := by
      unfold rgtB
      rw [q1, Bool.and_true, ix_nI (by omega), ix_nI (by omega)]
      simp only [Bool.or_eq_true, Bool.and_eq_true, decide_eq_true_eq]
      exact hd
    rw [inB_y hx (by omega), inB_y hy (by omega), q2] at h
    rcases h with h | h | h
    · exact absurd h.2 (by decide)
    · exact absurd h.2.2 (by decide)
    · exact absurd h.2.2.2 (by decide)
theorem n_addKart (l : Launch) (hlt : l.stackTraces = false) (G : Gx) (hG : gOk G) (hF : Full G) (σ : St) {g n e9 z : Nat} {b : Bool} (hC : CIv σ g n b e9 z) (hb : b = false) (he0 : e9 = 0) (q : Nat) (hq : q < 4) (hn : n < 6) : CxI l yX5_addKart wsX5_addKart rmX5_addKart G σ [.ref (gad G 0), .int (nI q)] (fun r σ' => r = nI n ∧ σ' = ktSt σ n (nI q)) (fun _ => False) := by
  have hg9 := (hC).1.2.2
  have hn9 := (hC).2.1.2
  have he9 := (hC).2.2.2.1.2
  refine (kX5_addKart l hlt G hG hF σ (nI q) g n e9 z b hC).mono (fun r σ9 h => ?_) (fun E h => ?_)
  · exact ⟨h.1, h.2.1⟩
  · subst hb; subst he0
    rw [inB_y hq (by decide), decide_eq_true hn] at h
    rcases h with h | h
    · exact absurd h.2 (by decide)
    · exact absurd h.2.2 (by decide)
theorem a_0T (l : Launch) (hlt : l.stackTraces = false) (G : Gx) (hG : gOk G) (hF : Full G) (σ : St) {g n e9 z d t j : Nat} {b : Bool} (hA : PAll σ g n e9 z d t b j) (x y : Int32) (hx : inB x g = false) : CmI l yL_asks wsL_asks rmL_asks_0 G σ [.ref (gad G 0), .int 0, .int x, .int y] (fun r σ' => r = -3000 ∧ σ' = σ) 1 6 := by
  refine (kL_asks_0 l hlt G hG hF σ x y g n e9 z b (pcv hA)).mono (fun r σ9 h => ?_)
  rcases h with h | ⟨E9, hE, h1, h2⟩
  · simp only [hx] at h; exact absurd h (by simp)
  · rw [h1, hE.1]; exact ⟨by decide, h2⟩
theorem a_1T (l : Launch) (hlt : l.stackTraces = false) (G : Gx) (hG : gOk G) (hF : Full G) (σ : St) {g n e9 z d t j : Nat} {b : Bool} (hA : PAll σ g n e9 z d t b j) (x y : Int32) (hx : inB x n = false) : CmI l yL_asks wsL_asks rmL_asks_1 G σ [.ref (gad G 0), .int 1, .int x, .int y] (fun r σ' => r = -3000 ∧ σ' = σ) 1 6 := by
  refine (kL_asks_1 l hlt G hG hF σ x y g n e9 z b (pcv hA)).mono (fun r σ9 h => ?_)
  rcases h with h | ⟨E9, hE, h1, h2⟩
  · simp only [hx] at h; exact absurd h (by simp)
  · rcases hE with hE | hE
    · rw [h1, hE.1]; exact ⟨by decide, h2⟩
    · exact absurd (hE.2.1.symm.trans hx) (by decide)
theorem a_1S (l : Launch) (hlt : l.stackTraces = false) (G : Gx) (hG : gOk G) (hF : Full G) (σ : St) {g n e9 z d t j : Nat} {b : Bool} (hA : PAll σ g n e9 z d t b j) (x y : Int32) (hb : b = false) (hx : inB x n = true) : CmI l yL_asks wsL_asks rmL_asks_1 G σ [.ref (gad G 0), .int 1, .int x, .int y] (fun r σ' => r = -1000 ∧ σ' = σ) 1 6 := by
  refine (kL_asks_1 l hlt G hG hF σ x y g n e9 z b (pcv hA)).mono (fun r σ9 h => ?_)
  rcases h with h | ⟨E9, hE, h1, h2⟩
  · exact absurd (h.2.2.2.symm.trans hb) (by decide)
  · rcases hE with hE | hE
    · exact absurd (hE.2.symm.trans hx) (by decide)
    · rw [h1, hE.1]; exact ⟨by decide, h2⟩
theorem a_2T (l : Launch) (hlt : l.stackTraces = false) (G : Gx) (hG : gOk G) (hF : Full G) (σ : St) {g n e9 z d t j : Nat} {b : Bool} (hA : PAll σ g n e9 z d t b j) (x y : Int32) (hx : inB x n = false) : CmI l yL_asks wsL_asks rmL_asks_2 G σ [.ref (gad G 0), .int 2, .int x, .int y] (fun r σ' => r = -3000 ∧ σ' = σ) 1 6 := by
  refine (kL_asks_2 l hlt G hG hF σ x y g n e9 z b (pcv hA)).mono (fun r σ9 h => ?_)
  rcases h with h | ⟨E9, hE, h1, h2⟩
  · simp only [hx] at h; exact absurd h (by simp)
  · rcases hE with hE | hE
    · rw [h1, hE.1]; exact ⟨by decide, h2⟩
    · exact absurd (hE.2.1.symm.trans hx) (by decide)
theorem a_2S (l : Launch) (hlt : l.stackTraces = false) (G : Gx) (hG : gOk G) (hF : Full G) (σ : St) {g n e9 z d t j : Nat} {b : Bool} (hA : PAll σ g n e9 z d t b j) (x y : Int32) (hb : b = false) (hx : inB x n = true) : CmI l yL_asks wsL_asks rmL_asks_2 G σ [.ref (gad G 0), .int 2, .int x, .int y] (fun r σ' => r = -1000 ∧ σ' = σ) 1 6 := by
  refine (kL_asks_2 l hlt G hG hF σ x y g n e9 z b (pcv hA)).mono (fun r σ9 h => ?_)
  rcases h with h | ⟨E9, hE, h1, h2⟩
  · exact absurd (h.2.2.2.symm.trans hb) (by decide)
  · rcases hE with hE | hE
    · exact absurd (hE.2.symm.trans hx) (by decide)
    · rw [h1, hE.1]; exact ⟨by decide, h2⟩
theorem a_3T (l : Launch) (hlt : l.stackTraces = false) (G : Gx) (hG : gOk G) (hF : Full G) (σ : St) {g n e9 z d t j : Nat} {b : Bool} (hA : PAll σ g n e9 z d t b j) (x y : Int32) (hx : inB x n = false) : CmI l yL_asks wsL_asks rmL_asks_3 G σ [.ref (gad G 0), .int 3, .int x, .int y] (fun r σ' => r = -3000 ∧ σ' = σ) 1 6 := by
  refine (kL_asks_3 l hlt G hG hF σ x y g n e9 z b (pcv hA)).mono (fun r σ9 h => ?_)
  rcases h with h | ⟨E9, hE, h1, h2⟩
  · simp only [hx] at h; exact absurd h (by simp)
  · rcases hE with hE | hE
    · rw [h1, hE.1]; exact ⟨by decide, h2⟩
    · exact absurd (hE.2.1.symm.trans hx) (by decide)
theorem a_3S (l : Launch) (hlt : l.stackTraces = false) (G : Gx) (hG : gOk G) (hF : Full G) (σ : St) {g n e9 z d t j : Nat} {b : Bool} (hA : PAll σ g n e9 z d t b j) (x y : Int32) (hb : b = false) (hx : inB x n = true) : CmI l yL_asks wsL_asks rmL_asks_3 G σ [.ref (gad G 0), .int 3, .int x, .int y] (fun r σ' => r = -1000 ∧ σ' = σ) 1 6 := by
  refine (kL_asks_3 l hlt G hG hF σ x y g n e9 z b (pcv hA)).mono (fun r σ9 h => ?_)
  rcases h with h | ⟨E9, hE, h1, h2⟩
  · exact absurd (h.2.2.2.symm.trans hb) (by decide)
  · rcases hE with hE | hE
    · exact absurd (hE.2.symm.trans hx) (by decide)
    · rw [h1, hE.1]; exact ⟨by decide, h2⟩
theorem a_4T (l : Launch) (hlt : l.stackTraces = false) (G : Gx) (hG : gOk G) (hF : Full G) (σ : St) {g n e9 z d t j : Nat} {b : Bool} (hA : PAll σ g n e9 z d t b j) (x y : Int32) (hx : inB x n = false) : CmI l yL_asks wsL_asks rmL_asks_4 G σ [.ref (gad G 0), .int 4, .int x, .int y] (fun r σ' => r = -3000 ∧ σ' = σ) 1 6 := by
  refine (kL_asks_4 l hlt G hG hF σ x y g n e9 z b (pcv hA)).mono (fun r σ9 h => ?_)
  rcases h with h | ⟨E9, hE, h1, h2⟩
  · simp only [hx] at h; exact absurd h (by simp)
  · rcases hE with hE | hE
    · rw [h1, hE.1]; exact ⟨by decide, h2⟩
    · exact absurd (hE.2.1.symm.trans hx) (by decide)
theorem a_4S (l : Launch) (hlt : l.stackTraces = false) (G : Gx) (hG : gOk G) (hF : Full G) (σ : St) {g n e9 z d t j : Nat} {b : Bool} (hA : PAll σ g n e9 z d t b j) (x y : Int32) (hb : b = false) (hx : inB x n = true) : CmI l yL_asks wsL_asks rmL_asks_4 G σ [.ref (gad G 0), .int 4, .int x, .int y] (fun r σ' => r = -1000 ∧ σ' = σ) 1 6 := by
  refine (kL_asks_4 l hlt G hG hF σ x y g n e9 z b (pcv hA)).mono (fun r σ9 h => ?_)
  rcases h with h | ⟨E9, hE, h1, h2⟩
  · exact absurd (h.2.2.2.symm.trans hb) (by decide)
  · rcases hE with hE | hE
    · exact absurd (hE.2.symm.trans hx) (by decide)
    · rw [h1, hE.1]; exact ⟨by decide, h2⟩
theorem a_5T (l : Launch) (hlt : l.stackTraces = false) (G : Gx) (hG : gOk G) (hF : Full G) (σ : St) {g n e9 z d t j : Nat} {b : Bool} (hA : PAll σ g n e9 z d t b j) (x y : Int32) (hx : inB x n = false) : CmI l yL_asks wsL_asks rmL_asks_5 G σ [.ref (gad G 0), .int 5, .int x, .int y] (fun r σ' => r = -3000 ∧ σ' = σ) 1 6 := by
  refine (kL_asks_5 l hlt G hG hF σ x y g n e9 z b (pcv hA)).mono (fun r σ9 h => ?_)
  rcases h with h | ⟨E9, hE, h1, h2⟩
  · simp only [hx] at h; exact absurd h (by simp)
  · rcases hE with hE | hE
    · rw [h1, hE.1]; exact ⟨by decide, h2⟩
    · exact absurd (hE.2.1.symm.trans hx) (by decide)
theorem a_5S (l : Launch) (hlt : l.stackTraces = false) (G : Gx) (hG : gOk G) (hF : Full G) (σ : St) {g n e9 z d t j : Nat} {b : Bool} (hA : PAll σ g n e9 z d t b j) (x y : Int32) (hb : b = false) (hx : inB x n = true) : CmI l yL_asks wsL_asks rmL_asks_5 G σ [.ref (gad G 0), .int 5, .int x, .int y] (fun r σ' => r = -1000 ∧ σ' = σ) 1 6 := by
  refine (kL_asks_5 l hlt G hG hF σ x y g n e9 z b (pcv hA)).mono (fun r σ9 h => ?_)
  rcases h with h | ⟨E9, hE, h1, h2⟩
  · exact absurd (h.2.2.2.symm.trans hb) (by decide)
  · rcases hE with hE | hE
    · exact absurd (hE.2.symm.trans hx) (by decide)
    · rw [h1, hE.1]; exact ⟨by decide, h2⟩
theorem a_6T (l : Launch) (hlt : l.stackTraces = false) (G : Gx) (hG : gOk G) (hF : Full G) (σ : St) {g n e9 z d t j : Nat} {b : Bool} (hA : PAll σ g n e9 z d t b j) (x y : Int32) (hx : inB x n = false) : CmI l yL_asks wsL_asks rmL_asks_6 G σ [.ref (gad G 0), .int 6, .int x, .int y] (fun r σ' => r = -3000 ∧ σ' = σ) 1 6 := by
  refine (kL_asks_6 l hlt G hG hF σ x y g n e9 z b (pcv hA)).mono (fun r σ9 h => ?_)
  rcases h with h | ⟨E9, hE, h1, h2⟩
  · simp only [hx] at h; exact absurd h (by simp)
  · rcases hE with hE | hE
    · rw [h1, hE.1]; exact ⟨by decide, h2⟩
    · exact absurd (hE.2.1.symm.trans hx) (by decide)
theorem a_6S (l : Launch) (hlt : l.stackTraces = false) (G : Gx) (hG : gOk G) (hF : Full G) (σ : St) {g n e9 z d t j : Nat} {b : Bool} (hA : PAll σ g n e9 z d t b j) (x y : Int32) (hb : b = false) (hx : inB x n = true) : CmI l yL_asks wsL_asks rmL_asks_6 G σ [.ref (gad G 0), .int 6, .int x, .int y] (fun r σ' => r = -1000 ∧ σ' = σ) 1 6 := by
  refine (kL_asks_6 l hlt G hG hF σ x y g n e9 z b (pcv hA)).mono (fun r σ9 h => ?_)
  rcases h with h | ⟨E9, hE, h1, h2⟩
  · exact absurd (h.2.2.2.symm.trans hb) (by decide)
  · rcases hE with hE | hE
    · exact absurd (hE.2.symm.trans hx) (by decide)
    · rw [h1, hE.1]; exact ⟨by decide, h2⟩
theorem a_7T (l : Launch) (hlt : l.stackTraces = false) (G : Gx) (hG : gOk G) (hF : Full G) (σ : St) {g n e9 z d t j : Nat} {b : Bool} (hA : PAll σ g n e9 z d t b j) (x y : Int32) (hx : inB x n = false) : CmI l yL_asks wsL_asks rmL_asks_7 G σ [.ref (gad G 0), .int 7, .int x, .int y] (fun r σ' => r = -3000 ∧ σ' = σ) 1 6 := by
  refine (kL_asks_7 l hlt G hG hF σ x y g n e9 z b (pcv hA)).mono (fun r σ9 h => ?_)
  rcases h with h | ⟨E9, hE, h1, h2⟩
  · simp only [hx] at h; exact absurd h (by simp)
  · rw [h1, hE.1]; exact ⟨by decide, h2⟩
theorem a_8T (l : Launch) (hlt : l.stackTraces = false) (G : Gx) (hG : gOk G) (hF : Full G) (σ : St) {g n e9 z d t j : Nat} {b : Bool} (hA : PAll σ g n e9 z d t b j) (x y : Int32) (hx : inB x n = false) : CmI l yL_asks wsL_asks rmL_asks_8 G σ [.ref (gad G 0), .int 8, .int x, .int y] (fun r σ' => r = -3000 ∧ σ' = σ) 1 6 := by
  refine (kL_asks_8 l hlt G hG hF σ x y g n e9 z b (pcv hA)).mono (fun r σ9 h => ?_)
  rcases h with h | ⟨E9, hE, h1, h2⟩
  · simp only [hx] at h; exact absurd h (by simp)
  · rw [h1, hE.1]; exact ⟨by decide, h2⟩
theorem a_9T (l : Launch) (hlt : l.stackTraces = false) (G : Gx) (hG : gOk G) (hF : Full G) (σ : St) {g n e9 z d t j : Nat} {b : Bool} (hA : PAll σ g n e9 z d t b j) (x y : Int32) (hx : (inB x e9 && inB y n) = false) : CmI l yL_asks wsL_asks rmL_asks_9 G σ [.ref (gad G 0), .int 9, .int x, .int y] (fun r σ' => r = -3000 ∧ σ' = σ) 1 6 := by
  refine (kL_asks_9 l hlt G hG hF σ x y g n e9 z b (pcv hA)).mono (fun r σ9 h => ?_)
  rcases h with h | ⟨E9, hE, h1, h2⟩
  · simp only [hx] at h; exact absurd h (by simp)
  · rw [h1, hE.1]; exact ⟨by decide, h2⟩
theorem a_10T (l : Launch) (hlt : l.stackTraces = false) (G : Gx) (hG : gOk G) (hF : Full G) (σ : St) {g n e9 z d t j : Nat} {b : Bool} (hA : PAll σ g n e9 z d t b j) (x y : Int32) (hx : inB x n = false) : CmI l yL_asks wsL_asks rmL_asks_10 G σ [.ref (gad G 0), .int 10, .int x, .int y] (fun r σ' => r = -3000 ∧ σ' = σ) 1 6 := by
  refine (kL_asks_10 l hlt G hG hF σ x y g n e9 z b (pcv hA)).mono (fun r σ9 h => ?_)
  rcases h with h | ⟨E9, hE, h1, h2⟩
  · simp only [hx] at h; exact absurd h (by simp)
  · rw [h1, hE.1]; exact ⟨by decide, h2⟩
theorem a_11T (l : Launch) (hlt : l.stackTraces = false) (G : Gx) (hG : gOk G) (hF : Full G) (σ : St) {g n e9 z d t j : Nat} {b : Bool} (hA : PAll σ g n e9 z d t b j) (x y : Int32) (hx : inB x 4 = false) : CmI l yL_asks wsL_asks rmL_asks_11 G σ [.ref (gad G 0), .int 11, .int x, .int y] (fun r σ' => r = -3000 ∧ σ' = σ) 1 6 := by
  refine (kL_asks_11 l hlt G hG hF σ x y g n e9 z b (pcv hA)).mono (fun r σ9 h => ?_)
  rcases h with h | ⟨E9, hE, h1, h2⟩
  · simp only [hx] at h; exact absurd h (by simp)
  · rw [h1, hE.1]; exact ⟨by decide, h2⟩
theorem a_12T (l : Launch) (hlt : l.stackTraces = false) (G : Gx) (hG : gOk G) (hF : Full G) (σ : St) {g n e9 z d t j : Nat} {b : Bool} (hA : PAll σ g n e9 z d t b j) (x y : Int32) (hx : inB x n = false) : CmI l yL_asks wsL_asks rmL_asks_12 G σ [.ref (gad G 0), .int 12, .int x, .int y] (fun r σ' => r = -3000 ∧ σ' = σ) 1 6 := by
  refine (kL_asks_12 l hlt G hG hF σ x y g n e9 z b (pcv hA)).mono (fun r σ9 h => ?_)
  rcases h with h | ⟨E9, hE, h1, h2⟩
  · simp only [hx] at h; exact absurd h (by simp)
  · rw [h1, hE.1]; exact ⟨by decide, h2⟩
theorem a_13T (l : Launch) (hlt : l.stackTraces = false) (G : Gx) (hG : gOk G) (hF : Full G) (σ : St) {g n e9 z d t j : Nat} {b : Bool} (hA : PAll σ g n e9 z d t b j) (x y : Int32) (hx : inT x n = false) : CmI l yL_asks wsL_asks rmL_asks_13 G σ [.ref (gad G 0), .int 13, .int x, .int y] (fun r σ' => r = -3000 ∧ σ' = σ) 1 6 := by
  refine (kL_asks_13 l hlt G hG hF σ x y g n e9 z b (pcv hA)).mono (fun r σ9 h => ?_)
  rcases h with h | ⟨E9, hE, h1, h2⟩
  · simp only [hx] at h; exact absurd h (by simp)
  · rw [h1, hE.1]; exact ⟨by decide, h2⟩
