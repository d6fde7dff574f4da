/-! a world with a row more -/
def extG (G : Gx) (c9 a : Nat) : Gx := (G.1, G.2.1, G.2.2.1, G.2.2.2.1, (fun x => if x = c9 then a else gad G x), gbs G, c9 :: gl G, gT G, gs G)
theorem ext_gad {G : Gx} {c9 a x : Nat} (h : x ≠ c9) : gad (extG G c9 a) x = gad G x := if_neg h
theorem ext_cE {G : Gx} {c9 a : Nat} (h : 34 ≤ c9) (c : Nat) (f : Nat → Int32) : cE (extG G c9 a) c f = cE G c f := by
  have hk : ∀ k, k < 34 → gad (extG G c9 a) k = gad G k := fun k hk => ext_gad (by omega)
  have hI : gcI (extG G c9 a) = gcI G := rfl
  have hZ : gcZ (extG G c9 a) = gcZ G := rfl
  unfold cE
  split <;> simp [eRace, eRow, eBool, hk, hI, hZ]
theorem ext_wl {G : Gx} {c9 a : Nat} (h : 34 ≤ c9) (hn : c9 ∉ gl G) (σ : St) (f : Nat → Int32) : wl (extG G c9 a) (upA σ c9 f) = (a, cE G c9 f) :: wl G σ := by
  have h1 : wl (extG G c9 a) (upA σ c9 f) = (gad (extG G c9 a) c9, cE (extG G c9 a) c9 (upA σ c9 f c9)) :: (gl G).map (fun c => (gad (extG G c9 a) c, cE (extG G c9 a) c (upA σ c9 f c))) := rfl
  rw [h1, ext_cE h, upA_s, show gad (extG G c9 a) c9 = a from if_pos rfl]
  congr 1
  refine List.map_congr_left (fun c hc => ?_)
  have hne : c ≠ c9 := fun e => hn (e ▸ hc)
  rw [ext_gad hne, ext_cE h, upA_n hne]
theorem ext_tl {G : Gx} {c9 a : Nat} (h : 34 ≤ c9) (hn : c9 ∉ gl G) (σ : St) : wl (extG G c9 a) σ = (a, cE G c9 (σ c9)) :: wl G σ := by
  have h1 := ext_wl (a := a) h hn σ (σ c9)
  rw [upA_self] at h1
  exact h1
theorem P_tail {D : va_G} {cl : List vw_C} {ws : va_W} {x9 : Nat × va_E} {H : Heap} (h : va_P D cl (x9 :: ws) H) : va_P D cl ws H := fun k q hk => h (k + 1) q hk
section EXT
variable {p : Program} {l : Launch} {e : Env} {R : Room} {s : State} {m : MethodId} {args : Array Value} {below : List Frame} {meth : Method} {c : Code} {H : Heap} {locs : List Loc} {cells slots : Nat} {Q : State → Prop}
variable {pc : Nat} {ls : Array Slot} {rest : List Value} {cc : ByteArray} {G G0 : Gx} {σ : St}
theorem rNewI (hx : p.tables.exec = Jvm.exec) (hb : c.code = cc) (harr : (Cond.arrayClass .int).before args s = true) (fx : Fx G s) (hw : Wd G s σ H locs) (hT : (gcI G, FieldType.int) ∈ gT G) (c9 : Nat) (h34 : 34 ≤ c9) (hc9 : c9 ∉ gl G) {n : Int32} {N' : Nat} (hE : cE G c9 zrow = .inl (gcI G, N', .inl zrow)) (hn : ¬ n < 0) (hN : n.toNatClampNeg = N') (hbytes : N' * componentBytes .int ≤ 536870912) (hcells : cells + 1 ≤ R.cells) (hslots : slots + N' ≤ R.slots) (hdg : decode cc pc = .ok (.newarray .int, 2))
    (kk : ∀ (a : Nat) (H1 : Heap), gOk (extG G c9 a) → Fx (extG G c9 a) s → Wd (extG G c9 a) s (upA σ c9 zrow) H1 locs → W p l e R s m args below meth c H1 locs (cells + 1) (slots + N') Q (F0 m (pc + 2) ls (.ref a :: rest))) : W p l e R s m args below meth c H locs cells slots Q (F0 m pc ls (.int n :: rest)) := by
  refine kRow (kA := gcI G) (atype := .int) (ty := .int) (a0 := (N', .inl zrow)) hx hb harr rfl fx.2.1 hT hw.1 (wl_D fx.1 σ) hw.2 (fun q hq => Nat.le_trans fx.2.2.1 hq) (fun _ => rfl) hn hN hbytes hcells hslots hdg (fun a H1 hlt hP hD hS => ?_)
  have hgad : ∀ x ∈ gl G, gad G x < a := fun x hx => by
    obtain ⟨k, -, hk⟩ := wl_get hx σ
    exact hlt k _ hk
  have hbs : gbs G ≤ a := hD.2 0 _ rfl
  have hOk : gOk (extG G c9 a) := by
    refine ⟨List.nodup_cons.mpr ⟨hc9, fx.1.1⟩, ?_, ?_⟩
    · intro x hx y hy hxy
      rcases List.mem_cons.mp hx with ex | hx2
      · rcases List.mem_cons.mp hy with ey | hy2
        · exact ex.trans ey.symm
        · have hne : y ≠ c9 := fun e => hc9 (e ▸ hy2)
          rw [ex, show gad (extG G c9 a) c9 = a from if_pos rfl, ext_gad hne] at hxy
          have := hgad y hy2
          omega
      · have hne : x ≠ c9 := fun e => hc9 (e ▸ hx2)
        rcases List.mem_cons.mp hy with ey | hy2
        · rw [ey, show gad (extG G c9 a) c9 = a from if_pos rfl, ext_gad hne] at hxy
          have := hgad x hx2
          omega
        · have hne2 : y ≠ c9 := fun e => hc9 (e ▸ hy2)
          rw [ext_gad hne, ext_gad hne2] at hxy
          exact fx.1.2.1 x hx2 y hy2 hxy
    · intro x hx
      rcases List.mem_cons.mp hx with ex | hx2
      · rw [ex, show gad (extG G c9 a) c9 = a from if_pos rfl]; exact hbs
      · have hne : x ≠ c9 := fun e => hc9 (e ▸ hx2)
        rw [ext_gad hne]
        exact fx.1.2.2 x hx2
  refine kk a H1 hOk ⟨hOk, fx.2⟩ ⟨?_, hS⟩
  · show va_P (gD G) vwCl (wl (extG G c9 a) (upA σ c9 zrow)) H1
    rw [ext_wl h34 hc9, hE]
    exact hP
theorem rRetB {post : Int32 → St → Prop} {ty : FieldType} {k n : Nat} (hx : p.tables.exec = Jvm.exec) (hb : c.code = cc) (hr : meth.sig.returnType = some ty) (hw : Wd G s σ H locs) (hback : ∀ (σ' : St) (H' : Heap), va_P (gD G) vwCl (wl G σ') H' → va_P (gD G0) vwCl (wl G0 σ') H') (hAq : gA G = gA G0) {v : Int32} (hn : narrow ty (.int v) = .int v) (hp : post v σ) (hlocks : meth.locks = false) (hdg : decode cc pc = .ok (.ireturn, 1)) (hc : cells ≤ k) (hs : slots ≤ n) : W p l e R s m args below meth c H locs cells slots (MQ below (va_Qi post (BW G0) (gA G0)) args s k n (gA G0)) (F0 m pc ls [.int v]) := by
  have hS := hw.2
  rw [hAq] at hS
  exact fun T hT X => W.zret (v := v) hx hb hr hn (fun t ht hW => ⟨⟨v, σ, rfl, hp, by show va_P _ _ _ t.heap; rw [ht]; exact hback _ _ hw.1⟩, hS.F ht⟩) hS.2.2 hdg hlocks T hT (stand_widen X hc hs)
end EXT
/-! a race ended -/
def flA (f v : Nat → Int32) (i : Nat) : Nat → Int32 := fun x => if x < i then v x else f x
theorem flA_0 (f v : Nat → Int32) : flA f v 0 = f := rfl
theorem flA_s {f v : Nat → Int32} {i : Nat} {x : Int32} (h : x = v i) : upd (flA f v i) i x = flA f v (i + 1) := by
  subst h
  funext y
  unfold upd flA
  by_cases e : y = i
  · subst e; rw [if_pos rfl, if_pos (by omega)]
  · rw [if_neg e]
    by_cases c : y < i
    · rw [if_pos c, if_pos (by omega)]
    · rw [if_neg c, if_neg (by omega)]
theorem flA_v {f v : Nat → Int32} {i x : Nat} (h : x < i) : flA f v i x = v x := if_pos h
def fiA (σ : St) (n : Nat) : Nat → Int32
  | 0 => -1
  | i + 1 => if rkA σ n i = 0 then nI i else fiA σ n i
def lpN (σ : St) (k : Nat) : Nat := ix (σ 32 (6 * k + 2))
def dbN (σ : St) (k : Nat) : Nat := ix (σ 32 (6 * k + 3))
def pvE (σ : St) (n e k : Nat) (i : Nat) : Nat := if i < e then pvN σ k i else if wrtB σ k = true then wtN (rkA σ n k) else 0
def ptE (σ : St) (n e d k : Nat) : Nat := sumN (pvE σ n e k) d (e + 1) (e + 1)
section ENDL
variable {σ τ : St} {g n e z d t j k : Nat} {b : Bool}
theorem PAll_34 (ho : ∀ c, c < 34 → τ c = σ c) (hA : PAll σ g n e z d t b j) : PAll τ g n e z d t b j := by
  obtain ⟨⟨hC1, hC2, hC3, hC4, hC5, hC6, hC7, hC8⟩, h2, h3, h4, h5, h6, h7, h8⟩ := id hA
  refine ⟨⟨?_, ?_, ?_, ?_, ?_, rOk_of (ho (4 + 1) (by omega)) hC6, ?_, ?_⟩, ?_, ?_, ?_, ?_, fun hb => ?_, h7, h8⟩
  · rw [ho 1 (by omega)]; exact hC1
  · rw [ho 0 (by omega)]; exact hC2
  · rw [ho 0 (by omega)]; exact hC3
  · rw [ho 27 (by omega)]; exact hC4
  · rw [ho 20 (by omega)]; exact hC5
  · rw [ho 4 (by omega)]; exact hC7
  · rw [ho 21 (by omega), ho 22 (by omega)]; exact hC8
  · unfold PNum
    rw [ho 33 (by omega), ho 1 (by omega), ho 27 (by omega), ho 0 (by omega)]
    exact h2
  · unfold PTrk
    rw [ho 2 (by omega), ho 3 (by omega), ho 31 (by omega)]
    exact h3
  · unfold PCup
    rw [ho 28 (by omega), ho 29 (by omega)]
    exact h4
  · unfold PTeam
    rw [ho 30 (by omega)]
    exact h5
  · have hr := h6 hb
    refine PRace_of (Nat.le_refl t) (by rw [ho 0 (by omega)]) (by rw [ho 1 (by omega)]) (ho 2 (by omega)) (ho 4 (by omega)) (ho 5 (by omega)) (ho 6 (by omega)) (ho 7 (by omega)) (ho 8 (by omega)) (ho 9 (by omega)) (ho 21 (by omega)) (ho 22 (by omega)) ?_ ?_ (ho 32 (by omega)) (by rw [ho 33 (by omega)]) (prec hA) hr
    · rw [ho 24 (by omega)]; exact P24 hr
    · rw [ho 26 (by omega)]; exact P26 (Nat.le_refl t) hr
theorem PGat_34 (ho : ∀ c, c < 34 → τ c = σ c) (hG : PGat σ g) : PGat τ g := by
  unfold PGat
  rw [ho 32 (by decide)]
  exact hG
theorem rk_34 (ho : ∀ c, c < 34 → τ c = σ c) (a : Nat) : rkA τ n a = rkA σ n a := by
  unfold rkA
  exact cntA_cong n (fun i _ => ahB_cong (ho 4 (by decide)) (ho 5 (by decide)) (ho 6 (by decide)) (ho 7 (by decide)) (ho 9 (by decide)) (ho 3 (by decide)) i a)
theorem pt_34 (ho : ∀ c, c < 34 → τ c = σ c) (a : Nat) : ptN τ e a = ptN σ e a := by
  unfold ptN
  rw [ho 29 (by decide), ho 27 (by decide)]
theorem wr_34 (ho : ∀ c, c < 34 → τ c = σ c) (a : Nat) : wrtB τ a = wrtB σ a := by
  unfold wrtB finB netA
  rw [ho (4 + 2) (by decide), ho 4 (by decide), ho (4 + 3) (by decide)]
theorem wn_34 (ho : ∀ c, c < 34 → τ c = σ c) : ∀ i, wnA τ n i = wnA σ n i
  | 0 => rfl
  | i + 1 => by rw [wnA, wnA, rk_34 ho, wn_34 ho i]
theorem fi_wn : ∀ i, (∃ k, k < i ∧ rkA σ n k = 0) → fiA σ n i = nI (wnA σ n i)
  | 0, h => by obtain ⟨k, hk, -⟩ := h; omega
  | i + 1, h => by
    rw [fiA, wnA]
    by_cases q : rkA σ n i = 0
    · rw [if_pos q, if_pos q]
    · rw [if_neg q, if_neg q]
      refine fi_wn i ?_
      obtain ⟨k, hk, e0⟩ := h
      refine ⟨k, ?_, e0⟩
      rcases Nat.lt_or_ge k i with c | c
      · exact c
      · have : k = i := by omega
        subst this
        exact absurd e0 q
theorem fi_is (hA : PAll σ g n e z d t b j) (hb : b = true) : fiA σ n n = nI (wnA σ n n) := by
  have hn := (pn hA).2
  obtain ⟨k, h1, h2⟩ := cnt_surj (pstO hA hb) (by omega) 0 (pn0 hA hb)
  exact fi_wn n ⟨k, h1, h2⟩
theorem pk_lp (hA : PAll σ g n e z d t b j) (hb : b = true) (hk : k < 6) : σ 32 (6 * k + 2) = nI (lpN σ k) ∧ lpN σ k ≤ 9 ∧ σ 32 (6 * k + 3) = nI (dbN σ k) ∧ dbN σ k ≤ z ∧ wrtB σ k = (finB σ 4 k || decide (dbN σ k < lpN σ k)) := by
  obtain ⟨G9, lp, db, ga, x1, x2, x3, x4, x5, x6, x7, -⟩ := pkx hA hb hk
  have hz := pz hA
  have xa := x1.2
  have xb := x2.2
  have xc := x3.2
  obtain ⟨c1, c2⟩ := clN x6 (by omega)
  obtain ⟨c3, c4⟩ := clN x7 (by omega)
  have c2' : lpN σ k = lp := c2
  have c4' : dbN σ k = db := c4
  refine ⟨c1, by omega, c3, by omega, ?_⟩
  rw [c2', c4']
  unfold wrtB netA
  congr 1
  rw [show σ (4 + 2) k = nI lp from x2.1, show σ (4 + 3) k = nI db from x3.1]
  have h3 : (nI lp - nI db).toInt = (lp : Int) - db := pk_sub_toInt (by omega) (by omega)
  by_cases q : db < lp
  · rw [decide_eq_true q, decide_eq_false]; rfl
    rw [Int32.le_iff_toInt_le, h3, show (0 : Int32).toInt = 0 from by decide]
    omega
  · rw [decide_eq_false q, decide_eq_true]; rfl
    rw [Int32.le_iff_toInt_le, h3, show (0 : Int32).toInt = 0 from by decide]
    omega
theorem en_lo29 {x : Nat} (hx : x < e * 6) : ∀ i, enS σ n e i 29 x = σ 29 x
  | 0 => rfl
  | i + 1 => by rw [enS, upA_s, pk_un (by omega)]; exact en_lo29 hx i
theorem en_at29 : ∀ i, k < i → enS σ n e i 29 (e * 6 + k) = (if wrtB σ k = true then tPts (rkA σ n k) else 0)
  | 0, h => absurd h (by omega)
  | i + 1, h => by
    rw [enS, upA_s]
    by_cases q : k = i
    · subst q; exact pk_us
    · rw [pk_un (by omega)]; exact en_at29 i (by omega)
theorem en_28 : enSt σ n e 28 = enS σ n e n 28 := by unfold enSt; rw [upA_n (by decide), upA_n (by decide)]
theorem en_29 : enSt σ n e 29 = enS σ n e n 29 := by unfold enSt; rw [upA_n (by decide), upA_n (by decide)]
theorem en_27 : enSt σ n e 27 = upd (σ 27) 2 (nI (e + 1)) := by unfold enSt; rw [upA_n (by decide), upA_s]
theorem en_0 : enSt σ n e 0 = upd (σ 0) 8 0 := by unfold enSt; rw [upA_s]
theorem en_o {c : Nat} (h0 : c ≠ 0) (h1 : c ≠ 27) (h2 : c ≠ 28) (h3 : c ≠ 29) : enSt σ n e c = σ c := by unfold enSt; rw [upA_n h0, upA_n h1, enS_o h2 h3]
/-- the points behind the end -/
theorem en_pt (hA : PAll σ g n e z d t b j) (he : e < 8) (hk : k < n) : sumA (enSt σ n e 29) (enSt σ n e 27 3) k (e + 1) (e + 1) = nI (ptE σ n e d k) ∧ ptE σ n e d k ≤ 90 ∧ (0 < d → ptN σ e k ≤ ptE σ n e d k ∧ ptE σ n e d k ≤ ptN σ e k + 10) ∧ (d = 0 → ptE σ n e d k = ptN σ e k + (if wrtB σ k = true then wtN (rkA σ n k) else 0)) := by
  obtain ⟨d1, d2, d3⟩ := pdr hA
  have hn := (pn hA).2
  have hv0 : ∀ i, i < e → pvE σ n e k i = pvN σ k i := fun i hi => if_pos hi
  have hve : pvE σ n e k e = (if wrtB σ k = true then wtN (rkA σ n k) else 0) := if_neg (by omega)
  have hw := wtN_le (rkA σ n k)
  have hv : ∀ i, i < e + 1 → enSt σ n e 29 (i * 6 + k) = nI (pvE σ n e k i) ∧ pvE σ n e k i ≤ 10 := fun i hi => by
    rw [en_29]
    by_cases q : i = e
    · subst q
      rw [en_at29 n hk, hve]
      cases wrtB σ k
      · exact ⟨rfl, Nat.zero_le 10⟩
      · rw [if_pos rfl, if_pos rfl, tPts_wt]; exact ⟨rfl, hw⟩
    · rw [en_lo29 (by omega), hv0 i (by omega)]
      obtain ⟨a1, a2⟩ := fpv hA (show i < e by omega) hk
      have := wtN_le (plN σ i k)
      exact ⟨a1, by omega⟩
  have h27 : enSt σ n e 27 3 = nI d := by rw [en_27, pk_un (by decide)]; exact d2
  rw [h27]
  obtain ⟨h1, h2⟩ := sum_eq hv (by omega) d3 (e + 1) (Nat.le_refl _)
  have hold : sumN (pvE σ n e k) d e e = ptN σ e k := by
    rw [(fpt hA hk).2.1]
    exact sum_cong hv0 e (Nat.le_refl e)
  refine ⟨h1, by unfold ptE; omega, fun h0 => ?_, fun h0 => ?_⟩
  · have := sum_ten (v := pvE σ n e k) (d := d) (e := e) h0 (fun i hi => (hv i (by omega)).2)
    rw [hold] at this
    exact this
  · subst h0
    unfold ptE
    rw [sum_none, hve, sum_none2 (e + 1) e, hold]
theorem en_pl (hk : k < n) : enSt σ n e 28 (e * 6 + k) = nI (rkA σ n k) := by rw [en_28]; exact en_at n hk
theorem CIv_en (hA : PAll σ g n e z d t b j) (hb : b = true) : CIv (enSt σ n e) g n false (e + 1) z := by
  have he := pe8 hA hb
  obtain ⟨⟨hC1, hC2, hC3, hC4, hC5, hC6, hC7, hC8⟩, -⟩ := hA
  have O : ∀ c, c ≠ 0 → c ≠ 27 → c ≠ 28 → c ≠ 29 → enSt σ n e c = σ c := fun c => en_o
  refine ⟨?_, ?_, ?_, ?_, ?_, rOk_of (O (4 + 1) (by decide) (by decide) (by decide) (by decide)) hC6, fun q => absurd q (by decide), ?_⟩
  · rw [O 1 (by decide) (by decide) (by decide) (by decide)]; exact hC1
  · rw [en_0]; exact hC2
  · rw [en_0]; rfl
  · rw [en_27]; exact ⟨rfl, by omega⟩
  · rw [O 20 (by decide) (by decide) (by decide) (by decide)]; exact hC5
  · rw [O 21 (by decide) (by decide) (by decide) (by decide), O 22 (by decide) (by decide) (by decide) (by decide)]; exact hC8
theorem po_end {ρ : St} (hA : PAll σ g n e z d t b j) (hG : PGat σ g) (hb : b = true) (hρ : ∀ c, c ≠ 33 → c < 34 → ρ c = enSt σ n e c) (h33 : ρ 33 = upd (upd (σ 33) 3 0) 6 (nI (e + 1))) : PIn ρ (j + 1) := by
  have he := pe8 hA hb
  have hC := CIv_en hA hb
  have hA0 := hA
  have hn := (pn hA).2
  obtain ⟨hC1, hC2, hC3, hC4, hC5, hC6, hC7, hC8⟩ := hC
  obtain ⟨-, ⟨n1, n2, n3, n4, n5, n6, n7, n8, n9, n10⟩, ⟨w1, w2, w3⟩, hcu, hte, hra, ht, hz⟩ := hA
  have O : ∀ c, c ≠ 0 → c ≠ 27 → c ≠ 28 → c ≠ 29 → c ≠ 33 → c < 34 → ρ c = σ c := fun c a1 a2 a3 a4 a5 a6 => (hρ c a5 a6).trans (en_o a1 a2 a3 a4)
  rw [hb, if_pos rfl] at n5
  refine ⟨g, n, e + 1, z, d, t, false, ⟨⟨?_, ?_, ?_, ?_, ?_, rOk_of (hρ (4 + 1) (by decide) (by decide)) hC6, fun q => absurd q (by decide), ?_⟩, ⟨?_, ?_, ?_, ?_, ?_, ?_, ⟨?_, ?_, n7.2.2⟩, ⟨?_, ?_⟩, n9, fun q => absurd q (by decide)⟩, ⟨?_, ?_, ?_⟩, fun i hi => ?_, ?_, fun q => absurd q (by decide), by omega, by omega⟩, ?_⟩
  · rw [hρ 1 (by decide) (by decide)]; exact hC1
  · rw [hρ 0 (by decide) (by decide)]; exact hC2
  · rw [hρ 0 (by decide) (by decide)]; exact hC3
  · rw [hρ 27 (by decide) (by decide)]; exact hC4
  · rw [hρ 20 (by decide) (by decide)]; exact hC5
  · rw [hρ 21 (by decide) (by decide), hρ 22 (by decide) (by decide)]; exact hC8
  · rw [h33]; exact n1
  · rw [h33, O 1 (by decide) (by decide) (by decide) (by decide) (by decide) (by decide)]; exact n2
  · rw [h33]; exact n3
  · rw [h33]; rfl
  · rw [h33, if_neg (by decide)]; exact n5
  · rw [h33]; rfl
  · rw [h33]; exact n7.1
  · rw [hρ 27 (by decide) (by decide), en_27]; exact n7.2.1
  · rw [h33]; exact n8.1
  · rw [hρ 0 (by decide) (by decide), en_0]; exact n8.2
  · rw [O 2 (by decide) (by decide) (by decide) (by decide) (by decide) (by decide)]; exact w1
  · rw [O 2 (by decide) (by decide) (by decide) (by decide) (by decide) (by decide), O 3 (by decide) (by decide) (by decide) (by decide) (by decide) (by decide)]; exact w2
  · rw [O 2 (by decide) (by decide) (by decide) (by decide) (by decide) (by decide), O 31 (by decide) (by decide) (by decide) (by decide) (by decide) (by decide)]; exact w3
  · rw [hρ 28 (by decide) (by decide), hρ 29 (by decide) (by decide), en_28, en_29]
    by_cases q : i = e
    · subst q
      refine ⟨fun k hk => ⟨rkA σ n k, rkA_lt hk, en_at n hk, ?_⟩, fun p hp => ?_⟩
      · rw [en_at29 n hk]
        cases wrtB σ k
        · exact Or.inl rfl
        · exact Or.inr rfl
      · obtain ⟨k, h1, h2⟩ := cnt_surj (pstO hA0 hb) (by omega) p hp
        exact ⟨k, h1, by rw [en_at n h1]; exact congrArg nI h2⟩
    · obtain ⟨h1, h2⟩ := hcu i (by omega)
      refine ⟨fun k hk => ?_, fun p hp => ?_⟩
      · rw [en_lo (by omega), en_lo29 (by omega)]; exact h1 k hk
      · obtain ⟨k, h3, h4⟩ := h2 p hp
        exact ⟨k, h3, by rw [en_lo (by omega)]; exact h4⟩
  · unfold PTeam
    rw [O 30 (by decide) (by decide) (by decide) (by decide) (by decide) (by decide)]; exact hte
  · unfold PGat
    rw [O 32 (by decide) (by decide) (by decide) (by decide) (by decide) (by decide)]; exact hG
end ENDL
theorem bI_is1 {b : Bool} (h : bI b = 1) : b = true := by cases b <;> first | rfl | exact absurd h (by decide)
theorem bI_not1 {b : Bool} (h : ¬ bI b = 1) : b = false := by cases b <;> first | rfl | exact absurd rfl h
