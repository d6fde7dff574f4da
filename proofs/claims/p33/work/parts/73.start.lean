set_option maxHeartbeats 8000000 in
set_option maxRecDepth 100000 in
theorem whole_start {p : Program} {e : Env} {s : State} {m : MethodId} {below : List Frame} {meth : Method} {c : Code} (l : Launch) (hflags : l.flags = flags0) {b L : Nat} {xs : Nat → Int32} (hL : L ≤ 260) (C0 : lw_At p s m meth c b L xs) : W p l e room_1 s m #[Value.ref b] below meth c s.heap [] 0 0 (lw_Z below #[Value.ref b] s) (entryFrame m ([Value.ref b] : List Value).toArray 8) := by
  have hlt : l.stackTraces = false := by unfold Launch.stackTraces; rw [hflags]; decide +kernel
  obtain ⟨hx, hb, hr, hml, hown, hts, hX, hbl, hlocks, hgv⟩ := id C0
  have hts2 := fun w h => hts w (wsL_law_in w h)
  obtain ⟨c0, i0, hKn0⟩ := u_known (C := RX0) (T := TX0) (N := 4) (n := 4) hts inX0 (hts (.instantiable RX0 4) (by decide +kernel))
  obtain ⟨c1, i1, hKn1⟩ := u_known (C := RX1) (T := TX1) (N := 4) (n := 4) hts inX1 (hts (.instantiable RX1 4) (by decide +kernel))
  obtain ⟨c2, i2, hKn2⟩ := u_known (C := RX2) (T := TX2) (N := 3) (n := 3) hts inX2 (hts (.instantiable RX2 3) (by decide +kernel))
  obtain ⟨c3, i3, hKn3⟩ := u_known (C := RX3) (T := TX3) (N := 11) (n := 11) hts inX3 (hts (.instantiable RX3 11) (by decide +kernel))
  obtain ⟨c4, i4, hKn4⟩ := u_known (C := RX4) (T := TX4) (N := 4) (n := 4) hts inX4 (hts (.instantiable RX4 4) (by decide +kernel))
  obtain ⟨c5, i5, hKn5⟩ := u_known (C := RX5) (T := TX5) (N := 10) (n := 10) hts inX5 (hts (.instantiable RX5 10) (by decide +kernel))
  obtain ⟨D, hKc⟩ : ∃ D : va_G, ∀ (k : Nat) (q : vw_C), vwCl[k]? = some q → u_Kn s q.1 q.2.1 q.2.2 (D.1 k) (D.2 k) := by
    refine ⟨(fun k => if k = 0 then c0 else if k = 1 then c1 else if k = 2 then c2 else if k = 3 then c3 else if k = 4 then c4 else c5, fun k => if k = 0 then i0 else if k = 1 then i1 else if k = 2 then i2 else if k = 3 then i3 else if k = 4 then i4 else i5), ?_⟩
    intro k q hq
    match k, hq with
    | 0, hq => cases hq; exact hKn0
    | 1, hq => cases hq; exact hKn1
    | 2, hq => cases hq; exact hKn2
    | 3, hq => cases hq; exact hKn3
    | 4, hq => cases hq; exact hKn4
    | 5, hq => cases hq; exact hKn5
    | k + 6, hq => simp [vwCl] at hq
  obtain ⟨kI, hI1, hI2⟩ := arr_of (Or.inl rfl) (hts (.arrayClass .int) (by decide +kernel))
  obtain ⟨kZ, hZ1, hZ2⟩ := arr_of (Or.inr (Or.inl rfl)) (hts (.arrayClass .boolean) (by decide +kernel))
  obtain ⟨tys, etys⟩ : ∃ t : List (ClassId × FieldType), t = [(kI, .int), (kZ, .boolean)] := ⟨_, rfl⟩
  have hT : (kI, FieldType.int) ∈ tys ∧ (kZ, FieldType.boolean) ∈ tys := by subst etys; simp
  have hK : va_K D vwCl tys s := by
    refine ⟨hKc, fun k q hq => ?_⟩
    subst etys
    match k, hq with
    | 0, hq => cases hq; exact ⟨hI1, hI2⟩
    | 1, hq => cases hq; exact ⟨hZ1, hZ2⟩
    | k + 2, hq => simp at hq
  have hA : ∀ q, s.heap.size ≤ q → cA s.heap.size q := fun q h => h
  have hg : s.heap.size ≤ s.heap.size := Nat.le_refl _
  have hS : va_S (cA s.heap.size) s.heap s.heap [] := va_S.rf
  have hP : va_P D vwCl [] s.heap := fun k q h => by simp at h
  have hD : va_D (cA s.heap.size) [] := ⟨fun i j p q h => by simp at h, fun k q h => by simp at h⟩
  have hl := lv_entry ([.ref b]) (n := 8) (Nat.le_of_ble_eq_true rfl)
  rw [lg_entry_eq]
  generalize (lg_sl ([.ref b]) ++ List.replicate (8 - (lg_sl ([.ref b])).length) Slot.unset).toArray = ls at hl ⊢
  have hl : lv_has ls 8 [(0, .ref b)] := hl
  refine kNew (ci := 5) (fs := [.null, .null, .null, .null, .null, .null, .null, .int 0, .int 0, .int 0]) (C := RX5) (T := TX5) (N := 10) hx hb hts2 inlX5 tyX5 tyX5_ok hown (hts2 (.classLink RL 9 RX5) (by decide +kernel)) (hts2 (.instantiable RX5 10) (by decide +kernel)) (hts2 (.initialized RX5) (by decide +kernel)) hK hP hD hS hA rfl (fun j hj => by rcases (show j = 0 ∨ j = 1 ∨ j = 2 ∨ j = 3 ∨ j = 4 ∨ j = 5 ∨ j = 6 ∨ j = 7 ∨ j = 8 ∨ j = 9 by omega) with rfl | rfl | rfl | rfl | rfl | rfl | rfl | rfl | rfl | rfl <;> rfl) (Nat.le_of_ble_eq_true rfl) (Nat.le_of_ble_eq_true rfl) dL_law_0 (fun a0 H hoa0 hP hD hS => ?_)
  refine lv_dup hx hb dL_law_3 rfl ?_
  refine kCall (As := []) (rest := [.ref a0]) ⟨hx, hb, hml, hown, hts2⟩ (kX5_init l D kI kZ s.heap.size tys hT a0 ([])) (cwI 0 hts2 gL_law_X5_init rfl rfl rfl (hts2 (.initialized RX5) (by decide +kernel)) (hts2 (.methodLink RL 155 yX5_init) (by decide +kernel)) (hts2 (.instanceMethod yX5_init) (by decide +kernel)) rfl (by decide +kernel) ⟨Nat.le_of_ble_eq_true rfl, Nat.le_of_ble_eq_true rfl⟩) hK hP hD hg hS rfl hl.1 rfl (Nat.le_of_ble_eq_true rfl) dL_law_4 ⟨Nat.le_of_ble_eq_true rfl, Nat.le_of_ble_eq_true rfl⟩ (fun u9 t H locs ht hB hS => ?_)
  obtain ⟨a30, a29, a28, a27, a24, a25, a26, a23, a22, a21, a20, a19, a18, a17, a16, a15, a14, a13, a12, a11, a10, a9, a8, a7, a6, a5, a4, a3, a2, a1⟩ := u9
  obtain ⟨hP, hD⟩ := hB
  rw [ht] at hP
  have hP : va_P D vwCl [(a30, .inl (kI, 6, .inl zrow)), (a29, .inl (kI, 48, .inl zrow)), (a28, .inl (kI, 48, .inl zrow)), (a27, .inr (0, [.ref a28, .ref a29, .int 0, .int 0])), (a23, .inr (1, [.ref a24, .ref a25, .ref a26, .int 0])), (a24, .inl (kI, 6, .inl (clrK zrow (-1) 6))), (a25, .inl (kZ, 6, .inl (clrK zrow 0 6))), (a26, .inl (kI, 6, .inl (clrK zrow 0 6))), (a22, .inl (kI, 512, .inl zrow)), (a21, .inl (kI, 512, .inl zrow)), (a20, .inr (2, [.ref a21, .ref a22, .int 0])), (a19, .inl (kI, 6, .inl zrow)), (a18, .inl (kI, 6, .inl zrow)), (a17, .inl (kI, 6, .inl zrow)), (a16, .inl (kI, 6, .inl zrow)), (a15, .inl (kI, 6, .inl zrow)), (a14, .inl (kI, 6, .inl zrow)), (a13, .inl (kI, 6, .inl zrow)), (a12, .inr (3, [.ref a1, .ref a13, .ref a14, .ref a15, .ref a16, .ref a17, .ref a18, .ref a19, .int 0, .int 0, .int 0])), (a11, .inl (kI, 6, .inl zrow)), (a10, .inl (kI, 6, .inl zrow)), (a9, .inl (kI, 6, .inl zrow)), (a8, .inl (kI, 6, .inl zrow)), (a7, .inl (kI, 6, .inl zrow)), (a6, .inl (kI, 6, .inl zrow)), (a5, .inl (kI, 6, .inl zrow)), (a4, .inr (3, [.ref a1, .ref a5, .ref a6, .ref a7, .ref a8, .ref a9, .ref a10, .ref a11, .int 0, .int 0, .int 0])), (a3, .inl (kI, 12, .inl (upd zrow 0 (-1)))), (a2, .inl (kI, 144, .inl zrow)), (a1, .inr (4, [.ref a2, .ref a3, .int 1, .int 0])), (a0, .inr (5, [.ref a1, .ref a4, .ref a12, .ref a20, .ref a23, .ref a27, .ref a30, .int 0, .int 0, .int 0]))] H := hP
  have hD : va_D (cA s.heap.size) [(a30, .inl (kI, 6, .inl zrow)), (a29, .inl (kI, 48, .inl zrow)), (a28, .inl (kI, 48, .inl zrow)), (a27, .inr (0, [.ref a28, .ref a29, .int 0, .int 0])), (a23, .inr (1, [.ref a24, .ref a25, .ref a26, .int 0])), (a24, .inl (kI, 6, .inl (clrK zrow (-1) 6))), (a25, .inl (kZ, 6, .inl (clrK zrow 0 6))), (a26, .inl (kI, 6, .inl (clrK zrow 0 6))), (a22, .inl (kI, 512, .inl zrow)), (a21, .inl (kI, 512, .inl zrow)), (a20, .inr (2, [.ref a21, .ref a22, .int 0])), (a19, .inl (kI, 6, .inl zrow)), (a18, .inl (kI, 6, .inl zrow)), (a17, .inl (kI, 6, .inl zrow)), (a16, .inl (kI, 6, .inl zrow)), (a15, .inl (kI, 6, .inl zrow)), (a14, .inl (kI, 6, .inl zrow)), (a13, .inl (kI, 6, .inl zrow)), (a12, .inr (3, [.ref a1, .ref a13, .ref a14, .ref a15, .ref a16, .ref a17, .ref a18, .ref a19, .int 0, .int 0, .int 0])), (a11, .inl (kI, 6, .inl zrow)), (a10, .inl (kI, 6, .inl zrow)), (a9, .inl (kI, 6, .inl zrow)), (a8, .inl (kI, 6, .inl zrow)), (a7, .inl (kI, 6, .inl zrow)), (a6, .inl (kI, 6, .inl zrow)), (a5, .inl (kI, 6, .inl zrow)), (a4, .inr (3, [.ref a1, .ref a5, .ref a6, .ref a7, .ref a8, .ref a9, .ref a10, .ref a11, .int 0, .int 0, .int 0])), (a3, .inl (kI, 12, .inl (upd zrow 0 (-1)))), (a2, .inl (kI, 144, .inl zrow)), (a1, .inr (4, [.ref a2, .ref a3, .int 1, .int 0])), (a0, .inr (5, [.ref a1, .ref a4, .ref a12, .ref a20, .ref a23, .ref a27, .ref a30, .int 0, .int 0, .int 0]))] := hD
  refine lv_astore_n (lv' := [(1, .ref a0), (0, .ref b)]) hx hb dL_law_7 rfl hl (by decide) rfl (fun ls hl => ?_)
  refine lv_bipush (v := 60) hx hb dL_law_8 (by decide) ?_
  refine kRow (kA := kI) (atype := .int) (N' := 60) (a0 := (60, .inl zrow)) hx hb (hts2 (.arrayClass .int) (by decide +kernel)) rfl hK hT.1 hP hD hS hA (fun _ => rfl) (by decide) (by decide) (Nat.le_of_ble_eq_true rfl) (Nat.le_of_ble_eq_true rfl) (Nat.le_of_ble_eq_true rfl) dL_law_10 (fun a31 H hoa31 hP hD hS => ?_)
  refine lv_astore_n (lv' := [(2, .ref a31), (1, .ref a0), (0, .ref b)]) hx hb dL_law_12 rfl hl (by decide) rfl (fun ls hl => ?_)
  refine lv_bipush (v := 36) hx hb dL_law_13 (by decide) ?_
  refine kRow (kA := kI) (atype := .int) (N' := 36) (a0 := (36, .inl zrow)) hx hb (hts2 (.arrayClass .int) (by decide +kernel)) rfl hK hT.1 hP hD hS hA (fun _ => rfl) (by decide) (by decide) (Nat.le_of_ble_eq_true rfl) (Nat.le_of_ble_eq_true rfl) (Nat.le_of_ble_eq_true rfl) dL_law_15 (fun a32 H hoa32 hP hD hS => ?_)
  refine lv_astore_n (lv' := [(3, .ref a32), (2, .ref a31), (1, .ref a0), (0, .ref b)]) hx hb dL_law_17 rfl hl (by decide) rfl (fun ls hl => ?_)
  refine lv_bipush (v := 9) hx hb dL_law_18 (by decide) ?_
  refine kRow (kA := kI) (atype := .int) (N' := 9) (a0 := (9, .inl zrow)) hx hb (hts2 (.arrayClass .int) (by decide +kernel)) rfl hK hT.1 hP hD hS hA (fun _ => rfl) (by decide) (by decide) (Nat.le_of_ble_eq_true rfl) (Nat.le_of_ble_eq_true rfl) (Nat.le_of_ble_eq_true rfl) dL_law_20 (fun a33 H hoa33 hP hD hS => ?_)
  refine lv_astore (lv' := [(4, .ref a33), (3, .ref a32), (2, .ref a31), (1, .ref a0), (0, .ref b)]) hx hb dL_law_22 hl (by decide) rfl (fun ls hl => ?_)
  have hP : va_P D vwCl (wl (mkG D kI kZ (b, L, xs) [a0, a1, a2, a3, a4, a5, a6, a7, a8, a9, a10, a11, a12, a13, a14, a15, a16, a17, a18, a19, a20, a21, a22, a23, a24, a25, a26, a27, a28, a29, a30, a31, a32, a33] s.heap.size tys) s00) H := by rw [w0_is]; exact hP
  have hD : va_D (cA s.heap.size) (wl (mkG D kI kZ (b, L, xs) [a0, a1, a2, a3, a4, a5, a6, a7, a8, a9, a10, a11, a12, a13, a14, a15, a16, a17, a18, a19, a20, a21, a22, a23, a24, a25, a26, a27, a28, a29, a30, a31, a32, a33] s.heap.size tys) s00) := by rw [w0_is]; exact hD
  have hG := w0_ok hD
  obtain ⟨G, eG⟩ : ∃ G9 : Gx, G9 = (mkG D kI kZ (b, L, xs) [a0, a1, a2, a3, a4, a5, a6, a7, a8, a9, a10, a11, a12, a13, a14, a15, a16, a17, a18, a19, a20, a21, a22, a23, a24, a25, a26, a27, a28, a29, a30, a31, a32, a33] s.heap.size tys) := ⟨_, rfl⟩
  have q0 : gad G 0 = a0 := by rw [eG]; rfl
  have q31 : gad G 31 = a31 := by rw [eG]; rfl
  have q32 : gad G 32 = a32 := by rw [eG]; rfl
  have q33 : gad G 33 = a33 := by rw [eG]; rfl
  have hgb : gbs G = s.heap.size := by rw [eG]; rfl
  have hsc : gsc G = (b, L, xs) := by rw [eG]; rfl
  have hF : Full G := by rw [eG]; exact ⟨fun c hc => (show ∀ c, c < 34 → c ∈ glL by decide) c hc, hT.1, hT.2, trivial, rfl⟩
  have hgl : 34 ∉ gl G ∧ 35 ∉ gl G := by rw [eG]; exact ⟨show 34 ∉ glL by decide, show 35 ∉ glL by decide⟩
  have hLs : (gsc G).2.1 < 1000 := by rw [hsc]; show L < 1000; omega
  have hAb : ¬ gA G b := fun h => by have h2 : gbs G ≤ b := h; omega
  have fx : Fx G s := ⟨by rw [eG]; exact hG, by rw [eG]; exact hK, by rw [hgb]; exact Nat.le_refl _, fun _ => ⟨sx_of (fun a ha h => by have h2 : gbs G ≤ a := h; omega) hts (fun w hw => flat_of_before _ hgv w hw), by unfold scT; rw [hsc]; exact scT_of hX hAb⟩⟩
  have hAG : gA G = cA s.heap.size := by rw [eG]; rfl
  have hw : Wd G s s00 H locs := ⟨by rw [eG]; exact hP, by rw [hAG]; exact hS⟩
  rw [← eG] at hG
  have hl : lv_has ls 8 [(0, .ref (gsc G).1), (1, .ref (gad G 0)), (2, .ref (gad G 31)), (3, .ref (gad G 32)), (4, .ref (gad G 33))] := by rw [q0, q31, q32, q33, hsc]; exact lv_sub hl [4, 3, 2, 1, 0] rfl
  refine lv_aload hx hb dL_law_24 (lv_at hl 4 rfl) ?_
  refine lv_iconst (v := 0) hx hb dL_law_26 (by decide) ?_
  refine lv_iconst (v := 1) hx hb dL_law_27 (by decide) ?_
  refine lv_rep1 (x := 0) (y := nI 0) rfl ?_
  refine rAst (x := 1) hx hb fx hw 33 (hF.1 33 (by decide)) hF.2.1 (fun _ => rfl) 0 rfl (by decide) (by decide) dL_law_28 (fun H locs hw => ?_)
  refine W.widen (k := 100) (n := 3000) (Nat.le_of_ble_eq_true rfl) (Nat.le_of_ble_eq_true rfl) ?_
  refine law_rest l hlt G hG hF s0 PAll_0 PGat_0 hgl hLs hx hb hml hts2 hown fx hw hl (fun σ9 H9 locs9 ls9 hw9 => ?_)
  refine va_forget (fun q hq => by have q2 : gbs G ≤ q.base := hw9.2.2.2 q hq; omega) ?_
  exact lw_ret hx hb hr hlocks dL_law_487
