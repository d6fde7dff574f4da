/-! the world: cells numbered 0 .. 35 (31: the law's ways, 32: its karts, 33: its numbers, 34 and 35: rows of one call), cell c at the address gad G c, holding the numbers σ c k -/
abbrev St : Type := Nat → Nat → Int32
def upA (σ : St) (c : Nat) (f : Nat → Int32) : St := fun a => if a = c then f else σ a
theorem upA_s (σ : St) (c : Nat) (f : Nat → Int32) : upA σ c f c = f := if_pos rfl
theorem upA_n {σ : St} {c a : Nat} {f : Nat → Int32} (h : a ≠ c) : upA σ c f a = σ a := if_neg h
abbrev Gx : Type := va_G × ClassId × ClassId × (Nat × Nat × (Nat → Int32)) × (Nat → Nat) × Nat × List Nat × List (ClassId × FieldType) × Bool
def gD (G : Gx) : va_G := G.1
def gcI (G : Gx) : ClassId := G.2.1
def gcZ (G : Gx) : ClassId := G.2.2.1
/-- the script: its address, its length, its numbers -/
def gsc (G : Gx) : Nat × Nat × (Nat → Int32) := G.2.2.2.1
def gad (G : Gx) : Nat → Nat := G.2.2.2.2.1
def gbs (G : Gx) : Nat := G.2.2.2.2.2.1
def gl (G : Gx) : List Nat := G.2.2.2.2.2.2.1
def gT (G : Gx) : List (ClassId × FieldType) := G.2.2.2.2.2.2.2.1
def gs (G : Gx) : Bool := G.2.2.2.2.2.2.2.2
def gA (G : Gx) : Nat → Prop := fun q => gbs G ≤ q
def eRace (G : Gx) (b : Nat) (f : Nat → Int32) : va_E := .inr (3, [.ref (gad G 1), .ref (gad G (b + 1)), .ref (gad G (b + 2)), .ref (gad G (b + 3)), .ref (gad G (b + 4)), .ref (gad G (b + 5)), .ref (gad G (b + 6)), .ref (gad G (b + 7)), .int (f 8), .int (f 9), .int (f 10)])
def eRow (G : Gx) (n : Nat) (f : Nat → Int32) : va_E := .inl (gcI G, n, .inl f)
def eBool (G : Gx) (n : Nat) (f : Nat → Int32) : va_E := .inl (gcZ G, n, .inl f)
def cE (G : Gx) (c : Nat) (f : Nat → Int32) : va_E := match c with
  | 0 => .inr (5, [.ref (gad G 1), .ref (gad G 4), .ref (gad G 12), .ref (gad G 20), .ref (gad G 23), .ref (gad G 27), .ref (gad G 30), .int (f 7), .int (f 8), .int (f 9)])
  | 1 => .inr (4, [.ref (gad G 2), .ref (gad G 3), .int (f 2), .int (f 3)])
  | 2 => eRow G 144 f
  | 3 => eRow G 12 f
  | 4 => eRace G 4 f
  | 12 => eRace G 12 f
  | 20 => .inr (2, [.ref (gad G 21), .ref (gad G 22), .int (f 2)])
  | 21 => eRow G 512 f
  | 22 => eRow G 512 f
  | 23 => .inr (1, [.ref (gad G 24), .ref (gad G 25), .ref (gad G 26), .int (f 3)])
  | 25 => eBool G 6 f
  | 27 => .inr (0, [.ref (gad G 28), .ref (gad G 29), .int (f 2), .int (f 3)])
  | 28 => eRow G 48 f
  | 29 => eRow G 48 f
  | 31 => eRow G 60 f
  | 32 => eRow G 36 f
  | 33 => eRow G 9 f
  | _ => eRow G 6 f
def rB (b : Nat) : Prop := b = 4 ∨ b = 12
theorem cE_race {G : Gx} {b : Nat} (h : rB b) (f : Nat → Int32) : cE G b f = eRace G b f := by rcases h with rfl | rfl <;> rfl
theorem cE_row {G : Gx} {b : Nat} (h : rB b) {k : Nat} (h1 : 1 ≤ k) (h7 : k ≤ 7) (f : Nat → Int32) : cE G (b + k) f = eRow G 6 f := by
  have hk : k = 1 ∨ k = 2 ∨ k = 3 ∨ k = 4 ∨ k = 5 ∨ k = 6 ∨ k = 7 := by omega
  rcases h with rfl | rfl <;> rcases hk with rfl | rfl | rfl | rfl | rfl | rfl | rfl <;> rfl
def wl (G : Gx) (σ : St) : va_W := (gl G).map (fun c => (gad G c, cE G c (σ c)))
def gOk (G : Gx) : Prop := (gl G).Nodup ∧ (∀ a ∈ gl G, ∀ b ∈ gl G, gad G a = gad G b → a = b) ∧ ∀ a ∈ gl G, gbs G ≤ gad G a
theorem wl_get {G : Gx} {c : Nat} (h : c ∈ gl G) (σ : St) : ∃ k : Nat, (gl G)[k]? = some c ∧ (wl G σ)[k]? = some (gad G c, cE G c (σ c)) := by
  obtain ⟨k, hk⟩ := List.getElem?_of_mem h
  exact ⟨k, hk, by unfold wl; rw [List.getElem?_map, hk]; rfl⟩
theorem gl_inj {G : Gx} (hn : (gl G).Nodup) {i j c : Nat} (hi : (gl G)[i]? = some c) (hj : (gl G)[j]? = some c) : i = j := by
  have h1 := (List.getElem?_eq_some_iff.mp hi).1
  exact (List.getElem?_inj h1 hn).mp (hi.trans hj.symm)
theorem wl_set {G : Gx} {σ : St} {c k : Nat} {f : Nat → Int32} (hn : (gl G).Nodup) (hk : (gl G)[k]? = some c) : (wl G σ).set k (gad G c, cE G c f) = wl G (upA σ c f) := by
  apply List.ext_getElem?
  intro i
  by_cases hi : i = k
  · subst hi
    have hl : i < (wl G σ).length := by unfold wl; rw [List.length_map]; exact (List.getElem?_eq_some_iff.mp hk).1
    rw [List.getElem?_set_self hl]
    unfold wl
    rw [List.getElem?_map, hk]
    show _ = some (gad G c, cE G c (upA σ c f c))
    rw [upA_s]
  · rw [List.getElem?_set_ne (Ne.symm hi)]
    unfold wl
    rw [List.getElem?_map, List.getElem?_map]
    cases h : (gl G)[i]? with
    | none => rfl
    | some a =>
      have ha : a ≠ c := fun e => hi (gl_inj hn (by rw [h, e]) hk)
      show some (gad G a, cE G a (σ a)) = some (gad G a, cE G a (upA σ c f a))
      rw [upA_n ha]
theorem wl_D {G : Gx} (hG : gOk G) (σ : St) : va_D (gA G) (wl G σ) := by
  have key : ∀ (k : Nat) (q : Nat × va_E), (wl G σ)[k]? = some q → ∃ c, (gl G)[k]? = some c ∧ q.1 = gad G c := by
    intro k q hk
    unfold wl at hk
    rw [List.getElem?_map] at hk
    cases h : (gl G)[k]? with
    | none => rw [h] at hk; cases hk
    | some a => rw [h] at hk; cases hk; exact ⟨a, rfl, rfl⟩
  refine ⟨fun i j p q hi hj hpq => ?_, fun k q hk => ?_⟩
  · obtain ⟨a, ha, ea⟩ := key i p hi
    obtain ⟨b, hb, eb⟩ := key j q hj
    have hab : a = b := hG.2.1 a (List.mem_of_getElem? ha) b (List.mem_of_getElem? hb) (by rw [← ea, ← eb]; exact hpq)
    subst hab
    exact gl_inj hG.1 ha hb
  · obtain ⟨a, ha, ea⟩ := key k q hk
    show gbs G ≤ q.1
    rw [ea]
    exact hG.2.2 a (List.mem_of_getElem? ha)
/-! what is given of statics: four rows of numbers, Throwable's two, the texts of the exceptions -/
def strs : List (Nat × String) := [(277, "a race was started"), (73, "there are 12 gates"), (271, "there is no such gate"), (88, "a way leads to a greater gate or to the line"), (91, "no way leads from the line to the line"), (93, "a length is 1 to 100"), (275, "there is no such team"), (106, "there are 6 karts"), (116, "a race has 1 to 9 laps"), (118, "a race is on"), (123, "there were 8 races"), (125, "there are no karts"), (130, "no way leads from some gate"), (273, "there is no such kart"), (279, "no race is on"), (281, "the kart is finished"), (149, "the kart is stunned"), (158, "no way leads from the one gate to the other"), (161, "the record of the race is full"), (169, "ticks are 1 to 100"), (210, "the kart has an item"), (215, "the kart has no item"), (243, "there is no such ended race"), (249, "dropped are 0 to 3 races"), (260, "there is no such character")]
def tFirst (j : Nat) : Int32 := if j < 2 then 2 else if j = 2 then 1 else 0
def tMid (j : Nat) : Int32 := if j = 0 then 1 else if j = 1 then 2 else if j = 2 then 0 else 1
def tOth (j : Nat) : Int32 := if j = 0 then 3 else if j = 1 then 0 else if j = 2 then 1 else 3
def tPts (j : Nat) : Int32 := if j = 0 then 10 else if j = 1 then 8 else if j = 2 then 6 else if j = 3 then 5 else if j = 4 then 4 else 3
def stRow (C n : String) (N : Nat) (f : Nat → Int32) (A : Nat → Prop) (U : State) (H : Heap) : Prop := ∃ t : Nat, va_Z C n "[I" (.ref t) A U H ∧ va_T .int t N (fun j => .int (f j)) A U H
def xcls : List String := ["java/lang/IndexOutOfBoundsException", "java/lang/IllegalArgumentException", "java/lang/IllegalStateException"]
def dcls : List MethodName := [Bundle.initS "java/lang/RuntimeException", Bundle.initS "java/lang/Exception", Bundle.initS Bundle.tN]
def SxB (A : Nat → Prop) (U : State) (H : Heap) : Prop := stRow RX1 "FOR_FIRST" 4 tFirst A U H ∧ stRow RX1 "FOR_MIDDLE" 4 tMid A U H ∧ stRow RX1 "FOR_OTHERS" 4 tOth A U H ∧ stRow RX0 "POINTS_BY_PLACE" 6 tPts A U H ∧ vx_Zq Bundle.tN "UNASSIGNED_STACK" Bundle.steD A U H ∧ vx_Zq Bundle.tN "SUPPRESSED_SENTINEL" Bundle.listD A U H ∧ (∀ q ∈ strs, ∃ a : Nat, vk_R RX5 q.1 q.2 a U) ∧ (∀ y ∈ dcls, va_Nw (.declares y) U) ∧ ∀ X ∈ xcls, va_Nw (.castable X X) U ∧ ∀ Y ∈ xcls, X ≠ Y → va_Nc X Y U
def scT (G : Gx) (U : State) (H : Heap) : Prop := va_T .int (gsc G).1 (gsc G).2.1 (fun j => .int ((gsc G).2.2 j)) (gA G) U H
def Sx (G : Gx) (U : State) (H : Heap) : Prop := gs G = true → SxB (gA G) U H ∧ scT G U H
theorem stRow.moved {C n : String} {N : Nat} {f : Nat → Int32} {A : Nat → Prop} {u U : State} {H : Heap} (hvm : u.vm.Alike U.vm) (h : stRow C n N f A u H) : stRow C n N f A U H := by
  obtain ⟨t, h1, h2⟩ := h
  exact ⟨t, va_Z.moved hvm h1, va_T.moved hvm h2⟩
theorem stRow.kept {C n : String} {N : Nat} {f : Nat → Int32} {A : Nat → Prop} {U : State} {H H1 : Heap} (h : stRow C n N f A U H) (hq : ∀ a : Nat, a < H.size → ¬ A a → H1[a]? = H[a]?) : stRow C n N f A U H1 := by
  obtain ⟨t, h1, h2⟩ := h
  exact ⟨t, va_Z.kept h1 hq, va_T.kept h2 hq⟩
theorem va_declW {y : MethodName} {s U : State} (hW : s.WarmedH U.vm) (hZ : va_Nw (.declares y) s) : va_Nw (.declares y) U := va_tabs rfl (rfl : (s.setVm U.vm).vm = U.vm) (by rw [Cond.declares_setVm hW.alike]; exact hZ)
theorem SxB.next {A : Nat → Prop} {s U : State} {H H1 : Heap} (h : SxB A s H) (hW : s.WarmedH U.vm) (hq : ∀ a : Nat, a < H.size → ¬ A a → H1[a]? = H[a]?) : SxB A U H1 := by
  obtain ⟨h1, h2, h3, h4, h5, h6, h7, h9, h8⟩ := h
  refine ⟨(h1.kept hq).moved hW.alike, (h2.kept hq).moved hW.alike, (h3.kept hq).moved hW.alike, (h4.kept hq).moved hW.alike, vx_Zq.moved hW.alike (h5.kept hq), vx_Zq.moved hW.alike (h6.kept hq), fun q hq' => ?_, fun y hy => va_declW hW (h9 y hy), fun X hX => ⟨va_Nw.warmC hW (h8 X hX).1, fun Y hY n => va_Nc.moved hW.alike ((h8 X hX).2 Y hY n)⟩⟩
  obtain ⟨a, ha⟩ := h7 q hq'
  exact ⟨a, vk_R.warm hW ha⟩
theorem SxB.same {A : Nat → Prop} {s U : State} {H : Heap} (h : SxB A s H) (hv : U.vm = s.vm) : SxB A U H := by
  obtain ⟨h1, h2, h3, h4, h5, h6, h7, h9, h8⟩ := h
  have ha : s.vm.Alike U.vm := by rw [hv]; exact Vm.Alike.refl s.vm
  refine ⟨h1.moved ha, h2.moved ha, h3.moved ha, h4.moved ha, vx_Zq.moved ha h5, vx_Zq.moved ha h6, fun q hq' => ?_, fun y hy => va_tabs rfl hv.symm (h9 y hy), fun X hX => ⟨va_tabs rfl hv.symm (h8 X hX).1, fun Y hY n => va_Nc.moved ha ((h8 X hX).2 Y hY n)⟩⟩
  obtain ⟨a, ha⟩ := h7 q hq'
  exact ⟨a, vk_R.same hv ha⟩
/-- what holds where a method begins -/
def PreU (G : Gx) (σ : St) (U : State) : Prop := va_P (gD G) vwCl (wl G σ) U.heap ∧ va_K (gD G) vwCl (gT G) U ∧ gbs G ≤ U.heap.size ∧ Sx G U U.heap
theorem PreU.blind {G : Gx} {σ : St} {av : List Value} : FrameBlind (va_Pc av (PreU G σ)) := by
  intro a U g mk h
  obtain ⟨h0, h1, h2, h3, h4⟩ := h
  exact ⟨h0, h1, va_K.moved (u := U) (U := U.calling g mk a) (Vm.Alike.refl U.vm) h2, h3, fun hs => ⟨SxB.same (s := U) (U := U.calling g mk a) (h4 hs).1 rfl, va_T.moved (u := U) (U := U.calling g mk a) (Vm.Alike.refl U.vm) (h4 hs).2⟩⟩
/-- what holds inside a method: of its start; of the heap now -/
def Fx (G : Gx) (s : State) : Prop := gOk G ∧ va_K (gD G) vwCl (gT G) s ∧ gbs G ≤ s.heap.size ∧ Sx G s s.heap
def Wd (G : Gx) (s : State) (σ : St) (H : Heap) (locs : List Loc) : Prop := va_P (gD G) vwCl (wl G σ) H ∧ va_S (gA G) s.heap H locs
theorem Wd.pre {G : Gx} {s U : State} {σ : St} {H : Heap} {locs : List Loc} (fx : Fx G s) (hw : Wd G s σ H locs) (hU : U.heap = H) (hW : s.WarmedH U.vm) : PreU G σ U := by
  refine ⟨by rw [hU]; exact hw.1, va_K.moved hW.alike fx.2.1, by rw [hU]; exact Nat.le_trans fx.2.2.1 hw.2.1, fun h => ?_⟩
  rw [hU]
  exact ⟨SxB.next (fx.2.2.2 h).1 hW hw.2.2.1, va_T.moved hW.alike (va_T.kept (fx.2.2.2 h).2 hw.2.2.1)⟩
