/-! contracts over the world, and a row an instruction that reaches it -/
def BW (G : Gx) : St → State → Prop := fun σ' t => va_P (gD G) vwCl (wl G σ') t.heap
def XW (G : Gx) (σ : St) (ex : String → Prop) : String → State → State → Prop := vx_X (fun _ : Unit => True) (fun E _ t => ex E ∧ va_P (gD G) vwCl (wl G σ) t.heap) (gA G)
def CtI (l : Launch) (y : MethodName) (ws : List Cond) (rm : Room) (G : Gx) (σ : St) (av : List Value) (post : Int32 → St → Prop) : Prop := Met l y ws rm (va_Pc av (PreU G σ)) (va_Qi post (BW G) (gA G)) 0 0 (gA G)
def CtV (l : Launch) (y : MethodName) (ws : List Cond) (rm : Room) (G : Gx) (σ : St) (av : List Value) (post : St → Prop) : Prop := Met l y ws rm (va_Pc av (PreU G σ)) (va_Qv post (BW G) (gA G)) 0 0 (gA G)
def CxI (l : Launch) (y : MethodName) (ws : List Cond) (rm : Room) (G : Gx) (σ : St) (av : List Value) (post : Int32 → St → Prop) (ex : String → Prop) : Prop := vy_Met l y ws rm (va_Pc av (PreU G σ)) (va_Qi post (BW G) (gA G)) (XW G σ ex) 1 6 (gA G)
def CxV (l : Launch) (y : MethodName) (ws : List Cond) (rm : Room) (G : Gx) (σ : St) (av : List Value) (post : St → Prop) (ex : String → Prop) : Prop := vy_Met l y ws rm (va_Pc av (PreU G σ)) (va_Qv post (BW G) (gA G)) (XW G σ ex) 1 6 (gA G)
/-- what a body is given -/
def Bd (p : Program) (s : State) (m : MethodId) (args : Array Value) (meth : Method) (c : Code) (G : Gx) (σ : St) (ws : List Cond) (cc : ByteArray) (own : String) (maxL : Nat) (ret : Option FieldType) : Prop :=
  p.tables.exec = Jvm.exec ∧ c.code = cc ∧ meth.sig.returnType = ret ∧ c.maxLocals = maxL ∧ (∀ w ∈ ws, w.before args s = true) ∧ s.vm.findClass own = some m.cls ∧ meth.locks = false ∧ Fx G s ∧ Wd G s σ s.heap []
theorem PreU.fx {G : Gx} {σ : St} {s : State} (hG : gOk G) (h : PreU G σ s) : Fx G s ∧ Wd G s σ s.heap [] := ⟨⟨hG, h.2.1, h.2.2.1, h.2.2.2⟩, h.1, va_S.rf⟩
section BG
variable {l : Launch} {y : MethodName} {ws ws' : List Cond} {rm : Room} {G : Gx} {σ : St} {av : List Value} {cc : ByteArray} {maxL : Nat} {ret : Option FieldType} {own : String} {lv : List (Nat × Value)}
theorem bgMet {Qc : Array Value → State → Outcome → State → Prop} (hy : plainName y.cls = true) (hcl : y.cls = own) (hws : ws = Cond.code y cc maxL ret :: ws') (hG : gOk G) (ha : (lg_sl av).length ≤ maxL) (hlv : lv_args 0 av = lv)
    (body : ∀ (p : Program) (e : Env) (s : State) (m : MethodId) (args : Array Value) (below : List Frame) (meth : Method) (c : Code) (ls : Array Slot), Bd p s m args meth c G σ ws cc own maxL ret → lv_has ls maxL lv → W p l e rm s m args below meth c s.heap [] 0 0 (MQ below Qc args s 0 0 (gA G)) (F0 m 0 ls [])) :
    Met l y ws rm (va_Pc av (PreU G σ)) Qc 0 0 (gA G) := by
  refine Met.ofW (cc := cc) (maxL := maxL) (ret := ret) hy hws ?_
  intro p e s m args below meth c s₁ B hml hv
  obtain ⟨rfl, hv⟩ := hv
  obtain ⟨fx, hw⟩ := hv.fx hG
  have hl := lv_entry av (n := maxL) ha
  rw [hlv] at hl
  rw [lg_entry_eq]
  exact body p e s m _ below meth c _ ⟨B.exec, B.bytes, B.returns, hml, atoms_spec (ws := ws) B.pre, by rw [← hcl]; exact findClass_of_methodNamed B.named, B.notSynchronized, fx, hw⟩ hl
theorem bgX {Qc : Array Value → State → Outcome → State → Prop} {XC : String → State → State → Prop} {mc ms : Nat} (hy : plainName y.cls = true) (hcl : y.cls = own) (hws : ws = Cond.code y cc maxL ret :: ws') (hG : gOk G) (ha : (lg_sl av).length ≤ maxL) (hlv : lv_args 0 av = lv)
    (body : ∀ (p : Program) (e : Env) (s : State) (m : MethodId) (args : Array Value) (below : List Frame) (meth : Method) (c : Code) (ls : Array Slot), (∀ x ∈ c.exceptionTable.toList, False) → Bd p s m args meth c G σ ws cc own maxL ret → lv_has ls maxL lv → W p l e rm s m args below meth c s.heap [] 0 0 (vy_MQ below Qc XC args s mc ms (gA G)) (F0 m 0 ls [])) :
    vy_Met l y ws rm (va_Pc av (PreU G σ)) Qc XC mc ms (gA G) := by
  refine vy_ofW (cc := cc) (maxL := maxL) (ret := ret) hy hws ?_
  intro p e s m args below meth c s₁ B hml ht hv
  obtain ⟨rfl, hv⟩ := hv
  obtain ⟨fx, hw⟩ := hv.fx hG
  have hl := lv_entry av (n := maxL) ha
  rw [hlv] at hl
  rw [lg_entry_eq]
  exact body p e s m _ below meth c _ ht ⟨B.exec, B.bytes, B.returns, hml, atoms_spec (ws := ws) B.pre, by rw [← hcl]; exact findClass_of_methodNamed B.named, B.notSynchronized, fx, hw⟩ hl
end BG
section RW
variable {p : Program} {l : Launch} {e : Env} {R : Room} {s : State} {m : MethodId} {args : Array Value} {below : List Frame} {meth : Method} {c : Code} {H : Heap} {locs : List Loc} {cells slots : Nat} {Q : State → Prop}
variable {pc : Nat} {ls : Array Slot} {rest st0 : List Value} {cc : ByteArray} {G : Gx} {σ : St} {Ts : List Cond} {own : String}
theorem rGet (hx : p.tables.exec = Jvm.exec) (hb : c.code = cc) (fx : Fx G s) (hown : s.vm.findClass own = some m.cls) (hts : ∀ w ∈ Ts, w.before args s = true) {C ref : String} {T : u_T} {N index ci : Nat} (hin : ∀ w ∈ u_ws C T N, w ∈ Ts) (hw : Wd G s σ H locs) (c0 : Nat) (hI : c0 ∈ gl G) {fs : List Value} (he : cE G c0 (σ c0) = .inr (ci, fs)) (hcl : vwCl[ci]? = some (C, T, N)) (k : Nat) (hk : k < N)
    (hlink : (Cond.fieldLink own index ref (T k).2.1 (T k).2.2.1).before args s = true) (hsame : ∀ x, s.fieldFound? (T k).1 (T k).2.1 (T k).2.2.1 = some x → s.fieldFound? ref (T k).2.1 (T k).2.2.1 = some x) {v : Value} (hv : fs[k]? = some v) (hdg : decode cc pc = .ok (.getfield index, 3))
    (kk : W p l e R s m args below meth c H locs cells slots Q (F0 m (pc + 3) ls (v :: rest))) : W p l e R s m args below meth c H locs cells slots Q (F0 m pc ls (.ref (gad G c0) :: rest)) := by
  obtain ⟨k0, -, hk0⟩ := wl_get hI σ
  rw [he] at hk0
  exact va_get hx hb hts hin hown fx.2.1 hw.1 k0 hk0 hcl k hk hlink hsame hv hdg kk
theorem rPut (hx : p.tables.exec = Jvm.exec) (hb : c.code = cc) (fx : Fx G s) (hown : s.vm.findClass own = some m.cls) (hts : ∀ w ∈ Ts, w.before args s = true) {C ref : String} {T : u_T} {N index ci : Nat} (hin : ∀ w ∈ u_ws C T N, w ∈ Ts) (ty0 : Nat → FieldType) (hty : ∀ k, k < N → parseFieldDescriptor (T k).2.2.1 = some (ty0 k)) (hnm : ∀ a, a < N → ∀ b, b < N → a ≠ b → (T a).2.1 ≠ (T b).2.1) (hw : Wd G s σ H locs) (c0 : Nat) (hI : c0 ∈ gl G) {fs : List Value} (he : cE G c0 (σ c0) = .inr (ci, fs)) (hcl : vwCl[ci]? = some (C, T, N)) (k : Nat) (hk : k < N)
    (hlink : (Cond.fieldLink own index ref (T k).2.1 (T k).2.2.1).before args s = true) (hsame : ∀ x, s.fieldFound? (T k).1 (T k).2.1 (T k).2.2.1 = some x → s.fieldFound? ref (T k).2.1 (T k).2.2.1 = some x) (hfin : (T k).2.2.2 = false) {ty : FieldType} {v : Int32} (hd : parseFieldDescriptor (T k).2.2.1 = some ty) (hn : narrow ty (.int v) = .int v) (hfit : fits ty (.int v) = true) (hl : k < fs.length) (hset : cE G c0 (upd (σ c0) k v) = .inr (ci, fs.set k (.int v))) (hdg : decode cc pc = .ok (.putfield index, 3))
    (kk : ∀ (H1 : Heap) (locs1 : List Loc), Wd G s (upA σ c0 (upd (σ c0) k v)) H1 locs1 → W p l e R s m args below meth c H1 locs1 cells slots Q (F0 m (pc + 3) ls rest)) : W p l e R s m args below meth c H locs cells slots Q (F0 m pc ls (.int v :: .ref (gad G c0) :: rest)) := by
  obtain ⟨k0, hk1, hk0⟩ := wl_get hI σ
  rw [he] at hk0
  refine va_put hx hb hts hin ty0 hty hnm hown fx.2.1 hw.1 (wl_D fx.1 σ) hw.2 k0 hk0 hcl k hk hlink hsame hfin hd hn hfit hl hdg (fun H1 locs1 hP hD hS => kk H1 locs1 ⟨?_, hS⟩)
  rw [← hset, wl_set fx.1.1 hk1] at hP
  exact hP
theorem rAld (hx : p.tables.exec = Jvm.exec) (hb : c.code = cc) (fx : Fx G s) (hw : Wd G s σ H locs) (c0 : Nat) (hI : c0 ∈ gl G) (hT : (gcI G, FieldType.int) ∈ gT G) {n : Nat} (he : ∀ f, cE G c0 f = eRow G n f) {i : Int32} (k : Nat) (hi : i = nI k) (hk : k < n) (hn : n < 2 ^ 31) (hdg : decode cc pc = .ok (.iaload, 1))
    (kk : W p l e R s m args below meth c H locs cells slots Q (F0 m (pc + 1) ls (.int (σ c0 k) :: rest))) : W p l e R s m args below meth c H locs cells slots Q (F0 m pc ls (.int i :: .ref (gad G c0) :: rest)) := by
  obtain ⟨k0, -, hk0⟩ := wl_get hI σ
  rw [he] at hk0
  obtain ⟨t0, ht0⟩ := List.getElem?_of_mem hT
  subst hi
  refine va_iald hx hb fx.2.1 hw.1 k0 t0 hk0 ht0 (vp_in_nI hk hn) hdg ?_
  rw [nI_clamp (by omega)]
  exact kk
theorem rAst (hx : p.tables.exec = Jvm.exec) (hb : c.code = cc) (fx : Fx G s) (hw : Wd G s σ H locs) (c0 : Nat) (hI : c0 ∈ gl G) (hT : (gcI G, FieldType.int) ∈ gT G) {n : Nat} (he : ∀ f, cE G c0 f = eRow G n f) {i x : Int32} (k : Nat) (hi : i = nI k) (hk : k < n) (hn : n < 2 ^ 31) (hdg : decode cc pc = .ok (.iastore, 1))
    (kk : ∀ (H1 : Heap) (locs1 : List Loc), Wd G s (upA σ c0 (upd (σ c0) k x)) H1 locs1 → W p l e R s m args below meth c H1 locs1 cells slots Q (F0 m (pc + 1) ls rest)) : W p l e R s m args below meth c H locs cells slots Q (F0 m pc ls (.int x :: .int i :: .ref (gad G c0) :: rest)) := by
  obtain ⟨k0, hk1, hk0⟩ := wl_get hI σ
  rw [he] at hk0
  obtain ⟨t0, ht0⟩ := List.getElem?_of_mem hT
  subst hi
  refine va_iast hx hb fx.2.1 hw.1 (wl_D fx.1 σ) hw.2 k0 t0 hk0 ht0 (vp_in_nI hk hn) hdg (fun H1 locs1 hP hD hS => kk H1 locs1 ⟨?_, hS⟩)
  rw [nI_clamp (by omega)] at hP
  have h2 := wl_set (σ := σ) (f := upd (σ c0) k x) fx.1.1 hk1
  rw [he] at h2
  rw [← h2]
  exact hP
theorem rZld (hx : p.tables.exec = Jvm.exec) (hb : c.code = cc) (fx : Fx G s) (hw : Wd G s σ H locs) (c0 : Nat) (hI : c0 ∈ gl G) (hT : (gcZ G, FieldType.boolean) ∈ gT G) {n : Nat} (he : ∀ f, cE G c0 f = eBool G n f) {i : Int32} (k : Nat) (hi : i = nI k) (hk : k < n) (hn : n < 2 ^ 31) (hdg : decode cc pc = .ok (.baload, 1))
    (kk : W p l e R s m args below meth c H locs cells slots Q (F0 m (pc + 1) ls (.int (σ c0 k) :: rest))) : W p l e R s m args below meth c H locs cells slots Q (F0 m pc ls (.int i :: .ref (gad G c0) :: rest)) := by
  obtain ⟨k0, -, hk0⟩ := wl_get hI σ
  rw [he] at hk0
  obtain ⟨t0, ht0⟩ := List.getElem?_of_mem hT
  subst hi
  refine va_zald hx hb fx.2.1 hw.1 k0 t0 hk0 ht0 (vp_in_nI hk hn) hdg ?_
  rw [nI_clamp (by omega)]
  exact kk
theorem rZst (hx : p.tables.exec = Jvm.exec) (hb : c.code = cc) (fx : Fx G s) (hw : Wd G s σ H locs) (c0 : Nat) (hI : c0 ∈ gl G) (hT : (gcZ G, FieldType.boolean) ∈ gT G) {n : Nat} (he : ∀ f, cE G c0 f = eBool G n f) {i x : Int32} (k : Nat) (hi : i = nI k) (hk : k < n) (hn : n < 2 ^ 31) (hnar : vp_nar .boolean x = x) (hdg : decode cc pc = .ok (.bastore, 1))
    (kk : ∀ (H1 : Heap) (locs1 : List Loc), Wd G s (upA σ c0 (upd (σ c0) k x)) H1 locs1 → W p l e R s m args below meth c H1 locs1 cells slots Q (F0 m (pc + 1) ls rest)) : W p l e R s m args below meth c H locs cells slots Q (F0 m pc ls (.int x :: .int i :: .ref (gad G c0) :: rest)) := by
  obtain ⟨k0, hk1, hk0⟩ := wl_get hI σ
  rw [he] at hk0
  obtain ⟨t0, ht0⟩ := List.getElem?_of_mem hT
  subst hi
  refine va_zast hx hb fx.2.1 hw.1 (wl_D fx.1 σ) hw.2 k0 t0 hk0 ht0 (vp_in_nI hk hn) hdg (fun H1 locs1 hP hD hS => kk H1 locs1 ⟨?_, hS⟩)
  rw [nI_clamp (by omega), hnar] at hP
  have h2 := wl_set (σ := σ) (f := upd (σ c0) k x) fx.1.1 hk1
  rw [he] at h2
  rw [← h2]
  exact hP
theorem rSts (hx : p.tables.exec = Jvm.exec) (hb : c.code = cc) (hw : Wd G s σ H locs) {C n ref : String} {index N : Nat} {f : Nat → Int32} (hZ : stRow C n N f (gA G) s s.heap) (hown : s.vm.findClass own = some m.cls) (hlink : (Cond.fieldLink own index ref n "[I").before args s = true) (hsame : ∀ x, s.fieldFound? C n "[I" = some x → s.fieldFound? ref n "[I" = some x) (hdg : decode cc pc = .ok (.getstatic index, 3))
    (kk : ∀ t : Nat, va_T .int t N (fun j => .int (f j)) (gA G) s s.heap → W p l e R s m args below meth c H locs cells slots Q (F0 m (pc + 3) ls (.ref t :: rest))) : W p l e R s m args below meth c H locs cells slots Q (F0 m pc ls rest) := by
  obtain ⟨t, h1, h2⟩ := hZ
  exact va_gets hx hb h1 hw.2 hown hlink hsame hdg (kk t h2)
theorem rStl (hx : p.tables.exec = Jvm.exec) (hb : c.code = cc) (hw : Wd G s σ H locs) {t N : Nat} {f : Nat → Int32} (hT : va_T .int t N (fun j => .int (f j)) (gA G) s s.heap) {i : Int32} (k : Nat) (hi : i = nI k) (hk : k < N) (hn : N < 2 ^ 31) (hdg : decode cc pc = .ok (.iaload, 1))
    (kk : W p l e R s m args below meth c H locs cells slots Q (F0 m (pc + 1) ls (.int (f k) :: rest))) : W p l e R s m args below meth c H locs cells slots Q (F0 m pc ls (.int i :: .ref t :: rest)) := by
  subst hi
  exact va_ti hx hb hT hw.2 (vp_in_nI hk hn) (v := .int (f k)) (by show Value.int (f _) = _; rw [nI_clamp (by omega)]) hdg kk
/-- returns -/
theorem rRetI {post : Int32 → St → Prop} (hx : p.tables.exec = Jvm.exec) (hb : c.code = cc) (hr : meth.sig.returnType = some .int) (hw : Wd G s σ H locs) {v : Int32} (hp : post v σ) (hlocks : meth.locks = false) (hdg : decode cc pc = .ok (.ireturn, 1)) : W p l e R s m args below meth c H locs cells slots (MQ below (va_Qi post (BW G) (gA G)) args s cells slots (gA G)) (F0 m pc ls [.int v]) :=
  W.iret (v := v) hx hb hr (fun t ht hW => ⟨⟨v, σ, rfl, hp, by show va_P _ _ _ t.heap; rw [ht]; exact hw.1⟩, hw.2.F ht⟩) hw.2.2.2 hdg hlocks
theorem rRetZ {post : Int32 → St → Prop} {ty : FieldType} (hx : p.tables.exec = Jvm.exec) (hb : c.code = cc) (hr : meth.sig.returnType = some ty) (hw : Wd G s σ H locs) {v : Int32} (hn : narrow ty (.int v) = .int v) (hp : post v σ) (hlocks : meth.locks = false) (hdg : decode cc pc = .ok (.ireturn, 1)) : W p l e R s m args below meth c H locs cells slots (MQ below (va_Qi post (BW G) (gA G)) args s cells slots (gA G)) (F0 m pc ls [.int v]) :=
  W.zret (v := v) hx hb hr hn (fun t ht hW => ⟨⟨v, σ, rfl, hp, by show va_P _ _ _ t.heap; rw [ht]; exact hw.1⟩, hw.2.F ht⟩) hw.2.2.2 hdg hlocks
theorem rRetV {post : St → Prop} (hx : p.tables.exec = Jvm.exec) (hb : c.code = cc) (hr : meth.sig.returnType = none) (hw : Wd G s σ H locs) (hp : post σ) (hlocks : meth.locks = false) (hdg : decode cc pc = .ok (.return_, 1)) : W p l e R s m args below meth c H locs cells slots (MQ below (va_Qv post (BW G) (gA G)) args s cells slots (gA G)) (F0 m pc ls []) :=
  W.vret hx hb hr (fun t ht hW => ⟨⟨σ, rfl, hp, by show va_P _ _ _ t.heap; rw [ht]; exact hw.1⟩, hw.2.F ht⟩) hw.2.2.2 hdg hlocks
/-- calls -/
theorem rRecv (fx : Fx G s) (hw : Wd G s σ H locs) {c0 ci : Nat} {fs : List Value} {q : vw_C} {C : String} (hI : c0 ∈ gl G) (he : cE G c0 (σ c0) = .inr (ci, fs)) (hcl : vwCl[ci]? = some q) (hq : q.1 = C) : ∃ cell : Cell, H[gad G c0]? = some cell ∧ cell.vm.isStatics = false ∧ s.vm.findClass C = some cell.cls := by
  obtain ⟨k0, -, hk0⟩ := wl_get hI σ
  rw [he] at hk0
  subst hq
  exact va_recv fx.2.1 hw.1 hcl hk0
theorem rA (fx : Fx G s) (hw : Wd G s σ H locs) : ∀ q : Nat, q < H.size → gA G q → gA G q := fun _ _ h => h
variable {y : MethodName} {bytes : ByteArray} {maxL nL n index ci c0 : Nat} {ret : Option FieldType} {ws : List Cond} {rm : Room} {C : String} {As : List Value} {fs : List Value} {q : vw_C}
theorem rCallI {post : Int32 → St → Prop} (S : CallFix p m c cc nL s args Ts own) (fx : Fx G s) (hw : Wd G s σ H locs) (hM : CtI l y ws rm G σ (.ref (gad G c0) :: As) post) (cw : CallW R s args own C index y bytes maxL ret ws rm 0 0 n) (hI : c0 ∈ gl G) (he : cE G c0 (σ c0) = .inr (ci, fs)) (hcl : vwCl[ci]? = some q) (hq : q.1 = C) (hn : As.length = n) (hsize : ls.size = nL) (hst : st0 = As.reverse ++ .ref (gad G c0) :: rest) (hW : (rest.map fun v => v.category).sum ≤ 8) (hdg : decode cc pc = .ok (.invokevirtual index, 3)) (hf : cells ≤ R.cells ∧ slots ≤ R.slots)
    (kk : ∀ (r : Int32) (σ' : St) (H1 : Heap) (locs1 : List Loc), post r σ' → Wd G s σ' H1 locs1 → W p l e R s m args below meth c H1 locs1 cells slots Q (F0 m (pc + 3) ls (.int r :: rest))) : W p l e R s m args below meth c H locs cells slots Q (F0 m pc ls st0) :=
  va_calli (va_runV (As := As) (rest := rest) S hM cw ⟨PreU.blind, rRecv fx hw hI he hcl hq, fun U hU hW => ⟨rfl, hw.pre fx hU hW⟩⟩ rfl hn hsize hst (lv_room hW) hdg hf) hw.2 (rA fx hw) (fun _ h => h) (fun r u t H1 locs1 ht _ hp hB _ _ hS => kk r u H1 locs1 hp ⟨by rw [← ht]; exact hB, hS⟩)
theorem rCallV {post : St → Prop} (S : CallFix p m c cc nL s args Ts own) (fx : Fx G s) (hw : Wd G s σ H locs) (hM : CtV l y ws rm G σ (.ref (gad G c0) :: As) post) (cw : CallW R s args own C index y bytes maxL ret ws rm 0 0 n) (hI : c0 ∈ gl G) (he : cE G c0 (σ c0) = .inr (ci, fs)) (hcl : vwCl[ci]? = some q) (hq : q.1 = C) (hn : As.length = n) (hsize : ls.size = nL) (hst : st0 = As.reverse ++ .ref (gad G c0) :: rest) (hW : (rest.map fun v => v.category).sum ≤ 8) (hdg : decode cc pc = .ok (.invokevirtual index, 3)) (hf : cells ≤ R.cells ∧ slots ≤ R.slots)
    (kk : ∀ (σ' : St) (H1 : Heap) (locs1 : List Loc), post σ' → Wd G s σ' H1 locs1 → W p l e R s m args below meth c H1 locs1 cells slots Q (F0 m (pc + 3) ls rest)) : W p l e R s m args below meth c H locs cells slots Q (F0 m pc ls st0) :=
  va_callv (va_runV (As := As) (rest := rest) S hM cw ⟨PreU.blind, rRecv fx hw hI he hcl hq, fun U hU hW => ⟨rfl, hw.pre fx hU hW⟩⟩ rfl hn hsize hst (lv_room hW) hdg hf) hw.2 (rA fx hw) (fun _ h => h) (fun u t H1 locs1 ht _ hp hB _ _ hS => kk u H1 locs1 hp ⟨by rw [← ht]; exact hB, hS⟩)
theorem rCallS {post : Int32 → St → Prop} (S : CallFix p m c cc nL s args Ts own) (fx : Fx G s) (hw : Wd G s σ H locs) (hM : CtI l y ws rm G σ As post) (cw : CallB R s args own index y bytes maxL ret ws rm 0 0 n ∧ (Cond.static y).before args s = true) (hn : As.length = n) (hsize : ls.size = nL) (hst : st0 = As.reverse ++ rest) (hW : (rest.map fun v => v.category).sum ≤ 8) (hdg : decode cc pc = .ok (.invokestatic index, 3)) (hf : cells ≤ R.cells ∧ slots ≤ R.slots)
    (kk : ∀ (r : Int32) (σ' : St) (H1 : Heap) (locs1 : List Loc), post r σ' → Wd G s σ' H1 locs1 → W p l e R s m args below meth c H1 locs1 cells slots Q (F0 m (pc + 3) ls (.int r :: rest))) : W p l e R s m args below meth c H locs cells slots Q (F0 m pc ls st0) :=
  va_calli (va_runS (As := As) (rest := rest) S hM cw ⟨PreU.blind, fun U hU hW => ⟨rfl, hw.pre fx hU hW⟩⟩ rfl hn hsize hst (lv_room hW) hdg hf) hw.2 (rA fx hw) (fun _ h => h) (fun r u t H1 locs1 ht _ hp hB _ _ hS => kk r u H1 locs1 hp ⟨by rw [← ht]; exact hB, hS⟩)
/-- calls that may throw -/
theorem rCallXI {post : Int32 → St → Prop} {ex : String → Prop} (S : CallFix p m c cc nL s args Ts own) (fx : Fx G s) (hw : Wd G s σ H locs) (hM : CxI l y ws rm G σ (.ref (gad G c0) :: As) post ex) (cw : CallW R s args own C index y bytes maxL ret ws rm 1 6 n) (hI : c0 ∈ gl G) (he : cE G c0 (σ c0) = .inr (ci, fs)) (hcl : vwCl[ci]? = some q) (hq : q.1 = C) (hn : As.length = n) (hsize : ls.size = nL) (hst : st0 = As.reverse ++ .ref (gad G c0) :: rest) (hW : (rest.map fun v => v.category).sum ≤ 8) (hdg : decode cc pc = .ok (.invokevirtual index, 3)) (hf : cells + 1 ≤ R.cells ∧ slots + 6 ≤ R.slots)
    (kx : ∀ (E : String) (ce : Cell) (q9 : Addr) (H1 : Heap) (locs1 : List Loc), ex E → Wd G s σ H1 locs1 → H1[q9]? = some ce → ce.vm = .none → s.vm.findClass E = some ce.cls → vx_W p l e R s m args below meth c H1 locs1 (cells + 1) (slots + 6) Q (F0 m pc ls rest) q9)
    (kk : ∀ (r : Int32) (σ' : St) (H1 : Heap) (locs1 : List Loc), post r σ' → Wd G s σ' H1 locs1 → W p l e R s m args below meth c H1 locs1 cells slots Q (F0 m (pc + 3) ls (.int r :: rest))) : W p l e R s m args below meth c H locs cells slots Q (F0 m pc ls st0) :=
  vy_calli (vy_runV (As := As) (rest := rest) S hM cw ⟨PreU.blind, rRecv fx hw hI he hcl hq, fun U hU hW => ⟨rfl, hw.pre fx hU hW⟩⟩ rfl hn hsize hst (lv_room hW) hdg hf) hw.2 (rA fx hw) (fun _ h => h) (rA fx hw) (fun E ce q9 _ t H1 locs1 ht _ _ hB _ _ hS h1 h2 h3 => kx E ce q9 H1 locs1 hB.1 ⟨by rw [← ht]; exact hB.2, hS⟩ h1 h2 h3) (fun r u t H1 locs1 ht _ hp hB _ _ hS => kk r u H1 locs1 hp ⟨by rw [← ht]; exact hB, hS⟩)
theorem rCallXV {post : St → Prop} {ex : String → Prop} (S : CallFix p m c cc nL s args Ts own) (fx : Fx G s) (hw : Wd G s σ H locs) (hM : CxV l y ws rm G σ (.ref (gad G c0) :: As) post ex) (cw : CallW R s args own C index y bytes maxL ret ws rm 1 6 n) (hI : c0 ∈ gl G) (he : cE G c0 (σ c0) = .inr (ci, fs)) (hcl : vwCl[ci]? = some q) (hq : q.1 = C) (hn : As.length = n) (hsize : ls.size = nL) (hst : st0 = As.reverse ++ .ref (gad G c0) :: rest) (hW : (rest.map fun v => v.category).sum ≤ 8) (hdg : decode cc pc = .ok (.invokevirtual index, 3)) (hf : cells + 1 ≤ R.cells ∧ slots + 6 ≤ R.slots)
    (kx : ∀ (E : String) (ce : Cell) (q9 : Addr) (H1 : Heap) (locs1 : List Loc), ex E → Wd G s σ H1 locs1 → H1[q9]? = some ce → ce.vm = .none → s.vm.findClass E = some ce.cls → vx_W p l e R s m args below meth c H1 locs1 (cells + 1) (slots + 6) Q (F0 m pc ls rest) q9)
    (kk : ∀ (σ' : St) (H1 : Heap) (locs1 : List Loc), post σ' → Wd G s σ' H1 locs1 → W p l e R s m args below meth c H1 locs1 cells slots Q (F0 m (pc + 3) ls rest)) : W p l e R s m args below meth c H locs cells slots Q (F0 m pc ls st0) :=
  vy_callv (vy_runV (As := As) (rest := rest) S hM cw ⟨PreU.blind, rRecv fx hw hI he hcl hq, fun U hU hW => ⟨rfl, hw.pre fx hU hW⟩⟩ rfl hn hsize hst (lv_room hW) hdg hf) hw.2 (rA fx hw) (fun _ h => h) (rA fx hw) (fun E ce q9 _ t H1 locs1 ht _ _ hB _ _ hS h1 h2 h3 => kx E ce q9 H1 locs1 hB.1 ⟨by rw [← ht]; exact hB.2, hS⟩ h1 h2 h3) (fun u t H1 locs1 ht _ hp hB _ _ hS => kk u H1 locs1 hp ⟨by rw [← ht]; exact hB, hS⟩)
/-- what a callee throws goes on to the caller -/
theorem rOut {Qc : Array Value → State → Outcome → State → Prop} {ex : String → Prop} {E : String} {ce : Cell} {q9 : Addr} (hE : ex E) (hw : Wd G s σ H locs) (h1 : H[q9]? = some ce) (h2 : ce.vm = .none) (h3 : s.vm.findClass E = some ce.cls) (hout : ∀ x ∈ c.exceptionTable.toList, False) (hlocks : meth.locks = false) (hc : cells ≤ 1) (hs : slots ≤ 6) :
    vx_W p l e R s m args below meth c H locs cells slots (vy_MQ below Qc (XW G σ ex) args s 1 6 (gA G)) (F0 m pc ls rest) q9 :=
  vy_thrW (vx_out (fun x hx => (hout x hx).elim) hlocks h1 h2 h3 (fun t ht hW => ⟨(), trivial, ⟨hE, by rw [ht]; exact hw.1⟩, hw.2.F ht⟩) hw.2.2.2 hc hs)
def nms : List String := ["java/lang/RuntimeException", "java/lang/Exception"]
theorem nms_fit : ∀ n ∈ nms, Bundle.fit n = true := by decide +kernel
/-- throw new E(text) -/
theorem rThrow {Qc : Array Value → State → Outcome → State → Prop} {ex : String → Prop} {cls text : String} {ik is ic : Nat} (hx : p.tables.exec = Jvm.exec) (hb : c.code = cc) (hl : l.stackTraces = false) (hgs : gs G = true) (fx : Fx G s) (hw : Wd G s σ H locs) (hown : s.vm.findClass RX5 = some m.cls) (hcls : Bundle.fit cls = true) (hk : (Cond.classLink RX5 ik cls).before args s = true) (hini : (Cond.initialized cls).before args s = true) (hstr : (is, text) ∈ strs) (hX : cls ∈ xcls) (hat : (∀ y ∈ dcls, (Cond.declares y).before args s = true) → (Cond.castable cls cls).before args s = true → ∀ w ∈ vx_atS RX5 ic cls nms, w.before args s = true) (hgood : ∀ w ∈ Cond.classLink RX5 ik cls :: Cond.initialized cls :: vx_atS RX5 ic cls nms, vx_ot w = true)
    (hsize : ls.size = c.maxLocals) (d0 : decode cc pc = .ok (.new ik, 3)) (d3 : decode cc (pc + 3) = .ok (.dup, 1)) (d4 : decode cc (pc + 4) = .ok (.ldc is, 2)) (d6 : decode cc (pc + 6) = .ok (.invokespecial ic, 3)) (d9 : decode cc (pc + 9) = .ok (.athrow, 1)) (hout : ∀ x ∈ c.exceptionTable.toList, False) (hRf : 5 < R.frames) (hRl : (rest.map fun v => v.category).sum + 82 ≤ R.locals) (hRc : cells + 1 ≤ R.cells) (hRs : slots + 6 ≤ R.slots) (hlocks : meth.locks = false) (hE : ex cls) (hc : cells + 1 ≤ 1) (hs : slots + 6 ≤ 6) :
    W p l e R s m args below meth c H locs cells slots (vy_MQ below Qc (XW G σ ex) args s 1 6 (gA G)) (F0 m pc ls rest) := by
  obtain ⟨-, -, -, -, hU, hN, hS, hDc, hC⟩ := (fx.2.2.2 hgs).1
  obtain ⟨sa, hsa⟩ := hS _ hstr
  refine vy_thr (vx_throwS hx hb hl hown hcls nms_fit hk hini hsa (hat (fun y hy => va_Nw.use rfl (hDc y hy)) (va_Nw.use rfl (hC cls hX).1)) hgood hU hN hw.2 hsize d0 d3 d4 d6 d9 (fun x hx => (hout x hx).elim) hRf hRl hRc hRs hlocks ?_ hw.2.2.2 hc hs)
  intro t hW hz hq
  refine ⟨(), trivial, ⟨hE, hw.1.kept (fun k q9 hk9 => hq q9.1 (hw.1 k q9 hk9).lt)⟩, Nat.le_trans hw.2.1 hz, fun q9 h1 h2 => ?_⟩
  rw [hq q9 (Nat.lt_of_lt_of_le h1 hw.2.1)]
  exact hw.2.2.1 q9 h1 h2
theorem rThrowW {Qc : Array Value → State → Outcome → State → Prop} {ex : String → Prop} {cls text : String} {ik is ic : Nat} (hx : p.tables.exec = Jvm.exec) (hb : c.code = cc) (hl : l.stackTraces = false) (hgs : gs G = true) (fx : Fx G s) (hw : Wd G s σ H locs) (hown : s.vm.findClass RX5 = some m.cls) (hcls : Bundle.fit cls = true) (hk : (Cond.classLink RX5 ik cls).before args s = true) (hini : (Cond.initialized cls).before args s = true) (hstr : (is, text) ∈ strs) (hX : cls ∈ xcls) (hat : (∀ y ∈ dcls, (Cond.declares y).before args s = true) → (Cond.castable cls cls).before args s = true → ∀ w ∈ vx_atS RX5 ic cls nms, w.before args s = true) (hgood : ∀ w ∈ Cond.classLink RX5 ik cls :: Cond.initialized cls :: vx_atS RX5 ic cls nms, vx_ot w = true)
    (hsize : ls.size = c.maxLocals) (d0 : decode cc pc = .ok (.new ik, 3)) (d3 : decode cc (pc + 3) = .ok (.dup, 1)) (d4 : decode cc (pc + 4) = .ok (.ldc_w is, 3)) (d7 : decode cc (pc + 7) = .ok (.invokespecial ic, 3)) (d10 : decode cc (pc + 10) = .ok (.athrow, 1)) (hout : ∀ x ∈ c.exceptionTable.toList, False) (hRf : 5 < R.frames) (hRl : (rest.map fun v => v.category).sum + 82 ≤ R.locals) (hRc : cells + 1 ≤ R.cells) (hRs : slots + 6 ≤ R.slots) (hlocks : meth.locks = false) (hE : ex cls) (hc : cells + 1 ≤ 1) (hs : slots + 6 ≤ 6) :
    W p l e R s m args below meth c H locs cells slots (vy_MQ below Qc (XW G σ ex) args s 1 6 (gA G)) (F0 m pc ls rest) := by
  obtain ⟨-, -, -, -, hU, hN, hS, hDc, hC⟩ := (fx.2.2.2 hgs).1
  obtain ⟨sa, hsa⟩ := hS _ hstr
  refine vy_thr (vx_throwSW hx hb hl hown hcls nms_fit hk hini hsa (hat (fun y hy => va_Nw.use rfl (hDc y hy)) (va_Nw.use rfl (hC cls hX).1)) hgood hU hN hw.2 hsize d0 d3 d4 d7 d10 (fun x hx => (hout x hx).elim) hRf hRl hRc hRs hlocks ?_ hw.2.2.2 hc hs)
  intro t hW hz hq
  refine ⟨(), trivial, ⟨hE, hw.1.kept (fun k q9 hk9 => hq q9.1 (hw.1 k q9 hk9).lt)⟩, Nat.le_trans hw.2.1 hz, fun q9 h1 h2 => ?_⟩
  rw [hq q9 (Nat.lt_of_lt_of_le h1 hw.2.1)]
  exact hw.2.2.1 q9 h1 h2
end RW
