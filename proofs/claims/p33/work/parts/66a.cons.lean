/-! constructors: rows over a list of cells whose rest is any list -/
theorem P_cons {D : va_G} {cl : List vw_C} {ws : va_W} {x9 : Nat × va_E} {H : Heap} (h : va_P D cl (ws ++ [x9]) H) : va_P D cl (x9 :: ws) H := by
  intro k q hk
  cases k with
  | zero =>
    cases hk
    exact h ws.length x9 (by simp)
  | succ k =>
    have hk2 : ws[k]? = some q := hk
    exact h k q (by rw [List.getElem?_append_left (List.getElem?_eq_some_iff.mp hk2).1]; exact hk2)
theorem D_cons {A : Nat → Prop} {ws : va_W} {x9 : Nat × va_E} (h : va_D A (ws ++ [x9])) : va_D A (x9 :: ws) := by
  have key : ∀ (k : Nat) (q : Nat × va_E), (x9 :: ws)[k]? = some q → ∃ j, (ws ++ [x9])[j]? = some q ∧ ((k = 0 ∧ j = ws.length) ∨ (0 < k ∧ j = k - 1 ∧ j < ws.length)) := by
    intro k q hk
    cases k with
    | zero =>
      cases hk
      exact ⟨ws.length, by simp, Or.inl ⟨rfl, rfl⟩⟩
    | succ k =>
      have hk2 : ws[k]? = some q := hk
      have hl := (List.getElem?_eq_some_iff.mp hk2).1
      exact ⟨k, by rw [List.getElem?_append_left hl]; exact hk2, Or.inr ⟨by omega, by omega, hl⟩⟩
  refine ⟨fun i j p q hi hj hpq => ?_, fun k q hk => ?_⟩
  · obtain ⟨a, ha, ea⟩ := key i p hi
    obtain ⟨b, hb, eb⟩ := key j q hj
    have := h.1 a b p q ha hb hpq
    omega
  · obtain ⟨a, ha, -⟩ := key k q hk
    exact h.2 a q ha
def cA (g0 : Nat) : Nat → Prop := fun q => g0 ≤ q
/-- what holds where a constructor begins -/
def CPre (D : va_G) (tys : List (ClassId × FieldType)) (g0 : Nat) (ws : va_W) (U : State) : Prop := va_P D vwCl ws U.heap ∧ va_K D vwCl tys U ∧ g0 ≤ U.heap.size ∧ va_D (cA g0) ws
theorem CPre.blind {D : va_G} {tys : List (ClassId × FieldType)} {g0 : Nat} {ws : va_W} {av : List Value} : FrameBlind (va_Pc av (CPre D tys g0 ws)) := by
  intro a U g mk h
  obtain ⟨h0, h1, h2, h3, h4⟩ := h
  exact ⟨h0, h1, va_K.moved (u := U) (U := U.calling g mk a) (Vm.Alike.refl U.vm) h2, h3, h4⟩
def CB (D : va_G) (g0 : Nat) {S : Type} (ws : S → va_W) : S → State → Prop := fun u t => va_P D vwCl (ws u) t.heap ∧ va_D (cA g0) (ws u)
def zrow (_ : Nat) : Int32 := 0
theorem bgC {l : Launch} {y : MethodName} {ws ws' : List Cond} {rm : Room} {av : List Value} {cc : ByteArray} {maxL mc ms : Nat} {own : String} {lv : List (Nat × Value)} {Pre : State → Prop} {A : Nat → Prop} {Qc : Array Value → State → Outcome → State → Prop} (hy : plainName y.cls = true) (hcl : y.cls = own) (hnm : y.name = "<init>") (hws : ws = Cond.code y cc maxL none :: ws') (ha : (lg_sl av).length ≤ maxL) (hlv : lv_args 0 av = lv)
    (body : ∀ (p : Program) (e : Env) (s : State) (m : MethodId) (args : Array Value) (below : List Frame) (meth : Method) (c : Code) (ls : Array Slot), p.tables.exec = Jvm.exec → c.code = cc → meth.sig.returnType = none → c.maxLocals = maxL → (∀ w ∈ ws, w.before args s = true) → s.vm.findClass own = some m.cls → meth.locks = false → meth.name = "<init>" → Pre s → lv_has ls maxL lv → W p l e rm s m args below meth c s.heap [] 0 0 (MQ below Qc args s mc ms A) (F0 m 0 ls [])) :
    Met l y ws rm (va_Pc av Pre) Qc mc ms A := by
  refine Met.ofW (cc := cc) (maxL := maxL) (ret := none) hy hws ?_
  intro p e s m args below meth c s₁ B hml hv
  obtain ⟨rfl, hv⟩ := hv
  have hl := lv_entry av (n := maxL) ha
  rw [hlv] at hl
  rw [lg_entry_eq]
  exact body p e s m _ below meth c _ B.exec B.bytes B.returns hml (atoms_spec (ws := ws) B.pre) (by rw [← hcl]; exact findClass_of_methodNamed B.named) B.notSynchronized (by rw [(name_of_methodNamed B.named B.method).1]; exact hnm) hv hl
section CONS
variable {p : Program} {l : Launch} {e : Env} {R : Room} {s : State} {m : MethodId} {args : Array Value} {below : List Frame} {meth : Method} {c : Code} {H H0 : Heap} {locs : List Loc} {cells slots : Nat} {Q : State → Prop}
variable {pc : Nat} {ls : Array Slot} {rest st0 : List Value} {cc : ByteArray} {D : va_G} {ws : va_W} {A : Nat → Prop} {tys : List (ClassId × FieldType)} {own : String} {Ts : List Cond}
theorem kNew {C : String} {T : u_T} {N ci index : Nat} (hx : p.tables.exec = Jvm.exec) (hb : c.code = cc) (hts : ∀ w ∈ Ts, w.before args s = true) (hin : ∀ w ∈ u_ws C T N, w ∈ Ts) (ty : Nat → FieldType) (hty : ∀ k, k < N → parseFieldDescriptor (T k).2.2.1 = some (ty k)) (hown : s.vm.findClass own = some m.cls) (hcl : (Cond.classLink own index C).before args s = true) (hinst : (Cond.instantiable C N).before args s = true) (hini : (Cond.initialized C).before args s = true)
    (hK : va_K D vwCl tys s) (hP : va_P D vwCl ws H) (hD : va_D A ws) (hS : va_S A H0 H locs) (hA : ∀ q, H0.size ≤ q → A q) (hc : vwCl[ci]? = some (C, T, N)) {fs : List Value} (hfs : ∀ j, j < N → defaultValue (ty j) = vp_V fs j) (hcells : cells + 1 ≤ R.cells) (hslots : slots + N ≤ R.slots) (hdg : decode cc pc = .ok (.new index, 3))
    (kk : ∀ (q : Nat) (H1 : Heap), (∀ (k : Nat) (x : Nat × va_E), ws[k]? = some x → x.1 < q) → va_P D vwCl ((q, .inr (ci, fs)) :: ws) H1 → va_D A ((q, .inr (ci, fs)) :: ws) → va_S A H0 H1 locs →
      W p l e R s m args below meth c H1 locs (cells + 1) (slots + N) Q (F0 m (pc + 3) ls (.ref q :: rest))) : W p l e R s m args below meth c H locs cells slots Q (F0 m pc ls rest) := by
  have hKn := hK.1 ci _ hc
  refine W.newcK hx hb hown hcl hinst hini rfl hdg hcells hslots hKn.2.1 rfl fun H1 kC hkC e1 z1 o1 => ?_
  have hk : ∀ (k : Nat) (x : Nat × va_E), ws[k]? = some x → H1[x.1]? = H[x.1]? := fun k x hx => o1 x.1 ((hP k x hx).lt)
  refine kk H.size H1 (fun k x hx => (hP k x hx).lt) (P_cons ((hP.kept hk).app (fun k x hx => ?_))) (D_cons (hD.push hP rfl (hA _ hS.1))) ⟨Nat.le_trans hS.1 (by omega), fun x h1 h2 => (o1 x (Nat.lt_of_lt_of_le h1 hS.1)).trans (hS.2.1 x h1 h2), hS.2.2⟩
  have hz : k < 1 := (List.getElem?_eq_some_iff.mp hx).1
  rw [show k = 0 by omega] at hx
  cases hx
  exact ⟨_, hc, (u_born ty hts hin hKn hkC e1 hty).to hfs⟩
theorem kRow (hx : p.tables.exec = Jvm.exec) (hb : c.code = cc) {atype : ArrayType} {ty : FieldType} {kA : ClassId} (harr : (Cond.arrayClass ty).before args s = true) (hty : newarray.typeOf atype = ty) (hK : va_K D vwCl tys s) (hT : (kA, ty) ∈ tys) (hP : va_P D vwCl ws H) (hD : va_D A ws) (hS : va_S A H0 H locs) (hA : ∀ q, H0.size ≤ q → A q)
    {n : Int32} {N' : Nat} {a0 : vp_A} (ha : ∀ kB : ClassId, vp_cell kB a0 = arrV kB N' (fun _ => defaultValue ty)) (hn : ¬ n < 0) (hN : n.toNatClampNeg = N') (hbytes : N' * componentBytes ty ≤ 536870912) (hcells : cells + 1 ≤ R.cells) (hslots : slots + N' ≤ R.slots) (hdg : decode cc pc = .ok (.newarray atype, 2))
    (kk : ∀ (q : Nat) (H1 : Heap), (∀ (k : Nat) (x : Nat × va_E), ws[k]? = some x → x.1 < q) → va_P D vwCl ((q, .inl (kA, a0)) :: ws) H1 → va_D A ((q, .inl (kA, a0)) :: ws) → va_S A H0 H1 locs →
      W p l e R s m args below meth c H1 locs (cells + 1) (slots + N') Q (F0 m (pc + 2) ls (.ref q :: rest))) : W p l e R s m args below meth c H locs cells slots Q (F0 m pc ls (.int n :: rest)) := by
  subst hty
  refine va_newaK hx hb harr rfl hdg rfl hn hN hbytes hcells hslots rfl fun H1 kB e1 z1 o1 hAr hNm => ?_
  have hk : ∀ (k : Nat) (x : Nat × va_E), ws[k]? = some x → H1[x.1]? = H[x.1]? := fun k x hx => o1 x.1 ((hP k x hx).lt)
  obtain ⟨t0, ht0⟩ := List.getElem?_of_mem hT
  have hR := (hK.2 t0 _ ht0).2
  have hAB : kB = kA := by
    have h9 : s.vm.findClass ("[" ++ (newarray.typeOf atype).toString) = some kA := by cases atype <;> exact hR
    exact Option.some.inj (hNm.symm.trans h9)
  subst hAB
  refine kk H.size H1 (fun k x hx => (hP k x hx).lt) (P_cons ((hP.kept hk).app (fun k x hx => ?_))) (D_cons (hD.push hP rfl (hA _ hS.1))) ⟨Nat.le_trans hS.1 (by omega), fun x h1 h2 => (o1 x (Nat.lt_of_lt_of_le h1 hS.1)).trans (hS.2.1 x h1 h2), hS.2.2⟩
  have hz : k < 1 := (List.getElem?_eq_some_iff.mp hx).1
  rw [show k = 0 by omega] at hx
  cases hx
  show H1[H.size]? = some (vp_cell _ _)
  rw [ha]
  exact e1
theorem kRet {S : Type} {B : S → State → Prop} (hx : p.tables.exec = Jvm.exec) (hb : c.code = cc) (hr : meth.sig.returnType = none) (hS : va_S A s.heap H locs) (u : S) (hB : ∀ t : State, t.heap = H → B u t) (hlocks : meth.locks = false) (hdg : decode cc pc = .ok (.return_, 1)) : W p l e R s m args below meth c H locs cells slots (MQ below (va_Qv (fun _ : S => True) B A) args s cells slots A) (F0 m pc ls []) :=
  W.vret hx hb hr (fun t ht hW => ⟨⟨u, rfl, trivial, hB t ht⟩, hS.F ht⟩) hS.2.2 hdg hlocks
variable {y : MethodName} {bytes : ByteArray} {maxL nL n index mc ms g0 b : Nat} {wsy : List Cond} {rm : Room} {As : List Value}
theorem kCall {S : Type} {B : S → State → Prop} (F : CallFix p m c cc nL s args Ts own) (hM : Met l y wsy rm (va_Pc (.ref b :: As) (CPre D tys g0 ws)) (va_Qv (fun _ : S => True) B (cA g0)) mc ms (cA g0)) (cw : CallB R s args own index y bytes maxL none wsy rm mc ms n ∧ y.name = "<init>" ∧ (Cond.instanceMethod y).before args s = true) (hK : va_K D vwCl tys s) (hP : va_P D vwCl ws H) (hD : va_D (cA g0) ws) (hg : g0 ≤ H0.size) (hS : va_S (cA g0) H0 H locs) (hn : As.length = n) (hsize : ls.size = nL) (hst : st0 = As.reverse ++ .ref b :: rest) (hW : (rest.map fun v => v.category).sum ≤ 8) (hdg : decode cc pc = .ok (.invokespecial index, 3)) (hf : cells + mc ≤ R.cells ∧ slots + ms ≤ R.slots)
    (kk : ∀ (u : S) (t : State) (H1 : Heap) (locs1 : List Loc), t.heap = H1 → B u t → va_S (cA g0) H0 H1 locs1 → W p l e R s m args below meth c H1 locs1 (cells + mc) (slots + ms) Q (F0 m (pc + 3) ls rest)) : W p l e R s m args below meth c H locs cells slots Q (F0 m pc ls st0) :=
  va_callv (va_runI (As := As) (rest := rest) F hM cw ⟨CPre.blind, fun U hU hW => ⟨rfl, by rw [hU]; exact hP, va_K.moved hW.alike hK, by rw [hU]; exact Nat.le_trans hg hS.1, hD⟩⟩ rfl hn hsize hst (lv_room hW) hdg hf) hS (fun q _ h => h) (fun q h => h) (fun u t H1 locs1 ht _ _ hB _ _ hS => kk u t H1 locs1 ht hB hS)
end CONS
