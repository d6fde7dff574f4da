/-! tools for the law's own methods: contracts that count what is made, calls that throw not, returns that round up -/
theorem CxI.mono {l : Launch} {y : MethodName} {ws : List Cond} {rm : Room} {G : Gx} {σ : St} {av : List Value} {post post' : Int32 → St → Prop} {ex ex' : String → Prop} (h : CxI l y ws rm G σ av post ex) (hp : ∀ r σ', post r σ' → post' r σ') (he : ∀ E, ex E → ex' E) : CxI l y ws rm G σ av post' ex' := by
  refine MetFree.imp h (fun a s o t q => ?_)
  rcases q with ⟨⟨⟨r, u, q1, q2, q3⟩, q4⟩, q5⟩ | ⟨q9, q1, E, ce, L, ⟨u, q2, ⟨q3, q4⟩, q5⟩, q6⟩
  · exact Or.inl ⟨⟨⟨r, u, q1, hp r u q2, q3⟩, q4⟩, q5⟩
  · exact Or.inr ⟨q9, q1, E, ce, L, ⟨u, q2, ⟨he E q3, q4⟩, q5⟩, q6⟩
theorem CtI.mono {l : Launch} {y : MethodName} {ws : List Cond} {rm : Room} {G : Gx} {σ : St} {av : List Value} {post post' : Int32 → St → Prop} (h : CtI l y ws rm G σ av post) (hp : ∀ r σ', post r σ' → post' r σ') : CtI l y ws rm G σ av post' := by
  unfold CtI Met at h ⊢
  refine MetFree.imp h (fun a s o t q => ?_)
  obtain ⟨⟨⟨r, u, q1, q2, q3⟩, q4⟩, q5⟩ := q
  exact ⟨⟨⟨r, u, q1, hp r u q2, q3⟩, q4⟩, q5⟩
/-- a contract that counts mc cells of ms slots -/
def CmI (l : Launch) (y : MethodName) (ws : List Cond) (rm : Room) (G : Gx) (σ : St) (av : List Value) (post : Int32 → St → Prop) (mc ms : Nat) : Prop := Met l y ws rm (va_Pc av (PreU G σ)) (va_Qi post (BW G) (gA G)) mc ms (gA G)
theorem CmI.mono {l : Launch} {y : MethodName} {ws : List Cond} {rm : Room} {G : Gx} {σ : St} {av : List Value} {mc ms : Nat} {post post' : Int32 → St → Prop} (h : CmI l y ws rm G σ av post mc ms) (hp : ∀ r σ', post r σ' → post' r σ') : CmI l y ws rm G σ av post' mc ms := by
  unfold CmI Met at h ⊢
  refine MetFree.imp h (fun a s o t q => ?_)
  obtain ⟨⟨⟨r, u, q1, q2, q3⟩, q4⟩, q5⟩ := q
  exact ⟨⟨⟨r, u, q1, hp r u q2, q3⟩, q4⟩, q5⟩
section PT
variable {p : Program} {l : Launch} {e : Env} {R : Room} {s : State} {m : MethodId} {args : Array Value} {below : List Frame} {meth : Method} {c : Code} {H : Heap} {locs : List Loc} {cells slots : Nat} {Q : State → Prop}
variable {pc : Nat} {ls : Array Slot} {rest st0 : List Value} {cc bytes : ByteArray} {G : Gx} {σ : St} {Ts : List Cond} {own : String} {y : MethodName} {maxL nL n index mc ms ci c0 : Nat} {ret : Option FieldType} {ws ws' : List Cond} {rm : Room} {As : List Value} {hh : List (Nat × Nat × Nat × Nat)} {fs : List Value} {q : vw_C} {C : String}
theorem rRetIw {post : Int32 → St → Prop} {k n : Nat} (hx : p.tables.exec = Jvm.exec) (hb : c.code = cc) (hr : meth.sig.returnType = some .int) (hw : Wd G s σ H locs) {v : Int32} (hp : post v σ) (hlocks : meth.locks = false) (hdg : decode cc pc = .ok (.ireturn, 1)) (hc : cells ≤ k) (hs : slots ≤ n) : W p l e R s m args below meth c H locs cells slots (MQ below (va_Qi post (BW G) (gA G)) args s k n (gA G)) (F0 m pc ls [.int v]) :=
  fun T hT X => rRetI hx hb hr hw hp hlocks hdg T hT (stand_widen X hc hs)
theorem rRetZw {post : Int32 → St → Prop} {ty : FieldType} {k n : Nat} (hx : p.tables.exec = Jvm.exec) (hb : c.code = cc) (hr : meth.sig.returnType = some ty) (hw : Wd G s σ H locs) {v : Int32} (hn : narrow ty (.int v) = .int v) (hp : post v σ) (hlocks : meth.locks = false) (hdg : decode cc pc = .ok (.ireturn, 1)) (hc : cells ≤ k) (hs : slots ≤ n) : W p l e R s m args below meth c H locs cells slots (MQ below (va_Qi post (BW G) (gA G)) args s k n (gA G)) (F0 m pc ls [.int v]) :=
  fun T hT X => rRetZ hx hb hr hw hn hp hlocks hdg T hT (stand_widen X hc hs)
theorem bgL {av : List Value} {lv : List (Nat × Value)} {Qc : Array Value → State → Outcome → State → Prop} (hy : plainName y.cls = true) (hcl : y.cls = own) (hws : ws = Cond.codeWith y cc maxL ret hh :: ws') (hG : gOk G) (ha : (lg_sl av).length ≤ maxL) (hlv : lv_args 0 av = lv)
    (body : ∀ (p : Program) (e : Env) (s : State) (m : MethodId) (args : Array Value) (below : List Frame) (meth : Method) (c : Code) (ls : Array Slot), c.exceptionTable.toList = tableOf hh → Bd p s m args meth c G σ ws cc own maxL ret → lv_has ls maxL lv → W p l e rm s m args below meth c s.heap [] 0 0 (MQ below Qc args s mc ms (gA G)) (F0 m 0 ls [])) :
    Met l y ws rm (va_Pc av (PreU G σ)) Qc mc ms (gA G) := by
  refine MetFree.of_bodyS (code := cc) (maxLocals := maxL) (ret := ret) hy ?_ ?_
  · intro args s m h hn
    obtain ⟨m9, meth, c, hn9, h1, h2, h3, h4, -, h5, h6, -⟩ := Cond.codeWith_spec (atoms_spec (ws := ws) h _ (by rw [hws]; exact List.mem_cons_self))
    cases hn.symm.trans hn9
    exact ⟨meth, c, h1, h2, h3, h4, h5, h6⟩
  · intro p e s m args below meth c s₁ B hml hP _
    have hh0 : s₁.heap = s.heap := by rw [B.state]; rfl
    have htab := vx_table (x := y) B (atoms_spec (ws := ws) B.pre _ (by rw [hws]; exact List.mem_cons_self))
    obtain ⟨rfl, hv⟩ := hP
    obtain ⟨fx, hw⟩ := hv.fx hG
    have hl := lv_entry av (n := maxL) ha
    rw [hlv] at hl
    have K : W p l e rm s m av.toArray below meth c s.heap [] 0 0 (MQ below Qc av.toArray s mc ms (gA G)) (entryFrame m av.toArray maxL) := by
      rw [lg_entry_eq]
      exact body p e s m _ below meth c _ htab ⟨B.exec, B.bytes, B.returns, hml, atoms_spec (ws := ws) B.pre, by rw [← hcl]; exact findClass_of_methodNamed B.named, B.notSynchronized, fx, hw⟩ hl
    obtain ⟨t, a1, o, b1, b2, b3⟩ := K s₁ hh0 (Stand.of_body B)
    exact ⟨t, o, a1, b1, b2, ⟨b3.1, b3.2⟩⟩
theorem bgM {av : List Value} {lv : List (Nat × Value)} {Qc : Array Value → State → Outcome → State → Prop} (hy : plainName y.cls = true) (hcl : y.cls = own) (hws : ws = Cond.code y cc maxL ret :: ws') (hG : gOk G) (ha : (lg_sl av).length ≤ maxL) (hlv : lv_args 0 av = lv)
    (body : ∀ (p : Program) (e : Env) (s : State) (m : MethodId) (args : Array Value) (below : List Frame) (meth : Method) (c : Code) (ls : Array Slot), Bd p s m args meth c G σ ws cc own maxL ret → lv_has ls maxL lv → W p l e rm s m args below meth c s.heap [] 0 0 (MQ below Qc args s mc ms (gA G)) (F0 m 0 ls [])) :
    Met l y ws rm (va_Pc av (PreU G σ)) Qc mc ms (gA G) := by
  refine Met.ofW (cc := cc) (maxL := maxL) (ret := ret) hy hws ?_
  intro p e s m args below meth c s₁ B hml hv
  obtain ⟨rfl, hv⟩ := hv
  obtain ⟨fx, hw⟩ := hv.fx hG
  have hl := lv_entry av (n := maxL) ha
  rw [hlv] at hl
  rw [lg_entry_eq]
  exact body p e s m _ below meth c _ ⟨B.exec, B.bytes, B.returns, hml, atoms_spec (ws := ws) B.pre, by rw [← hcl]; exact findClass_of_methodNamed B.named, B.notSynchronized, fx, hw⟩ hl
theorem hCast {E : String} (fx : Fx G s) (hF : Full G) (hE : E ∈ xcls) : (Cond.castable E E).before args s = true := by
  obtain ⟨-, -, -, -, -, -, -, -, hC⟩ := (fx.2.2.2 hF.2.2.2.2).1
  exact va_Nw.use rfl (hC E hE).1
theorem hNot {E Y : String} (fx : Fx G s) (hF : Full G) (hE : E ∈ xcls) (hY : Y ∈ xcls) (h : E ≠ Y) : va_Nc E Y s := by
  obtain ⟨-, -, -, -, -, -, -, -, hC⟩ := (fx.2.2.2 hF.2.2.2.2).1
  exact (hC E hE).2 Y hY h
/-- a call of does or asks -/
theorem rCallLS {post : Int32 → St → Prop} (F : CallFix p m c cc nL s args Ts own) (fx : Fx G s) (hw : Wd G s σ H locs) (hM : CmI l y ws rm G σ As post mc ms) (cw : vx_CSW R s args own index y bytes maxL ret hh ws rm mc ms n) (hn : As.length = n) (hsize : ls.size = nL) (hst : st0 = As.reverse ++ rest) (hW : (rest.map fun v => v.category).sum ≤ 8) (hdg : decode cc pc = .ok (.invokestatic index, 3)) (hf : cells + mc ≤ R.cells ∧ slots + ms ≤ R.slots)
    (kk : ∀ (r : Int32) (σ' : St) (H1 : Heap) (locs1 : List Loc), post r σ' → Wd G s σ' H1 locs1 → W p l e R s m args below meth c H1 locs1 (cells + mc) (slots + ms) Q (F0 m (pc + 3) ls (.int r :: rest))) : W p l e R s m args below meth c H locs cells slots Q (F0 m pc ls st0) :=
  va_calli (vx_runSW (As := As) (rest := rest) F hM cw ⟨PreU.blind, fun U hU hW => ⟨rfl, hw.pre fx hU hW⟩⟩ rfl hn hsize hst (lv_room hW) hdg hf) hw.2 (rA fx hw) (fun _ h => h) (fun r u t H1 locs1 ht _ hp hB _ _ hS => kk r u H1 locs1 hp ⟨by rw [← ht]; exact hB, hS⟩)
/-- a call of another of the law's methods -/
theorem rCallM {post : Int32 → St → Prop} (F : CallFix p m c cc nL s args Ts own) (fx : Fx G s) (hw : Wd G s σ H locs) (hM : CmI l y ws rm G σ As post mc ms) (cw : CallB R s args own index y bytes maxL ret ws rm mc ms n ∧ (Cond.static y).before args s = true) (hn : As.length = n) (hsize : ls.size = nL) (hst : st0 = As.reverse ++ rest) (hW : (rest.map fun v => v.category).sum ≤ 8) (hdg : decode cc pc = .ok (.invokestatic index, 3)) (hf : cells + mc ≤ R.cells ∧ slots + ms ≤ R.slots)
    (kk : ∀ (r : Int32) (σ' : St) (H1 : Heap) (locs1 : List Loc), post r σ' → Wd G s σ' H1 locs1 → W p l e R s m args below meth c H1 locs1 (cells + mc) (slots + ms) Q (F0 m (pc + 3) ls (.int r :: rest))) : W p l e R s m args below meth c H locs cells slots Q (F0 m pc ls st0) :=
  va_calli (va_runS (As := As) (rest := rest) F hM cw ⟨PreU.blind, fun U hU hW => ⟨rfl, hw.pre fx hU hW⟩⟩ rfl hn hsize hst (lv_room hW) hdg hf) hw.2 (rA fx hw) (fun _ h => h) (fun r u t H1 locs1 ht _ hp hB _ _ hS => kk r u H1 locs1 hp ⟨by rw [← ht]; exact hB, hS⟩)
/-- a call of the class that throws not -/
theorem rCallN {post : Int32 → St → Prop} (S : CallFix p m c cc nL s args Ts own) (fx : Fx G s) (hw : Wd G s σ H locs) (hM : CxI l y ws rm G σ (.ref (gad G c0) :: As) post (fun _ => False)) (cw : CallW R s args own C index y bytes maxL ret ws rm 1 6 n) (hI : c0 ∈ gl G) (he : cE G c0 (σ c0) = .inr (ci, fs)) (hcl : vwCl[ci]? = some q) (hq : q.1 = C) (hn : As.length = n) (hsize : ls.size = nL) (hst : st0 = As.reverse ++ .ref (gad G c0) :: rest) (hW : (rest.map fun v => v.category).sum ≤ 8) (hdg : decode cc pc = .ok (.invokevirtual index, 3)) (hf : cells + 1 ≤ R.cells ∧ slots + 6 ≤ R.slots)
    (kk : ∀ (r : Int32) (σ' : St) (H1 : Heap) (locs1 : List Loc), post r σ' → Wd G s σ' H1 locs1 → W p l e R s m args below meth c H1 locs1 cells slots Q (F0 m (pc + 3) ls (.int r :: rest))) : W p l e R s m args below meth c H locs cells slots Q (F0 m pc ls st0) :=
  rCallXI S fx hw hM cw hI he hcl hq hn hsize hst hW hdg hf (fun E ce q9 H1 locs1 hE => hE.elim) kk
/-- the script -/
theorem rSln (hx : p.tables.exec = Jvm.exec) (hb : c.code = cc) (hgs : gs G = true) (fx : Fx G s) (hw : Wd G s σ H locs) (hdg : decode cc pc = .ok (.arraylength, 1))
    (kk : W p l e R s m args below meth c H locs cells slots Q (F0 m (pc + 1) ls (.int (nI (gsc G).2.1) :: rest))) : W p l e R s m args below meth c H locs cells slots Q (F0 m pc ls (.ref (gsc G).1 :: rest)) :=
  va_tlen hx hb (fx.2.2.2 hgs).2 hw.2 rfl hdg kk
theorem rSld (hx : p.tables.exec = Jvm.exec) (hb : c.code = cc) (hgs : gs G = true) (fx : Fx G s) (hw : Wd G s σ H locs) (k : Nat) (hk : k < (gsc G).2.1) (hn : (gsc G).2.1 < 2 ^ 31) (hdg : decode cc pc = .ok (.iaload, 1))
    (kk : W p l e R s m args below meth c H locs cells slots Q (F0 m (pc + 1) ls (.int ((gsc G).2.2 k) :: rest))) : W p l e R s m args below meth c H locs cells slots Q (F0 m pc ls (.int (nI k) :: .ref (gsc G).1 :: rest)) :=
  va_ti hx hb (fx.2.2.2 hgs).2 hw.2 (vp_in_nI hk hn) (v := .int ((gsc G).2.2 k)) (by show Value.int ((gsc G).2.2 _) = _; rw [nI_clamp (by omega)]) hdg kk
end PT
/-! reading a number behind writes -/
theorem ld_n {τ σ : St} {c c' k : Nat} {f : Nat → Int32} (e : τ = upA σ c' f) (h : c ≠ c') : τ c k = σ c k := by rw [e, upA_n h]
theorem ld_m {τ σ : St} {c k i : Nat} {v : Int32} (e : τ = upA σ c (upd (σ c) i v)) (h : k ≠ i) : τ c k = σ c k := by rw [e, upA_s]; exact if_neg h
theorem ld_h {τ σ : St} {c k : Nat} {v : Int32} (e : τ = upA σ c (upd (σ c) k v)) : τ c k = v := by rw [e, upA_s]; exact if_pos rfl
theorem nI_ne {a b : Nat} (h : a ≠ b) (ha : a < 2 ^ 31) (hb : b < 2 ^ 31) : ¬ nI a = nI b := fun q => h ((nI_eq ha hb).mp q)
