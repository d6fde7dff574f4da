section LAWT
variable {p : Program} {l : Launch} {e : Env} {R : Room} {s : State} {m : MethodId} {args : Array Value} {below : List Frame} {meth : Method} {c : Code} {H : Heap} {locs : List Loc} {cells slots : Nat} {pc : Nat} {ls : Array Slot} {cc : ByteArray} {G : Gx} {σ : St}
theorem rRetL {post : Int32 → St → Prop} (hx : p.tables.exec = Jvm.exec) (hb : c.code = cc) (hr : meth.sig.returnType = some .int) (hw : Wd G s σ H locs) {v : Int32} (hp : post v σ) (hlocks : meth.locks = false) (hdg : decode cc pc = .ok (.ireturn, 1)) (hc : cells ≤ 1) (hs : slots ≤ 6) : W p l e R s m args below meth c H locs cells slots (MQ below (va_Qi post (BW G) (gA G)) args s 1 6 (gA G)) (F0 m pc ls [.int v]) :=
  fun T hT X => rRetI hx hb hr hw hp hlocks hdg T hT (stand_widen X hc hs)
theorem bgL {y : MethodName} {ws ws' : List Cond} {rm : Room} {av : List Value} {maxL mc ms : Nat} {ret : Option FieldType} {own : String} {lv : List (Nat × Value)} {hh : List (Nat × Nat × Nat × Nat)} {Qc : Array Value → State → Outcome → State → Prop} (hy : plainName y.cls = true) (hcl : y.cls = own) (hws : ws = Cond.codeWith y cc maxL ret hh :: ws') (hG : gOk G) (ha : (lg_sl av).length ≤ maxL) (hlv : lv_args 0 av = lv)
    (body : ∀ (p : Program) (e : Env) (s : State) (m : MethodId) (args : Array Value) (below : List Frame) (meth : Method) (c : Code) (ls : Array Slot), c.exceptionTable.toList = tableOf hh → Bd p s m args meth c G σ ws cc own maxL ret → lv_has ls maxL lv → W p l e rm s m args below meth c s.heap [] 0 0 (MQ below Qc args s mc ms (gA G)) (F0 m 0 ls [])) :
    Met l y ws rm (va_Pc av (PreU G σ)) Qc mc ms (gA G) := by
  refine MetFree.of_bodyS (code := cc) (maxLocals := maxL) (ret := ret) hy ?_ ?_
  · intro args s m h hn
    obtain ⟨m9, meth, c, hn9, h1, h2, h3, h4, -, h5, h6, -⟩ := Cond.codeWith_spec (atoms_spec (ws := ws) h _ (by rw [hws]; exact List.mem_cons_self))
    cases hn.symm.trans hn9
    exact ⟨meth, c, h1, h2, h3, h4, h5, h6⟩
  · intro p e s m args below meth c s₁ B hml hP _
    have hh0 : s₁.heap = s.heap := by rw [B.state]; rfl
    have htab := vx_table (x := y) B (atoms_spec (ws := ws) B.pre _ (by rw [hws]; exact List.mem_cons_self))
    obtain ⟨rfl, hv⟩ := hP
    obtain ⟨fx, hw⟩ := hv.fx hG
    have hl := lv_entry av (n := maxL) ha
    rw [hlv] at hl
    have K : W p l e rm s m av.toArray below meth c s.heap [] 0 0 (MQ below Qc av.toArray s mc ms (gA G)) (entryFrame m av.toArray maxL) := by
      rw [lg_entry_eq]
      exact body p e s m _ below meth c _ htab ⟨B.exec, B.bytes, B.returns, hml, atoms_spec (ws := ws) B.pre, by rw [← hcl]; exact findClass_of_methodNamed B.named, B.notSynchronized, fx, hw⟩ hl
    obtain ⟨t, a1, o, b1, b2, b3⟩ := K s₁ hh0 (Stand.of_body B)
    exact ⟨t, o, a1, b1, b2, ⟨b3.1, b3.2⟩⟩
theorem hCast {E : String} (fx : Fx G s) (hF : Full G) (hE : E ∈ xcls) : (Cond.castable E E).before args s = true := by
  obtain ⟨-, -, -, -, -, -, -, -, hC⟩ := fx.2.2.2 hF.2.2.2.2
  exact va_Nw.use rfl (hC E hE).1
theorem hNot {E Y : String} (fx : Fx G s) (hF : Full G) (hE : E ∈ xcls) (hY : Y ∈ xcls) (h : E ≠ Y) : va_Nc E Y s := by
  obtain ⟨-, -, -, -, -, -, -, -, hC⟩ := fx.2.2.2 hF.2.2.2.2
  exact (hC E hE).2 Y hY h
end LAWT
