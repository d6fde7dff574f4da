def bI (b : Bool) : Int32 := if b = true then 1 else 0
theorem bI_t : bI true = 1 := rfl
theorem bI_f : bI false = 0 := rfl
theorem bI_0 {b : Bool} (h : bI b = 0) : b = false := by cases b <;> first | rfl | exact absurd h (by decide)
theorem bI_1 {b : Bool} (h : ¬ bI b = 0) : b = true := by cases b <;> first | rfl | exact absurd rfl h
theorem nar_bI (b : Bool) : narrow .boolean (.int (bI b)) = .int (bI b) := by cases b <;> rfl
theorem n0_eqt {a : Nat} (h : a < 2 ^ 31) (c : nI a = 0) : a = 0 := (nI_eq h (by decide)).mp (c.trans nI_0.symm)
theorem n0_eqf {a : Nat} (h : a < 2 ^ 31) (c : ¬ nI a = 0) : ¬ a = 0 := fun e => c (by rw [e]; rfl)
theorem n0_net {a : Nat} (h : a < 2 ^ 31) (c : ¬ nI a = 0) : ¬ a = 0 := n0_eqf h c
theorem n0_nef {a : Nat} (h : a < 2 ^ 31) (c : nI a = 0) : a = 0 := n0_eqt h c
theorem n0_ltt {a : Nat} (h : a < 2 ^ 31) (c : nI a < 0) : False := nI_pos h c
theorem n0_ltf {a : Nat} (_ : a < 2 ^ 31) (_ : ¬ nI a < 0) : True := trivial
theorem n0_let {a : Nat} (h : a < 2 ^ 31) (c : nI a ≤ 0) : a = 0 := by
  have := (nI_leI h (b := 0) (by decide)).mp c
  omega
theorem n0_lef {a : Nat} (h : a < 2 ^ 31) (c : ¬ nI a ≤ 0) : 0 < a := by
  rcases Nat.eq_zero_or_pos a with e | e
  · exact absurd ((nI_leI h (b := 0) (by decide)).mpr (by omega)) c
  · exact e
theorem n0_gtt {a : Nat} (h : a < 2 ^ 31) (c : 0 < nI a) : 0 < a := (nI_ltI (a := 0) (by decide) h).mp c
theorem n0_gtf {a : Nat} (h : a < 2 ^ 31) (c : ¬ 0 < nI a) : a = 0 := by
  rcases Nat.eq_zero_or_pos a with e | e
  · exact e
  · exact absurd ((nI_ltI (a := 0) (by decide) h).mpr e) c
theorem n0_get {a : Nat} (_ : a < 2 ^ 31) (_ : 0 ≤ nI a) : True := trivial
theorem n0_gef {a : Nat} (h : a < 2 ^ 31) (c : ¬ 0 ≤ nI a) : False := c (nI_pos' h)
section TL
variable {p : Program} {l : Launch} {e : Env} {R : Room} {s : State} {m : MethodId} {args : Array Value} {below : List Frame} {meth : Method} {c : Code} {H : Heap} {locs : List Loc} {cells slots : Nat} {Q : State → Prop} {pc : Nat} {ls : Array Slot} {rest : List Value} {cc : ByteArray}
theorem lv_rep0 {x y : Int32} (h : x = y) (k : W p l e R s m args below meth c H locs cells slots Q (F0 m pc ls (.int y :: rest))) : W p l e R s m args below meth c H locs cells slots Q (F0 m pc ls (.int x :: rest)) := by rw [h]; exact k
theorem lv_rep1 {x y : Int32} {v : Value} (h : x = y) (k : W p l e R s m args below meth c H locs cells slots Q (F0 m pc ls (v :: .int y :: rest))) : W p l e R s m args below meth c H locs cells slots Q (F0 m pc ls (v :: .int x :: rest)) := by rw [h]; exact k
theorem lv_rep2 {x y : Int32} {v w : Value} (h : x = y) (k : W p l e R s m args below meth c H locs cells slots Q (F0 m pc ls (v :: w :: .int y :: rest))) : W p l e R s m args below meth c H locs cells slots Q (F0 m pc ls (v :: w :: .int x :: rest)) := by rw [h]; exact k
theorem lv_rep3 {x y : Int32} {v w u : Value} (h : x = y) (k : W p l e R s m args below meth c H locs cells slots Q (F0 m pc ls (v :: w :: u :: .int y :: rest))) : W p l e R s m args below meth c H locs cells slots Q (F0 m pc ls (v :: w :: u :: .int x :: rest)) := by rw [h]; exact k
theorem lv_b_eq (hx : p.tables.exec = Jvm.exec) (hb : c.code = cc) {b : Bool} {off : Int} {tgt : Nat} (hdg : decode cc pc = .ok (.ifCond .eq off, 3)) (ht : (pc : Int) + off = (tgt : Int)) (kt : b = false → W p l e R s m args below meth c H locs cells slots Q (F0 m tgt ls rest)) (kf : b = true → W p l e R s m args below meth c H locs cells slots Q (F0 m (pc + 3) ls rest)) : W p l e R s m args below meth c H locs cells slots Q (F0 m pc ls (.int (bI b) :: rest)) :=
  lv_if_eq hx hb hdg ht (fun h => kt (bI_0 h)) (fun h => kf (bI_1 h))
theorem lv_b_ne (hx : p.tables.exec = Jvm.exec) (hb : c.code = cc) {b : Bool} {off : Int} {tgt : Nat} (hdg : decode cc pc = .ok (.ifCond .ne off, 3)) (ht : (pc : Int) + off = (tgt : Int)) (kt : b = true → W p l e R s m args below meth c H locs cells slots Q (F0 m tgt ls rest)) (kf : b = false → W p l e R s m args below meth c H locs cells slots Q (F0 m (pc + 3) ls rest)) : W p l e R s m args below meth c H locs cells slots Q (F0 m pc ls (.int (bI b) :: rest)) :=
  lv_if_ne hx hb hdg ht (fun h => kt (bI_1 h)) (fun h => kf (bI_0 h))
end TL
theorem lv_c0 {ls : Array Slot} {nL : Nat} {l : List (Nat × Value)} (h : lv_has ls nL l) : lv_has ls nL [] := ⟨h.1, h.2.1, fun _ h => absurd h List.not_mem_nil⟩
theorem lv_c {ls : Array Slot} {nL i : Nat} {v : Value} {l : List (Nat × Value)} (h1 : ls[i]? = some (.val v)) (h : lv_has ls nL l) : lv_has ls nL ((i, v) :: l) := ⟨h.1, h.2.1, List.forall_mem_cons.mpr ⟨h1, h.2.2⟩⟩
theorem lv_atq {ls : Array Slot} {nL : Nat} {l : List (Nat × Value)} (h : lv_has ls nL l) (k : Nat) {i : Nat} {x y : Int32} (hk : l[k]? = some (i, .int x)) (q : x = y) : ls[i]? = some (.val (.int y)) := by rw [← q]; exact lv_at h k hk
/-- the whole world is there -/
def Full (G : Gx) : Prop := (∀ c, c < 34 → c ∈ gl G) ∧ (gcI G, FieldType.int) ∈ gT G ∧ (gcZ G, FieldType.boolean) ∈ gT G ∧ True ∧ gs G = true
/-- the items' cells are there -/
def ItG (G : Gx) : Prop := (∀ c, (23 ≤ c ∧ c ≤ 26) → c ∈ gl G) ∧ (gcI G, FieldType.int) ∈ gT G ∧ (gcZ G, FieldType.boolean) ∈ gT G ∧ True
theorem rB0 {G : Gx} {b : Nat} (hF : Full G) (h : rB b) : b ∈ gl G := hF.1 b (by rcases h with rfl | rfl <;> decide)
theorem rBk {G : Gx} {b k : Nat} (hF : Full G) (h : rB b) (hk : k ≤ 7) : b + k ∈ gl G := hF.1 _ (by rcases h with rfl | rfl <;> omega)
theorem ng_ISE : ∀ w ∈ (vx_atS RX5 75 "java/lang/IllegalStateException" nms).filter (fun w => !goodWord w), w ∈ Cond.castable "java/lang/IllegalStateException" "java/lang/IllegalStateException" :: dcls.map Cond.declares := by decide +kernel
theorem ng_IAE : ∀ w ∈ (vx_atS RX5 90 "java/lang/IllegalArgumentException" nms).filter (fun w => !goodWord w), w ∈ Cond.castable "java/lang/IllegalArgumentException" "java/lang/IllegalArgumentException" :: dcls.map Cond.declares := by decide +kernel
theorem ng_IOB : ∀ w ∈ (vx_atS RX5 245 "java/lang/IndexOutOfBoundsException" nms).filter (fun w => !goodWord w), w ∈ Cond.castable "java/lang/IndexOutOfBoundsException" "java/lang/IndexOutOfBoundsException" :: dcls.map Cond.declares := by decide +kernel
theorem gd_ISE : ∀ w ∈ Cond.classLink RX5 71 "java/lang/IllegalStateException" :: Cond.initialized "java/lang/IllegalStateException" :: vx_atS RX5 75 "java/lang/IllegalStateException" nms, vx_ot w = true := by decide +kernel
theorem gd_IAE : ∀ w ∈ Cond.classLink RX5 86 "java/lang/IllegalArgumentException" :: Cond.initialized "java/lang/IllegalArgumentException" :: vx_atS RX5 90 "java/lang/IllegalArgumentException" nms, vx_ot w = true := by decide +kernel
theorem gd_IOB : ∀ w ∈ Cond.classLink RX5 241 "java/lang/IndexOutOfBoundsException" :: Cond.initialized "java/lang/IndexOutOfBoundsException" :: vx_atS RX5 245 "java/lang/IndexOutOfBoundsException" nms, vx_ot w = true := by decide +kernel
theorem at_ISE {args : Array Value} {s : State} (h : ∀ w ∈ (vx_atS RX5 75 "java/lang/IllegalStateException" nms).filter goodWord, w.before args s = true) (hd : ∀ y ∈ dcls, (Cond.declares y).before args s = true) (hc : (Cond.castable "java/lang/IllegalStateException" "java/lang/IllegalStateException").before args s = true) : ∀ w ∈ vx_atS RX5 75 "java/lang/IllegalStateException" nms, w.before args s = true := vx_hat h ng_ISE (vx_c hc (fun w hw => by obtain ⟨y, hy, e⟩ := List.mem_map.mp hw; rw [← e]; exact hd y hy))
theorem at_IAE {args : Array Value} {s : State} (h : ∀ w ∈ (vx_atS RX5 90 "java/lang/IllegalArgumentException" nms).filter goodWord, w.before args s = true) (hd : ∀ y ∈ dcls, (Cond.declares y).before args s = true) (hc : (Cond.castable "java/lang/IllegalArgumentException" "java/lang/IllegalArgumentException").before args s = true) : ∀ w ∈ vx_atS RX5 90 "java/lang/IllegalArgumentException" nms, w.before args s = true := vx_hat h ng_IAE (vx_c hc (fun w hw => by obtain ⟨y, hy, e⟩ := List.mem_map.mp hw; rw [← e]; exact hd y hy))
theorem at_IOB {args : Array Value} {s : State} (h : ∀ w ∈ (vx_atS RX5 245 "java/lang/IndexOutOfBoundsException" nms).filter goodWord, w.before args s = true) (hd : ∀ y ∈ dcls, (Cond.declares y).before args s = true) (hc : (Cond.castable "java/lang/IndexOutOfBoundsException" "java/lang/IndexOutOfBoundsException").before args s = true) : ∀ w ∈ vx_atS RX5 245 "java/lang/IndexOutOfBoundsException" nms, w.before args s = true := vx_hat h ng_IOB (vx_c hc (fun w hw => by obtain ⟨y, hy, e⟩ := List.mem_map.mp hw; rw [← e]; exact hd y hy))
