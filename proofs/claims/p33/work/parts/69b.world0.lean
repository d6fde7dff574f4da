/-! the world as the constructors leave it -/
def s00 : St := fun c => match c with
  | 1 => fun k => if k = 2 then 1 else 0
  | 3 => upd zrow 0 (-1)
  | 24 => clrK zrow (-1) 6
  | 25 => clrK zrow 0 6
  | 26 => clrK zrow 0 6
  | _ => zrow
def s0 : St := upA s00 33 (upd (s00 33) 0 1)
theorem PAll_0 : PAll s0 1 0 0 0 0 0 false 0 := by
  refine ⟨⟨⟨rfl, by decide, by decide⟩, ⟨rfl, by decide⟩, rfl, ⟨rfl, by decide⟩, ⟨rfl, by decide⟩, fun k hk => ⟨rfl, by show (0 : Int32).toNatClampNeg < 12; decide⟩, fun h => absurd h (by decide), fun i hi => absurd hi (by omega)⟩, ⟨rfl, rfl, rfl, rfl, rfl, rfl, ⟨rfl, rfl, by decide⟩, ⟨rfl, rfl⟩, by decide, fun h => absurd h (by decide)⟩, ⟨fun x y _ _ => ⟨0, rfl, by decide, fun h => absurd h (by decide)⟩, fun a ha => ?_, fun i _ => rfl⟩, fun i hi => absurd hi (by omega), fun k hk => absurd hk (by omega), fun h => absurd h (by decide), by decide, by decide⟩
  have h0 : a = 0 := by omega
  subst h0
  have hi : itsA (s0 2) (s0 3) 0 0 = -1 := if_pos (Or.inl rfl)
  rw [frA, if_pos hi]
  rfl
theorem PGat_0 : PGat s0 1 := fun k _ => ⟨0, by decide, rfl⟩

theorem gOk_of {G : Gx} {ws : va_W} (hn : (gl G).Nodup) (hD : va_D (cA (gbs G)) ws) (hws : ws.map Prod.fst = (gl G).map (gad G)) : gOk G := by
  have key : ∀ (k a : Nat), (gl G)[k]? = some a → ∃ q : Nat × va_E, ws[k]? = some q ∧ q.1 = gad G a := by
    intro k a hk
    have h1 : (ws.map Prod.fst)[k]? = some (gad G a) := by rw [hws, List.getElem?_map, hk]; rfl
    rw [List.getElem?_map] at h1
    cases hq : ws[k]? with
    | none => rw [hq] at h1; cases h1
    | some q => rw [hq] at h1; exact ⟨q, rfl, Option.some.inj h1⟩
  refine ⟨hn, fun a ha b hb hab => ?_, fun a ha => ?_⟩
  · obtain ⟨i, hi⟩ := List.getElem?_of_mem ha
    obtain ⟨j, hj⟩ := List.getElem?_of_mem hb
    obtain ⟨p, hp, ep⟩ := key i a hi
    obtain ⟨q, hq, eq⟩ := key j b hj
    have hij := hD.1 i j p q hp hq (by rw [ep, eq]; exact hab)
    subst hij
    exact Option.some.inj (hi.symm.trans hj)
  · obtain ⟨i, hi⟩ := List.getElem?_of_mem ha
    obtain ⟨p, hp, ep⟩ := key i a hi
    have := hD.2 i p hp
    rw [ep] at this
    exact this
theorem arr_of {args : Array Value} {s : State} {ty : FieldType} (hty : ty = .int ∨ ty = .boolean ∨ ty = .long) (h : (Cond.arrayClass ty).before args s = true) : ∃ kA : ClassId, ArrOfT s kA ty ∧ va_RA s kA ty := by
  obtain ⟨kA, kk, comp, h1, h2, h3⟩ := Cond.arrayClass_spec h
  refine ⟨kA, fun n z => ⟨fun k h => (by cases h), kk, h2, comp, h3⟩, ?_⟩
  rcases hty with rfl | rfl | rfl <;> exact h1

def glL : List Nat := [33, 32, 31, 30, 29, 28, 27, 23, 24, 25, 26, 22, 21, 20, 19, 18, 17, 16, 15, 14, 13, 12, 11, 10, 9, 8, 7, 6, 5, 4, 3, 2, 1, 0]
def mkG (D : va_G) (kI kZ : ClassId) (sc : Nat × Nat × (Nat → Int32)) (ad : List Nat) (g0 : Nat) (tys : List (ClassId × FieldType)) : Gx := (D, kI, kZ, sc, (fun c => ad.getD c 0), g0, glL, tys, true)
set_option maxRecDepth 100000 in
set_option maxHeartbeats 4000000 in
theorem w0_is (D : va_G) (kI kZ : ClassId) (sc : Nat × Nat × (Nat → Int32)) (g0 : Nat) (tys : List (ClassId × FieldType)) (a0 a1 a2 a3 a4 a5 a6 a7 a8 a9 a10 a11 a12 a13 a14 a15 a16 a17 a18 a19 a20 a21 a22 a23 a24 a25 a26 a27 a28 a29 a30 a31 a32 a33 : Nat) : wl (mkG D kI kZ sc [a0, a1, a2, a3, a4, a5, a6, a7, a8, a9, a10, a11, a12, a13, a14, a15, a16, a17, a18, a19, a20, a21, a22, a23, a24, a25, a26, a27, a28, a29, a30, a31, a32, a33] g0 tys) s00 = [(a33, .inl (kI, 9, .inl zrow)), (a32, .inl (kI, 36, .inl zrow)), (a31, .inl (kI, 60, .inl zrow)), (a30, .inl (kI, 6, .inl zrow)), (a29, .inl (kI, 48, .inl zrow)), (a28, .inl (kI, 48, .inl zrow)), (a27, .inr (0, [.ref a28, .ref a29, .int 0, .int 0])), (a23, .inr (1, [.ref a24, .ref a25, .ref a26, .int 0])), (a24, .inl (kI, 6, .inl (clrK zrow (-1) 6))), (a25, .inl (kZ, 6, .inl (clrK zrow 0 6))), (a26, .inl (kI, 6, .inl (clrK zrow 0 6))), (a22, .inl (kI, 512, .inl zrow)), (a21, .inl (kI, 512, .inl zrow)), (a20, .inr (2, [.ref a21, .ref a22, .int 0])), (a19, .inl (kI, 6, .inl zrow)), (a18, .inl (kI, 6, .inl zrow)), (a17, .inl (kI, 6, .inl zrow)), (a16, .inl (kI, 6, .inl zrow)), (a15, .inl (kI, 6, .inl zrow)), (a14, .inl (kI, 6, .inl zrow)), (a13, .inl (kI, 6, .inl zrow)), (a12, .inr (3, [.ref a1, .ref a13, .ref a14, .ref a15, .ref a16, .ref a17, .ref a18, .ref a19, .int 0, .int 0, .int 0])), (a11, .inl (kI, 6, .inl zrow)), (a10, .inl (kI, 6, .inl zrow)), (a9, .inl (kI, 6, .inl zrow)), (a8, .inl (kI, 6, .inl zrow)), (a7, .inl (kI, 6, .inl zrow)), (a6, .inl (kI, 6, .inl zrow)), (a5, .inl (kI, 6, .inl zrow)), (a4, .inr (3, [.ref a1, .ref a5, .ref a6, .ref a7, .ref a8, .ref a9, .ref a10, .ref a11, .int 0, .int 0, .int 0])), (a3, .inl (kI, 12, .inl (upd zrow 0 (-1)))), (a2, .inl (kI, 144, .inl zrow)), (a1, .inr (4, [.ref a2, .ref a3, .int 1, .int 0])), (a0, .inr (5, [.ref a1, .ref a4, .ref a12, .ref a20, .ref a23, .ref a27, .ref a30, .int 0, .int 0, .int 0]))] := rfl
set_option maxRecDepth 100000 in
set_option maxHeartbeats 4000000 in
theorem w0_ok {D : va_G} {kI kZ : ClassId} {sc : Nat × Nat × (Nat → Int32)} {g0 : Nat} {tys : List (ClassId × FieldType)} {a0 a1 a2 a3 a4 a5 a6 a7 a8 a9 a10 a11 a12 a13 a14 a15 a16 a17 a18 a19 a20 a21 a22 a23 a24 a25 a26 a27 a28 a29 a30 a31 a32 a33 : Nat} (hD : va_D (cA g0) (wl (mkG D kI kZ sc [a0, a1, a2, a3, a4, a5, a6, a7, a8, a9, a10, a11, a12, a13, a14, a15, a16, a17, a18, a19, a20, a21, a22, a23, a24, a25, a26, a27, a28, a29, a30, a31, a32, a33] g0 tys) s00)) : gOk (mkG D kI kZ sc [a0, a1, a2, a3, a4, a5, a6, a7, a8, a9, a10, a11, a12, a13, a14, a15, a16, a17, a18, a19, a20, a21, a22, a23, a24, a25, a26, a27, a28, a29, a30, a31, a32, a33] g0 tys) := gOk_of (ws := wl (mkG D kI kZ sc [a0, a1, a2, a3, a4, a5, a6, a7, a8, a9, a10, a11, a12, a13, a14, a15, a16, a17, a18, a19, a20, a21, a22, a23, a24, a25, a26, a27, a28, a29, a30, a31, a32, a33] g0 tys) s00) (by show glL.Nodup; decide) hD (by unfold wl; rw [List.map_map]; rfl)
