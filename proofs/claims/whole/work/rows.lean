section
-- ===== PART A: goes FIRST, ahead of the names: the tables' words, and 'selects' of the private methods out of them =====
/-- a private method of a class that the tables say can be made, by its rows of tables_1 -/
def lw_okq (q : MethodName × Nat) : Prop := (q.1.cls ≠ "java/lang/invoke/MethodHandle" ∧ q.1.cls ≠ "java/lang/invoke/VarHandle") ∧ Cond.instantiable q.1.cls q.2 ∈ tables_1 ∧ Cond.privateMethod q.1 ∈ tables_1 ∧ Cond.instanceMethod q.1 ∈ tables_1
theorem lw_p0 : lw_okq (⟨"Leaguewheel", "checkNeverStarted", "()V"⟩, 10) := ⟨⟨by decide +kernel, by decide +kernel⟩, List.mem_of_getElem? (i := 16) (by decide +kernel), List.mem_of_getElem? (i := 218) (by decide +kernel), List.mem_of_getElem? (i := 219) (by decide +kernel)⟩
theorem lw_p1 : lw_okq (⟨"java/lang/Throwable", "fillInStackTrace", "(I)Ljava/lang/Throwable;"⟩, 6) := ⟨⟨by decide +kernel, by decide +kernel⟩, List.mem_of_getElem? (i := 260) (by decide +kernel), List.mem_of_getElem? (i := 258) (by decide +kernel), List.mem_of_getElem? (i := 259) (by decide +kernel)⟩
theorem lw_p2 : lw_okq (⟨"Leaguewheel", "checkGate", "(I)V"⟩, 10) := ⟨⟨by decide +kernel, by decide +kernel⟩, List.mem_of_getElem? (i := 16) (by decide +kernel), List.mem_of_getElem? (i := 308) (by decide +kernel), List.mem_of_getElem? (i := 309) (by decide +kernel)⟩
theorem lw_p3 : lw_okq (⟨"Leaguewheel$Track", "measureRests", "()V"⟩, 4) := ⟨⟨by decide +kernel, by decide +kernel⟩, List.mem_of_getElem? (i := 24) (by decide +kernel), List.mem_of_getElem? (i := 354) (by decide +kernel), List.mem_of_getElem? (i := 355) (by decide +kernel)⟩
theorem lw_p4 : lw_okq (⟨"Leaguewheel$Track", "leastRest", "(I)I"⟩, 4) := ⟨⟨by decide +kernel, by decide +kernel⟩, List.mem_of_getElem? (i := 24) (by decide +kernel), List.mem_of_getElem? (i := 358) (by decide +kernel), List.mem_of_getElem? (i := 359) (by decide +kernel)⟩
theorem lw_p5 : lw_okq (⟨"Leaguewheel", "checkTeam", "(I)V"⟩, 10) := ⟨⟨by decide +kernel, by decide +kernel⟩, List.mem_of_getElem? (i := 16) (by decide +kernel), List.mem_of_getElem? (i := 377) (by decide +kernel), List.mem_of_getElem? (i := 378) (by decide +kernel)⟩
theorem lw_p6 : lw_okq (⟨"Leaguewheel$Track", "leadsOn", "(I)Z"⟩, 4) := ⟨⟨by decide +kernel, by decide +kernel⟩, List.mem_of_getElem? (i := 24) (by decide +kernel), List.mem_of_getElem? (i := 409) (by decide +kernel), List.mem_of_getElem? (i := 410) (by decide +kernel)⟩
theorem lw_p7 : lw_okq (⟨"Leaguewheel", "checkKart", "(I)V"⟩, 10) := ⟨⟨by decide +kernel, by decide +kernel⟩, List.mem_of_getElem? (i := 16) (by decide +kernel), List.mem_of_getElem? (i := 430) (by decide +kernel), List.mem_of_getElem? (i := 431) (by decide +kernel)⟩
theorem lw_p8 : lw_okq (⟨"Leaguewheel", "checkStillRacing", "(I)V"⟩, 10) := ⟨⟨by decide +kernel, by decide +kernel⟩, List.mem_of_getElem? (i := 16) (by decide +kernel), List.mem_of_getElem? (i := 435) (by decide +kernel), List.mem_of_getElem? (i := 436) (by decide +kernel)⟩
theorem lw_p9 : lw_okq (⟨"Leaguewheel", "checkRaceIsOn", "()V"⟩, 10) := ⟨⟨by decide +kernel, by decide +kernel⟩, List.mem_of_getElem? (i := 16) (by decide +kernel), List.mem_of_getElem? (i := 439) (by decide +kernel), List.mem_of_getElem? (i := 440) (by decide +kernel)⟩
theorem lw_p10 : lw_okq (⟨"Leaguewheel$Race", "goBack", "(II)I"⟩, 11) := ⟨⟨by decide +kernel, by decide +kernel⟩, List.mem_of_getElem? (i := 44) (by decide +kernel), List.mem_of_getElem? (i := 480) (by decide +kernel), List.mem_of_getElem? (i := 481) (by decide +kernel)⟩
theorem lw_p11 : lw_okq (⟨"Leaguewheel$Race", "crossLine", "(I)I"⟩, 11) := ⟨⟨by decide +kernel, by decide +kernel⟩, List.mem_of_getElem? (i := 44) (by decide +kernel), List.mem_of_getElem? (i := 484) (by decide +kernel), List.mem_of_getElem? (i := 485) (by decide +kernel)⟩
theorem lw_p12 : lw_okq (⟨"Leaguewheel$Race", "reachGate", "(II)I"⟩, 11) := ⟨⟨by decide +kernel, by decide +kernel⟩, List.mem_of_getElem? (i := 44) (by decide +kernel), List.mem_of_getElem? (i := 497) (by decide +kernel), List.mem_of_getElem? (i := 498) (by decide +kernel)⟩
theorem lw_p13 : lw_okq (⟨"Leaguewheel$Race", "isAhead", "(II)Z"⟩, 11) := ⟨⟨by decide +kernel, by decide +kernel⟩, List.mem_of_getElem? (i := 44) (by decide +kernel), List.mem_of_getElem? (i := 550) (by decide +kernel), List.mem_of_getElem? (i := 551) (by decide +kernel)⟩
theorem lw_p14 : lw_okq (⟨"Leaguewheel$Race", "insertInOrder", "(I)V"⟩, 11) := ⟨⟨by decide +kernel, by decide +kernel⟩, List.mem_of_getElem? (i := 44) (by decide +kernel), List.mem_of_getElem? (i := 583) (by decide +kernel), List.mem_of_getElem? (i := 584) (by decide +kernel)⟩
theorem lw_p15 : lw_okq (⟨"Leaguewheel$Race", "wayDone", "(I)I"⟩, 11) := ⟨⟨by decide +kernel, by decide +kernel⟩, List.mem_of_getElem? (i := 44) (by decide +kernel), List.mem_of_getElem? (i := 599) (by decide +kernel), List.mem_of_getElem? (i := 600) (by decide +kernel)⟩
def lw_privs_1 : List (MethodName × Nat) := [(⟨"Leaguewheel", "checkNeverStarted", "()V"⟩, 10), (⟨"java/lang/Throwable", "fillInStackTrace", "(I)Ljava/lang/Throwable;"⟩, 6), (⟨"Leaguewheel", "checkGate", "(I)V"⟩, 10), (⟨"Leaguewheel$Track", "measureRests", "()V"⟩, 4), (⟨"Leaguewheel$Track", "leastRest", "(I)I"⟩, 4), (⟨"Leaguewheel", "checkTeam", "(I)V"⟩, 10), (⟨"Leaguewheel$Track", "leadsOn", "(I)Z"⟩, 4), (⟨"Leaguewheel", "checkKart", "(I)V"⟩, 10), (⟨"Leaguewheel", "checkStillRacing", "(I)V"⟩, 10), (⟨"Leaguewheel", "checkRaceIsOn", "()V"⟩, 10), (⟨"Leaguewheel$Race", "goBack", "(II)I"⟩, 11), (⟨"Leaguewheel$Race", "crossLine", "(I)I"⟩, 11), (⟨"Leaguewheel$Race", "reachGate", "(II)I"⟩, 11), (⟨"Leaguewheel$Race", "isAhead", "(II)Z"⟩, 11), (⟨"Leaguewheel$Race", "insertInOrder", "(I)V"⟩, 11), (⟨"Leaguewheel$Race", "wayDone", "(I)I"⟩, 11)]
theorem lw_r1 : ∀ q ∈ lw_privs_1, lw_okq q := List.forall_mem_cons.mpr ⟨lw_p0, List.forall_mem_cons.mpr ⟨lw_p1, List.forall_mem_cons.mpr ⟨lw_p2, List.forall_mem_cons.mpr ⟨lw_p3, List.forall_mem_cons.mpr ⟨lw_p4, List.forall_mem_cons.mpr ⟨lw_p5, List.forall_mem_cons.mpr ⟨lw_p6, List.forall_mem_cons.mpr ⟨lw_p7, List.forall_mem_cons.mpr ⟨lw_p8, List.forall_mem_cons.mpr ⟨lw_p9, List.forall_mem_cons.mpr ⟨lw_p10, List.forall_mem_cons.mpr ⟨lw_p11, List.forall_mem_cons.mpr ⟨lw_p12, List.forall_mem_cons.mpr ⟨lw_p13, List.forall_mem_cons.mpr ⟨lw_p14, List.forall_mem_cons.mpr ⟨lw_p15, fun _ h => absurd h List.not_mem_nil⟩⟩⟩⟩⟩⟩⟩⟩⟩⟩⟩⟩⟩⟩⟩⟩
theorem lw_p16 : lw_okq (⟨"Leaguewheel", "hitRanks", "(III)I"⟩, 10) := ⟨⟨by decide +kernel, by decide +kernel⟩, List.mem_of_getElem? (i := 16) (by decide +kernel), List.mem_of_getElem? (i := 651) (by decide +kernel), List.mem_of_getElem? (i := 652) (by decide +kernel)⟩
theorem lw_p17 : lw_okq (⟨"Leaguewheel$Cup", "countWorse", "(II)I"⟩, 4) := ⟨⟨by decide +kernel, by decide +kernel⟩, List.mem_of_getElem? (i := 124) (by decide +kernel), List.mem_of_getElem? (i := 729) (by decide +kernel), List.mem_of_getElem? (i := 730) (by decide +kernel)⟩
theorem lw_p18 : lw_okq (⟨"Leaguewheel$Cup", "standsBefore", "(II)Z"⟩, 4) := ⟨⟨by decide +kernel, by decide +kernel⟩, List.mem_of_getElem? (i := 124) (by decide +kernel), List.mem_of_getElem? (i := 751) (by decide +kernel), List.mem_of_getElem? (i := 752) (by decide +kernel)⟩
theorem lw_p19 : lw_okq (⟨"Leaguewheel$Cup", "timesAt", "(II)I"⟩, 4) := ⟨⟨by decide +kernel, by decide +kernel⟩, List.mem_of_getElem? (i := 124) (by decide +kernel), List.mem_of_getElem? (i := 756) (by decide +kernel), List.mem_of_getElem? (i := 757) (by decide +kernel)⟩
theorem lw_p20 : lw_okq (⟨"LeaguewheelModel", "fails", "(I)Z"⟩, 26) := ⟨⟨by decide +kernel, by decide +kernel⟩, List.mem_of_getElem? (i := 773) (by decide +kernel), List.mem_of_getElem? (i := 866) (by decide +kernel), List.mem_of_getElem? (i := 867) (by decide +kernel)⟩
theorem lw_p21 : lw_okq (⟨"LeaguewheelModel", "isGate", "(I)Z"⟩, 26) := ⟨⟨by decide +kernel, by decide +kernel⟩, List.mem_of_getElem? (i := 773) (by decide +kernel), List.mem_of_getElem? (i := 874) (by decide +kernel), List.mem_of_getElem? (i := 875) (by decide +kernel)⟩
theorem lw_p22 : lw_okq (⟨"LeaguewheelModel", "tells", "(I)I"⟩, 26) := ⟨⟨by decide +kernel, by decide +kernel⟩, List.mem_of_getElem? (i := 773) (by decide +kernel), List.mem_of_getElem? (i := 889) (by decide +kernel), List.mem_of_getElem? (i := 890) (by decide +kernel)⟩
theorem lw_p23 : lw_okq (⟨"LeaguewheelModel", "finds", "()V"⟩, 26) := ⟨⟨by decide +kernel, by decide +kernel⟩, List.mem_of_getElem? (i := 773) (by decide +kernel), List.mem_of_getElem? (i := 901) (by decide +kernel), List.mem_of_getElem? (i := 902) (by decide +kernel)⟩
theorem lw_p24 : lw_okq (⟨"LeaguewheelModel", "isTrack", "()Z"⟩, 26) := ⟨⟨by decide +kernel, by decide +kernel⟩, List.mem_of_getElem? (i := 773) (by decide +kernel), List.mem_of_getElem? (i := 909) (by decide +kernel), List.mem_of_getElem? (i := 910) (by decide +kernel)⟩
theorem lw_p25 : lw_okq (⟨"LeaguewheelModel", "isKart", "(I)Z"⟩, 26) := ⟨⟨by decide +kernel, by decide +kernel⟩, List.mem_of_getElem? (i := 773) (by decide +kernel), List.mem_of_getElem? (i := 921) (by decide +kernel), List.mem_of_getElem? (i := 922) (by decide +kernel)⟩
theorem lw_p26 : lw_okq (⟨"LeaguewheelModel", "crosses", "(I)I"⟩, 26) := ⟨⟨by decide +kernel, by decide +kernel⟩, List.mem_of_getElem? (i := 773) (by decide +kernel), List.mem_of_getElem? (i := 925) (by decide +kernel), List.mem_of_getElem? (i := 926) (by decide +kernel)⟩
theorem lw_p27 : lw_okq (⟨"LeaguewheelModel", "of", "([II)I"⟩, 26) := ⟨⟨by decide +kernel, by decide +kernel⟩, List.mem_of_getElem? (i := 773) (by decide +kernel), List.mem_of_getElem? (i := 937) (by decide +kernel), List.mem_of_getElem? (i := 938) (by decide +kernel)⟩
theorem lw_p28 : lw_okq (⟨"LeaguewheelModel", "ranked", "(I)I"⟩, 26) := ⟨⟨by decide +kernel, by decide +kernel⟩, List.mem_of_getElem? (i := 773) (by decide +kernel), List.mem_of_getElem? (i := 953) (by decide +kernel), List.mem_of_getElem? (i := 954) (by decide +kernel)⟩
theorem lw_p29 : lw_okq (⟨"LeaguewheelModel", "isAhead", "(II)Z"⟩, 26) := ⟨⟨by decide +kernel, by decide +kernel⟩, List.mem_of_getElem? (i := 773) (by decide +kernel), List.mem_of_getElem? (i := 957) (by decide +kernel), List.mem_of_getElem? (i := 958) (by decide +kernel)⟩
theorem lw_p30 : lw_okq (⟨"LeaguewheelModel", "atRank", "(I)I"⟩, 26) := ⟨⟨by decide +kernel, by decide +kernel⟩, List.mem_of_getElem? (i := 773) (by decide +kernel), List.mem_of_getElem? (i := 969) (by decide +kernel), List.mem_of_getElem? (i := 970) (by decide +kernel)⟩
theorem lw_p31 : lw_okq (⟨"LeaguewheelModel", "done", "(I)I"⟩, 26) := ⟨⟨by decide +kernel, by decide +kernel⟩, List.mem_of_getElem? (i := 773) (by decide +kernel), List.mem_of_getElem? (i := 973) (by decide +kernel), List.mem_of_getElem? (i := 974) (by decide +kernel)⟩
def lw_privs_2 : List (MethodName × Nat) := [(⟨"Leaguewheel", "hitRanks", "(III)I"⟩, 10), (⟨"Leaguewheel$Cup", "countWorse", "(II)I"⟩, 4), (⟨"Leaguewheel$Cup", "standsBefore", "(II)Z"⟩, 4), (⟨"Leaguewheel$Cup", "timesAt", "(II)I"⟩, 4), (⟨"LeaguewheelModel", "fails", "(I)Z"⟩, 26), (⟨"LeaguewheelModel", "isGate", "(I)Z"⟩, 26), (⟨"LeaguewheelModel", "tells", "(I)I"⟩, 26), (⟨"LeaguewheelModel", "finds", "()V"⟩, 26), (⟨"LeaguewheelModel", "isTrack", "()Z"⟩, 26), (⟨"LeaguewheelModel", "isKart", "(I)Z"⟩, 26), (⟨"LeaguewheelModel", "crosses", "(I)I"⟩, 26), (⟨"LeaguewheelModel", "of", "([II)I"⟩, 26), (⟨"LeaguewheelModel", "ranked", "(I)I"⟩, 26), (⟨"LeaguewheelModel", "isAhead", "(II)Z"⟩, 26), (⟨"LeaguewheelModel", "atRank", "(I)I"⟩, 26), (⟨"LeaguewheelModel", "done", "(I)I"⟩, 26)]
theorem lw_r2 : ∀ q ∈ lw_privs_2, lw_okq q := List.forall_mem_cons.mpr ⟨lw_p16, List.forall_mem_cons.mpr ⟨lw_p17, List.forall_mem_cons.mpr ⟨lw_p18, List.forall_mem_cons.mpr ⟨lw_p19, List.forall_mem_cons.mpr ⟨lw_p20, List.forall_mem_cons.mpr ⟨lw_p21, List.forall_mem_cons.mpr ⟨lw_p22, List.forall_mem_cons.mpr ⟨lw_p23, List.forall_mem_cons.mpr ⟨lw_p24, List.forall_mem_cons.mpr ⟨lw_p25, List.forall_mem_cons.mpr ⟨lw_p26, List.forall_mem_cons.mpr ⟨lw_p27, List.forall_mem_cons.mpr ⟨lw_p28, List.forall_mem_cons.mpr ⟨lw_p29, List.forall_mem_cons.mpr ⟨lw_p30, List.forall_mem_cons.mpr ⟨lw_p31, fun _ h => absurd h List.not_mem_nil⟩⟩⟩⟩⟩⟩⟩⟩⟩⟩⟩⟩⟩⟩⟩⟩
theorem lw_p32 : lw_okq (⟨"LeaguewheelModel", "hits", "(II)I"⟩, 26) := ⟨⟨by decide +kernel, by decide +kernel⟩, List.mem_of_getElem? (i := 773) (by decide +kernel), List.mem_of_getElem? (i := 993) (by decide +kernel), List.mem_of_getElem? (i := 994) (by decide +kernel)⟩
theorem lw_p33 : lw_okq (⟨"LeaguewheelModel", "sum", "(I)I"⟩, 26) := ⟨⟨by decide +kernel, by decide +kernel⟩, List.mem_of_getElem? (i := 773) (by decide +kernel), List.mem_of_getElem? (i := 1028) (by decide +kernel), List.mem_of_getElem? (i := 1029) (by decide +kernel)⟩
theorem lw_p34 : lw_okq (⟨"LeaguewheelModel", "stand", "(I)I"⟩, 26) := ⟨⟨by decide +kernel, by decide +kernel⟩, List.mem_of_getElem? (i := 773) (by decide +kernel), List.mem_of_getElem? (i := 1040) (by decide +kernel), List.mem_of_getElem? (i := 1041) (by decide +kernel)⟩
theorem lw_p35 : lw_okq (⟨"LeaguewheelModel", "stands", "(II)Z"⟩, 26) := ⟨⟨by decide +kernel, by decide +kernel⟩, List.mem_of_getElem? (i := 773) (by decide +kernel), List.mem_of_getElem? (i := 1044) (by decide +kernel), List.mem_of_getElem? (i := 1045) (by decide +kernel)⟩
theorem lw_p36 : lw_okq (⟨"LeaguewheelModel", "times", "(II)I"⟩, 26) := ⟨⟨by decide +kernel, by decide +kernel⟩, List.mem_of_getElem? (i := 773) (by decide +kernel), List.mem_of_getElem? (i := 1048) (by decide +kernel), List.mem_of_getElem? (i := 1049) (by decide +kernel)⟩
def lw_privs_3 : List (MethodName × Nat) := [(⟨"LeaguewheelModel", "hits", "(II)I"⟩, 26), (⟨"LeaguewheelModel", "sum", "(I)I"⟩, 26), (⟨"LeaguewheelModel", "stand", "(I)I"⟩, 26), (⟨"LeaguewheelModel", "stands", "(II)Z"⟩, 26), (⟨"LeaguewheelModel", "times", "(II)I"⟩, 26)]
theorem lw_r3 : ∀ q ∈ lw_privs_3, lw_okq q := List.forall_mem_cons.mpr ⟨lw_p32, List.forall_mem_cons.mpr ⟨lw_p33, List.forall_mem_cons.mpr ⟨lw_p34, List.forall_mem_cons.mpr ⟨lw_p35, List.forall_mem_cons.mpr ⟨lw_p36, fun _ h => absurd h List.not_mem_nil⟩⟩⟩⟩⟩
def lw_privs : List (MethodName × Nat) := lw_privs_1 ++ (lw_privs_2 ++ (lw_privs_3))
def lw_tbl : List Cond := k2_sels lw_privs ++ tables_1
theorem lw_privs_ok : ∀ q ∈ lw_privs, lw_okq q := by
  show ∀ q ∈ lw_privs_1 ++ (lw_privs_2 ++ (lw_privs_3)), lw_okq q
  exact List.forall_mem_append.mpr ⟨lw_r1, List.forall_mem_append.mpr ⟨lw_r2, lw_r3⟩⟩
end
section
/-! ===== BEGIN words of one list among another's, by their places ===== -/
theorem goodIn_r {big : List Cond} (ws : List Cond) (ps : List Nat) (hp : ws = ps.filterMap (fun i => big[i]?)) (h : ws.all goodWord = true) : GoodIn big ws := by
  intro w hw
  have h1 := List.all_eq_true.mp h w hw
  rw [hp] at hw
  obtain ⟨i, -, hi⟩ := List.mem_filterMap.mp hw
  have hm : w ∈ big := by first | exact List.mem_of_getElem? hi | exact List.getElem?_mem hi
  exact ⟨hm, good_of_word h1⟩
theorem goodIn_app {big a b : List Cond} (ha : GoodIn big a) (hb : GoodIn big b) : GoodIn big (a ++ b) := fun w h => (List.mem_append.mp h).elim (ha w) (hb w)
theorem goodIn_ca {big a b : List Cond} {c : Cond} (ha : GoodIn big (c :: a)) (hb : GoodIn big b) : GoodIn big (c :: (a ++ b)) := fun w h => (List.mem_cons.mp h).elim (fun e => ha w (List.mem_cons.mpr (Or.inl e))) (fun h => (List.mem_append.mp h).elim (fun h => ha w (List.mem_cons.mpr (Or.inr h))) (hb w))
theorem goodIn_sub {big ws : List Cond} (hm : ∀ w ∈ ws, w ∈ big) (h : ws.all goodWord = true) : GoodIn big ws := fun w hw => ⟨hm w hw, good_of_word (List.all_eq_true.mp h w hw)⟩
/-! ===== END ===== -/

/-! ===== BEGIN exceptions that leave a method, and their catching by the caller (launches without stack traces) ===== -/
section VXA
/-! The laws vx_back, vx_callV, vx_callS, vx_callSW, vx_throw0, vx_throwS follow proofs of the library, with one case more: JvmDerived/Free/Laws.lean (Back.of_free), Shelf42/LK1.lean (callV, callS), Shelf/KitTraced.lean (throwNew0V, throwNewS). -/
/-- where a method has thrown q: the class by its name, the cell, what was written, the world -/
def vx_T (XC : String → State → State → Prop) (st : State) (q : Addr) (t : State) (mc ms : Nat) (free : Addr → Prop) : Prop :=
  ∃ (E : String) (ce : Cell) (L : List Loc), XC E st t ∧ t.heap[q]? = some ce ∧ ce.vm = .none ∧ st.vm.findClass E = some ce.cls ∧ st.WarmedH t.vm ∧ st.sameButNew ({ t with vm := st.vm } : State) L mc ms ∧ ∀ z ∈ L, free z.base
def vx_Q (Qc : Array Value → State → Outcome → State → Prop) (XC : String → State → State → Prop) (mc ms : Nat) (free : Addr → Prop) : Array Value → State → Outcome → State → Prop := fun a st o t =>
  (Qc a st o t ∧ ∃ L, FrameEnd st o t L mc ms ∧ ∀ q ∈ L, free q.base) ∨ ∃ q, o = .threw q ∧ vx_T XC st q t mc ms free
/-- a callee that returns or throws -/
def vx_Met (l : Launch) (y : MethodName) (ws : List Cond) (rm : Room) (Pc : Array Value → State → Prop) (Qc : Array Value → State → Outcome → State → Prop) (XC : String → State → State → Prop) (mc ms : Nat) (free : Addr → Prop) : Prop :=
  MetFree l y (headSpec ws rm) Pc (fun _ _ _ _ _ => True) (vx_Q Qc XC mc ms free)
def vx_Post (XC : String → State → State → Prop) (mc ms : Nat) (free : Addr → Prop) : Pt → Array Value → Addr → Pt → Prop := fun A a q B =>
  ∃ (g : JFrame) (mk : MethodId) (t : State) (L : List Loc) (E : String) (ce : Cell), B.U.heap = t.heap ∧ B.U.vm = t.vm ∧ XC E (A.U.calling g mk a) t ∧ t.heap[q]? = some ce ∧ ce.vm = .none ∧ A.U.vm.findClass E = some ce.cls ∧ B.locs = A.locs ++ L ∧ (∀ z ∈ L, free z.base) ∧ B.cells = A.cells + mc ∧ B.slots = A.slots + ms
def vx_Back (l : Launch) (R : Room) (p : Program) (e : Env) (below : List Frame) (s : State) (sargs : Array Value) (y : MethodName) (len W9 : Nat)
    (Pre : Pt → Array Value → Prop) (Post : Pt → Array Value → Option Value → Pt → Prop) (PostX : Pt → Array Value → Addr → Pt → Prop) : Prop :=
  ∀ (m : MethodId) (meth : Method) (c : Code) (A : Pt) (g : JFrame) (ig : Instr) (mk : MethodId) (a : Array Value),
    Stand p l e R s m sargs below meth c A.U A.locs A.cells A.slots → g.method = m → g.locals.size = c.maxLocals → decode c.code g.pc = .ok (ig, len) →
    2 * g.monitorRoom + (g.stack.map fun v => v.category).sum ≤ W9 → A.U.methodNamed? y = some mk → Pre A a →
    (∃ (v : Option Value) (B : Pt), Stand p l e R s m sargs below meth c B.U B.locs B.cells B.slots ∧ Post A a v B ∧
      Steps p.tables e below (doInvoke e (A.U.setTop g) [] mk a).1 (B.U.setTop { g with pc := g.pc + len, stack := v.toList ++ g.stack })) ∨
    (∃ (q : Addr) (B : Pt), Stand p l e R s m sargs below meth c B.U B.locs B.cells B.slots ∧ PostX A a q B ∧
      Steps p.tables e below (doInvoke e (A.U.setTop g) [] mk a).1 ((B.U.setTop g).pushFrame (.throwing q)))
section Payer
variable {l : Launch} {R : Room} {p : Program} {e : Env} {below : List Frame} {s : State} {sargs : Array Value} {y : MethodName} {len W9 : Nat}
theorem vx_back {ws : List Cond} {rm : Room} {Pc : Array Value → State → Prop} {Qc : Array Value → State → Outcome → State → Prop} {XC : String → State → State → Prop} {mc ms : Nat} {free : Addr → Prop} {bytes : ByteArray} {maxL : Nat} {ret : Option FieldType}
    (hM : vx_Met l y ws rm Pc Qc XC mc ms free) (hblind : FrameBlind Pc) (hrc : rm.cells = mc) (hrs : rm.slots = ms)
    (hframes : rm.frames + 1 ≤ R.frames) (hlocals : W9 + (maxL + 11) + rm.locals ≤ R.locals)
    (hws : ∀ w ∈ ws, ∀ a' U, s.WarmedH U.vm → w.before a' U = true) (hcode : Cond.code y bytes maxL ret ∈ ws) (hinit : ∀ a' U, s.WarmedH U.vm → (Cond.initialized y.cls).before a' U = true) :
    vx_Back l R p e below s sargs y len W9 (PreOf R mc ms Pc) (PostOf Qc mc ms free) (vx_Post XC mc ms free) := by
  intro m meth c A g ig mk a X hg hsize hdg hW hn hp
  have h1 : (headSpec ws rm).pre.before a A.U = true := atoms_intro fun w hw => hws w hw _ _ X.warmed
  have h2 : (Cond.code y bytes maxL ret).before a A.U = true := hws _ hcode _ _ X.warmed
  have h3 : (Cond.initialized y.cls).before a A.U = true := hinit _ _ X.warmed
  have h4 : A.cells + (headSpec ws rm).room.cells ≤ R.cells := by rw [show (headSpec ws rm).room.cells = mc from hrc]; exact hp.1
  have h5 : A.slots + (headSpec ws rm).room.slots ≤ R.slots := by rw [show (headSpec ws rm).room.slots = ms from hrs]; exact hp.2.1
  have hPc : Pc a (A.U.calling g mk a) := hblind _ _ _ _ hp.2.2
  obtain ⟨U, Ls, c0, s0⟩ := A
  dsimp only [Pt.U, Pt.locs, Pt.cells, Pt.slots] at h1 h2 h3 h4 h5 X hn hPc ⊢
  obtain ⟨methY, cY, hmY, hcY, -, hlY, -, -, -, -⟩ := Cond.code_spec hn h2
  obtain ⟨kY, hkY, -⟩ := className_of_methodNamed hn
  have hinitY : kY.init = .initialized := Cond.initialized_spec (findClass_of_methodNamed hn) hkY h3
  have h : At U g.method c below := by rw [hg]; exact X.here
  have hlocals9 : W9 + (maxL + 11) + (headSpec ws rm).room.locals ≤ R.locals := hlocals
  have happ : (headSpec ws rm).appliesLoose y e.platform (U.calling g mk a) = true :=
    Spec.appliesLoose_calling (g := g) h hdg hn hkY hinitY
      (X.room_calling (g := g) (R' := (headSpec ws rm).room) hsize hmY hcY hframes (by rw [hlY]; omega) h4 h5) h1
  obtain ⟨mid, hmid⟩ := h.above
  have hfr : (U.setTop g).frames = (.java g :: mid) ++ below := by rw [State.frames_setTop' g h.top, hmid]; rfl
  obtain ⟨o, s₂, hsteps, -, hend, hq⟩ := Steps.callFree hM p X.admits X.cas X.clock (acts := []) hfr happ hPc trivial
  have hq' : vx_Q Qc XC mc ms free a (U.calling g mk a) o s₂ := hq
  rw [State.frames_setTop' g h.top] at hend
  obtain ⟨g₀, hg0⟩ := Option.isSome_iff_exists.mp h.top
  obtain ⟨r, hr⟩ := State.topJava?_eq_some.mp hg0
  have hr' : (({ U with heap := s₂.heap, slotsUsed := s₂.slotsUsed } : State).setVm s₂.vm).frames = .java g₀ :: r := hr
  rcases hq' with ⟨hqc, L, hfe, hL⟩ | ⟨q, rfl, E, ce, L, hx, hce, hcv, hcl, hW₂, hsm, hL⟩
  · obtain ⟨⟨v, rfl⟩, hW₂, e2, q2, q3, q4, q5, q6⟩ := id hfe
    have e3 : s₂ = ({ (U.calling g mk a).setFrames s₂.frames with heap := s₂.heap, slotsUsed := s₂.slotsUsed } : State).setVm s₂.vm := by
      have : s₂ = ({ s₂ with vm := (U.calling g mk a).vm } : State).setVm s₂.vm := rfl
      rw [e2] at this
      exact this
    obtain ⟨c₂, i₂, len₂, hc₂, hd₂, hf₂⟩ := hend
    have hW' : U.WarmedH s₂.vm := hW₂
    have hcc : c₂ = c := by
      have h1 : s₂.code? g.method = U.code? g.method := by
        rw [State.code?_eq, State.code?_eq, hW'.alike.method?]
      exact Option.some.inj (hc₂.symm.trans (h1.trans h.code))
    subst hcc
    have hlen : len₂ = len := by rw [hdg] at hd₂; cases hd₂; rfl
    subst hlen
    have hs₂ : s₂ = (({ U with heap := s₂.heap, slotsUsed := s₂.slotsUsed } : State).setVm s₂.vm).setTop { g with pc := g.pc + len₂, stack := v.toList ++ g.stack } := by
      refine e3.trans ?_
      rw [hf₂, State.calling_eq h.top, State.setFrames_setFrames, State.setTop_of_frames _ hr', hr]
      rfl
    have hsame : U.sameButNew ({ U with heap := s₂.heap, slotsUsed := s₂.slotsUsed } : State) L mc ms := by
      refine ⟨?_, q2, q3, q4, q5, q6⟩
      obtain ⟨t, ht, -⟩ := State.frames_cons hr
      show ({ U with heap := s₂.heap, slotsUsed := s₂.slotsUsed } : State) = { U.setFrames U.frames with heap := s₂.heap, slotsUsed := s₂.slotsUsed }
      rw [State.setFrames_self ht]
    subst hg
    refine Or.inl ⟨v, ⟨(({ U with heap := s₂.heap, slotsUsed := s₂.slotsUsed } : State).setVm s₂.vm), Ls ++ L, c0 + mc, s0 + ms⟩,
      ⟨X.admits, X.cas, X.clock, X.frames, X.room, X.hears, X.method, X.code, (X.here.setHeapUsed s₂.heap s₂.slotsUsed).setVm hW'.alike, X.tail, State.WarmedH.trans X.warmed hW', X.limits, X.bytes, X.same.trans (hsame.setVm s.vm)⟩,
      ⟨g, mk, s₂, L, rfl, rfl, hqc, rfl, hL, rfl, rfl⟩, ?_⟩
    show Steps p.tables e below _ ((({ U with heap := s₂.heap, slotsUsed := s₂.slotsUsed } : State).setVm s₂.vm).setTop { g with pc := g.pc + len₂, stack := v.toList ++ g.stack })
    rw [← hs₂]
    exact hsteps
  · obtain ⟨e2, q2, q3, q4, q5, q6⟩ := id hsm
    have e3 : s₂ = ({ (U.calling g mk a).setFrames s₂.frames with heap := s₂.heap, slotsUsed := s₂.slotsUsed } : State).setVm s₂.vm := by
      have : s₂ = ({ s₂ with vm := (U.calling g mk a).vm } : State).setVm s₂.vm := rfl
      rw [e2] at this
      exact this
    have hf₂ : s₂.frames = .throwing q :: .java g :: U.frames.tail := hend
    have hW' : U.WarmedH s₂.vm := hW₂
    have hs₂ : s₂ = ((({ U with heap := s₂.heap, slotsUsed := s₂.slotsUsed } : State).setVm s₂.vm).setTop g).pushFrame (.throwing q) := by
      refine e3.trans ?_
      rw [hf₂, State.calling_eq h.top, State.setFrames_setFrames, State.pushFrame, State.frames_setTop _ hr', State.setTop_of_frames _ hr', State.setFrames_setFrames, hr]
      rfl
    have hsame : U.sameButNew ({ U with heap := s₂.heap, slotsUsed := s₂.slotsUsed } : State) L mc ms := by
      refine ⟨?_, q2, q3, q4, q5, q6⟩
      obtain ⟨t, ht, -⟩ := State.frames_cons hr
      show ({ U with heap := s₂.heap, slotsUsed := s₂.slotsUsed } : State) = { U.setFrames U.frames with heap := s₂.heap, slotsUsed := s₂.slotsUsed }
      rw [State.setFrames_self ht]
    subst hg
    refine Or.inr ⟨q, ⟨(({ U with heap := s₂.heap, slotsUsed := s₂.slotsUsed } : State).setVm s₂.vm), Ls ++ L, c0 + mc, s0 + ms⟩,
      ⟨X.admits, X.cas, X.clock, X.frames, X.room, X.hears, X.method, X.code, (X.here.setHeapUsed s₂.heap s₂.slotsUsed).setVm hW'.alike, X.tail, State.WarmedH.trans X.warmed hW', X.limits, X.bytes, X.same.trans (hsame.setVm s.vm)⟩,
      ⟨g, mk, s₂, L, E, ce, rfl, rfl, hx, hce, hcv, hcl, rfl, hL, rfl, rfl⟩, ?_⟩
    show Steps p.tables e below _ (((({ U with heap := s₂.heap, slotsUsed := s₂.slotsUsed } : State).setVm s₂.vm).setTop g).pushFrame (.throwing q))
    rw [← hs₂]
    exact hsteps
end Payer
section Calls
variable {p : Program} {l : Launch} {e : Env} {R : Room} {s : State} {m : MethodId} {args : Array Value} {below : List Frame} {meth : Method} {c : Code} {T : State} {locs : List Loc} {cells slots : Nat}
theorem vx_callV (X : Stand p l e R s m args below meth c T locs cells slots) (hexec : p.tables.exec = Jvm.exec) {own C : String} {index : Nat} {y : MethodName} {bytes : ByteArray} {maxL : Nat} {ret : Option FieldType}
    (hown : s.vm.findClass own = some m.cls) (hlink : (Cond.methodLink own index y).before args s = true) (hinst : (Cond.instanceMethod y).before args s = true) (hsel : (Cond.selects C y y).before args s = true)
    (hcode : (Cond.code y bytes maxL ret).before args s = true) (hy : y.cls ≠ "java/lang/invoke/MethodHandle" ∧ y.cls ≠ "java/lang/invoke/VarHandle")
    {W9 : Nat} {Pre : Pt → Array Value → Prop} {Post : Pt → Array Value → Option Value → Pt → Prop} {PostX : Pt → Array Value → Addr → Pt → Prop} (hK : vx_Back l R p e below s args y 3 W9 Pre Post PostX)
    {b : Addr} {cellB : Cell} (hcell : T.heap[b]? = some cellB) (hobj : cellB.vm.isStatics = false) (hcls : s.vm.findClass C = some cellB.cls)
    {g : JFrame} (hg : g.method = m) (hsize : g.locals.size = c.maxLocals) {argsL rest : List Value} (hlen : ∀ sig, parseMethodDescriptor y.desc = some sig → argsL.length = sig.parameters.length)
    (hstack : g.stack = argsL.reverse ++ .ref b :: rest) (hW : 2 * g.monitorRoom + (rest.map fun v => v.category).sum ≤ W9) (hdg : decode c.code g.pc = .ok (.invokevirtual index, 3))
    (hpre : ∀ vm₁, s.WarmedH vm₁ → Pre ⟨T.setVm vm₁, locs, cells, slots⟩ (Value.ref b :: argsL).toArray) :
    (∃ (v : Option Value) (vm₁ : Vm) (B : Pt), s.WarmedH vm₁ ∧ Stand p l e R s m args below meth c B.U B.locs B.cells B.slots ∧ Post ⟨T.setVm vm₁, locs, cells, slots⟩ (Value.ref b :: argsL).toArray v B ∧
      ∀ target, Steps p.tables e below (B.U.setTop { g with pc := g.pc + 3, stack := v.toList ++ rest }) target → Steps p.tables e below (T.setTop g) target) ∨
    (∃ (q : Addr) (vm₁ : Vm) (B : Pt), s.WarmedH vm₁ ∧ Stand p l e R s m args below meth c B.U B.locs B.cells B.slots ∧ PostX ⟨T.setVm vm₁, locs, cells, slots⟩ (Value.ref b :: argsL).toArray q B ∧
      Steps p.tables e below (T.setTop g) ((B.U.setTop { g with stack := rest }).pushFrame (.throwing q))) := by
  obtain ⟨mk, methM, hnamed, hmethM, hstM, habM⟩ := Cond.instanceMethod_spec hinst
  obtain ⟨methM', cM, hmethM', -, -, -, -, -, -, hsigM⟩ := Cond.code_spec hnamed hcode
  cases hmethM.symm.trans hmethM'
  obtain ⟨c2, r2, m2, q1, q2, q3, q4, kP, hkP, hkPi⟩ := Cond.selects_spec hsel
  cases hcls.symm.trans q1
  cases (State.methodFound?_of_named hnamed hy).symm.trans q2
  cases hnamed.symm.trans q3
  have hselP : selectMethod e.platform s.vm cellB.cls mk = .method mk := by rw [Launch.admits_selectMethod X.admits]; exact q4
  obtain ⟨vm₁, X₁, hstep₁⟩ := X.invokevirtual hexec hown hlink hnamed hmethM hstM hkP hkPi hy (a := b) (cell := cellB) hcell
    (fun z h => by rw [h] at hobj; cases hobj) hselP hmethM habM hkP hkPi (g := g) hg (argsL := argsL) (rest := rest) (hlen _ hsigM) hstack hdg
  rcases hK m meth c ⟨T.setVm vm₁, locs, cells, slots⟩ { g with stack := rest } (.invokevirtual index) mk (Value.ref b :: argsL).toArray X₁ hg hsize hdg hW (X₁.named hnamed) (hpre vm₁ X₁.warmed) with ⟨v, B, X', hpost, hsteps⟩ | ⟨q, B, X', hpost, hsteps⟩
  · exact Or.inl ⟨v, vm₁, B, X₁.warmed, X', hpost, fun target h => hstep₁ _ fun acts => by rw [doInvoke_state]; exact hsteps.trans h⟩
  · exact Or.inr ⟨q, vm₁, B, X₁.warmed, X', hpost, hstep₁ _ fun acts => by rw [doInvoke_state]; exact hsteps⟩
theorem vx_callS (X : Stand p l e R s m args below meth c T locs cells slots) (hexec : p.tables.exec = Jvm.exec) {own : String} {index : Nat} {y : MethodName} {bytes : ByteArray} {maxL : Nat} {ret : Option FieldType}
    (hown : s.vm.findClass own = some m.cls) (hlink : (Cond.methodLink own index y).before args s = true) (hstat : (Cond.static y).before args s = true) (hinit : (Cond.initialized y.cls).before args s = true)
    (hcode : (Cond.code y bytes maxL ret).before args s = true) (hy : y.cls ≠ "java/lang/invoke/MethodHandle" ∧ y.cls ≠ "java/lang/invoke/VarHandle")
    {W9 : Nat} {Pre : Pt → Array Value → Prop} {Post : Pt → Array Value → Option Value → Pt → Prop} {PostX : Pt → Array Value → Addr → Pt → Prop} (hK : vx_Back l R p e below s args y 3 W9 Pre Post PostX)
    {g : JFrame} (hg : g.method = m) (hsize : g.locals.size = c.maxLocals) {argsL rest : List Value} (hlen : ∀ sig, parseMethodDescriptor y.desc = some sig → argsL.length = sig.parameters.length)
    (hstack : g.stack = argsL.reverse ++ rest) (hW : 2 * g.monitorRoom + (rest.map fun v => v.category).sum ≤ W9) (hdg : decode c.code g.pc = .ok (.invokestatic index, 3))
    (hpre : ∀ vm₁, s.WarmedH vm₁ → Pre ⟨T.setVm vm₁, locs, cells, slots⟩ argsL.toArray) :
    (∃ (v : Option Value) (vm₁ : Vm) (B : Pt), s.WarmedH vm₁ ∧ Stand p l e R s m args below meth c B.U B.locs B.cells B.slots ∧ Post ⟨T.setVm vm₁, locs, cells, slots⟩ argsL.toArray v B ∧
      ∀ target, Steps p.tables e below (B.U.setTop { g with pc := g.pc + 3, stack := v.toList ++ rest }) target → Steps p.tables e below (T.setTop g) target) ∨
    (∃ (q : Addr) (vm₁ : Vm) (B : Pt), s.WarmedH vm₁ ∧ Stand p l e R s m args below meth c B.U B.locs B.cells B.slots ∧ PostX ⟨T.setVm vm₁, locs, cells, slots⟩ argsL.toArray q B ∧
      Steps p.tables e below (T.setTop g) ((B.U.setTop { g with stack := rest }).pushFrame (.throwing q))) := by
  obtain ⟨mk, hnamed⟩ := Cond.code_named hcode
  obtain ⟨methM, cM, hmethM, -, -, -, -, -, -, hsigM⟩ := Cond.code_spec hnamed hcode
  have hstatic : methM.isStatic = true := Cond.static_spec hnamed hmethM hstat
  obtain ⟨kP, hkP, -⟩ := className_of_methodNamed hnamed
  have hinitP : kP.init = .initialized := Cond.initialized_spec (findClass_of_methodNamed hnamed) hkP hinit
  obtain ⟨vm₁, X₁, hstep₁⟩ := X.invokestatic hexec hown hlink hnamed hmethM hstatic hkP hinitP hy (g := g) hg (argsL := argsL) (rest := rest) (hlen _ hsigM) hstack hdg
  rcases hK m meth c ⟨T.setVm vm₁, locs, cells, slots⟩ { g with stack := rest } (.invokestatic index) mk argsL.toArray X₁ hg hsize hdg hW (X₁.named hnamed) (hpre vm₁ X₁.warmed) with ⟨v, B, X', hpost, hsteps⟩ | ⟨q, B, X', hpost, hsteps⟩
  · exact Or.inl ⟨v, vm₁, B, X₁.warmed, X', hpost, fun target h => hstep₁ _ fun acts => by rw [doInvoke_state]; exact hsteps.trans h⟩
  · exact Or.inr ⟨q, vm₁, B, X₁.warmed, X', hpost, hstep₁ _ fun acts => by rw [doInvoke_state]; exact hsteps⟩
end Calls
theorem vx_cls {s : State} {T : State} {vm₁ : Vm} {E : String} {k : ClassId} (hW : s.WarmedH vm₁) (h : (T.setVm vm₁).vm.findClass E = some k) : s.vm.findClass E = some k := by
  have h1 : vm₁.findClass E = some k := h
  rw [hW.alike.findClass] at h1
  exact h1
/-- the method's frame g, with q thrown over it -/
def vx_W (p : Program) (l : Launch) (e : Env) (R : Room) (s : State) (m : MethodId) (args : Array Value) (below : List Frame) (meth : Method) (c : Code) (H : Heap) (locs : List Loc) (cells slots : Nat) (Q : State → Prop) (g : JFrame) (q : Addr) : Prop :=
  ∀ T : State, T.heap = H → Stand p l e R s m args below meth c T locs cells slots → ∃ t, Steps p.tables e below ((T.setTop g).pushFrame (.throwing q)) t ∧ Q t
def vx_Run (p : Program) (l : Launch) (e : Env) (R : Room) (s : State) (m : MethodId) (args : Array Value) (below : List Frame) (meth : Method) (c : Code) (H : Heap) (locs : List Loc) (cells slots mc ms : Nat) (g : JFrame) (rest : List Value) (Qa : State → Outcome → State → Prop) (XC : String → State → State → Prop) (free : Addr → Prop) : Prop :=
  ∀ T : State, T.heap = H → Stand p l e R s m args below meth c T locs cells slots →
    (∃ (v : Option Value) (st₀ t T' : State) (L : List Loc), st₀.heap = H ∧ Stand p l e R s m args below meth c T' (locs ++ L) (cells + mc) (slots + ms) ∧ (∀ q ∈ L, free q.base) ∧ T'.heap = t.heap ∧ T'.vm = t.vm ∧ Qa st₀ (.returned v) t ∧
      Goes p e below T g T' { g with pc := g.pc + 3, stack := v.toList ++ rest }) ∨
    (∃ (q : Addr) (st₀ t T' : State) (L : List Loc) (E : String) (ce : Cell), st₀.heap = H ∧ Stand p l e R s m args below meth c T' (locs ++ L) (cells + mc) (slots + ms) ∧ (∀ z ∈ L, free z.base) ∧ T'.heap = t.heap ∧ T'.vm = t.vm ∧ XC E st₀ t ∧ t.heap[q]? = some ce ∧ ce.vm = .none ∧ s.vm.findClass E = some ce.cls ∧
      Steps p.tables e below (T.setTop g) ((T'.setTop { g with stack := rest }).pushFrame (.throwing q)))
def vx_X {S : Type} (px : S → Prop) (B : String → S → State → Prop) (A : Nat → Prop) : String → State → State → Prop := fun E st t => ∃ u : S, px u ∧ B E u t ∧ va_F A st t
section Runs
variable {p : Program} {l : Launch} {e : Env} {R : Room} {s : State} {m : MethodId} {args : Array Value} {below : List Frame} {meth : Method} {c : Code} {H : Heap} {locs : List Loc} {cells slots : Nat}
variable {y : MethodName} {bytes cc : ByteArray} {maxL nL mc ms n index : Nat} {ret : Option FieldType} {ws : List Cond} {rm : Room} {Pc : Array Value → State → Prop} {Qc : Array Value → State → Outcome → State → Prop} {XC : String → State → State → Prop} {free : Addr → Prop} {Ts : List Cond} {own C : String} {b : Addr} {As rest : List Value} {g : JFrame}
theorem vx_callBack (cb : CallB R s args own index y bytes maxL ret ws rm mc ms n) (hM : vx_Met l y ws rm Pc Qc XC mc ms free) (hbl : FrameBlind Pc) : vx_Back l R p e below s args y 3 8 (PreOf R mc ms Pc) (PostOf Qc mc ms free) (vx_Post XC mc ms free) := by
  obtain ⟨hrc, hrs, hfr, hlo, hws, hcw, -, hini, -⟩ := cb
  exact vx_back (bytes := bytes) (maxL := maxL) (ret := ret) hM hbl hrc hrs hfr hlo hws hcw (fun a' U hW => word_at hW (Or.inl (by first | rfl | simp [Cond.onTables, Cond.keeps, Cond.steady])) hini)
theorem vx_runV (S : CallFix p m c cc nL s args Ts own) (hM : vx_Met l y ws rm Pc Qc XC mc ms free) (cw : CallW R s args own C index y bytes maxL ret ws rm mc ms n) (hp : PreV s H C b Pc As)
    (hg : g.method = m) (hn : As.length = n) (hsize : g.locals.size = nL) (hstack : g.stack = As.reverse ++ .ref b :: rest) (hW : 2 * g.monitorRoom + (rest.map fun v => v.category).sum ≤ 8) (hdg : decode cc g.pc = .ok (.invokevirtual index, 3)) (hf : cells + mc ≤ R.cells ∧ slots + ms ≤ R.slots) :
    vx_Run p l e R s m args below meth c H locs cells slots mc ms g rest (Qc (Value.ref b :: As).toArray) XC free := by
  have hK : vx_Back l R p e below s args y 3 8 (PreOf R mc ms Pc) (PostOf Qc mc ms free) (vx_Post XC mc ms free) := vx_callBack cw.1 hM hp.1
  obtain ⟨⟨-, -, -, -, -, -, hcode, -, hy, hlen, hl⟩, hin, hse⟩ := cw
  obtain ⟨hx, hb, hml, ho, -⟩ := S
  obtain ⟨-, ⟨cellB, hcB, hoB, hclB⟩, hPc⟩ := hp
  intro T hT X
  rcases vx_callV X hx (C := C) (bytes := bytes) (maxL := maxL) (ret := ret) ho hl hin hse hcode hy hK (by rw [hT]; exact hcB) hoB hclB hg (hsize.trans hml.symm) (argsL := As) (rest := rest) (fun sig h => hn.trans (hlen sig h)) hstack hW (by rw [hb]; exact hdg)
    (fun vm₁ hW₁ => ⟨hf.1, hf.2, hPc (T.setVm vm₁) hT hW₁⟩) with ⟨v, vm₁, ⟨U', l2, c2, s2⟩, hW₁, X', ⟨g', mk, t, L, e1, e2, hq, h1, hL, h2, h3⟩, st⟩ | ⟨q, vm₁, ⟨U', l2, c2, s2⟩, hW₁, X', ⟨g', mk, t, L, E, ce, e1, e2, hq, hce, hcv, hcl, h1, hL, h2, h3⟩, st⟩
  · dsimp only [Pt.U, Pt.locs, Pt.cells, Pt.slots] at X' e1 e2 h1 h2 h3 st
    subst h1; subst h2; subst h3
    exact Or.inl ⟨v, (T.setVm vm₁).calling g' mk (Value.ref b :: As).toArray, t, U', L, hT, X', hL, e1, e2, hq, st⟩
  · dsimp only [Pt.U, Pt.locs, Pt.cells, Pt.slots] at X' e1 e2 h1 h2 h3 st hcl
    subst h1; subst h2; subst h3
    exact Or.inr ⟨q, (T.setVm vm₁).calling g' mk (Value.ref b :: As).toArray, t, U', L, E, ce, hT, X', hL, e1, e2, hq, hce, hcv, vx_cls hW₁ hcl, st⟩
theorem vx_runS (S : CallFix p m c cc nL s args Ts own) (hM : vx_Met l y ws rm Pc Qc XC mc ms free) (cw : CallB R s args own index y bytes maxL ret ws rm mc ms n ∧ (Cond.static y).before args s = true) (hp : PreS s H Pc As)
    (hg : g.method = m) (hn : As.length = n) (hsize : g.locals.size = nL) (hstack : g.stack = As.reverse ++ rest) (hW : 2 * g.monitorRoom + (rest.map fun v => v.category).sum ≤ 8) (hdg : decode cc g.pc = .ok (.invokestatic index, 3)) (hf : cells + mc ≤ R.cells ∧ slots + ms ≤ R.slots) :
    vx_Run p l e R s m args below meth c H locs cells slots mc ms g rest (Qc As.toArray) XC free := by
  have hK : vx_Back l R p e below s args y 3 8 (PreOf R mc ms Pc) (PostOf Qc mc ms free) (vx_Post XC mc ms free) := vx_callBack cw.1 hM hp.1
  obtain ⟨⟨-, -, -, -, -, -, hcode, hini, hy, hlen, hl⟩, hstt⟩ := cw
  obtain ⟨hx, hb, hml, ho, -⟩ := S
  intro T hT X
  rcases vx_callS X hx (bytes := bytes) (maxL := maxL) (ret := ret) ho hl hstt hini hcode hy hK hg (hsize.trans hml.symm) (argsL := As) (rest := rest) (fun sig h => hn.trans (hlen sig h)) hstack hW (by rw [hb]; exact hdg)
    (fun vm₁ hW₁ => ⟨hf.1, hf.2, hp.2 (T.setVm vm₁) hT hW₁⟩) with ⟨v, vm₁, ⟨U', l2, c2, s2⟩, hW₁, X', ⟨g', mk, t, L, e1, e2, hq, h1, hL, h2, h3⟩, st⟩ | ⟨q, vm₁, ⟨U', l2, c2, s2⟩, hW₁, X', ⟨g', mk, t, L, E, ce, e1, e2, hq, hce, hcv, hcl, h1, hL, h2, h3⟩, st⟩
  · dsimp only [Pt.U, Pt.locs, Pt.cells, Pt.slots] at X' e1 e2 h1 h2 h3 st
    subst h1; subst h2; subst h3
    exact Or.inl ⟨v, (T.setVm vm₁).calling g' mk As.toArray, t, U', L, hT, X', hL, e1, e2, hq, st⟩
  · dsimp only [Pt.U, Pt.locs, Pt.cells, Pt.slots] at X' e1 e2 h1 h2 h3 st hcl
    subst h1; subst h2; subst h3
    exact Or.inr ⟨q, (T.setVm vm₁).calling g' mk As.toArray, t, U', L, E, ce, hT, X', hL, e1, e2, hq, hce, hcv, vx_cls hW₁ hcl, st⟩
end Runs
section Rows
variable {p : Program} {l : Launch} {e : Env} {R : Room} {s : State} {m : MethodId} {args : Array Value} {below : List Frame} {meth : Method} {c : Code} {H : Heap} {locs : List Loc} {cells slots : Nat} {Q : State → Prop}
variable {mc ms : Nat} {free : Addr → Prop} {A0 A1 : Nat → Prop} {H0 : Heap} {a : Array Value} {pc : Nat} {ls : Array Slot} {st0 rest : List Value}
theorem vx_keep {st₀ t T' : State} {L : List Loc} (h0 : st₀.heap = H) (e1 : T'.heap = t.heap) (hS : va_S A0 H0 H locs) (hA : ∀ q, q < H.size → A1 q → A0 q) (hf : ∀ q, free q → A0 q) (hL : ∀ q ∈ L, free q.base) (hF : va_F A1 st₀ t) :
    H.size ≤ T'.heap.size ∧ (∀ q : Nat, q < H.size → ¬ A1 q → T'.heap[q]? = H[q]?) ∧ va_S A0 H0 T'.heap (locs ++ L) := by
  obtain ⟨hz, hk⟩ := hF
  rw [h0] at hz hk
  exact ⟨by rw [e1]; exact hz, fun q h1 h2 => by rw [e1]; exact hk q h1 h2,
    ⟨Nat.le_trans hS.1 (by rw [e1]; exact hz), fun q h1 h2 => by rw [e1, hk q (Nat.lt_of_lt_of_le h1 hS.1) (fun z => h2 (hA q (Nat.lt_of_lt_of_le h1 hS.1) z))]; exact hS.2.1 q h1 h2, fun q hq => by
      rcases List.mem_append.mp hq with h | h
      · exact hS.2.2 q h
      · exact hf _ (hL q h)⟩⟩
theorem vx_calli {S SX : Type} {post : Int32 → S → Prop} {px : SX → Prop} {B : S → State → Prop} {BX : String → SX → State → Prop} {AX : Nat → Prop} (hr : vx_Run p l e R s m args below meth c H locs cells slots mc ms (F0 m pc ls st0) rest (va_Qi post B A1 a) (vx_X px BX AX) free) (hS : va_S A0 H0 H locs) (hA : ∀ q, q < H.size → A1 q → A0 q) (hf : ∀ q, free q → A0 q) (hAX : ∀ q, q < H.size → AX q → A0 q)
    (kx : ∀ (E : String) (ce : Cell) (q9 : Addr) (u : SX) (t : State) (H1 : Heap) (locs1 : List Loc), t.heap = H1 → s.vm.Alike t.vm → px u → BX E u t → H.size ≤ H1.size → (∀ q : Nat, q < H.size → ¬ AX q → H1[q]? = H[q]?) → va_S A0 H0 H1 locs1 → H1[q9]? = some ce → ce.vm = .none → s.vm.findClass E = some ce.cls → vx_W p l e R s m args below meth c H1 locs1 (cells + mc) (slots + ms) Q (F0 m pc ls rest) q9)
    (kk : ∀ (r : Int32) (u : S) (t : State) (H1 : Heap) (locs1 : List Loc), t.heap = H1 → s.vm.Alike t.vm → post r u → B u t → H.size ≤ H1.size → (∀ q : Nat, q < H.size → ¬ A1 q → H1[q]? = H[q]?) → va_S A0 H0 H1 locs1 → W p l e R s m args below meth c H1 locs1 (cells + mc) (slots + ms) Q (F0 m (pc + 3) ls (.int r :: rest))) : W p l e R s m args below meth c H locs cells slots Q (F0 m pc ls st0) := by
  intro T hT X
  rcases hr T hT X with ⟨v, st₀, t, T', L, h0, X', hL, e1, e2, ⟨⟨r, u, hv, hp, hb⟩, hF⟩, st⟩ | ⟨q, st₀, t, T', L, E, ce, h0, X', hL, e1, e2, ⟨u, hp, hb, hF⟩, hce, hcv, hcl, st⟩
  · cases hv
    obtain ⟨k1, k2, k3⟩ := vx_keep h0 e1 hS hA hf hL hF
    obtain ⟨t2, a1, b1⟩ := kk r u t T'.heap (locs ++ L) e1.symm (by rw [← e2]; exact X'.warmed.alike) hp hb k1 k2 k3 T' rfl X'
    exact ⟨t2, st t2 a1, b1⟩
  · obtain ⟨k1, k2, k3⟩ := vx_keep h0 e1 hS hAX hf hL hF
    obtain ⟨t2, a1, b1⟩ := kx E ce q u t T'.heap (locs ++ L) e1.symm (by rw [← e2]; exact X'.warmed.alike) hp hb k1 k2 k3 (by rw [e1]; exact hce) hcv hcl T' rfl X'
    exact ⟨t2, st.trans a1, b1⟩
theorem vx_calll {S SX : Type} {post : Int64 → S → Prop} {px : SX → Prop} {B : S → State → Prop} {BX : String → SX → State → Prop} {AX : Nat → Prop} (hr : vx_Run p l e R s m args below meth c H locs cells slots mc ms (F0 m pc ls st0) rest (va_Ql post B A1 a) (vx_X px BX AX) free) (hS : va_S A0 H0 H locs) (hA : ∀ q, q < H.size → A1 q → A0 q) (hf : ∀ q, free q → A0 q) (hAX : ∀ q, q < H.size → AX q → A0 q)
    (kx : ∀ (E : String) (ce : Cell) (q9 : Addr) (u : SX) (t : State) (H1 : Heap) (locs1 : List Loc), t.heap = H1 → s.vm.Alike t.vm → px u → BX E u t → H.size ≤ H1.size → (∀ q : Nat, q < H.size → ¬ AX q → H1[q]? = H[q]?) → va_S A0 H0 H1 locs1 → H1[q9]? = some ce → ce.vm = .none → s.vm.findClass E = some ce.cls → vx_W p l e R s m args below meth c H1 locs1 (cells + mc) (slots + ms) Q (F0 m pc ls rest) q9)
    (kk : ∀ (r : Int64) (u : S) (t : State) (H1 : Heap) (locs1 : List Loc), t.heap = H1 → s.vm.Alike t.vm → post r u → B u t → H.size ≤ H1.size → (∀ q : Nat, q < H.size → ¬ A1 q → H1[q]? = H[q]?) → va_S A0 H0 H1 locs1 → W p l e R s m args below meth c H1 locs1 (cells + mc) (slots + ms) Q (F0 m (pc + 3) ls (.long r :: rest))) : W p l e R s m args below meth c H locs cells slots Q (F0 m pc ls st0) := by
  intro T hT X
  rcases hr T hT X with ⟨v, st₀, t, T', L, h0, X', hL, e1, e2, ⟨⟨r, u, hv, hp, hb⟩, hF⟩, st⟩ | ⟨q, st₀, t, T', L, E, ce, h0, X', hL, e1, e2, ⟨u, hp, hb, hF⟩, hce, hcv, hcl, st⟩
  · cases hv
    obtain ⟨k1, k2, k3⟩ := vx_keep h0 e1 hS hA hf hL hF
    obtain ⟨t2, a1, b1⟩ := kk r u t T'.heap (locs ++ L) e1.symm (by rw [← e2]; exact X'.warmed.alike) hp hb k1 k2 k3 T' rfl X'
    exact ⟨t2, st t2 a1, b1⟩
  · obtain ⟨k1, k2, k3⟩ := vx_keep h0 e1 hS hAX hf hL hF
    obtain ⟨t2, a1, b1⟩ := kx E ce q u t T'.heap (locs ++ L) e1.symm (by rw [← e2]; exact X'.warmed.alike) hp hb k1 k2 k3 (by rw [e1]; exact hce) hcv hcl T' rfl X'
    exact ⟨t2, st.trans a1, b1⟩
theorem vx_callf {S SX : Type} {post : UInt32 → S → Prop} {px : SX → Prop} {B : S → State → Prop} {BX : String → SX → State → Prop} {AX : Nat → Prop} (hr : vx_Run p l e R s m args below meth c H locs cells slots mc ms (F0 m pc ls st0) rest (va_Qf post B A1 a) (vx_X px BX AX) free) (hS : va_S A0 H0 H locs) (hA : ∀ q, q < H.size → A1 q → A0 q) (hf : ∀ q, free q → A0 q) (hAX : ∀ q, q < H.size → AX q → A0 q)
    (kx : ∀ (E : String) (ce : Cell) (q9 : Addr) (u : SX) (t : State) (H1 : Heap) (locs1 : List Loc), t.heap = H1 → s.vm.Alike t.vm → px u → BX E u t → H.size ≤ H1.size → (∀ q : Nat, q < H.size → ¬ AX q → H1[q]? = H[q]?) → va_S A0 H0 H1 locs1 → H1[q9]? = some ce → ce.vm = .none → s.vm.findClass E = some ce.cls → vx_W p l e R s m args below meth c H1 locs1 (cells + mc) (slots + ms) Q (F0 m pc ls rest) q9)
    (kk : ∀ (r : UInt32) (u : S) (t : State) (H1 : Heap) (locs1 : List Loc), t.heap = H1 → s.vm.Alike t.vm → post r u → B u t → H.size ≤ H1.size → (∀ q : Nat, q < H.size → ¬ A1 q → H1[q]? = H[q]?) → va_S A0 H0 H1 locs1 → W p l e R s m args below meth c H1 locs1 (cells + mc) (slots + ms) Q (F0 m (pc + 3) ls (.float r :: rest))) : W p l e R s m args below meth c H locs cells slots Q (F0 m pc ls st0) := by
  intro T hT X
  rcases hr T hT X with ⟨v, st₀, t, T', L, h0, X', hL, e1, e2, ⟨⟨r, u, hv, hp, hb⟩, hF⟩, st⟩ | ⟨q, st₀, t, T', L, E, ce, h0, X', hL, e1, e2, ⟨u, hp, hb, hF⟩, hce, hcv, hcl, st⟩
  · cases hv
    obtain ⟨k1, k2, k3⟩ := vx_keep h0 e1 hS hA hf hL hF
    obtain ⟨t2, a1, b1⟩ := kk r u t T'.heap (locs ++ L) e1.symm (by rw [← e2]; exact X'.warmed.alike) hp hb k1 k2 k3 T' rfl X'
    exact ⟨t2, st t2 a1, b1⟩
  · obtain ⟨k1, k2, k3⟩ := vx_keep h0 e1 hS hAX hf hL hF
    obtain ⟨t2, a1, b1⟩ := kx E ce q u t T'.heap (locs ++ L) e1.symm (by rw [← e2]; exact X'.warmed.alike) hp hb k1 k2 k3 (by rw [e1]; exact hce) hcv hcl T' rfl X'
    exact ⟨t2, st.trans a1, b1⟩
theorem vx_calld {S SX : Type} {post : UInt64 → S → Prop} {px : SX → Prop} {B : S → State → Prop} {BX : String → SX → State → Prop} {AX : Nat → Prop} (hr : vx_Run p l e R s m args below meth c H locs cells slots mc ms (F0 m pc ls st0) rest (va_Qd post B A1 a) (vx_X px BX AX) free) (hS : va_S A0 H0 H locs) (hA : ∀ q, q < H.size → A1 q → A0 q) (hf : ∀ q, free q → A0 q) (hAX : ∀ q, q < H.size → AX q → A0 q)
    (kx : ∀ (E : String) (ce : Cell) (q9 : Addr) (u : SX) (t : State) (H1 : Heap) (locs1 : List Loc), t.heap = H1 → s.vm.Alike t.vm → px u → BX E u t → H.size ≤ H1.size → (∀ q : Nat, q < H.size → ¬ AX q → H1[q]? = H[q]?) → va_S A0 H0 H1 locs1 → H1[q9]? = some ce → ce.vm = .none → s.vm.findClass E = some ce.cls → vx_W p l e R s m args below meth c H1 locs1 (cells + mc) (slots + ms) Q (F0 m pc ls rest) q9)
    (kk : ∀ (r : UInt64) (u : S) (t : State) (H1 : Heap) (locs1 : List Loc), t.heap = H1 → s.vm.Alike t.vm → post r u → B u t → H.size ≤ H1.size → (∀ q : Nat, q < H.size → ¬ A1 q → H1[q]? = H[q]?) → va_S A0 H0 H1 locs1 → W p l e R s m args below meth c H1 locs1 (cells + mc) (slots + ms) Q (F0 m (pc + 3) ls (.double r :: rest))) : W p l e R s m args below meth c H locs cells slots Q (F0 m pc ls st0) := by
  intro T hT X
  rcases hr T hT X with ⟨v, st₀, t, T', L, h0, X', hL, e1, e2, ⟨⟨r, u, hv, hp, hb⟩, hF⟩, st⟩ | ⟨q, st₀, t, T', L, E, ce, h0, X', hL, e1, e2, ⟨u, hp, hb, hF⟩, hce, hcv, hcl, st⟩
  · cases hv
    obtain ⟨k1, k2, k3⟩ := vx_keep h0 e1 hS hA hf hL hF
    obtain ⟨t2, a1, b1⟩ := kk r u t T'.heap (locs ++ L) e1.symm (by rw [← e2]; exact X'.warmed.alike) hp hb k1 k2 k3 T' rfl X'
    exact ⟨t2, st t2 a1, b1⟩
  · obtain ⟨k1, k2, k3⟩ := vx_keep h0 e1 hS hAX hf hL hF
    obtain ⟨t2, a1, b1⟩ := kx E ce q u t T'.heap (locs ++ L) e1.symm (by rw [← e2]; exact X'.warmed.alike) hp hb k1 k2 k3 (by rw [e1]; exact hce) hcv hcl T' rfl X'
    exact ⟨t2, st.trans a1, b1⟩
theorem vx_callv {S SX : Type} {post : S → Prop} {px : SX → Prop} {B : S → State → Prop} {BX : String → SX → State → Prop} {AX : Nat → Prop} (hr : vx_Run p l e R s m args below meth c H locs cells slots mc ms (F0 m pc ls st0) rest (va_Qv post B A1 a) (vx_X px BX AX) free) (hS : va_S A0 H0 H locs) (hA : ∀ q, q < H.size → A1 q → A0 q) (hf : ∀ q, free q → A0 q) (hAX : ∀ q, q < H.size → AX q → A0 q)
    (kx : ∀ (E : String) (ce : Cell) (q9 : Addr) (u : SX) (t : State) (H1 : Heap) (locs1 : List Loc), t.heap = H1 → s.vm.Alike t.vm → px u → BX E u t → H.size ≤ H1.size → (∀ q : Nat, q < H.size → ¬ AX q → H1[q]? = H[q]?) → va_S A0 H0 H1 locs1 → H1[q9]? = some ce → ce.vm = .none → s.vm.findClass E = some ce.cls → vx_W p l e R s m args below meth c H1 locs1 (cells + mc) (slots + ms) Q (F0 m pc ls rest) q9)
    (kk : ∀ (u : S) (t : State) (H1 : Heap) (locs1 : List Loc), t.heap = H1 → s.vm.Alike t.vm → post u → B u t → H.size ≤ H1.size → (∀ q : Nat, q < H.size → ¬ A1 q → H1[q]? = H[q]?) → va_S A0 H0 H1 locs1 → W p l e R s m args below meth c H1 locs1 (cells + mc) (slots + ms) Q (F0 m (pc + 3) ls (rest))) : W p l e R s m args below meth c H locs cells slots Q (F0 m pc ls st0) := by
  intro T hT X
  rcases hr T hT X with ⟨v, st₀, t, T', L, h0, X', hL, e1, e2, ⟨⟨u, hv, hp, hb⟩, hF⟩, st⟩ | ⟨q, st₀, t, T', L, E, ce, h0, X', hL, e1, e2, ⟨u, hp, hb, hF⟩, hce, hcv, hcl, st⟩
  · cases hv
    obtain ⟨k1, k2, k3⟩ := vx_keep h0 e1 hS hA hf hL hF
    obtain ⟨t2, a1, b1⟩ := kk u t T'.heap (locs ++ L) e1.symm (by rw [← e2]; exact X'.warmed.alike) hp hb k1 k2 k3 T' rfl X'
    exact ⟨t2, st t2 a1, b1⟩
  · obtain ⟨k1, k2, k3⟩ := vx_keep h0 e1 hS hAX hf hL hF
    obtain ⟨t2, a1, b1⟩ := kx E ce q u t T'.heap (locs ++ L) e1.symm (by rw [← e2]; exact X'.warmed.alike) hp hb k1 k2 k3 (by rw [e1]; exact hce) hcv hcl T' rfl X'
    exact ⟨t2, st.trans a1, b1⟩
/-- caught by the row x of this method's table; the rows ahead don't take it -/
theorem vx_catch {own name : String} {E : String} {ce : Cell} {q : Addr} (hown : s.vm.findClass own = some m.cls) (pre : List ExceptionTableEntry) (x : ExceptionTableEntry) (suf : List ExceptionTableEntry) (hsplit : c.exceptionTable.toList = pre ++ x :: suf)
    (hpass : ∀ z ∈ pre, covers z pc = false ∨ (z.catchType ≠ 0 ∧ ∃ nm : String, (Cond.classLink own z.catchType nm).before args s = true ∧ va_Nc E nm s)) (hx : covers x pc = true) (h0 : x.catchType ≠ 0)
    (hlink : (Cond.classLink own x.catchType name).before args s = true) (hcast : (Cond.castable E name).before args s = true) (hcell : H[q]? = some ce) (hv : ce.vm = .none) (hcl : s.vm.findClass E = some ce.cls)
    (kk : W p l e R s m args below meth c H locs cells slots Q (F0 m x.handlerPc ls [.ref q])) : vx_W p l e R s m args below meth c H locs cells slots Q (F0 m pc ls rest) q := by
  intro T hT X
  have hpl : e.platform.magicAccessors = ({} : Platform).magicAccessors := by rw [X.admits.platform]
  obtain ⟨c3, c4, hc3, hc4, hasg⟩ := Cond.castable_spec hcast
  cases Option.some.inj (hc3.symm.trans hcl)
  obtain ⟨c5, hc5, hcl5⟩ := Cond.classLink_spec hown hlink e.platform hpl
  cases Option.some.inj (hc4.symm.trans hc5)
  obtain ⟨vm', X', st⟩ := X.thenCaughtThrough q (g := F0 m pc ls rest) rfl (Steps.refl _) (by rw [hT]; exact hcell) (by rw [hv]; rfl) (by obtain ⟨k9, h9, -⟩ := Vm.findClass_spec hcl; exact ⟨k9, h9⟩) pre x suf hsplit
    (fun z hz => by
      rcases hpass z hz with h | ⟨hz0, nm, hl1, hn1⟩
      · exact Or.inl h
      · obtain ⟨c6, hc6, hcl6⟩ := Cond.classLink_spec hown hl1 e.platform hpl
        obtain ⟨a8, b8, h1, h2, h3⟩ := hn1
        cases Option.some.inj (h1.symm.trans hcl)
        cases Option.some.inj (h2.symm.trans hc6)
        exact Or.inr ⟨hz0, _, hcl6, h3⟩) hx (Or.inr ⟨h0, c4, hcl5, hasg⟩)
  obtain ⟨t, a1, b1⟩ := kk (T.setVm vm') hT X'
  exact ⟨t, st.trans a1, b1⟩
end Rows
section Ends
variable {p : Program} {l : Launch} {e : Env} {R : Room} {s : State} {m : MethodId} {args : Array Value} {below : List Frame} {meth : Method} {c : Code} {H : Heap} {locs : List Loc} {cells slots : Nat} {Q : State → Prop}
variable {mc ms : Nat} {free : Addr → Prop} {A0 A1 : Nat → Prop} {H0 : Heap} {a : Array Value} {ls : Array Slot} {st0 rest : List Value}
variable {Qc : Array Value → State → Outcome → State → Prop} {XC : String → State → State → Prop}
/-- what a body that may throw owes at its end -/
def vx_MQ (below : List Frame) (Qc : Array Value → State → Outcome → State → Prop) (XC : String → State → State → Prop) (a : Array Value) (s : State) (mc ms : Nat) (free : Addr → Prop) : State → Prop := fun t =>
  ∃ o, t.status = .running ∧ Ended t below o ∧ vx_Q Qc XC mc ms free a s o t
theorem vx_ret {g : JFrame} {mc ms : Nat} (k : W p l e R s m args below meth c H locs cells slots (MQ below Qc args s mc ms free) g) : W p l e R s m args below meth c H locs cells slots (vx_MQ below Qc XC args s mc ms free) g := by
  intro T hT X
  obtain ⟨t, a1, o, b1, b2, b3, b4⟩ := k T hT X
  exact ⟨t, a1, o, b1, b2, Or.inl ⟨b3, b4⟩⟩
/-- not caught here: it goes on to the caller -/
theorem vx_widen {g : JFrame} {q : Addr} {k n : Nat} (h1 : cells ≤ k) (h2 : slots ≤ n) (kk : vx_W p l e R s m args below meth c H locs k n Q g q) : vx_W p l e R s m args below meth c H locs cells slots Q g q := fun T hT X => kk T hT (stand_widen X h1 h2)
theorem vx_out {pc : Nat} {E : String} {ce : Cell} {q : Addr} {mc ms : Nat} (hout : ∀ x ∈ c.exceptionTable.toList, covers x pc = false) (hlocks : meth.locks = false) (hcell : H[q]? = some ce) (hv : ce.vm = .none) (hcl : s.vm.findClass E = some ce.cls)
    (hx : ∀ t : State, t.heap = H → s.vm.Alike t.vm → XC E s t) (hf : ∀ z ∈ locs, free z.base) (hc : cells ≤ mc) (hs : slots ≤ ms) :
    vx_W p l e R s m args below meth c H locs cells slots (vx_MQ below Qc XC args s mc ms free) (F0 m pc ls rest) q := by
  intro T hT X
  obtain ⟨st1, hrun, hend, hW, hsm⟩ := X.leaveThrown q (g := F0 m pc ls rest) rfl rfl rfl hout hlocks
  have hcell9 : (T.setFrames (.throwing q :: below)).heap[q]? = some ce := by
    show T.heap[q]? = some ce
    rw [hT]; exact hcell
  exact ⟨_, st1, .threw q, hrun, hend, Or.inr ⟨q, rfl, E, ce, locs, hx _ hT hW.alike, hcell9, hv, hcl, hW, hsm.mono hc hs, hf⟩⟩
theorem vx_frame {U : State} {k n : Nat} (h : s.sameButNew ({ U with vm := s.vm } : State) locs k n) : s.heap.size ≤ U.heap.size ∧ ∀ q : Nat, q < s.heap.size → (∀ z ∈ locs, z.base ≠ q) → U.heap[q]? = s.heap[q]? := by
  obtain ⟨-, h2, -, -, -, h6⟩ := h
  refine ⟨h2, fun q hq hz => ?_⟩
  obtain ⟨c9, e1, e2, e3, e4⟩ := h6 q _ (Array.getElem?_eq_getElem hq)
  have hs : c9.slots = (s.heap[q]).slots := Array.ext_getElem? fun i => e4 i fun hm => hz _ hm rfl
  have h9 : c9 = s.heap[q] := by
    rw [hs] at e2
    exact e2
  have e5 : U.heap[q]? = some c9 := e1
  rw [e5, h9, Array.getElem?_eq_getElem hq]
/-- the words of a throw but the four that speak of the heap -/
def vx_no (w : Cond) : Bool := decide (w ≠ .isRef (.static Bundle.tN "UNASSIGNED_STACK" Bundle.steD)) && decide (w ≠ .isRef (.static Bundle.tN "SUPPRESSED_SENTINEL" Bundle.listD)) && decide (w ≠ .laysStatic Bundle.tN "UNASSIGNED_STACK" Bundle.steD) && decide (w ≠ .laysStatic Bundle.tN "SUPPRESSED_SENTINEL" Bundle.listD)
def vx_at0 (own : String) (ic : Nat) (X : String) (names : List String) : List Cond := (Bundle.ownAtoms0 own ic X names).filter vx_no
def vx_atS (own : String) (ic : Nat) (X : String) (names : List String) : List Cond := (Bundle.ownAtoms own ic X names).filter vx_no
/-- a word that the tables alone decide, or a good one -/
def vx_ot (w : Cond) : Bool := w.onTables || goodWord w
theorem vx_ot_at {args a' : Array Value} {s U : State} {w : Cond} (hW : s.WarmedH U.vm) (hvm : s.vm = U.vm) (hg : vx_ot w = true) (h : w.before args s = true) : w.before a' U = true := by
  simp only [vx_ot, Bool.or_eq_true] at hg
  rcases hg with hg | hg
  · exact va_tabs hg hvm h
  · exact word_at hW (good_of_word hg) h
/-- a list's words: the good ones out of the method's own list, the others by premises of their own -/
theorem vx_hat {args : Array Value} {s : State} {L B : List Cond} (h1 : ∀ w ∈ L.filter goodWord, w.before args s = true) (h2 : ∀ w ∈ L.filter (fun w => !goodWord w), w ∈ B) (h3 : ∀ w ∈ B, w.before args s = true) : ∀ w ∈ L, w.before args s = true := by
  intro w hw
  by_cases g : goodWord w = true
  · exact h1 w (List.mem_filter.mpr ⟨hw, g⟩)
  · refine h3 w (h2 w (List.mem_filter.mpr ⟨hw, ?_⟩))
    show (!goodWord w) = true
    cases hgw : goodWord w
    · rfl
    · exact absurd hgw g
theorem vx_c {args : Array Value} {s : State} {w : Cond} {B : List Cond} (h : w.before args s = true) (t : ∀ w ∈ B, w.before args s = true) : ∀ w' ∈ w :: B, w'.before args s = true := fun w' h' => (List.mem_cons.mp h').elim (fun e => by rw [e]; exact h) (t w')
theorem vx_n {args : Array Value} {s : State} : ∀ w ∈ ([] : List Cond), w.before args s = true := fun _ h => nomatch h
theorem vx_own {args : Array Value} {s : State} {L : List Cond} (h1 : ∀ w ∈ L.filter vx_no, w.before args s = true)
    (hU : (Cond.isRef (.static Bundle.tN "UNASSIGNED_STACK" Bundle.steD)).before args s = true) (hN : (Cond.isRef (.static Bundle.tN "SUPPRESSED_SENTINEL" Bundle.listD)).before args s = true)
    (lU : (Cond.laysStatic Bundle.tN "UNASSIGNED_STACK" Bundle.steD).before args s = true) (lN : (Cond.laysStatic Bundle.tN "SUPPRESSED_SENTINEL" Bundle.listD).before args s = true) : ∀ w ∈ L, w.before args s = true := by
  intro w hw
  by_cases e1 : w = .isRef (.static Bundle.tN "UNASSIGNED_STACK" Bundle.steD)
  · rw [e1]; exact hU
  · by_cases e2 : w = .isRef (.static Bundle.tN "SUPPRESSED_SENTINEL" Bundle.listD)
    · rw [e2]; exact hN
    · by_cases e3 : w = .laysStatic Bundle.tN "UNASSIGNED_STACK" Bundle.steD
      · rw [e3]; exact lU
      · by_cases e4 : w = .laysStatic Bundle.tN "SUPPRESSED_SENTINEL" Bundle.listD
        · rw [e4]; exact lN
        · exact h1 w (List.mem_filter.mpr ⟨hw, by unfold vx_no; rw [decide_eq_true e1, decide_eq_true e2, decide_eq_true e3, decide_eq_true e4]; rfl⟩)
/-- where a static field lies, its class's statics cell in H -/
def vx_L (C n d : String) (A : Nat → Prop) (U : State) (H : Heap) : Prop := ∃ (c : ClassId) (k : Class) (i : Nat) (f : Field) (a : Nat) (cell : Cell), U.vm.findClass C = some c ∧ U.fieldFound? C n d = some (c, k, i, f) ∧ f.isStatic = true ∧ k.statics = some a ∧ H[a]? = some cell ∧ cell.vm.isStatics = true ∧ cell.cls = c ∧ f.slot < cell.slots.size ∧ k.staticTypes[f.slot]? = some f.type ∧ ¬ A a
theorem vx_L.moved {C n d : String} {A : Nat → Prop} {u U : State} {H : Heap} (hvm : u.vm.Alike U.vm) (h : vx_L C n d A u H) : vx_L C n d A U H := by
  obtain ⟨c, k, i, f, a, cell, h1, h2, h3, h4, h5, h6, h7, h8, h9, h10⟩ := h
  obtain ⟨k', hi', he⟩ := State.fieldFound?_setVm hvm h2
  exact ⟨c, k', i, f, a, cell, by rw [hvm.findClass]; exact h1, hi', h3, by rw [he]; exact h4, h5, h6, h7, h8, by rw [he]; exact h9, h10⟩
theorem vx_L.kept {C n d : String} {A : Nat → Prop} {U : State} {H H1 : Heap} (h : vx_L C n d A U H) (hq : ∀ a : Nat, a < H.size → ¬ A a → H1[a]? = H[a]?) : vx_L C n d A U H1 := by
  obtain ⟨c, k, i, f, a, cell, h1, h2, h3, h4, h5, h6, h7, h8, h9, h10⟩ := h
  exact ⟨c, k, i, f, a, cell, h1, h2, h3, h4, by rw [hq a (Array.getElem?_eq_some_iff.mp h5).1 h10]; exact h5, h6, h7, h8, h9, h10⟩
theorem vx_L.narrow {C n d : String} {A B : Nat → Prop} {U : State} {H : Heap} (h : vx_L C n d A U H) (hAB : ∀ q, B q → A q) : vx_L C n d B U H := by
  obtain ⟨c, k, i, f, a, cell, h1, h2, h3, h4, h5, h6, h7, h8, h9, h10⟩ := h
  exact ⟨c, k, i, f, a, cell, h1, h2, h3, h4, h5, h6, h7, h8, h9, fun z => h10 (hAB _ z)⟩
theorem vx_L.word {C n d : String} {A : Nat → Prop} {s : State} {args : Array Value} (h : vx_L C n d A s s.heap) : (Cond.laysStatic C n d).before args s = true := by
  obtain ⟨c, k, i, f, a, cell, h1, h2, h3, h4, h5, h6, h7, h8, h9, -⟩ := h
  show (Cond.laysStatic C n d).holds args s none s [] = true
  exact Cond.laysStatic_of h1 h2 h3 h4 h5 h6 h7 h8 h9
/-- .. and what it holds: null or some reference -/
def vx_Zq (C n d : String) (A : Nat → Prop) (U : State) (H : Heap) : Prop := va_Zq C n d A U H ∧ vx_L C n d A U H
theorem vx_Zq.moved {C n d : String} {A : Nat → Prop} {u U : State} {H : Heap} (hvm : u.vm.Alike U.vm) (h : vx_Zq C n d A u H) : vx_Zq C n d A U H := ⟨va_Zq.moved hvm h.1, vx_L.moved hvm h.2⟩
theorem vx_Zq.kept {C n d : String} {A : Nat → Prop} {U : State} {H H1 : Heap} (h : vx_Zq C n d A U H) (hq : ∀ a : Nat, a < H.size → ¬ A a → H1[a]? = H[a]?) : vx_Zq C n d A U H1 := ⟨va_Zq.kept h.1 hq, vx_L.kept h.2 hq⟩
theorem vx_Zq.narrow {C n d : String} {A B : Nat → Prop} {U : State} {H : Heap} (h : vx_Zq C n d A U H) (hAB : ∀ q, B q → A q) : vx_Zq C n d B U H := ⟨va_Zq.narrow h.1 hAB, vx_L.narrow h.2 hAB⟩
theorem vx_Zqof {args : Array Value} {s : State} {C n d : String} {A : Nat → Prop} (hl : (Cond.laysStatic C n d).before args s = true) (hini : (Cond.initialized C).before args s = true) (h : (Cond.isRef (.static C n d)).before args s = true) (hA : ∀ a : Nat, a < s.heap.size → ¬ A a) : vx_Zq C n d A s s.heap := by
  refine ⟨va_Zqof hl hini h hA, ?_⟩
  obtain ⟨c, k, i, f, a, cell, h1, h2, h3, h4, h5, h6, h7, h8, h9⟩ := Cond.laysStatic_spec hl
  exact ⟨c, k, i, f, a, cell, h1, h2, h3, h4, h5, h6, h7, h8, h9, hA a (Array.getElem?_eq_some_iff.mp h5).1⟩
theorem vx_isRef {C n d : String} {v : Value} {A : Nat → Prop} {s : State} {args : Array Value} (h : va_Z C n d v A s s.heap) (hv : v.isRef = true) : (Cond.isRef (.static C n d)).before args s = true := by
  obtain ⟨cf, kf, fi, f, a, cell, h1, h2, h3, h4, h5, h6, h7, -⟩ := h
  have he : (Term.static C n d).eval args s none [] s = some v := by
    simp [Term.eval, State.fieldNamed?, h1, h2, h4, h5, h6, h7]
  simp only [Cond.before, Cond.holds, Cond.value, he]
  cases v <;> simp_all [Value.isRef]
theorem vx_isRefq {C n d : String} {A : Nat → Prop} {s : State} {args : Array Value} (h : va_Zq C n d A s s.heap) : (Cond.isRef (.static C n d)).before args s = true := by
  rcases h with h | ⟨t, h⟩
  · exact vx_isRef h rfl
  · exact vx_isRef h rfl
/-- the same frame, seen from here: as if the method were called anew in this heap -/
theorem vx_rebase {T : State} (X : Stand p l e R s m args below meth c T locs cells slots) {R' : Room} (hf : R'.frames ≤ R.frames) (hl : R'.locals ≤ R.locals) (hc : cells + R'.cells ≤ R.cells) (hs : slots + R'.slots ≤ R.slots) :
    Stand p l e R' ((T.setVm s.vm).setFrames (.invoking m args :: below)) m args below meth c T [] 0 0 := by
  have htop : (T.setVm s.vm).topJava?.isSome := X.here.top
  have hF : ((T.setVm s.vm).setFrames (.invoking m args :: below)).frames = .invoking m args :: below := State.frames_setFrames _ (State.cur_lt_of_top htop)
  obtain ⟨g₀, hg0⟩ := Option.isSome_iff_exists.mp htop
  obtain ⟨r, hr⟩ := State.topJava?_eq_some.mp hg0
  have hl9 : e.platform.stackLimits (T.setVm s.vm).me = e.platform.stackLimits s.me := X.limits
  have hb9 : (T.setVm s.vm).me.stackBytes = s.me.stackBytes := X.bytes
  refine ⟨X.admits, X.cas, X.clock, hF, ?_, X.hears, X.method, X.code, X.here, X.tail, X.warmed, ?_, ?_, ?_⟩
  · have h := X.room
    have hU : ((T.setVm s.vm).setFrames (.invoking m args :: below)).localsInUse = s.localsInUse := by
      rw [State.localsInUse_invoking hF (meth := meth) (c := c) X.method X.code, State.localsInUse_invoking X.frames X.method X.code]
    simp only [State.hasRoom, Bool.and_eq_true, decide_eq_true_eq] at h ⊢
    obtain ⟨⟨⟨⟨h1, h2, h3, h4, h5, h6⟩, h7⟩, h8⟩, h9⟩ := h
    rw [X.frames, List.length_cons] at h2 h3
    have q1 := X.heapSize
    have q2 := X.used
    simp only [hF, hU, List.length_cons, State.stackLimits_setFrames, State.stackBytes_setFrames, hl9, hb9]
    refine ⟨⟨⟨⟨by omega, by omega, by omega, by omega, by omega, h6⟩, ?_⟩, ?_⟩, X.book⟩
    · show T.heap.size + R'.cells ≤ e.platform.maxCells
      omega
    · show T.slotsUsed + R'.slots ≤ e.platform.maxSlots
      omega
  · rw [State.stackLimits_setFrames]; rfl
  · rw [State.stackBytes_setFrames]; rfl
  · refine ⟨?_, Nat.le_refl _, Nat.le_refl _, ?_, ?_, fun a c9 h9 => ⟨c9, h9, rfl, rfl, fun _ _ => rfl⟩⟩
    · obtain ⟨t, ht, -⟩ := State.frames_cons hr
      show T.setVm s.vm = { ((T.setVm s.vm).setFrames (.invoking m args :: below)).setFrames (T.setVm s.vm).frames with heap := T.heap, slotsUsed := T.slotsUsed }
      rw [State.setFrames_setFrames, State.setFrames_self ht]
      rfl
    · show T.slotsUsed = T.slotsUsed + ((T.heap.toList.drop T.heap.size).map (·.slots.size)).sum
      rw [List.drop_eq_nil_of_le (Nat.le_of_eq Array.length_toList)]
      rfl
    · show ((T.heap.toList.drop T.heap.size).map (·.slots.size)).sum ≤ 0
      rw [List.drop_eq_nil_of_le (Nat.le_of_eq Array.length_toList)]
      exact Nat.le_refl _
/-- 'throw new E()': new; dup; invokespecial; athrow -/
theorem vx_throw0 {cc : ByteArray} {pc : Nat} (hexec : p.tables.exec = Jvm.exec) (hb : c.code = cc) (hl : l.stackTraces = false) {own cls : String} {names : List String} {ik ic mc ms : Nat} {A : Nat → Prop}
    (hown : s.vm.findClass own = some m.cls) (hcls : Bundle.fit cls = true) (hnames : ∀ n ∈ names, Bundle.fit n = true)
    (hk : (Cond.classLink own ik cls).before args s = true) (hini : (Cond.initialized cls).before args s = true) (hat : ∀ w ∈ vx_at0 own ic cls names, w.before args s = true)
    (hgood : ∀ w ∈ Cond.classLink own ik cls :: Cond.initialized cls :: vx_at0 own ic cls names, vx_ot w = true)
    (hU : vx_Zq Bundle.tN "UNASSIGNED_STACK" Bundle.steD A s s.heap) (hN : vx_Zq Bundle.tN "SUPPRESSED_SENTINEL" Bundle.listD A s s.heap) (hS : va_S A s.heap H locs) (hsize : ls.size = c.maxLocals)
    (d0 : decode cc pc = .ok (.new ik, 3)) (d3 : decode cc (pc + 3) = .ok (.dup, 1)) (d4 : decode cc (pc + 4) = .ok (.invokespecial ic, 3)) (d7 : decode cc (pc + 7) = .ok (.athrow, 1))
    (hout : ∀ x ∈ c.exceptionTable.toList, covers x (pc + 7) = false)
    (hRframes : names.length + 3 < R.frames) (hRlocals : (rest.map fun v => v.category).sum + (13 * (names.length + 1) + 42) ≤ R.locals) (hRcells : cells + 1 ≤ R.cells) (hRslots : slots + 6 ≤ R.slots) (hlocks : meth.locks = false)
    (hx : ∀ t : State, s.vm.Alike t.vm → H.size ≤ t.heap.size → (∀ q : Nat, q < H.size → t.heap[q]? = H[q]?) → XC cls s t)
    (hf : ∀ z ∈ locs, free z.base) (hc : cells + 1 ≤ mc) (hs : slots + 6 ≤ ms) :
    W p l e R s m args below meth c H locs cells slots (vx_MQ below Qc XC args s mc ms free) (F0 m pc ls rest) := by
  intro T hT X
  have htr : e.platform.stackTraces = false := (show e.platform.stackTraces = l.stackTraces by rw [X.admits.platform]).trans hl
  have Y := vx_rebase X (R' := { frames := R.frames, locals := R.locals, cells := 1, slots := 6 }) (Nat.le_refl _) (Nat.le_refl _) hRcells hRslots
  obtain ⟨s', hA⟩ : ∃ z, z = (T.setVm s.vm).setFrames (.invoking m args :: below) := ⟨_, rfl⟩
  rw [← hA] at Y
  have hvm : s'.vm = s.vm := by rw [hA]; rfl
  have hhp : s'.heap = H := by rw [hA]; exact hT
  have hW0 : s.WarmedH s'.vm := by rw [hvm]; exact State.WarmedH.refl s
  have hat' : ∀ w ∈ vx_at0 own ic cls names, w.before args s' = true := fun w hw => vx_ot_at hW0 hvm.symm (hgood w (List.mem_cons_of_mem _ (List.mem_cons_of_mem _ hw))) (hat w hw)
  have hk' : (Cond.classLink own ik cls).before args s' = true := vx_ot_at hW0 hvm.symm (hgood _ List.mem_cons_self) hk
  have hini' : (Cond.initialized cls).before args s' = true := vx_ot_at hW0 hvm.symm (hgood _ (List.mem_cons_of_mem _ List.mem_cons_self)) hini
  have hU' : vx_Zq Bundle.tN "UNASSIGNED_STACK" Bundle.steD A s' s'.heap := by rw [hhp]; exact vx_Zq.moved hW0.alike (hU.kept hS.2.1)
  have hN' : vx_Zq Bundle.tN "SUPPRESSED_SENTINEL" Bundle.listD A s' s'.heap := by rw [hhp]; exact vx_Zq.moved hW0.alike (hN.kept hS.2.1)
  have h : ∀ w ∈ Bundle.ownAtoms0 own ic cls names, w.before args s' = true := vx_own hat' (vx_isRefq hU'.1) (vx_isRefq hN'.1) hU'.2.word hN'.2.word
  have hown' : s'.vm.findClass own = some m.cls := by rw [hvm]; exact hown
  have hins : (Cond.instantiable cls 6).before args s' = true := h _ (by simp [Bundle.ownAtoms0])
  obtain ⟨vm₁, cX, kX, hfX, hkX, -, -, X₁, st1⟩ := Y.newCold hexec (own := own) (C := cls) (index := ik) (n := 6) hown' hk' hins hini'
    (g := F0 m pc ls rest) rfl (by rw [hb]; exact d0) (Nat.le_refl _) (Nat.le_refl _)
  generalize hT1 : (T.setVm vm₁).pushCell { cls := cX, slots := kX.instanceTypes.map defaultValue, vm := .none } = T1 at X₁ st1
  have hcat : (Value.ref T.heap.size).category = 1 := rfl
  have hcellA : T1.heap[T.heap.size]? = some (freshCell cX kX) := by rw [← hT1]; exact State.heap_pushCell_size _ _
  have d3' : decode c.code (pc + 3) = .ok (.dup, 1) := by rw [hb]; exact d3
  obtain ⟨U, hsteps, hrun, hend, hW, hsame, ce, hce, hO⟩ := X₁.ctorThrow0 hexec htr (own := own) (cls := cls) (names := names) (ic := ic) hown' hcls hnames h (fun x hx => nomatch hx) hfX hkX hcellA (by rw [hhp, hT]; exact Nat.le_refl _)
    (g := { method := m, pc := pc + 4, locals := ls, stack := .ref T.heap.size :: .ref T.heap.size :: rest, locked := none }) rfl hsize rfl rfl (rest := rest) rfl
    (by rw [hb]; exact d4) (by rw [hb]; exact d7) hout hRframes (by simp only [List.map_cons, List.sum_cons, hcat]; omega) hlocks
  obtain ⟨f1, f2⟩ := vx_frame hsame
  rw [hhp] at f1 f2
  have hWs : s.WarmedH U.vm := State.WarmedH.trans hW0 hW
  have hcl : s.vm.findClass cls = some ce.cls := by
    have h9 := hO.cls
    rw [hvm] at h9
    exact h9
  have hall : s.sameButNew ({ U with vm := s.vm } : State) locs mc ms := by
    subst hA
    obtain ⟨e1, e2⟩ := hsame
    rw [State.setFrames_setFrames] at e1
    have h2 : (T.setVm s.vm).sameButNew ({ U with vm := s.vm } : State) [] (0 + 1) (0 + 6) := ⟨e1, e2⟩
    have h3 := X.same.trans h2
    rw [List.append_nil] at h3
    exact h3.mono hc hs
  refine ⟨U, ?_, .threw T.heap.size, hrun, hend, Or.inr ⟨T.heap.size, rfl, cls, ce, locs, hx U hWs.alike f1 (fun q hq => f2 q hq (fun z hz => nomatch hz)), hce, hO.vm, hcl, hWs, hall, hf⟩⟩
  refine st1 _ ?_
  show Steps p.tables e below (T1.setTop { method := m, pc := pc + 3, locals := ls, stack := .ref T.heap.size :: rest, locked := none }) _
  jvm_step X₁.here [X₁.here.top, hexec, d3', Value.category]
  exact hsteps
/-- 'throw new E("text")': new; dup; ldc; invokespecial; athrow -/
theorem vx_throwS {cc : ByteArray} {pc : Nat} (hexec : p.tables.exec = Jvm.exec) (hb : c.code = cc) (hl : l.stackTraces = false) {own cls text : String} {names : List String} {ik is ic mc ms sa : Nat} {A : Nat → Prop}
    (hown : s.vm.findClass own = some m.cls) (hcls : Bundle.fit cls = true) (hnames : ∀ n ∈ names, Bundle.fit n = true)
    (hk : (Cond.classLink own ik cls).before args s = true) (hini : (Cond.initialized cls).before args s = true) (hstr : vk_R own is text sa s) (hat : ∀ w ∈ vx_atS own ic cls names, w.before args s = true)
    (hgood : ∀ w ∈ Cond.classLink own ik cls :: Cond.initialized cls :: vx_atS own ic cls names, vx_ot w = true)
    (hU : vx_Zq Bundle.tN "UNASSIGNED_STACK" Bundle.steD A s s.heap) (hN : vx_Zq Bundle.tN "SUPPRESSED_SENTINEL" Bundle.listD A s s.heap) (hS : va_S A s.heap H locs) (hsize : ls.size = c.maxLocals)
    (d0 : decode cc pc = .ok (.new ik, 3)) (d3 : decode cc (pc + 3) = .ok (.dup, 1)) (d4 : decode cc (pc + 4) = .ok (.ldc is, 2)) (d6 : decode cc (pc + 6) = .ok (.invokespecial ic, 3)) (d9 : decode cc (pc + 9) = .ok (.athrow, 1))
    (hout : ∀ x ∈ c.exceptionTable.toList, covers x (pc + 9) = false)
    (hRframes : names.length + 3 < R.frames) (hRlocals : (rest.map fun v => v.category).sum + (13 * (names.length + 1) + 43) ≤ R.locals) (hRcells : cells + 1 ≤ R.cells) (hRslots : slots + 6 ≤ R.slots) (hlocks : meth.locks = false)
    (hx : ∀ t : State, s.vm.Alike t.vm → H.size ≤ t.heap.size → (∀ q : Nat, q < H.size → t.heap[q]? = H[q]?) → XC cls s t)
    (hf : ∀ z ∈ locs, free z.base) (hc : cells + 1 ≤ mc) (hs : slots + 6 ≤ ms) :
    W p l e R s m args below meth c H locs cells slots (vx_MQ below Qc XC args s mc ms free) (F0 m pc ls rest) := by
  intro T hT X
  have htr : e.platform.stackTraces = false := (show e.platform.stackTraces = l.stackTraces by rw [X.admits.platform]).trans hl
  have Y := vx_rebase X (R' := { frames := R.frames, locals := R.locals, cells := 1, slots := 6 }) (Nat.le_refl _) (Nat.le_refl _) hRcells hRslots
  obtain ⟨s', hA⟩ : ∃ z, z = (T.setVm s.vm).setFrames (.invoking m args :: below) := ⟨_, rfl⟩
  rw [← hA] at Y
  have hvm : s'.vm = s.vm := by rw [hA]; rfl
  have hhp : s'.heap = H := by rw [hA]; exact hT
  have hW0 : s.WarmedH s'.vm := by rw [hvm]; exact State.WarmedH.refl s
  have hat' : ∀ w ∈ vx_atS own ic cls names, w.before args s' = true := fun w hw => vx_ot_at hW0 hvm.symm (hgood w (List.mem_cons_of_mem _ (List.mem_cons_of_mem _ hw))) (hat w hw)
  have hk' : (Cond.classLink own ik cls).before args s' = true := vx_ot_at hW0 hvm.symm (hgood _ List.mem_cons_self) hk
  have hini' : (Cond.initialized cls).before args s' = true := vx_ot_at hW0 hvm.symm (hgood _ (List.mem_cons_of_mem _ List.mem_cons_self)) hini
  have hU' : vx_Zq Bundle.tN "UNASSIGNED_STACK" Bundle.steD A s' s'.heap := by rw [hhp]; exact vx_Zq.moved hW0.alike (hU.kept hS.2.1)
  have hN' : vx_Zq Bundle.tN "SUPPRESSED_SENTINEL" Bundle.listD A s' s'.heap := by rw [hhp]; exact vx_Zq.moved hW0.alike (hN.kept hS.2.1)
  have h : ∀ w ∈ Bundle.ownAtoms own ic cls names, w.before args s' = true := vx_own hat' (vx_isRefq hU'.1) (vx_isRefq hN'.1) hU'.2.word hN'.2.word
  have hown' : s'.vm.findClass own = some m.cls := by rw [hvm]; exact hown
  have hins : (Cond.instantiable cls 6).before args s' = true := h _ (by simp [Bundle.ownAtoms])
  obtain ⟨vm₁, cX, kX, hfX, hkX, -, -, X₁, st1⟩ := Y.newCold hexec (own := own) (C := cls) (index := ik) (n := 6) hown' hk' hins hini'
    (g := F0 m pc ls rest) rfl (by rw [hb]; exact d0) (Nat.le_refl _) (Nat.le_refl _)
  generalize hT1 : (T.setVm vm₁).pushCell { cls := cX, slots := kX.instanceTypes.map defaultValue, vm := .none } = T1 at X₁ st1
  have hcat : (Value.ref T.heap.size).category = 1 := rfl
  have hcellA : T1.heap[T.heap.size]? = some (freshCell cX kX) := by rw [← hT1]; exact State.heap_pushCell_size _ _
  have d3' : decode c.code (pc + 3) = .ok (.dup, 1) := by rw [hb]; exact d3
  have d4' : decode c.code (pc + 4) = .ok (.ldc is, 2) := by rw [hb]; exact d4
  have hstr' : vk_R own is text sa s' := vk_R.warm hW0 hstr
  obtain ⟨U, hsteps, hrun, hend, hW, hsame, ce, hce, hO⟩ := X₁.ctorThrowS hexec htr (own := own) (cls := cls) (names := names) (ic := ic) hown' hcls hnames h (fun x hx => nomatch hx) hfX hkX hcellA (by rw [hhp, hT]; exact Nat.le_refl _) (msg := .ref sa) rfl
    (g := { method := m, pc := pc + 6, locals := ls, stack := .ref sa :: .ref T.heap.size :: .ref T.heap.size :: rest, locked := none }) rfl hsize rfl rfl (rest := rest) rfl
    (by rw [hb]; exact d6) (by rw [hb]; exact d9) hout hRframes (by simp only [List.map_cons, List.sum_cons, hcat]; omega) hlocks
  obtain ⟨f1, f2⟩ := vx_frame hsame
  rw [hhp] at f1 f2
  have hWs : s.WarmedH U.vm := State.WarmedH.trans hW0 hW
  have hcl : s.vm.findClass cls = some ce.cls := by
    have h9 := hO.cls
    rw [hvm] at h9
    exact h9
  have hall : s.sameButNew ({ U with vm := s.vm } : State) locs mc ms := by
    subst hA
    obtain ⟨e1, e2⟩ := hsame
    rw [State.setFrames_setFrames] at e1
    have h2 : (T.setVm s.vm).sameButNew ({ U with vm := s.vm } : State) [] (0 + 1) (0 + 6) := ⟨e1, e2⟩
    have h3 := X.same.trans h2
    rw [List.append_nil] at h3
    exact h3.mono hc hs
  refine ⟨U, ?_, .threw T.heap.size, hrun, hend, Or.inr ⟨T.heap.size, rfl, cls, ce, locs, hx U hWs.alike f1 (fun q hq => f2 q hq (fun z hz => nomatch hz)), hce, hO.vm, hcl, hWs, hall, hf⟩⟩
  refine st1 _ ?_
  show Steps p.tables e below (T1.setTop { method := m, pc := pc + 3, locals := ls, stack := .ref T.heap.size :: rest, locked := none }) _
  jvm_step X₁.here [X₁.here.top, hexec, d3', Value.category]
  exact X₁.ldcString hexec (own := own) (text := text) (index := is) (a := sa) hown' hstr'.1 hstr'.2
    (g := { method := m, pc := pc + 4, locals := ls, stack := .ref T.heap.size :: .ref T.heap.size :: rest, locked := none }) rfl d4' _ hsteps
/-- 'throw new E("text")', the text by a wide index -/
theorem vx_throwSW {cc : ByteArray} {pc : Nat} (hexec : p.tables.exec = Jvm.exec) (hb : c.code = cc) (hl : l.stackTraces = false) {own cls text : String} {names : List String} {ik is ic mc ms sa : Nat} {A : Nat → Prop}
    (hown : s.vm.findClass own = some m.cls) (hcls : Bundle.fit cls = true) (hnames : ∀ n ∈ names, Bundle.fit n = true)
    (hk : (Cond.classLink own ik cls).before args s = true) (hini : (Cond.initialized cls).before args s = true) (hstr : vk_R own is text sa s) (hat : ∀ w ∈ vx_atS own ic cls names, w.before args s = true)
    (hgood : ∀ w ∈ Cond.classLink own ik cls :: Cond.initialized cls :: vx_atS own ic cls names, vx_ot w = true)
    (hU : vx_Zq Bundle.tN "UNASSIGNED_STACK" Bundle.steD A s s.heap) (hN : vx_Zq Bundle.tN "SUPPRESSED_SENTINEL" Bundle.listD A s s.heap) (hS : va_S A s.heap H locs) (hsize : ls.size = c.maxLocals)
    (d0 : decode cc pc = .ok (.new ik, 3)) (d3 : decode cc (pc + 3) = .ok (.dup, 1)) (d4 : decode cc (pc + 4) = .ok (.ldc_w is, 3)) (d7 : decode cc (pc + 7) = .ok (.invokespecial ic, 3)) (d10 : decode cc (pc + 10) = .ok (.athrow, 1))
    (hout : ∀ x ∈ c.exceptionTable.toList, covers x (pc + 10) = false)
    (hRframes : names.length + 3 < R.frames) (hRlocals : (rest.map fun v => v.category).sum + (13 * (names.length + 1) + 43) ≤ R.locals) (hRcells : cells + 1 ≤ R.cells) (hRslots : slots + 6 ≤ R.slots) (hlocks : meth.locks = false)
    (hx : ∀ t : State, s.vm.Alike t.vm → H.size ≤ t.heap.size → (∀ q : Nat, q < H.size → t.heap[q]? = H[q]?) → XC cls s t)
    (hf : ∀ z ∈ locs, free z.base) (hc : cells + 1 ≤ mc) (hs : slots + 6 ≤ ms) :
    W p l e R s m args below meth c H locs cells slots (vx_MQ below Qc XC args s mc ms free) (F0 m pc ls rest) := by
  intro T hT X
  have htr : e.platform.stackTraces = false := (show e.platform.stackTraces = l.stackTraces by rw [X.admits.platform]).trans hl
  have Y := vx_rebase X (R' := { frames := R.frames, locals := R.locals, cells := 1, slots := 6 }) (Nat.le_refl _) (Nat.le_refl _) hRcells hRslots
  obtain ⟨s', hA⟩ : ∃ z, z = (T.setVm s.vm).setFrames (.invoking m args :: below) := ⟨_, rfl⟩
  rw [← hA] at Y
  have hvm : s'.vm = s.vm := by rw [hA]; rfl
  have hhp : s'.heap = H := by rw [hA]; exact hT
  have hW0 : s.WarmedH s'.vm := by rw [hvm]; exact State.WarmedH.refl s
  have hat' : ∀ w ∈ vx_atS own ic cls names, w.before args s' = true := fun w hw => vx_ot_at hW0 hvm.symm (hgood w (List.mem_cons_of_mem _ (List.mem_cons_of_mem _ hw))) (hat w hw)
  have hk' : (Cond.classLink own ik cls).before args s' = true := vx_ot_at hW0 hvm.symm (hgood _ List.mem_cons_self) hk
  have hini' : (Cond.initialized cls).before args s' = true := vx_ot_at hW0 hvm.symm (hgood _ (List.mem_cons_of_mem _ List.mem_cons_self)) hini
  have hU' : vx_Zq Bundle.tN "UNASSIGNED_STACK" Bundle.steD A s' s'.heap := by rw [hhp]; exact vx_Zq.moved hW0.alike (hU.kept hS.2.1)
  have hN' : vx_Zq Bundle.tN "SUPPRESSED_SENTINEL" Bundle.listD A s' s'.heap := by rw [hhp]; exact vx_Zq.moved hW0.alike (hN.kept hS.2.1)
  have h : ∀ w ∈ Bundle.ownAtoms own ic cls names, w.before args s' = true := vx_own hat' (vx_isRefq hU'.1) (vx_isRefq hN'.1) hU'.2.word hN'.2.word
  have hown' : s'.vm.findClass own = some m.cls := by rw [hvm]; exact hown
  have hins : (Cond.instantiable cls 6).before args s' = true := h _ (by simp [Bundle.ownAtoms])
  obtain ⟨vm₁, cX, kX, hfX, hkX, -, -, X₁, st1⟩ := Y.newCold hexec (own := own) (C := cls) (index := ik) (n := 6) hown' hk' hins hini'
    (g := F0 m pc ls rest) rfl (by rw [hb]; exact d0) (Nat.le_refl _) (Nat.le_refl _)
  generalize hT1 : (T.setVm vm₁).pushCell { cls := cX, slots := kX.instanceTypes.map defaultValue, vm := .none } = T1 at X₁ st1
  have hcat : (Value.ref T.heap.size).category = 1 := rfl
  have hcellA : T1.heap[T.heap.size]? = some (freshCell cX kX) := by rw [← hT1]; exact State.heap_pushCell_size _ _
  have d3' : decode c.code (pc + 3) = .ok (.dup, 1) := by rw [hb]; exact d3
  have d4' : decode c.code (pc + 4) = .ok (.ldc_w is, 3) := by rw [hb]; exact d4
  have hstr' : vk_R own is text sa s' := vk_R.warm hW0 hstr
  obtain ⟨U, hsteps, hrun, hend, hW, hsame, ce, hce, hO⟩ := X₁.ctorThrowS hexec htr (own := own) (cls := cls) (names := names) (ic := ic) hown' hcls hnames h (fun x hx => nomatch hx) hfX hkX hcellA (by rw [hhp, hT]; exact Nat.le_refl _) (msg := .ref sa) rfl
    (g := { method := m, pc := pc + 7, locals := ls, stack := .ref sa :: .ref T.heap.size :: .ref T.heap.size :: rest, locked := none }) rfl hsize rfl rfl (rest := rest) rfl
    (by rw [hb]; exact d7) (by rw [hb]; exact d10) hout hRframes (by simp only [List.map_cons, List.sum_cons, hcat]; omega) hlocks
  obtain ⟨f1, f2⟩ := vx_frame hsame
  rw [hhp] at f1 f2
  have hWs : s.WarmedH U.vm := State.WarmedH.trans hW0 hW
  have hcl : s.vm.findClass cls = some ce.cls := by
    have h9 := hO.cls
    rw [hvm] at h9
    exact h9
  have hall : s.sameButNew ({ U with vm := s.vm } : State) locs mc ms := by
    subst hA
    obtain ⟨e1, e2⟩ := hsame
    rw [State.setFrames_setFrames] at e1
    have h2 : (T.setVm s.vm).sameButNew ({ U with vm := s.vm } : State) [] (0 + 1) (0 + 6) := ⟨e1, e2⟩
    have h3 := X.same.trans h2
    rw [List.append_nil] at h3
    exact h3.mono hc hs
  refine ⟨U, ?_, .threw T.heap.size, hrun, hend, Or.inr ⟨T.heap.size, rfl, cls, ce, locs, hx U hWs.alike f1 (fun q hq => f2 q hq (fun z hz => nomatch hz)), hce, hO.vm, hcl, hWs, hall, hf⟩⟩
  refine st1 _ ?_
  show Steps p.tables e below (T1.setTop { method := m, pc := pc + 3, locals := ls, stack := .ref T.heap.size :: rest, locked := none }) _
  jvm_step X₁.here [X₁.here.top, hexec, d3', Value.category]
  exact X₁.ldcStringW hexec (own := own) (text := text) (index := is) (a := sa) hown' hstr'.1 hstr'.2
    (g := { method := m, pc := pc + 4, locals := ls, stack := .ref T.heap.size :: .ref T.heap.size :: rest, locked := none }) rfl d4' _ hsteps
end Ends
section Bodies
variable {l : Launch}
theorem vx_ofW {y : MethodName} {ws ws' : List Cond} {rm : Room} {Pc : Array Value → State → Prop} {Qc : Array Value → State → Outcome → State → Prop} {XC : String → State → State → Prop} {mc ms : Nat} {free : Addr → Prop} {cc : ByteArray} {maxL : Nat} {ret : Option FieldType}
    (hy : plainName y.cls = true) (hw : ws = Cond.code y cc maxL ret :: ws')
    (body : ∀ p e s m args below meth c s₁, BodyLoose p l y (headSpec ws rm) cc maxL ret e s m args below meth c s₁ → c.maxLocals = maxL → (∀ x ∈ c.exceptionTable.toList, False) → Pc args s →
      W p l e (headSpec ws rm).room s m args below meth c s.heap [] 0 0 (vx_MQ below Qc XC args s mc ms free) (entryFrame m args maxL)) : vx_Met l y ws rm Pc Qc XC mc ms free := by
  refine MetFree.of_bodyS (code := cc) (maxLocals := maxL) (ret := ret) hy ?_ ?_
  · intro args s m h hn
    obtain ⟨meth, c, h1, h2, h3, h4, h5, h6, -, -⟩ := Cond.code_spec hn (atoms_spec (ws := ws) h _ (by rw [hw]; exact List.mem_cons_self))
    exact ⟨meth, c, h1, h2, h3, h4, h5, h6⟩
  · intro p e s m args below meth c s₁ B hml hP _
    have hh0 : s₁.heap = s.heap := by rw [B.state]; rfl
    have ht : ∀ x ∈ c.exceptionTable.toList, False := by
      obtain ⟨meth9, c9, h1, h2, -, -, -, -, h7, -⟩ := Cond.code_spec B.named (atoms_spec (ws := ws) B.pre _ (by rw [hw]; exact List.mem_cons_self))
      cases Option.some.inj (h1.symm.trans B.method)
      cases Option.some.inj (h2.symm.trans (Stand.of_body B).code)
      intro x hx
      rw [Array.isEmpty_iff.mp h7] at hx
      cases hx
    obtain ⟨t, a1, o, b1, b2, b3⟩ := body p e s m args below meth c s₁ B hml ht hP s₁ hh0 (Stand.of_body B)
    exact ⟨t, o, a1, b1, b2, b3⟩
/-- the table of a body with handlers -/
theorem vx_table {p : Program} {x y : MethodName} {S : Spec} {cc bytes : ByteArray} {maxL maxL' : Nat} {ret ret' : Option FieldType} {e : Env} {s s₁ : State} {m : MethodId} {args : Array Value} {below : List Frame} {meth : Method} {c : Code} {hh : List (Nat × Nat × Nat × Nat)}
    (B : BodyLoose p l y S cc maxL ret e s m args below meth c s₁) (h : (Cond.codeWith y bytes maxL' ret' hh).before args s = true) : c.exceptionTable.toList = tableOf hh := by
  obtain ⟨m9, meth9, c9, hn9, h1, h2, -, -, h6, -⟩ := Cond.codeWith_spec h
  cases Option.some.inj (hn9.symm.trans B.named)
  cases Option.some.inj (h1.symm.trans B.method)
  cases Option.some.inj (h2.symm.trans (Stand.of_body B).code)
  rw [← h6, table_eq]
end Bodies
end VXA
/-! ===== END ===== -/
/-! ===== BEGIN a static call of a method with an exception table ===== -/
section VXS
variable {p : Program} {l : Launch} {e : Env} {R : Room} {s : State} {m : MethodId} {args : Array Value} {below : List Frame} {meth : Method} {c : Code} {T : State} {H : Heap} {locs : List Loc} {cells slots : Nat}
abbrev vx_CSW (R : Room) (s : State) (args : Array Value) (own : String) (index : Nat) (y : MethodName) (bytes : ByteArray) (maxL : Nat) (ret : Option FieldType) (hh : List (Nat × Nat × Nat × Nat)) (ws : List Cond) (rm : Room) (mc ms n : Nat) : Prop :=
  (rm.cells = mc ∧ rm.slots = ms ∧ rm.frames + 1 ≤ R.frames ∧ 8 + (maxL + 11) + rm.locals ≤ R.locals ∧ (∀ w ∈ ws, ∀ (a' : Array Value) (U : State), s.WarmedH U.vm → w.before a' U = true) ∧ Cond.codeWith y bytes maxL ret hh ∈ ws) ∧
  (Cond.codeWith y bytes maxL ret hh).before args s = true ∧ (Cond.initialized y.cls).before args s = true ∧ (y.cls ≠ "java/lang/invoke/MethodHandle" ∧ y.cls ≠ "java/lang/invoke/VarHandle") ∧
  (∀ sig, parseMethodDescriptor y.desc = some sig → n = sig.parameters.length) ∧ (Cond.methodLink own index y).before args s = true ∧ (Cond.static y).before args s = true
theorem vx_cwSW {own : String} {index maxL mc ms : Nat} {y : MethodName} {bytes : ByteArray} {ret : Option FieldType} {hh : List (Nat × Nat × Nat × Nat)} {Ts ws ws' : List Cond} {rm : Room} (n : Nat) (ht : ∀ w ∈ Ts, w.before args s = true) (hT : GoodIn Ts (va_wsS own index y ws)) (hw : ws = Cond.codeWith y bytes maxL ret hh :: ws') (hrc : rm.cells = mc) (hrs : rm.slots = ms)
    (hd : y.cls ≠ "java/lang/invoke/MethodHandle" ∧ y.cls ≠ "java/lang/invoke/VarHandle" ∧ (parseMethodDescriptor y.desc).map (fun d => d.parameters.length) = some n) (hR : rm.frames + 1 ≤ R.frames ∧ 8 + (maxL + 11) + rm.locals ≤ R.locals) :
    vx_CSW R s args own index y bytes maxL ret hh ws rm mc ms n := by
  have ok : ∀ w ∈ va_wsS own index y ws, w.before args s = true := fun w h => ht w (hT w h).1
  have hG : GoodIn Ts ws := fun w h => hT w (by unfold va_wsS; exact List.mem_append_right _ h)
  have hc : Cond.codeWith y bytes maxL ret hh ∈ ws := by rw [hw]; exact List.mem_cons_self
  refine ⟨⟨hrc, hrs, hR.1, hR.2, pay_in ht hG, hc⟩, ht _ (hG _ hc).1, ok _ (by simp [va_wsS]), ⟨hd.1, hd.2.1⟩, fun sig h => ?_, ok _ (by simp [va_wsS]), ok _ (by simp [va_wsS])⟩
  have h2 := hd.2.2
  rw [h] at h2
  exact (Option.some.inj h2).symm
theorem vx_callSW (X : Stand p l e R s m args below meth c T locs cells slots) (hexec : p.tables.exec = Jvm.exec) {own : String} {index : Nat} {y : MethodName} {bytes : ByteArray} {maxL : Nat} {ret : Option FieldType} {hh : List (Nat × Nat × Nat × Nat)}
    (hown : s.vm.findClass own = some m.cls) (hlink : (Cond.methodLink own index y).before args s = true) (hstat : (Cond.static y).before args s = true) (hinit : (Cond.initialized y.cls).before args s = true)
    (hcode : (Cond.codeWith y bytes maxL ret hh).before args s = true) (hy : y.cls ≠ "java/lang/invoke/MethodHandle" ∧ y.cls ≠ "java/lang/invoke/VarHandle")
    {W9 : Nat} {Pre : Pt → Array Value → Prop} {Post : Pt → Array Value → Option Value → Pt → Prop} (hK : Back l R p e below s args y 3 W9 Pre Post)
    {g : JFrame} (hg : g.method = m) (hsize : g.locals.size = c.maxLocals) {argsL rest : List Value} (hlen : ∀ sig, parseMethodDescriptor y.desc = some sig → argsL.length = sig.parameters.length)
    (hstack : g.stack = argsL.reverse ++ rest) (hW : 2 * g.monitorRoom + (rest.map fun v => v.category).sum ≤ W9) (hdg : decode c.code g.pc = .ok (.invokestatic index, 3))
    (hpre : ∀ vm₁, s.WarmedH vm₁ → Pre ⟨T.setVm vm₁, locs, cells, slots⟩ argsL.toArray) :
    ∃ (v : Option Value) (vm₁ : Vm) (B : Pt), s.WarmedH vm₁ ∧ Stand p l e R s m args below meth c B.U B.locs B.cells B.slots ∧ Post ⟨T.setVm vm₁, locs, cells, slots⟩ argsL.toArray v B ∧
      ∀ target, Steps p.tables e below (B.U.setTop { g with pc := g.pc + 3, stack := v.toList ++ rest }) target → Steps p.tables e below (T.setTop g) target := by
  obtain ⟨mk, methM, cM, hnamed, hmethM, -, -, -, -, -, -, hsigM⟩ := Cond.codeWith_spec hcode
  have hstatic : methM.isStatic = true := Cond.static_spec hnamed hmethM hstat
  obtain ⟨kP, hkP, -⟩ := className_of_methodNamed hnamed
  have hinitP : kP.init = .initialized := Cond.initialized_spec (findClass_of_methodNamed hnamed) hkP hinit
  obtain ⟨vm₁, X₁, hstep₁⟩ := X.invokestatic hexec hown hlink hnamed hmethM hstatic hkP hinitP hy (g := g) hg (argsL := argsL) (rest := rest) (hlen _ hsigM) hstack hdg
  obtain ⟨v, B, X', hpost, hsteps⟩ := hK m meth c ⟨T.setVm vm₁, locs, cells, slots⟩ { g with stack := rest } (.invokestatic index) mk argsL.toArray X₁ hg hsize hdg hW (X₁.named hnamed) (hpre vm₁ X₁.warmed)
  exact ⟨v, vm₁, B, X₁.warmed, X', hpost, fun target h => hstep₁ _ fun acts => by rw [doInvoke_state]; exact hsteps.trans h⟩
theorem vx_runSW {y : MethodName} {bytes cc : ByteArray} {maxL nL mc ms n index : Nat} {ret : Option FieldType} {hh : List (Nat × Nat × Nat × Nat)} {ws : List Cond} {rm : Room} {Pc : Array Value → State → Prop} {Qc : Array Value → State → Outcome → State → Prop} {free : Addr → Prop} {Ts : List Cond} {own : String} {As rest : List Value} {g : JFrame}
    (S : CallFix p m c cc nL s args Ts own) (hM : Met l y ws rm Pc Qc mc ms free) (cw : vx_CSW R s args own index y bytes maxL ret hh ws rm mc ms n) (hp : PreS s H Pc As)
    (hg : g.method = m) (hn : As.length = n) (hsize : g.locals.size = nL) (hstack : g.stack = As.reverse ++ rest) (hW : 2 * g.monitorRoom + (rest.map fun v => v.category).sum ≤ 8) (hdg : decode cc g.pc = .ok (.invokestatic index, 3)) (hf : cells + mc ≤ R.cells ∧ slots + ms ≤ R.slots) :
    va_Run p l e R s m args below meth c H locs cells slots mc ms g rest (Qc As.toArray) (free) := by
  obtain ⟨⟨hrc, hrs, hfr, hlo, hws, hcw⟩, hcode, hini, hy, hlen, hl, hstt⟩ := cw
  have hK : Back l R p e below s args y 3 8 (PreOf R mc ms Pc) (PostOf Qc mc ms free) := va_backW (hh := hh) (bytes := bytes) (maxL := maxL) (ret := ret) hM hp.1 hrc hrs hfr hlo hws hcw (fun a' U hW => word_at hW (Or.inl (by first | rfl | simp [Cond.onTables, Cond.keeps, Cond.steady])) hini)
  obtain ⟨hx, hb, hml, ho, -⟩ := S
  intro T hT X
  obtain ⟨v, vm₁, ⟨U', l2, c2, s2⟩, hW₁, X', ⟨g', mk, t, L, e1, e2, hq, h1, hL, h2, h3⟩, st⟩ := vx_callSW X hx (hh := hh) (bytes := bytes) (maxL := maxL) (ret := ret) ho hl hstt hini hcode hy hK hg (hsize.trans hml.symm) (argsL := As) (rest := rest) (fun sig h => hn.trans (hlen sig h)) hstack hW (by rw [hb]; exact hdg)
    (fun vm₁ hW₁ => ⟨hf.1, hf.2, hp.2 (T.setVm vm₁) hT hW₁⟩)
  dsimp only [Pt.U, Pt.locs, Pt.cells, Pt.slots] at X' e1 e2 h1 h2 h3 st
  subst h1; subst h2; subst h3
  exact ⟨v, (T.setVm vm₁).calling g' mk As.toArray, t, U', L, hT, X', hL, e1, e2, hq, st⟩
/-- not caught here, past rows that name other classes: it goes on to the caller -/
theorem vx_outP {p : Program} {l : Launch} {e : Env} {R : Room} {s : State} {m : MethodId} {args : Array Value} {below : List Frame} {meth : Method} {c : Code} {H : Heap} {locs : List Loc} {cells slots : Nat} {free : Addr → Prop} {ls : Array Slot} {rest : List Value} {Qc : Array Value → State → Outcome → State → Prop} {XC : String → State → State → Prop}
    {pc : Nat} {own E : String} {ce : Cell} {q : Addr} {mc ms : Nat} (hown : s.vm.findClass own = some m.cls) (hlocks : meth.locks = false)
    (hpass : ∀ z ∈ c.exceptionTable.toList, covers z pc = false ∨ (z.catchType ≠ 0 ∧ ∃ nm : String, (Cond.classLink own z.catchType nm).before args s = true ∧ va_Nc E nm s)) (hcell : H[q]? = some ce) (hv : ce.vm = .none) (hcl : s.vm.findClass E = some ce.cls)
    (hx : ∀ t : State, t.heap = H → s.vm.Alike t.vm → XC E s t) (hf : ∀ z ∈ locs, free z.base) (hc : cells ≤ mc) (hs : slots ≤ ms) :
    vx_W p l e R s m args below meth c H locs cells slots (vx_MQ below Qc XC args s mc ms free) (F0 m pc ls rest) q := by
  intro T hT X
  have hpl : e.platform.magicAccessors = ({} : Platform).magicAccessors := by rw [X.admits.platform]
  obtain ⟨vm', hW', X', st⟩ := X.outThrough hlocks q (g := F0 m pc ls rest) rfl rfl rfl (cell := ce) (by rw [hT]; exact hcell) (by rw [hv]; rfl)
    (by obtain ⟨k9, h9, -⟩ := Vm.findClass_spec hcl; exact ⟨k9, h9⟩) (fun z hz => by
      rcases hpass z hz with h | ⟨hz0, nm, hl1, hn1⟩
      · exact Or.inl h
      · obtain ⟨c6, hc6, hcl6⟩ := Cond.classLink_spec hown hl1 e.platform hpl
        obtain ⟨a8, b8, h1, h2, h3⟩ := hn1
        cases Option.some.inj (h1.symm.trans hcl)
        cases Option.some.inj (h2.symm.trans hc6)
        exact Or.inr ⟨hz0, _, hcl6, h3⟩)
  obtain ⟨g₀, hfr⟩ := X'.frames_eq
  have hcell9 : ((T.setVm vm').setFrames (.throwing q :: below)).heap[q]? = some ce := by
    show T.heap[q]? = some ce
    rw [hT]; exact hcell
  have hend : Ended ((T.setVm vm').setFrames (.throwing q :: below)) below (.threw q) := State.frames_setFrames _ (State.cur_lt_of_frames hfr)
  refine ⟨(T.setVm vm').setFrames (.throwing q :: below), ?_, .threw q, X'.here.running, hend, Or.inr ⟨q, rfl, E, ce, locs, hx _ hT (X'.ends _).1.alike, hcell9, hv, hcl, (X'.ends _).1, (X'.ends _).2.mono hc hs, hf⟩⟩
  rw [X.pushThrowing_eq]
  exact st
/-- a thing of a world lies in the heap -/
theorem vx_lt {D : va_G} {cl : List vw_C} {ws : va_W} {H1 : Heap} (h : va_P D cl ws H1) {k : Nat} {q : Nat × va_E} (hk : ws[k]? = some q) : q.1 < H1.size := (h k q hk).lt
end VXS
/-! ===== END ===== -/
/-! ===== BEGIN methods with a table of their own: called by a name, returning or throwing ===== -/
section VXH
/-! vx_backW, vx_callVX, vx_callSX, vx_callVW, vx_runVW, vx_runVX, vx_runSX, vx_ofWH follow the same proofs as their sisters above (Free/Laws.lean, Shelf42/LK1.lean); vx_outP calls Shelf42/NT130.lean (outThrough). -/
section
variable {l : Launch} {R : Room} {p : Program} {e : Env} {below : List Frame} {s : State} {sargs : Array Value} {y : MethodName} {len W9 : Nat}
theorem vx_backW {ws : List Cond} {rm : Room} {Pc : Array Value → State → Prop} {Qc : Array Value → State → Outcome → State → Prop} {XC : String → State → State → Prop} {mc ms : Nat} {free : Addr → Prop} {bytes : ByteArray} {maxL : Nat} {ret : Option FieldType} {hh : List (Nat × Nat × Nat × Nat)}
    (hM : vx_Met l y ws rm Pc Qc XC mc ms free) (hblind : FrameBlind Pc) (hrc : rm.cells = mc) (hrs : rm.slots = ms)
    (hframes : rm.frames + 1 ≤ R.frames) (hlocals : W9 + (maxL + 11) + rm.locals ≤ R.locals)
    (hws : ∀ w ∈ ws, ∀ a' U, s.WarmedH U.vm → w.before a' U = true) (hcode : Cond.codeWith y bytes maxL ret hh ∈ ws) (hinit : ∀ a' U, s.WarmedH U.vm → (Cond.initialized y.cls).before a' U = true) :
    vx_Back l R p e below s sargs y len W9 (PreOf R mc ms Pc) (PostOf Qc mc ms free) (vx_Post XC mc ms free) := by
  intro m meth c A g ig mk a X hg hsize hdg hW hn hp
  have h1 : (headSpec ws rm).pre.before a A.U = true := atoms_intro fun w hw => hws w hw _ _ X.warmed
  have h2 : (Cond.codeWith y bytes maxL ret hh).before a A.U = true := hws _ hcode _ _ X.warmed
  have h3 : (Cond.initialized y.cls).before a A.U = true := hinit _ _ X.warmed
  have h4 : A.cells + (headSpec ws rm).room.cells ≤ R.cells := by rw [show (headSpec ws rm).room.cells = mc from hrc]; exact hp.1
  have h5 : A.slots + (headSpec ws rm).room.slots ≤ R.slots := by rw [show (headSpec ws rm).room.slots = ms from hrs]; exact hp.2.1
  have hPc : Pc a (A.U.calling g mk a) := hblind _ _ _ _ hp.2.2
  obtain ⟨U, Ls, c0, s0⟩ := A
  dsimp only [Pt.U, Pt.locs, Pt.cells, Pt.slots] at h1 h2 h3 h4 h5 X hn hPc ⊢
  obtain ⟨m9, methY, cY, hn9, hmY, hcY, -, hlY, -⟩ := Cond.codeWith_spec h2
  cases Option.some.inj (hn9.symm.trans hn)
  obtain ⟨kY, hkY, -⟩ := className_of_methodNamed hn
  have hinitY : kY.init = .initialized := Cond.initialized_spec (findClass_of_methodNamed hn) hkY h3
  have h : At U g.method c below := by rw [hg]; exact X.here
  have hlocals9 : W9 + (maxL + 11) + (headSpec ws rm).room.locals ≤ R.locals := hlocals
  have happ : (headSpec ws rm).appliesLoose y e.platform (U.calling g mk a) = true :=
    Spec.appliesLoose_calling (g := g) h hdg hn hkY hinitY
      (X.room_calling (g := g) (R' := (headSpec ws rm).room) hsize hmY hcY hframes (by rw [hlY]; omega) h4 h5) h1
  obtain ⟨mid, hmid⟩ := h.above
  have hfr : (U.setTop g).frames = (.java g :: mid) ++ below := by rw [State.frames_setTop' g h.top, hmid]; rfl
  obtain ⟨o, s₂, hsteps, -, hend, hq⟩ := Steps.callFree hM p X.admits X.cas X.clock (acts := []) hfr happ hPc trivial
  have hq' : vx_Q Qc XC mc ms free a (U.calling g mk a) o s₂ := hq
  rw [State.frames_setTop' g h.top] at hend
  obtain ⟨g₀, hg0⟩ := Option.isSome_iff_exists.mp h.top
  obtain ⟨r, hr⟩ := State.topJava?_eq_some.mp hg0
  have hr' : (({ U with heap := s₂.heap, slotsUsed := s₂.slotsUsed } : State).setVm s₂.vm).frames = .java g₀ :: r := hr
  rcases hq' with ⟨hqc, L, hfe, hL⟩ | ⟨q, rfl, E, ce, L, hx, hce, hcv, hcl, hW₂, hsm, hL⟩
  · obtain ⟨⟨v, rfl⟩, hW₂, e2, q2, q3, q4, q5, q6⟩ := id hfe
    have e3 : s₂ = ({ (U.calling g mk a).setFrames s₂.frames with heap := s₂.heap, slotsUsed := s₂.slotsUsed } : State).setVm s₂.vm := by
      have : s₂ = ({ s₂ with vm := (U.calling g mk a).vm } : State).setVm s₂.vm := rfl
      rw [e2] at this
      exact this
    obtain ⟨c₂, i₂, len₂, hc₂, hd₂, hf₂⟩ := hend
    have hW' : U.WarmedH s₂.vm := hW₂
    have hcc : c₂ = c := by
      have h1 : s₂.code? g.method = U.code? g.method := by
        rw [State.code?_eq, State.code?_eq, hW'.alike.method?]
      exact Option.some.inj (hc₂.symm.trans (h1.trans h.code))
    subst hcc
    have hlen : len₂ = len := by rw [hdg] at hd₂; cases hd₂; rfl
    subst hlen
    have hs₂ : s₂ = (({ U with heap := s₂.heap, slotsUsed := s₂.slotsUsed } : State).setVm s₂.vm).setTop { g with pc := g.pc + len₂, stack := v.toList ++ g.stack } := by
      refine e3.trans ?_
      rw [hf₂, State.calling_eq h.top, State.setFrames_setFrames, State.setTop_of_frames _ hr', hr]
      rfl
    have hsame : U.sameButNew ({ U with heap := s₂.heap, slotsUsed := s₂.slotsUsed } : State) L mc ms := by
      refine ⟨?_, q2, q3, q4, q5, q6⟩
      obtain ⟨t, ht, -⟩ := State.frames_cons hr
      show ({ U with heap := s₂.heap, slotsUsed := s₂.slotsUsed } : State) = { U.setFrames U.frames with heap := s₂.heap, slotsUsed := s₂.slotsUsed }
      rw [State.setFrames_self ht]
    subst hg
    refine Or.inl ⟨v, ⟨(({ U with heap := s₂.heap, slotsUsed := s₂.slotsUsed } : State).setVm s₂.vm), Ls ++ L, c0 + mc, s0 + ms⟩,
      ⟨X.admits, X.cas, X.clock, X.frames, X.room, X.hears, X.method, X.code, (X.here.setHeapUsed s₂.heap s₂.slotsUsed).setVm hW'.alike, X.tail, State.WarmedH.trans X.warmed hW', X.limits, X.bytes, X.same.trans (hsame.setVm s.vm)⟩,
      ⟨g, mk, s₂, L, rfl, rfl, hqc, rfl, hL, rfl, rfl⟩, ?_⟩
    show Steps p.tables e below _ ((({ U with heap := s₂.heap, slotsUsed := s₂.slotsUsed } : State).setVm s₂.vm).setTop { g with pc := g.pc + len₂, stack := v.toList ++ g.stack })
    rw [← hs₂]
    exact hsteps
  · obtain ⟨e2, q2, q3, q4, q5, q6⟩ := id hsm
    have e3 : s₂ = ({ (U.calling g mk a).setFrames s₂.frames with heap := s₂.heap, slotsUsed := s₂.slotsUsed } : State).setVm s₂.vm := by
      have : s₂ = ({ s₂ with vm := (U.calling g mk a).vm } : State).setVm s₂.vm := rfl
      rw [e2] at this
      exact this
    have hf₂ : s₂.frames = .throwing q :: .java g :: U.frames.tail := hend
    have hW' : U.WarmedH s₂.vm := hW₂
    have hs₂ : s₂ = ((({ U with heap := s₂.heap, slotsUsed := s₂.slotsUsed } : State).setVm s₂.vm).setTop g).pushFrame (.throwing q) := by
      refine e3.trans ?_
      rw [hf₂, State.calling_eq h.top, State.setFrames_setFrames, State.pushFrame, State.frames_setTop _ hr', State.setTop_of_frames _ hr', State.setFrames_setFrames, hr]
      rfl
    have hsame : U.sameButNew ({ U with heap := s₂.heap, slotsUsed := s₂.slotsUsed } : State) L mc ms := by
      refine ⟨?_, q2, q3, q4, q5, q6⟩
      obtain ⟨t, ht, -⟩ := State.frames_cons hr
      show ({ U with heap := s₂.heap, slotsUsed := s₂.slotsUsed } : State) = { U.setFrames U.frames with heap := s₂.heap, slotsUsed := s₂.slotsUsed }
      rw [State.setFrames_self ht]
    subst hg
    refine Or.inr ⟨q, ⟨(({ U with heap := s₂.heap, slotsUsed := s₂.slotsUsed } : State).setVm s₂.vm), Ls ++ L, c0 + mc, s0 + ms⟩,
      ⟨X.admits, X.cas, X.clock, X.frames, X.room, X.hears, X.method, X.code, (X.here.setHeapUsed s₂.heap s₂.slotsUsed).setVm hW'.alike, X.tail, State.WarmedH.trans X.warmed hW', X.limits, X.bytes, X.same.trans (hsame.setVm s.vm)⟩,
      ⟨g, mk, s₂, L, E, ce, rfl, rfl, hx, hce, hcv, hcl, rfl, hL, rfl, rfl⟩, ?_⟩
    show Steps p.tables e below _ (((({ U with heap := s₂.heap, slotsUsed := s₂.slotsUsed } : State).setVm s₂.vm).setTop g).pushFrame (.throwing q))
    rw [← hs₂]
    exact hsteps
end
variable {p : Program} {l : Launch} {e : Env} {R : Room} {s : State} {m : MethodId} {args : Array Value} {below : List Frame} {meth : Method} {c : Code} {T : State} {H : Heap} {locs : List Loc} {cells slots : Nat}
theorem vx_callVX (X : Stand p l e R s m args below meth c T locs cells slots) (hexec : p.tables.exec = Jvm.exec) {own C : String} {index : Nat} {y : MethodName} {bytes : ByteArray} {maxL : Nat} {ret : Option FieldType} {hh : List (Nat × Nat × Nat × Nat)}
    (hown : s.vm.findClass own = some m.cls) (hlink : (Cond.methodLink own index y).before args s = true) (hinst : (Cond.instanceMethod y).before args s = true) (hsel : (Cond.selects C y y).before args s = true)
    (hcode : (Cond.codeWith y bytes maxL ret hh).before args s = true) (hy : y.cls ≠ "java/lang/invoke/MethodHandle" ∧ y.cls ≠ "java/lang/invoke/VarHandle")
    {W9 : Nat} {Pre : Pt → Array Value → Prop} {Post : Pt → Array Value → Option Value → Pt → Prop} {PostX : Pt → Array Value → Addr → Pt → Prop} (hK : vx_Back l R p e below s args y 3 W9 Pre Post PostX)
    {b : Addr} {cellB : Cell} (hcell : T.heap[b]? = some cellB) (hobj : cellB.vm.isStatics = false) (hcls : s.vm.findClass C = some cellB.cls)
    {g : JFrame} (hg : g.method = m) (hsize : g.locals.size = c.maxLocals) {argsL rest : List Value} (hlen : ∀ sig, parseMethodDescriptor y.desc = some sig → argsL.length = sig.parameters.length)
    (hstack : g.stack = argsL.reverse ++ .ref b :: rest) (hW : 2 * g.monitorRoom + (rest.map fun v => v.category).sum ≤ W9) (hdg : decode c.code g.pc = .ok (.invokevirtual index, 3))
    (hpre : ∀ vm₁, s.WarmedH vm₁ → Pre ⟨T.setVm vm₁, locs, cells, slots⟩ (Value.ref b :: argsL).toArray) :
    (∃ (v : Option Value) (vm₁ : Vm) (B : Pt), s.WarmedH vm₁ ∧ Stand p l e R s m args below meth c B.U B.locs B.cells B.slots ∧ Post ⟨T.setVm vm₁, locs, cells, slots⟩ (Value.ref b :: argsL).toArray v B ∧
      ∀ target, Steps p.tables e below (B.U.setTop { g with pc := g.pc + 3, stack := v.toList ++ rest }) target → Steps p.tables e below (T.setTop g) target) ∨
    (∃ (q : Addr) (vm₁ : Vm) (B : Pt), s.WarmedH vm₁ ∧ Stand p l e R s m args below meth c B.U B.locs B.cells B.slots ∧ PostX ⟨T.setVm vm₁, locs, cells, slots⟩ (Value.ref b :: argsL).toArray q B ∧
      Steps p.tables e below (T.setTop g) ((B.U.setTop { g with stack := rest }).pushFrame (.throwing q))) := by
  obtain ⟨mk, methM, hnamed, hmethM, hstM, habM⟩ := Cond.instanceMethod_spec hinst
  obtain ⟨m8, methM', cM, hn8, hmethM', -, -, -, -, -, -, hsigM⟩ := Cond.codeWith_spec hcode
  cases Option.some.inj (hn8.symm.trans hnamed)
  cases hmethM.symm.trans hmethM'
  obtain ⟨c2, r2, m2, q1, q2, q3, q4, kP, hkP, hkPi⟩ := Cond.selects_spec hsel
  cases hcls.symm.trans q1
  cases (State.methodFound?_of_named hnamed hy).symm.trans q2
  cases hnamed.symm.trans q3
  have hselP : selectMethod e.platform s.vm cellB.cls mk = .method mk := by rw [Launch.admits_selectMethod X.admits]; exact q4
  obtain ⟨vm₁, X₁, hstep₁⟩ := X.invokevirtual hexec hown hlink hnamed hmethM hstM hkP hkPi hy (a := b) (cell := cellB) hcell
    (fun z h => by rw [h] at hobj; cases hobj) hselP hmethM habM hkP hkPi (g := g) hg (argsL := argsL) (rest := rest) (hlen _ hsigM) hstack hdg
  rcases hK m meth c ⟨T.setVm vm₁, locs, cells, slots⟩ { g with stack := rest } (.invokevirtual index) mk (Value.ref b :: argsL).toArray X₁ hg hsize hdg hW (X₁.named hnamed) (hpre vm₁ X₁.warmed) with ⟨v, B, X', hpost, hsteps⟩ | ⟨q, B, X', hpost, hsteps⟩
  · exact Or.inl ⟨v, vm₁, B, X₁.warmed, X', hpost, fun target h => hstep₁ _ fun acts => by rw [doInvoke_state]; exact hsteps.trans h⟩
  · exact Or.inr ⟨q, vm₁, B, X₁.warmed, X', hpost, hstep₁ _ fun acts => by rw [doInvoke_state]; exact hsteps⟩
theorem vx_callSX (X : Stand p l e R s m args below meth c T locs cells slots) (hexec : p.tables.exec = Jvm.exec) {own : String} {index : Nat} {y : MethodName} {bytes : ByteArray} {maxL : Nat} {ret : Option FieldType} {hh : List (Nat × Nat × Nat × Nat)}
    (hown : s.vm.findClass own = some m.cls) (hlink : (Cond.methodLink own index y).before args s = true) (hstat : (Cond.static y).before args s = true) (hinit : (Cond.initialized y.cls).before args s = true)
    (hcode : (Cond.codeWith y bytes maxL ret hh).before args s = true) (hy : y.cls ≠ "java/lang/invoke/MethodHandle" ∧ y.cls ≠ "java/lang/invoke/VarHandle")
    {W9 : Nat} {Pre : Pt → Array Value → Prop} {Post : Pt → Array Value → Option Value → Pt → Prop} {PostX : Pt → Array Value → Addr → Pt → Prop} (hK : vx_Back l R p e below s args y 3 W9 Pre Post PostX)
    {g : JFrame} (hg : g.method = m) (hsize : g.locals.size = c.maxLocals) {argsL rest : List Value} (hlen : ∀ sig, parseMethodDescriptor y.desc = some sig → argsL.length = sig.parameters.length)
    (hstack : g.stack = argsL.reverse ++ rest) (hW : 2 * g.monitorRoom + (rest.map fun v => v.category).sum ≤ W9) (hdg : decode c.code g.pc = .ok (.invokestatic index, 3))
    (hpre : ∀ vm₁, s.WarmedH vm₁ → Pre ⟨T.setVm vm₁, locs, cells, slots⟩ argsL.toArray) :
    (∃ (v : Option Value) (vm₁ : Vm) (B : Pt), s.WarmedH vm₁ ∧ Stand p l e R s m args below meth c B.U B.locs B.cells B.slots ∧ Post ⟨T.setVm vm₁, locs, cells, slots⟩ argsL.toArray v B ∧
      ∀ target, Steps p.tables e below (B.U.setTop { g with pc := g.pc + 3, stack := v.toList ++ rest }) target → Steps p.tables e below (T.setTop g) target) ∨
    (∃ (q : Addr) (vm₁ : Vm) (B : Pt), s.WarmedH vm₁ ∧ Stand p l e R s m args below meth c B.U B.locs B.cells B.slots ∧ PostX ⟨T.setVm vm₁, locs, cells, slots⟩ argsL.toArray q B ∧
      Steps p.tables e below (T.setTop g) ((B.U.setTop { g with stack := rest }).pushFrame (.throwing q))) := by
  obtain ⟨mk, methM, cM, hnamed, hmethM, -, -, -, -, -, -, hsigM⟩ := Cond.codeWith_spec hcode
  have hstatic : methM.isStatic = true := Cond.static_spec hnamed hmethM hstat
  obtain ⟨kP, hkP, -⟩ := className_of_methodNamed hnamed
  have hinitP : kP.init = .initialized := Cond.initialized_spec (findClass_of_methodNamed hnamed) hkP hinit
  obtain ⟨vm₁, X₁, hstep₁⟩ := X.invokestatic hexec hown hlink hnamed hmethM hstatic hkP hinitP hy (g := g) hg (argsL := argsL) (rest := rest) (hlen _ hsigM) hstack hdg
  rcases hK m meth c ⟨T.setVm vm₁, locs, cells, slots⟩ { g with stack := rest } (.invokestatic index) mk argsL.toArray X₁ hg hsize hdg hW (X₁.named hnamed) (hpre vm₁ X₁.warmed) with ⟨v, B, X', hpost, hsteps⟩ | ⟨q, B, X', hpost, hsteps⟩
  · exact Or.inl ⟨v, vm₁, B, X₁.warmed, X', hpost, fun target h => hstep₁ _ fun acts => by rw [doInvoke_state]; exact hsteps.trans h⟩
  · exact Or.inr ⟨q, vm₁, B, X₁.warmed, X', hpost, hstep₁ _ fun acts => by rw [doInvoke_state]; exact hsteps⟩
theorem vx_callVW (X : Stand p l e R s m args below meth c T locs cells slots) (hexec : p.tables.exec = Jvm.exec) {own C : String} {index : Nat} {y : MethodName} {bytes : ByteArray} {maxL : Nat} {ret : Option FieldType} {hh : List (Nat × Nat × Nat × Nat)}
    (hown : s.vm.findClass own = some m.cls) (hlink : (Cond.methodLink own index y).before args s = true) (hinst : (Cond.instanceMethod y).before args s = true) (hsel : (Cond.selects C y y).before args s = true)
    (hcode : (Cond.codeWith y bytes maxL ret hh).before args s = true) (hy : y.cls ≠ "java/lang/invoke/MethodHandle" ∧ y.cls ≠ "java/lang/invoke/VarHandle")
    {W9 : Nat} {Pre : Pt → Array Value → Prop} {Post : Pt → Array Value → Option Value → Pt → Prop} (hK : Back l R p e below s args y 3 W9 Pre Post)
    {b : Addr} {cellB : Cell} (hcell : T.heap[b]? = some cellB) (hobj : cellB.vm.isStatics = false) (hcls : s.vm.findClass C = some cellB.cls)
    {g : JFrame} (hg : g.method = m) (hsize : g.locals.size = c.maxLocals) {argsL rest : List Value} (hlen : ∀ sig, parseMethodDescriptor y.desc = some sig → argsL.length = sig.parameters.length)
    (hstack : g.stack = argsL.reverse ++ .ref b :: rest) (hW : 2 * g.monitorRoom + (rest.map fun v => v.category).sum ≤ W9) (hdg : decode c.code g.pc = .ok (.invokevirtual index, 3))
    (hpre : ∀ vm₁, s.WarmedH vm₁ → Pre ⟨T.setVm vm₁, locs, cells, slots⟩ (Value.ref b :: argsL).toArray) :
    ∃ (v : Option Value) (vm₁ : Vm) (B : Pt), s.WarmedH vm₁ ∧ Stand p l e R s m args below meth c B.U B.locs B.cells B.slots ∧ Post ⟨T.setVm vm₁, locs, cells, slots⟩ (Value.ref b :: argsL).toArray v B ∧
      ∀ target, Steps p.tables e below (B.U.setTop { g with pc := g.pc + 3, stack := v.toList ++ rest }) target → Steps p.tables e below (T.setTop g) target := by
  obtain ⟨mk, methM, hnamed, hmethM, hstM, habM⟩ := Cond.instanceMethod_spec hinst
  obtain ⟨m8, methM', cM, hn8, hmethM', -, -, -, -, -, -, hsigM⟩ := Cond.codeWith_spec hcode
  cases Option.some.inj (hn8.symm.trans hnamed)
  cases hmethM.symm.trans hmethM'
  obtain ⟨c2, r2, m2, q1, q2, q3, q4, kP, hkP, hkPi⟩ := Cond.selects_spec hsel
  cases hcls.symm.trans q1
  cases (State.methodFound?_of_named hnamed hy).symm.trans q2
  cases hnamed.symm.trans q3
  have hselP : selectMethod e.platform s.vm cellB.cls mk = .method mk := by rw [Launch.admits_selectMethod X.admits]; exact q4
  obtain ⟨vm₁, X₁, hstep₁⟩ := X.invokevirtual hexec hown hlink hnamed hmethM hstM hkP hkPi hy (a := b) (cell := cellB) hcell
    (fun z h => by rw [h] at hobj; cases hobj) hselP hmethM habM hkP hkPi (g := g) hg (argsL := argsL) (rest := rest) (hlen _ hsigM) hstack hdg
  obtain ⟨v, B, X', hpost, hsteps⟩ := hK m meth c ⟨T.setVm vm₁, locs, cells, slots⟩ { g with stack := rest } (.invokevirtual index) mk (Value.ref b :: argsL).toArray X₁ hg hsize hdg hW (X₁.named hnamed) (hpre vm₁ X₁.warmed)
  exact ⟨v, vm₁, B, X₁.warmed, X', hpost, fun target h => hstep₁ _ fun acts => by rw [doInvoke_state]; exact hsteps.trans h⟩
abbrev vx_CVW (R : Room) (s : State) (args : Array Value) (own C : String) (index : Nat) (y : MethodName) (bytes : ByteArray) (maxL : Nat) (ret : Option FieldType) (hh : List (Nat × Nat × Nat × Nat)) (ws : List Cond) (rm : Room) (mc ms n : Nat) : Prop :=
  (rm.cells = mc ∧ rm.slots = ms ∧ rm.frames + 1 ≤ R.frames ∧ 8 + (maxL + 11) + rm.locals ≤ R.locals ∧ (∀ w ∈ ws, ∀ (a' : Array Value) (U : State), s.WarmedH U.vm → w.before a' U = true) ∧ Cond.codeWith y bytes maxL ret hh ∈ ws) ∧
  (Cond.codeWith y bytes maxL ret hh).before args s = true ∧ (Cond.initialized y.cls).before args s = true ∧ (y.cls ≠ "java/lang/invoke/MethodHandle" ∧ y.cls ≠ "java/lang/invoke/VarHandle") ∧
  (∀ sig, parseMethodDescriptor y.desc = some sig → n = sig.parameters.length) ∧ (Cond.methodLink own index y).before args s = true ∧ (Cond.instanceMethod y).before args s = true ∧ (Cond.selects C y y).before args s = true
theorem vx_cwVW {own C : String} {index maxL mc ms : Nat} {y : MethodName} {bytes : ByteArray} {ret : Option FieldType} {hh : List (Nat × Nat × Nat × Nat)} {Ts ws ws' : List Cond} {rm : Room} (n : Nat) (ht : ∀ w ∈ Ts, w.before args s = true) (hT : GoodIn Ts (wsV own index C y ws)) (hw : ws = Cond.codeWith y bytes maxL ret hh :: ws') (hrc : rm.cells = mc) (hrs : rm.slots = ms)
    (hd : y.cls = C ∧ y.cls ≠ "java/lang/invoke/MethodHandle" ∧ y.cls ≠ "java/lang/invoke/VarHandle" ∧ (parseMethodDescriptor y.desc).map (fun d => d.parameters.length) = some n) (hR : rm.frames + 1 ≤ R.frames ∧ 8 + (maxL + 11) + rm.locals ≤ R.locals) :
    vx_CVW R s args own C index y bytes maxL ret hh ws rm mc ms n := by
  obtain ⟨hC, hd⟩ := hd
  subst hC
  have ok : ∀ w ∈ wsV own index y.cls y ws, w.before args s = true := fun w h => ht w (hT w h).1
  have hG : GoodIn Ts ws := fun w h => hT w (by unfold wsV; exact List.mem_append_right _ h)
  have hc : Cond.codeWith y bytes maxL ret hh ∈ ws := by rw [hw]; exact List.mem_cons_self
  refine ⟨⟨hrc, hrs, hR.1, hR.2, pay_in ht hG, hc⟩, ht _ (hG _ hc).1, ok _ (by simp [wsV]), ⟨hd.1, hd.2.1⟩, fun sig h => ?_, ok _ (by simp [wsV]), ok _ (by simp [wsV]), ok _ (by simp [wsV])⟩
  have h2 := hd.2.2
  rw [h] at h2
  exact (Option.some.inj h2).symm
theorem vx_runVW {y : MethodName} {bytes cc : ByteArray} {maxL nL mc ms n index : Nat} {ret : Option FieldType} {hh : List (Nat × Nat × Nat × Nat)} {ws : List Cond} {rm : Room} {Pc : Array Value → State → Prop} {Qc : Array Value → State → Outcome → State → Prop} {free : Addr → Prop} {Ts : List Cond} {own C : String} {b : Addr} {As rest : List Value} {g : JFrame}
    (S : CallFix p m c cc nL s args Ts own) (hM : Met l y ws rm Pc Qc mc ms free) (cw : vx_CVW R s args own C index y bytes maxL ret hh ws rm mc ms n) (hp : PreV s H C b Pc As)
    (hg : g.method = m) (hn : As.length = n) (hsize : g.locals.size = nL) (hstack : g.stack = As.reverse ++ .ref b :: rest) (hW : 2 * g.monitorRoom + (rest.map fun v => v.category).sum ≤ 8) (hdg : decode cc g.pc = .ok (.invokevirtual index, 3)) (hf : cells + mc ≤ R.cells ∧ slots + ms ≤ R.slots) :
    va_Run p l e R s m args below meth c H locs cells slots mc ms g rest (Qc (Value.ref b :: As).toArray) free := by
  obtain ⟨⟨hrc, hrs, hfr, hlo, hws, hcw⟩, hcode, hini, hy, hlen, hl, hin, hse⟩ := cw
  have hK : Back l R p e below s args y 3 8 (PreOf R mc ms Pc) (PostOf Qc mc ms free) := va_backW (hh := hh) (bytes := bytes) (maxL := maxL) (ret := ret) hM hp.1 hrc hrs hfr hlo hws hcw (fun a' U hW => word_at hW (Or.inl (by first | rfl | simp [Cond.onTables, Cond.keeps, Cond.steady])) hini)
  obtain ⟨hx, hb, hml, ho, -⟩ := S
  obtain ⟨-, ⟨cellB, hcB, hoB, hclB⟩, hPc⟩ := hp
  intro T hT X
  obtain ⟨v, vm₁, ⟨U', l2, c2, s2⟩, hW₁, X', ⟨g', mk, t, L, e1, e2, hq, h1, hL, h2, h3⟩, st⟩ := vx_callVW X hx (C := C) (hh := hh) (bytes := bytes) (maxL := maxL) (ret := ret) ho hl hin hse hcode hy hK (by rw [hT]; exact hcB) hoB hclB hg (hsize.trans hml.symm) (argsL := As) (rest := rest) (fun sig h => hn.trans (hlen sig h)) hstack hW (by rw [hb]; exact hdg)
    (fun vm₁ hW₁ => ⟨hf.1, hf.2, hPc (T.setVm vm₁) hT hW₁⟩)
  dsimp only [Pt.U, Pt.locs, Pt.cells, Pt.slots] at X' e1 e2 h1 h2 h3 st
  subst h1; subst h2; subst h3
  exact ⟨v, (T.setVm vm₁).calling g' mk (Value.ref b :: As).toArray, t, U', L, hT, X', hL, e1, e2, hq, st⟩
section
variable {y : MethodName} {bytes cc : ByteArray} {maxL nL mc ms n index : Nat} {ret : Option FieldType} {ws : List Cond} {rm : Room} {Pc : Array Value → State → Prop} {Qc : Array Value → State → Outcome → State → Prop} {XC : String → State → State → Prop} {free : Addr → Prop} {Ts : List Cond} {own C : String} {b : Addr} {As rest : List Value} {g : JFrame}
theorem vx_runVX {hh : List (Nat × Nat × Nat × Nat)} (S : CallFix p m c cc nL s args Ts own) (hM : vx_Met l y ws rm Pc Qc XC mc ms free) (cw : vx_CVW R s args own C index y bytes maxL ret hh ws rm mc ms n) (hp : PreV s H C b Pc As)
    (hg : g.method = m) (hn : As.length = n) (hsize : g.locals.size = nL) (hstack : g.stack = As.reverse ++ .ref b :: rest) (hW : 2 * g.monitorRoom + (rest.map fun v => v.category).sum ≤ 8) (hdg : decode cc g.pc = .ok (.invokevirtual index, 3)) (hf : cells + mc ≤ R.cells ∧ slots + ms ≤ R.slots) :
    vx_Run p l e R s m args below meth c H locs cells slots mc ms g rest (Qc (Value.ref b :: As).toArray) XC free := by
  obtain ⟨⟨hrc, hrs, hfr, hlo, hws, hcw⟩, hcode, hini, hy, hlen, hl, hin, hse⟩ := cw
  have hK : vx_Back l R p e below s args y 3 8 (PreOf R mc ms Pc) (PostOf Qc mc ms free) (vx_Post XC mc ms free) := vx_backW (hh := hh) (bytes := bytes) (maxL := maxL) (ret := ret) hM hp.1 hrc hrs hfr hlo hws hcw (fun a' U hW => word_at hW (Or.inl (by first | rfl | simp [Cond.onTables, Cond.keeps, Cond.steady])) hini)
  obtain ⟨hx, hb, hml, ho, -⟩ := S
  obtain ⟨-, ⟨cellB, hcB, hoB, hclB⟩, hPc⟩ := hp
  intro T hT X
  rcases vx_callVX X hx (C := C) (hh := hh) (bytes := bytes) (maxL := maxL) (ret := ret) ho hl hin hse hcode hy hK (by rw [hT]; exact hcB) hoB hclB hg (hsize.trans hml.symm) (argsL := As) (rest := rest) (fun sig h => hn.trans (hlen sig h)) hstack hW (by rw [hb]; exact hdg)
    (fun vm₁ hW₁ => ⟨hf.1, hf.2, hPc (T.setVm vm₁) hT hW₁⟩) with ⟨v, vm₁, ⟨U', l2, c2, s2⟩, hW₁, X', ⟨g', mk, t, L, e1, e2, hq, h1, hL, h2, h3⟩, st⟩ | ⟨q, vm₁, ⟨U', l2, c2, s2⟩, hW₁, X', ⟨g', mk, t, L, E, ce, e1, e2, hq, hce, hcv, hcl, h1, hL, h2, h3⟩, st⟩
  · dsimp only [Pt.U, Pt.locs, Pt.cells, Pt.slots] at X' e1 e2 h1 h2 h3 st
    subst h1; subst h2; subst h3
    exact Or.inl ⟨v, (T.setVm vm₁).calling g' mk (Value.ref b :: As).toArray, t, U', L, hT, X', hL, e1, e2, hq, st⟩
  · dsimp only [Pt.U, Pt.locs, Pt.cells, Pt.slots] at X' e1 e2 h1 h2 h3 st hcl
    subst h1; subst h2; subst h3
    exact Or.inr ⟨q, (T.setVm vm₁).calling g' mk (Value.ref b :: As).toArray, t, U', L, E, ce, hT, X', hL, e1, e2, hq, hce, hcv, vx_cls hW₁ hcl, st⟩
theorem vx_runSX {hh : List (Nat × Nat × Nat × Nat)} (S : CallFix p m c cc nL s args Ts own) (hM : vx_Met l y ws rm Pc Qc XC mc ms free) (cw : vx_CSW R s args own index y bytes maxL ret hh ws rm mc ms n) (hp : PreS s H Pc As)
    (hg : g.method = m) (hn : As.length = n) (hsize : g.locals.size = nL) (hstack : g.stack = As.reverse ++ rest) (hW : 2 * g.monitorRoom + (rest.map fun v => v.category).sum ≤ 8) (hdg : decode cc g.pc = .ok (.invokestatic index, 3)) (hf : cells + mc ≤ R.cells ∧ slots + ms ≤ R.slots) :
    vx_Run p l e R s m args below meth c H locs cells slots mc ms g rest (Qc As.toArray) XC free := by
  obtain ⟨⟨hrc, hrs, hfr, hlo, hws, hcw⟩, hcode, hini, hy, hlen, hl, hstt⟩ := cw
  have hK : vx_Back l R p e below s args y 3 8 (PreOf R mc ms Pc) (PostOf Qc mc ms free) (vx_Post XC mc ms free) := vx_backW (hh := hh) (bytes := bytes) (maxL := maxL) (ret := ret) hM hp.1 hrc hrs hfr hlo hws hcw (fun a' U hW => word_at hW (Or.inl (by first | rfl | simp [Cond.onTables, Cond.keeps, Cond.steady])) hini)
  obtain ⟨hx, hb, hml, ho, -⟩ := S
  intro T hT X
  rcases vx_callSX X hx (hh := hh) (bytes := bytes) (maxL := maxL) (ret := ret) ho hl hstt hini hcode hy hK hg (hsize.trans hml.symm) (argsL := As) (rest := rest) (fun sig h => hn.trans (hlen sig h)) hstack hW (by rw [hb]; exact hdg)
    (fun vm₁ hW₁ => ⟨hf.1, hf.2, hp.2 (T.setVm vm₁) hT hW₁⟩) with ⟨v, vm₁, ⟨U', l2, c2, s2⟩, hW₁, X', ⟨g', mk, t, L, e1, e2, hq, h1, hL, h2, h3⟩, st⟩ | ⟨q, vm₁, ⟨U', l2, c2, s2⟩, hW₁, X', ⟨g', mk, t, L, E, ce, e1, e2, hq, hce, hcv, hcl, h1, hL, h2, h3⟩, st⟩
  · dsimp only [Pt.U, Pt.locs, Pt.cells, Pt.slots] at X' e1 e2 h1 h2 h3 st
    subst h1; subst h2; subst h3
    exact Or.inl ⟨v, (T.setVm vm₁).calling g' mk As.toArray, t, U', L, hT, X', hL, e1, e2, hq, st⟩
  · dsimp only [Pt.U, Pt.locs, Pt.cells, Pt.slots] at X' e1 e2 h1 h2 h3 st hcl
    subst h1; subst h2; subst h3
    exact Or.inr ⟨q, (T.setVm vm₁).calling g' mk As.toArray, t, U', L, E, ce, hT, X', hL, e1, e2, hq, hce, hcv, vx_cls hW₁ hcl, st⟩
end
end VXH
theorem vx_ofWH {l : Launch} {y : MethodName} {ws ws' : List Cond} {rm : Room} {Pc : Array Value → State → Prop} {Qc : Array Value → State → Outcome → State → Prop} {XC : String → State → State → Prop} {mc ms : Nat} {free : Addr → Prop} {cc : ByteArray} {maxL : Nat} {ret : Option FieldType} {hh : List (Nat × Nat × Nat × Nat)}
    (hy : plainName y.cls = true) (hw : ws = Cond.codeWith y cc maxL ret hh :: ws')
    (body : ∀ p e s m args below meth c s₁, BodyLoose p l y (headSpec ws rm) cc maxL ret e s m args below meth c s₁ → c.maxLocals = maxL → Pc args s →
      W p l e (headSpec ws rm).room s m args below meth c s.heap [] 0 0 (vx_MQ below Qc XC args s mc ms free) (entryFrame m args maxL)) : vx_Met l y ws rm Pc Qc XC mc ms free := by
  refine MetFree.of_bodyS (code := cc) (maxLocals := maxL) (ret := ret) hy ?_ ?_
  · intro args s m h hn
    obtain ⟨m9, meth, c, hn9, h1, h2, h3, h4, -, h5, h6, -⟩ := Cond.codeWith_spec (atoms_spec (ws := ws) h _ (by rw [hw]; exact List.mem_cons_self))
    cases hn.symm.trans hn9
    exact ⟨meth, c, h1, h2, h3, h4, h5, h6⟩
  · intro p e s m args below meth c s₁ B hml hP _
    have hh0 : s₁.heap = s.heap := by rw [B.state]; rfl
    obtain ⟨t, a1, o, b1, b2, b3⟩ := body p e s m args below meth c s₁ B hml hP s₁ hh0 (Stand.of_body B)
    exact ⟨t, o, a1, b1, b2, b3⟩
/-! ===== END ===== -/
end
section
/-! ===== BEGIN printed: names, fields, word lists, decode rows ===== -/
def RX0 : String := "Leaguewheel$Cup"
def TX0 : u_T := fun k => match k with
  | 0 => ("Leaguewheel$Cup", "placeRow", "[I", true)
  | 1 => ("Leaguewheel$Cup", "pointRow", "[I", true)
  | 2 => ("Leaguewheel$Cup", "ended", "I", false)
  | _ => ("Leaguewheel$Cup", "dropped", "I", false)
def tyX0 : Nat → FieldType := fun k => match k with
  | 0 => .array .int
  | 1 => .array .int
  | 2 => .int
  | _ => .int
abbrev wsX00 : List Cond := u_ws RX0 TX0 4
theorem nmX0 : ∀ a, a < 4 → ∀ b, b < 4 → a ≠ b → (TX0 a).2.1 ≠ (TX0 b).2.1 := by decide +kernel
theorem tyX0_ok : ∀ k, k < 4 → parseFieldDescriptor (TX0 k).2.2.1 = some (tyX0 k) := by decide +kernel
abbrev cX0_init : ByteArray := prog_2_method_1_code
def yX0_init : MethodName := ⟨RX0, "<init>", "()V"⟩
abbrev cX0_endedRaces : ByteArray := prog_2_method_2_code
def yX0_endedRaces : MethodName := ⟨RX0, "endedRaces", "()I"⟩
abbrev cX0_noteResult : ByteArray := prog_2_method_3_code
def yX0_noteResult : MethodName := ⟨RX0, "noteResult", "(IIZ)V"⟩
abbrev cX0_closeRace : ByteArray := prog_2_method_4_code
def yX0_closeRace : MethodName := ⟨RX0, "closeRace", "()V"⟩
abbrev cX0_placeIn : ByteArray := prog_2_method_5_code
def yX0_placeIn : MethodName := ⟨RX0, "placeIn", "(II)I"⟩
abbrev cX0_changeDropped : ByteArray := prog_2_method_6_code
def yX0_changeDropped : MethodName := ⟨RX0, "changeDropped", "(I)I"⟩
abbrev cX0_pointsOf : ByteArray := prog_2_method_7_code
def yX0_pointsOf : MethodName := ⟨RX0, "pointsOf", "(I)I"⟩
abbrev cX0_countWorse : ByteArray := prog_2_method_8_code
def yX0_countWorse : MethodName := ⟨RX0, "countWorse", "(II)I"⟩
abbrev cX0_countBefore : ByteArray := prog_2_method_9_code
def yX0_countBefore : MethodName := ⟨RX0, "countBefore", "(II)I"⟩
abbrev cX0_kartStandingAt : ByteArray := prog_2_method_10_code
def yX0_kartStandingAt : MethodName := ⟨RX0, "kartStandingAt", "(II)I"⟩
abbrev cX0_standsBefore : ByteArray := prog_2_method_11_code
def yX0_standsBefore : MethodName := ⟨RX0, "standsBefore", "(II)Z"⟩
abbrev cX0_timesAt : ByteArray := prog_2_method_12_code
def yX0_timesAt : MethodName := ⟨RX0, "timesAt", "(II)I"⟩
def RX1 : String := "Leaguewheel$Items"
def TX1 : u_T := fun k => match k with
  | 0 => ("Leaguewheel$Items", "itemRow", "[I", true)
  | 1 => ("Leaguewheel$Items", "shieldRow", "[Z", true)
  | 2 => ("Leaguewheel$Items", "awakeRow", "[I", true)
  | _ => ("Leaguewheel$Items", "number", "I", false)
def tyX1 : Nat → FieldType := fun k => match k with
  | 0 => .array .int
  | 1 => .array .boolean
  | 2 => .array .int
  | _ => .int
abbrev wsX10 : List Cond := u_ws RX1 TX1 4
theorem nmX1 : ∀ a, a < 4 → ∀ b, b < 4 → a ≠ b → (TX1 a).2.1 ≠ (TX1 b).2.1 := by decide +kernel
theorem tyX1_ok : ∀ k, k < 4 → parseFieldDescriptor (TX1 k).2.2.1 = some (tyX1 k) := by decide +kernel
abbrev cX1_init : ByteArray := prog_3_method_1_code
def yX1_init : MethodName := ⟨RX1, "<init>", "()V"⟩
abbrev cX1_clear : ByteArray := prog_3_method_2_code
def yX1_clear : MethodName := ⟨RX1, "clear", "()V"⟩
abbrev cX1_setNumber : ByteArray := prog_3_method_3_code
def yX1_setNumber : MethodName := ⟨RX1, "setNumber", "(I)V"⟩
abbrev cX1_heldBy : ByteArray := prog_3_method_4_code
def yX1_heldBy : MethodName := ⟨RX1, "heldBy", "(I)I"⟩
abbrev cX1_takeFrom : ByteArray := prog_3_method_5_code
def yX1_takeFrom : MethodName := ⟨RX1, "takeFrom", "(I)V"⟩
abbrev cX1_drawFor : ByteArray := prog_3_method_6_code
def yX1_drawFor : MethodName := ⟨RX1, "drawFor", "(II)I"⟩
abbrev cX1_itemAt : ByteArray := prog_3_method_7_code
def yX1_itemAt : MethodName := ⟨RX1, "itemAt", "(II)I"⟩
abbrev cX1_ticksStunned : ByteArray := prog_3_method_8_code
def yX1_ticksStunned : MethodName := ⟨RX1, "ticksStunned", "(II)I"⟩
abbrev cX1_wake : ByteArray := prog_3_method_9_code
def yX1_wake : MethodName := ⟨RX1, "wake", "(I)V"⟩
abbrev cX1_shield : ByteArray := prog_3_method_10_code
def yX1_shield : MethodName := ⟨RX1, "shield", "(I)V"⟩
abbrev cX1_hit : ByteArray := prog_3_method_11_code
def yX1_hit : MethodName := ⟨RX1, "hit", "(II)Z"⟩
def RX2 : String := "Leaguewheel$Passings"
def TX2 : u_T := fun k => match k with
  | 0 => ("Leaguewheel$Passings", "kartRow", "[I", true)
  | 1 => ("Leaguewheel$Passings", "gateRow", "[I", true)
  | _ => ("Leaguewheel$Passings", "count", "I", false)
def tyX2 : Nat → FieldType := fun k => match k with
  | 0 => .array .int
  | 1 => .array .int
  | _ => .int
abbrev wsX20 : List Cond := u_ws RX2 TX2 3
theorem nmX2 : ∀ a, a < 3 → ∀ b, b < 3 → a ≠ b → (TX2 a).2.1 ≠ (TX2 b).2.1 := by decide +kernel
theorem tyX2_ok : ∀ k, k < 3 → parseFieldDescriptor (TX2 k).2.2.1 = some (tyX2 k) := by decide +kernel
abbrev cX2_init : ByteArray := prog_4_method_1_code
def yX2_init : MethodName := ⟨RX2, "<init>", "()V"⟩
abbrev cX2_clear : ByteArray := prog_4_method_2_code
def yX2_clear : MethodName := ⟨RX2, "clear", "()V"⟩
abbrev cX2_isFull : ByteArray := prog_4_method_3_code
def yX2_isFull : MethodName := ⟨RX2, "isFull", "()Z"⟩
abbrev cX2_note : ByteArray := prog_4_method_4_code
def yX2_note : MethodName := ⟨RX2, "note", "(II)V"⟩
abbrev cX2_count : ByteArray := prog_4_method_5_code
def yX2_count : MethodName := ⟨RX2, "count", "()I"⟩
abbrev cX2_kartAt : ByteArray := prog_4_method_6_code
def yX2_kartAt : MethodName := ⟨RX2, "kartAt", "(I)I"⟩
abbrev cX2_gateAt : ByteArray := prog_4_method_7_code
def yX2_gateAt : MethodName := ⟨RX2, "gateAt", "(I)I"⟩
def RX3 : String := "Leaguewheel$Race"
def TX3 : u_T := fun k => match k with
  | 0 => ("Leaguewheel$Race", "track", "LLeaguewheel$Track;", true)
  | 1 => ("Leaguewheel$Race", "gateRow", "[I", true)
  | 2 => ("Leaguewheel$Race", "lapRow", "[I", true)
  | 3 => ("Leaguewheel$Race", "debtRow", "[I", true)
  | 4 => ("Leaguewheel$Race", "passedRow", "[I", true)
  | 5 => ("Leaguewheel$Race", "momentRow", "[I", true)
  | 6 => ("Leaguewheel$Race", "order", "[I", true)
  | 7 => ("Leaguewheel$Race", "rankRow", "[I", true)
  | 8 => ("Leaguewheel$Race", "count", "I", false)
  | 9 => ("Leaguewheel$Race", "goal", "I", false)
  | _ => ("Leaguewheel$Race", "moment", "I", false)
def tyX3 : Nat → FieldType := fun k => match k with
  | 0 => .object "Leaguewheel$Track"
  | 1 => .array .int
  | 2 => .array .int
  | 3 => .array .int
  | 4 => .array .int
  | 5 => .array .int
  | 6 => .array .int
  | 7 => .array .int
  | 8 => .int
  | 9 => .int
  | _ => .int
abbrev wsX30 : List Cond := u_ws RX3 TX3 11
theorem nmX3 : ∀ a, a < 11 → ∀ b, b < 11 → a ≠ b → (TX3 a).2.1 ≠ (TX3 b).2.1 := by decide +kernel
theorem tyX3_ok : ∀ k, k < 11 → parseFieldDescriptor (TX3 k).2.2.1 = some (tyX3 k) := by decide +kernel
abbrev cX3_init : ByteArray := prog_5_method_1_code
def yX3_init : MethodName := ⟨RX3, "<init>", "(LLeaguewheel$Track;)V"⟩
abbrev cX3_begin : ByteArray := prog_5_method_2_code
def yX3_begin : MethodName := ⟨RX3, "begin", "(II)V"⟩
abbrev cX3_lapGoal : ByteArray := prog_5_method_3_code
def yX3_lapGoal : MethodName := ⟨RX3, "lapGoal", "()I"⟩
abbrev cX3_gateAt : ByteArray := prog_5_method_4_code
def yX3_gateAt : MethodName := ⟨RX3, "gateAt", "(I)I"⟩
abbrev cX3_netLaps : ByteArray := prog_5_method_5_code
def yX3_netLaps : MethodName := ⟨RX3, "netLaps", "(I)I"⟩
abbrev cX3_missingGates : ByteArray := prog_5_method_6_code
def yX3_missingGates : MethodName := ⟨RX3, "missingGates", "(I)I"⟩
abbrev cX3_isFinished : ByteArray := prog_5_method_7_code
def yX3_isFinished : MethodName := ⟨RX3, "isFinished", "(I)Z"⟩
abbrev cX3_isWorthPoints : ByteArray := prog_5_method_8_code
def yX3_isWorthPoints : MethodName := ⟨RX3, "isWorthPoints", "(I)Z"⟩
abbrev cX3_move : ByteArray := prog_5_method_9_code
def yX3_move : MethodName := ⟨RX3, "move", "(II)I"⟩
abbrev cX3_goBack : ByteArray := prog_5_method_10_code
def yX3_goBack : MethodName := ⟨RX3, "goBack", "(II)I"⟩
abbrev cX3_reachGate : ByteArray := prog_5_method_11_code
def yX3_reachGate : MethodName := ⟨RX3, "reachGate", "(II)I"⟩
abbrev cX3_crossLine : ByteArray := prog_5_method_12_code
def yX3_crossLine : MethodName := ⟨RX3, "crossLine", "(I)I"⟩
abbrev cX3_countAhead : ByteArray := prog_5_method_13_code
def yX3_countAhead : MethodName := ⟨RX3, "countAhead", "(I)I"⟩
abbrev cX3_isAhead : ByteArray := prog_5_method_14_code
def yX3_isAhead : MethodName := ⟨RX3, "isAhead", "(II)Z"⟩
abbrev cX3_sortedRank : ByteArray := prog_5_method_15_code
def yX3_sortedRank : MethodName := ⟨RX3, "sortedRank", "(I)I"⟩
abbrev cX3_insertInOrder : ByteArray := prog_5_method_16_code
def yX3_insertInOrder : MethodName := ⟨RX3, "insertInOrder", "(I)V"⟩
abbrev cX3_leadOver : ByteArray := prog_5_method_17_code
def yX3_leadOver : MethodName := ⟨RX3, "leadOver", "(I)I"⟩
abbrev cX3_wayDone : ByteArray := prog_5_method_18_code
def yX3_wayDone : MethodName := ⟨RX3, "wayDone", "(I)I"⟩
def RX4 : String := "Leaguewheel$Track"
def TX4 : u_T := fun k => match k with
  | 0 => ("Leaguewheel$Track", "lengths", "[I", true)
  | 1 => ("Leaguewheel$Track", "rests", "[I", true)
  | 2 => ("Leaguewheel$Track", "count", "I", false)
  | _ => ("Leaguewheel$Track", "neededGates", "I", false)
def tyX4 : Nat → FieldType := fun k => match k with
  | 0 => .array .int
  | 1 => .array .int
  | 2 => .int
  | _ => .int
abbrev wsX40 : List Cond := u_ws RX4 TX4 4
theorem nmX4 : ∀ a, a < 4 → ∀ b, b < 4 → a ≠ b → (TX4 a).2.1 ≠ (TX4 b).2.1 := by decide +kernel
theorem tyX4_ok : ∀ k, k < 4 → parseFieldDescriptor (TX4 k).2.2.1 = some (tyX4 k) := by decide +kernel
abbrev cX4_init : ByteArray := prog_6_method_1_code
def yX4_init : MethodName := ⟨RX4, "<init>", "()V"⟩
abbrev cX4_gateCount : ByteArray := prog_6_method_2_code
def yX4_gateCount : MethodName := ⟨RX4, "gateCount", "()I"⟩
abbrev cX4_isFull : ByteArray := prog_6_method_3_code
def yX4_isFull : MethodName := ⟨RX4, "isFull", "()Z"⟩
abbrev cX4_appendGate : ByteArray := prog_6_method_4_code
def yX4_appendGate : MethodName := ⟨RX4, "appendGate", "(Z)I"⟩
abbrev cX4_needed : ByteArray := prog_6_method_5_code
def yX4_needed : MethodName := ⟨RX4, "needed", "()I"⟩
abbrev cX4_isNeeded : ByteArray := prog_6_method_6_code
def yX4_isNeeded : MethodName := ⟨RX4, "isNeeded", "(I)Z"⟩
abbrev cX4_wayLength : ByteArray := prog_6_method_7_code
def yX4_wayLength : MethodName := ⟨RX4, "wayLength", "(II)I"⟩
abbrev cX4_leads : ByteArray := prog_6_method_8_code
def yX4_leads : MethodName := ⟨RX4, "leads", "(II)Z"⟩
abbrev cX4_joins : ByteArray := prog_6_method_9_code
def yX4_joins : MethodName := ⟨RX4, "joins", "(II)Z"⟩
abbrev cX4_layWay : ByteArray := prog_6_method_10_code
def yX4_layWay : MethodName := ⟨RX4, "layWay", "(III)V"⟩
abbrev cX4_restOf : ByteArray := prog_6_method_11_code
def yX4_restOf : MethodName := ⟨RX4, "restOf", "(I)I"⟩
abbrev cX4_hasDeadEnd : ByteArray := prog_6_method_12_code
def yX4_hasDeadEnd : MethodName := ⟨RX4, "hasDeadEnd", "()Z"⟩
abbrev cX4_leadsOn : ByteArray := prog_6_method_13_code
def yX4_leadsOn : MethodName := ⟨RX4, "leadsOn", "(I)Z"⟩
abbrev cX4_measureRests : ByteArray := prog_6_method_14_code
def yX4_measureRests : MethodName := ⟨RX4, "measureRests", "()V"⟩
abbrev cX4_leastRest : ByteArray := prog_6_method_15_code
def yX4_leastRest : MethodName := ⟨RX4, "leastRest", "(I)I"⟩
def RX5 : String := "Leaguewheel"
def TX5 : u_T := fun k => match k with
  | 0 => ("Leaguewheel", "track", "LLeaguewheel$Track;", true)
  | 1 => ("Leaguewheel", "race", "LLeaguewheel$Race;", true)
  | 2 => ("Leaguewheel", "retold", "LLeaguewheel$Race;", true)
  | 3 => ("Leaguewheel", "passings", "LLeaguewheel$Passings;", true)
  | 4 => ("Leaguewheel", "items", "LLeaguewheel$Items;", true)
  | 5 => ("Leaguewheel", "cup", "LLeaguewheel$Cup;", true)
  | 6 => ("Leaguewheel", "teams", "[I", true)
  | 7 => ("Leaguewheel", "kartCount", "I", false)
  | 8 => ("Leaguewheel", "raceIsOn", "Z", false)
  | _ => ("Leaguewheel", "tick", "I", false)
def tyX5 : Nat → FieldType := fun k => match k with
  | 0 => .object "Leaguewheel$Track"
  | 1 => .object "Leaguewheel$Race"
  | 2 => .object "Leaguewheel$Race"
  | 3 => .object "Leaguewheel$Passings"
  | 4 => .object "Leaguewheel$Items"
  | 5 => .object "Leaguewheel$Cup"
  | 6 => .array .int
  | 7 => .int
  | 8 => .boolean
  | _ => .int
abbrev wsX50 : List Cond := u_ws RX5 TX5 10
theorem nmX5 : ∀ a, a < 10 → ∀ b, b < 10 → a ≠ b → (TX5 a).2.1 ≠ (TX5 b).2.1 := by decide +kernel
theorem tyX5_ok : ∀ k, k < 10 → parseFieldDescriptor (TX5 k).2.2.1 = some (tyX5 k) := by decide +kernel
abbrev cX5_init : ByteArray := prog_1_method_1_code
def yX5_init : MethodName := ⟨RX5, "<init>", "()V"⟩
abbrev cX5_addGate : ByteArray := prog_1_method_2_code
def yX5_addGate : MethodName := ⟨RX5, "addGate", "(Z)I"⟩
abbrev cX5_addWay : ByteArray := prog_1_method_3_code
def yX5_addWay : MethodName := ⟨RX5, "addWay", "(III)I"⟩
abbrev cX5_addKart : ByteArray := prog_1_method_4_code
def yX5_addKart : MethodName := ⟨RX5, "addKart", "(I)I"⟩
abbrev cX5_gates : ByteArray := prog_1_method_5_code
def yX5_gates : MethodName := ⟨RX5, "gates", "()I"⟩
abbrev cX5_karts : ByteArray := prog_1_method_6_code
def yX5_karts : MethodName := ⟨RX5, "karts", "()I"⟩
abbrev cX5_rest : ByteArray := prog_1_method_7_code
def yX5_rest : MethodName := ⟨RX5, "rest", "(I)I"⟩
abbrev cX5_start : ByteArray := prog_1_method_8_code
def yX5_start : MethodName := ⟨RX5, "start", "(I)I"⟩
abbrev cX5_isOn : ByteArray := prog_1_method_9_code
def yX5_isOn : MethodName := ⟨RX5, "isOn", "()Z"⟩
abbrev cX5_pass : ByteArray := prog_1_method_10_code
def yX5_pass : MethodName := ⟨RX5, "pass", "(II)I"⟩
abbrev cX5_idle : ByteArray := prog_1_method_11_code
def yX5_idle : MethodName := ⟨RX5, "idle", "(I)I"⟩
abbrev cX5_gateOf : ByteArray := prog_1_method_12_code
def yX5_gateOf : MethodName := ⟨RX5, "gateOf", "(I)I"⟩
abbrev cX5_lapsOf : ByteArray := prog_1_method_13_code
def yX5_lapsOf : MethodName := ⟨RX5, "lapsOf", "(I)I"⟩
abbrev cX5_missing : ByteArray := prog_1_method_14_code
def yX5_missing : MethodName := ⟨RX5, "missing", "(I)I"⟩
abbrev cX5_rank : ByteArray := prog_1_method_15_code
def yX5_rank : MethodName := ⟨RX5, "rank", "(I)I"⟩
abbrev cX5_rankByRecord : ByteArray := prog_1_method_16_code
def yX5_rankByRecord : MethodName := ⟨RX5, "rankByRecord", "(I)I"⟩
abbrev cX5_catchUp : ByteArray := prog_1_method_17_code
def yX5_catchUp : MethodName := ⟨RX5, "catchUp", "(I)I"⟩
abbrev cX5_setDraw : ByteArray := prog_1_method_18_code
def yX5_setDraw : MethodName := ⟨RX5, "setDraw", "(I)V"⟩
abbrev cX5_draw : ByteArray := prog_1_method_19_code
def yX5_draw : MethodName := ⟨RX5, "draw", "(I)I"⟩
abbrev cX5_use : ByteArray := prog_1_method_20_code
def yX5_use : MethodName := ⟨RX5, "use", "(I)I"⟩
abbrev cX5_itemOf : ByteArray := prog_1_method_21_code
def yX5_itemOf : MethodName := ⟨RX5, "itemOf", "(I)I"⟩
abbrev cX5_stunned : ByteArray := prog_1_method_22_code
def yX5_stunned : MethodName := ⟨RX5, "stunned", "(I)I"⟩
abbrev cX5_end : ByteArray := prog_1_method_23_code
def yX5_end : MethodName := ⟨RX5, "end", "()I"⟩
abbrev cX5_races : ByteArray := prog_1_method_24_code
def yX5_races : MethodName := ⟨RX5, "races", "()I"⟩
abbrev cX5_place : ByteArray := prog_1_method_25_code
def yX5_place : MethodName := ⟨RX5, "place", "(II)I"⟩
abbrev cX5_setDropped : ByteArray := prog_1_method_26_code
def yX5_setDropped : MethodName := ⟨RX5, "setDropped", "(I)I"⟩
abbrev cX5_points : ByteArray := prog_1_method_27_code
def yX5_points : MethodName := ⟨RX5, "points", "(I)I"⟩
abbrev cX5_teamPoints : ByteArray := prog_1_method_28_code
def yX5_teamPoints : MethodName := ⟨RX5, "teamPoints", "(I)I"⟩
abbrev cX5_standing : ByteArray := prog_1_method_29_code
def yX5_standing : MethodName := ⟨RX5, "standing", "(I)I"⟩
abbrev cX5_textLength : ByteArray := prog_1_method_30_code
def yX5_textLength : MethodName := ⟨RX5, "textLength", "()I"⟩
abbrev cX5_textAt : ByteArray := prog_1_method_31_code
def yX5_textAt : MethodName := ⟨RX5, "textAt", "(I)C"⟩
abbrev cX5_hitRanks : ByteArray := prog_1_method_32_code
def yX5_hitRanks : MethodName := ⟨RX5, "hitRanks", "(III)I"⟩
abbrev cX5_checkGate : ByteArray := prog_1_method_33_code
def yX5_checkGate : MethodName := ⟨RX5, "checkGate", "(I)V"⟩
abbrev cX5_checkKart : ByteArray := prog_1_method_34_code
def yX5_checkKart : MethodName := ⟨RX5, "checkKart", "(I)V"⟩
abbrev cX5_checkTeam : ByteArray := prog_1_method_35_code
def yX5_checkTeam : MethodName := ⟨RX5, "checkTeam", "(I)V"⟩
abbrev cX5_checkNeverStarted : ByteArray := prog_1_method_36_code
def yX5_checkNeverStarted : MethodName := ⟨RX5, "checkNeverStarted", "()V"⟩
abbrev cX5_checkRaceIsOn : ByteArray := prog_1_method_37_code
def yX5_checkRaceIsOn : MethodName := ⟨RX5, "checkRaceIsOn", "()V"⟩
abbrev cX5_checkStillRacing : ByteArray := prog_1_method_38_code
def yX5_checkStillRacing : MethodName := ⟨RX5, "checkStillRacing", "(I)V"⟩
def RX6 : String := "LeaguewheelModel"
def TX6 : u_T := fun k => match k with
  | 0 => ("LeaguewheelModel", "gates", "I", false)
  | 1 => ("LeaguewheelModel", "needed", "I", false)
  | 2 => ("LeaguewheelModel", "length", "[I", true)
  | 3 => ("LeaguewheelModel", "rest", "[I", true)
  | 4 => ("LeaguewheelModel", "karts", "I", false)
  | 5 => ("LeaguewheelModel", "team", "[I", true)
  | 6 => ("LeaguewheelModel", "started", "I", false)
  | 7 => ("LeaguewheelModel", "ended", "I", false)
  | 8 => ("LeaguewheelModel", "isOn", "Z", false)
  | 9 => ("LeaguewheelModel", "laps", "I", false)
  | 10 => ("LeaguewheelModel", "time", "I", false)
  | 11 => ("LeaguewheelModel", "passings", "I", false)
  | 12 => ("LeaguewheelModel", "x", "I", false)
  | 13 => ("LeaguewheelModel", "gate", "[I", true)
  | 14 => ("LeaguewheelModel", "lap", "[I", true)
  | 15 => ("LeaguewheelModel", "debt", "[I", true)
  | 16 => ("LeaguewheelModel", "passed", "[I", true)
  | 17 => ("LeaguewheelModel", "last", "[I", true)
  | 18 => ("LeaguewheelModel", "finish", "[I", true)
  | 19 => ("LeaguewheelModel", "item", "[I", true)
  | 20 => ("LeaguewheelModel", "isShielded", "[Z", true)
  | 21 => ("LeaguewheelModel", "until", "[I", true)
  | 22 => ("LeaguewheelModel", "place", "[I", true)
  | 23 => ("LeaguewheelModel", "point", "[I", true)
  | 24 => ("LeaguewheelModel", "dropped", "I", false)
  | _ => ("LeaguewheelModel", "thrown", "I", false)
def tyX6 : Nat → FieldType := fun k => match k with
  | 0 => .int
  | 1 => .int
  | 2 => .array .int
  | 3 => .array .int
  | 4 => .int
  | 5 => .array .int
  | 6 => .int
  | 7 => .int
  | 8 => .boolean
  | 9 => .int
  | 10 => .int
  | 11 => .int
  | 12 => .int
  | 13 => .array .int
  | 14 => .array .int
  | 15 => .array .int
  | 16 => .array .int
  | 17 => .array .int
  | 18 => .array .int
  | 19 => .array .int
  | 20 => .array .boolean
  | 21 => .array .int
  | 22 => .array .int
  | 23 => .array .int
  | 24 => .int
  | _ => .int
abbrev wsX60 : List Cond := u_ws RX6 TX6 26
theorem nmX6 : ∀ a, a < 26 → ∀ b, b < 26 → a ≠ b → (TX6 a).2.1 ≠ (TX6 b).2.1 := by decide +kernel
theorem tyX6_ok : ∀ k, k < 26 → parseFieldDescriptor (TX6 k).2.2.1 = some (tyX6 k) := by decide +kernel
abbrev cX6_init : ByteArray := prog_8_method_1_code
def yX6_init : MethodName := ⟨RX6, "<init>", "()V"⟩
abbrev cX6_thrown : ByteArray := prog_8_method_2_code
def yX6_thrown : MethodName := ⟨RX6, "thrown", "()I"⟩
abbrev cX6_fails : ByteArray := prog_8_method_3_code
def yX6_fails : MethodName := ⟨RX6, "fails", "(I)Z"⟩
abbrev cX6_tells : ByteArray := prog_8_method_4_code
def yX6_tells : MethodName := ⟨RX6, "tells", "(I)I"⟩
abbrev cX6_isIn : ByteArray := prog_8_method_5_code
def yX6_isIn : MethodName := ⟨RX6, "isIn", "(III)Z"⟩
abbrev cX6_isGate : ByteArray := prog_8_method_6_code
def yX6_isGate : MethodName := ⟨RX6, "isGate", "(I)Z"⟩
abbrev cX6_isKart : ByteArray := prog_8_method_7_code
def yX6_isKart : MethodName := ⟨RX6, "isKart", "(I)Z"⟩
abbrev cX6_addGate : ByteArray := prog_8_method_8_code
def yX6_addGate : MethodName := ⟨RX6, "addGate", "(Z)I"⟩
abbrev cX6_addWay : ByteArray := prog_8_method_9_code
def yX6_addWay : MethodName := ⟨RX6, "addWay", "(III)I"⟩
abbrev cX6_addKart : ByteArray := prog_8_method_10_code
def yX6_addKart : MethodName := ⟨RX6, "addKart", "(I)I"⟩
abbrev cX6_gates : ByteArray := prog_8_method_11_code
def yX6_gates : MethodName := ⟨RX6, "gates", "()I"⟩
abbrev cX6_karts : ByteArray := prog_8_method_12_code
def yX6_karts : MethodName := ⟨RX6, "karts", "()I"⟩
abbrev cX6_finds : ByteArray := prog_8_method_13_code
def yX6_finds : MethodName := ⟨RX6, "finds", "()V"⟩
abbrev cX6_rest : ByteArray := prog_8_method_14_code
def yX6_rest : MethodName := ⟨RX6, "rest", "(I)I"⟩
abbrev cX6_isTrack : ByteArray := prog_8_method_15_code
def yX6_isTrack : MethodName := ⟨RX6, "isTrack", "()Z"⟩
abbrev cX6_start : ByteArray := prog_8_method_16_code
def yX6_start : MethodName := ⟨RX6, "start", "(I)I"⟩
abbrev cX6_isOn : ByteArray := prog_8_method_17_code
def yX6_isOn : MethodName := ⟨RX6, "isOn", "()Z"⟩
abbrev cX6_crosses : ByteArray := prog_8_method_18_code
def yX6_crosses : MethodName := ⟨RX6, "crosses", "(I)I"⟩
abbrev cX6_pass : ByteArray := prog_8_method_19_code
def yX6_pass : MethodName := ⟨RX6, "pass", "(II)I"⟩
abbrev cX6_idle : ByteArray := prog_8_method_20_code
def yX6_idle : MethodName := ⟨RX6, "idle", "(I)I"⟩
abbrev cX6_of : ByteArray := prog_8_method_21_code
def yX6_of : MethodName := ⟨RX6, "of", "([II)I"⟩
abbrev cX6_gateOf : ByteArray := prog_8_method_22_code
def yX6_gateOf : MethodName := ⟨RX6, "gateOf", "(I)I"⟩
abbrev cX6_lapsOf : ByteArray := prog_8_method_23_code
def yX6_lapsOf : MethodName := ⟨RX6, "lapsOf", "(I)I"⟩
abbrev cX6_missing : ByteArray := prog_8_method_24_code
def yX6_missing : MethodName := ⟨RX6, "missing", "(I)I"⟩
abbrev cX6_isAhead : ByteArray := prog_8_method_25_code
def yX6_isAhead : MethodName := ⟨RX6, "isAhead", "(II)Z"⟩
abbrev cX6_ranked : ByteArray := prog_8_method_26_code
def yX6_ranked : MethodName := ⟨RX6, "ranked", "(I)I"⟩
abbrev cX6_rank : ByteArray := prog_8_method_27_code
def yX6_rank : MethodName := ⟨RX6, "rank", "(I)I"⟩
abbrev cX6_rankByRecord : ByteArray := prog_8_method_28_code
def yX6_rankByRecord : MethodName := ⟨RX6, "rankByRecord", "(I)I"⟩
abbrev cX6_done : ByteArray := prog_8_method_29_code
def yX6_done : MethodName := ⟨RX6, "done", "(I)I"⟩
abbrev cX6_atRank : ByteArray := prog_8_method_30_code
def yX6_atRank : MethodName := ⟨RX6, "atRank", "(I)I"⟩
abbrev cX6_catchUp : ByteArray := prog_8_method_31_code
def yX6_catchUp : MethodName := ⟨RX6, "catchUp", "(I)I"⟩
abbrev cX6_setDraw : ByteArray := prog_8_method_32_code
def yX6_setDraw : MethodName := ⟨RX6, "setDraw", "(I)V"⟩
abbrev cX6_drawn : ByteArray := prog_8_method_33_code
def yX6_drawn : MethodName := ⟨RX6, "drawn", "(II)I"⟩
abbrev cX6_draw : ByteArray := prog_8_method_34_code
def yX6_draw : MethodName := ⟨RX6, "draw", "(I)I"⟩
abbrev cX6_hits : ByteArray := prog_8_method_35_code
def yX6_hits : MethodName := ⟨RX6, "hits", "(II)I"⟩
abbrev cX6_use : ByteArray := prog_8_method_36_code
def yX6_use : MethodName := ⟨RX6, "use", "(I)I"⟩
abbrev cX6_itemOf : ByteArray := prog_8_method_37_code
def yX6_itemOf : MethodName := ⟨RX6, "itemOf", "(I)I"⟩
abbrev cX6_stunned : ByteArray := prog_8_method_38_code
def yX6_stunned : MethodName := ⟨RX6, "stunned", "(I)I"⟩
abbrev cX6_worth : ByteArray := prog_8_method_39_code
def yX6_worth : MethodName := ⟨RX6, "worth", "(I)I"⟩
abbrev cX6_end : ByteArray := prog_8_method_40_code
def yX6_end : MethodName := ⟨RX6, "end", "()I"⟩
abbrev cX6_races : ByteArray := prog_8_method_41_code
def yX6_races : MethodName := ⟨RX6, "races", "()I"⟩
abbrev cX6_place : ByteArray := prog_8_method_42_code
def yX6_place : MethodName := ⟨RX6, "place", "(II)I"⟩
abbrev cX6_setDropped : ByteArray := prog_8_method_43_code
def yX6_setDropped : MethodName := ⟨RX6, "setDropped", "(I)I"⟩
abbrev cX6_sum : ByteArray := prog_8_method_44_code
def yX6_sum : MethodName := ⟨RX6, "sum", "(I)I"⟩
abbrev cX6_points : ByteArray := prog_8_method_45_code
def yX6_points : MethodName := ⟨RX6, "points", "(I)I"⟩
abbrev cX6_teamPoints : ByteArray := prog_8_method_46_code
def yX6_teamPoints : MethodName := ⟨RX6, "teamPoints", "(I)I"⟩
abbrev cX6_times : ByteArray := prog_8_method_47_code
def yX6_times : MethodName := ⟨RX6, "times", "(II)I"⟩
abbrev cX6_stands : ByteArray := prog_8_method_48_code
def yX6_stands : MethodName := ⟨RX6, "stands", "(II)Z"⟩
abbrev cX6_stand : ByteArray := prog_8_method_49_code
def yX6_stand : MethodName := ⟨RX6, "stand", "(I)I"⟩
abbrev cX6_standing : ByteArray := prog_8_method_50_code
def yX6_standing : MethodName := ⟨RX6, "standing", "(I)I"⟩
abbrev cX6_textLength : ByteArray := prog_8_method_51_code
def yX6_textLength : MethodName := ⟨RX6, "textLength", "()I"⟩
abbrev cX6_textAt : ByteArray := prog_8_method_52_code
def yX6_textAt : MethodName := ⟨RX6, "textAt", "(I)C"⟩
def RJ9 : String := "java/lang/Math"
def TJ9 : u_T := fun k => match k with
  | _ => ("", "", "", false)
def tyJ9 : Nat → FieldType := fun k => match k with
  | _ => .int
abbrev wsJ90 : List Cond := u_ws RJ9 TJ9 0
theorem nmJ9 : ∀ a, a < 0 → ∀ b, b < 0 → a ≠ b → (TJ9 a).2.1 ≠ (TJ9 b).2.1 := by decide +kernel
theorem tyJ9_ok : ∀ k, k < 0 → parseFieldDescriptor (TJ9 k).2.2.1 = some (tyJ9 k) := by decide +kernel
abbrev cJ9_max_7cf53 : ByteArray := prog_13_method_65_code
def yJ9_max_7cf53 : MethodName := ⟨RJ9, "max", "(II)I"⟩
abbrev cJ9_min_7cf53 : ByteArray := prog_13_method_69_code
def yJ9_min_7cf53 : MethodName := ⟨RJ9, "min", "(II)I"⟩
def RJ0 : String := "java/lang/String"
def TJ0 : u_T := fun k => match k with
  | _ => ("", "", "", false)
def tyJ0 : Nat → FieldType := fun k => match k with
  | _ => .int
abbrev wsJ00 : List Cond := u_ws RJ0 TJ0 0
theorem nmJ0 : ∀ a, a < 0 → ∀ b, b < 0 → a ≠ b → (TJ0 a).2.1 ≠ (TJ0 b).2.1 := by decide +kernel
theorem tyJ0_ok : ∀ k, k < 0 → parseFieldDescriptor (TJ0 k).2.2.1 = some (tyJ0 k) := by decide +kernel
def RL : String := "LeaguewheelLaw"
abbrev cL_addGate : ByteArray := method_3_code
def yL_addGate : MethodName := ⟨RL, "addGate", "(LLeaguewheel;Z[J)I"⟩
abbrev cL_addWay : ByteArray := method_4_code
def yL_addWay : MethodName := ⟨RL, "addWay", "(LLeaguewheel;III[J)I"⟩
abbrev cL_addKart : ByteArray := method_5_code
def yL_addKart : MethodName := ⟨RL, "addKart", "(LLeaguewheel;I[J)I"⟩
abbrev cL_rest : ByteArray := method_6_code
def yL_rest : MethodName := ⟨RL, "rest", "(LLeaguewheel;I[J)I"⟩
abbrev cL_start : ByteArray := method_7_code
def yL_start : MethodName := ⟨RL, "start", "(LLeaguewheel;I[J)I"⟩
abbrev cL_pass : ByteArray := method_8_code
def yL_pass : MethodName := ⟨RL, "pass", "(LLeaguewheel;II[J)I"⟩
abbrev cL_idle : ByteArray := method_9_code
def yL_idle : MethodName := ⟨RL, "idle", "(LLeaguewheel;I[J)I"⟩
abbrev cL_gateOf : ByteArray := method_10_code
def yL_gateOf : MethodName := ⟨RL, "gateOf", "(LLeaguewheel;I[J)I"⟩
abbrev cL_lapsOf : ByteArray := method_11_code
def yL_lapsOf : MethodName := ⟨RL, "lapsOf", "(LLeaguewheel;I[J)I"⟩
abbrev cL_missing : ByteArray := method_12_code
def yL_missing : MethodName := ⟨RL, "missing", "(LLeaguewheel;I[J)I"⟩
abbrev cL_rank : ByteArray := method_13_code
def yL_rank : MethodName := ⟨RL, "rank", "(LLeaguewheel;I[J)I"⟩
abbrev cL_rankByRecord : ByteArray := method_14_code
def yL_rankByRecord : MethodName := ⟨RL, "rankByRecord", "(LLeaguewheel;I[J)I"⟩
abbrev cL_catchUp : ByteArray := method_15_code
def yL_catchUp : MethodName := ⟨RL, "catchUp", "(LLeaguewheel;I[J)I"⟩
abbrev cL_draw : ByteArray := method_16_code
def yL_draw : MethodName := ⟨RL, "draw", "(LLeaguewheel;I[J)I"⟩
abbrev cL_use : ByteArray := method_17_code
def yL_use : MethodName := ⟨RL, "use", "(LLeaguewheel;I[J)I"⟩
abbrev cL_itemOf : ByteArray := method_18_code
def yL_itemOf : MethodName := ⟨RL, "itemOf", "(LLeaguewheel;I[J)I"⟩
abbrev cL_stunned : ByteArray := method_19_code
def yL_stunned : MethodName := ⟨RL, "stunned", "(LLeaguewheel;I[J)I"⟩
abbrev cL_end : ByteArray := method_20_code
def yL_end : MethodName := ⟨RL, "end", "(LLeaguewheel;[J)I"⟩
abbrev cL_place : ByteArray := method_21_code
def yL_place : MethodName := ⟨RL, "place", "(LLeaguewheel;II[J)I"⟩
abbrev cL_setDropped : ByteArray := method_22_code
def yL_setDropped : MethodName := ⟨RL, "setDropped", "(LLeaguewheel;I[J)I"⟩
abbrev cL_points : ByteArray := method_23_code
def yL_points : MethodName := ⟨RL, "points", "(LLeaguewheel;I[J)I"⟩
abbrev cL_teamPoints : ByteArray := method_24_code
def yL_teamPoints : MethodName := ⟨RL, "teamPoints", "(LLeaguewheel;I[J)I"⟩
abbrev cL_standing : ByteArray := method_25_code
def yL_standing : MethodName := ⟨RL, "standing", "(LLeaguewheel;I[J)I"⟩
abbrev cL_textAt : ByteArray := method_26_code
def yL_textAt : MethodName := ⟨RL, "textAt", "(LLeaguewheel;I[J)I"⟩
abbrev cL_law : ByteArray := code
def yL_law : MethodName := ⟨RL, "law", "([I)Z"⟩
def wsX0_init : List Cond := .code yX0_init cX0_init 1 none :: ([.methodLink RX0 3 objectInit, .instanceMethod objectInit, .code objectInit ⟨#[0xb1]⟩ 1 none, .arrayClass .int, .fieldLink RX0 9 "Leaguewheel$Cup" "placeRow" "[I", .fieldLink RX0 15 "Leaguewheel$Cup" "pointRow" "[I", .fieldLink RX0 18 "Leaguewheel$Cup" "ended" "I", .fieldLink RX0 22 "Leaguewheel$Cup" "dropped" "I"] ++ wsX00)
def wsX0_endedRaces : List Cond := .code yX0_endedRaces cX0_endedRaces 1 (some .int) :: ([.fieldLink RX0 18 "Leaguewheel$Cup" "ended" "I"] ++ wsX00)
def wsX0_noteResult : List Cond := .code yX0_noteResult cX0_noteResult 4 none :: ([.fieldLink RX0 9 "Leaguewheel$Cup" "placeRow" "[I", .fieldLink RX0 18 "Leaguewheel$Cup" "ended" "I", .fieldLink RX0 15 "Leaguewheel$Cup" "pointRow" "[I", .fieldLink RX0 25 "Leaguewheel$Cup" "POINTS_BY_PLACE" "[I"] ++ wsX00)
def wsX0_closeRace : List Cond := .code yX0_closeRace cX0_closeRace 1 none :: ([.fieldLink RX0 18 "Leaguewheel$Cup" "ended" "I"] ++ wsX00)
def wsX0_placeIn : List Cond := .code yX0_placeIn cX0_placeIn 3 (some .int) :: ([.fieldLink RX0 9 "Leaguewheel$Cup" "placeRow" "[I"] ++ wsX00)
def wsX0_changeDropped : List Cond := .code yX0_changeDropped cX0_changeDropped 3 (some .int) :: ([.fieldLink RX0 22 "Leaguewheel$Cup" "dropped" "I"] ++ wsX00)
def wsX0_countWorse : List Cond := .code yX0_countWorse cX0_countWorse 7 (some .int) :: ([.fieldLink RX0 15 "Leaguewheel$Cup" "pointRow" "[I", .fieldLink RX0 18 "Leaguewheel$Cup" "ended" "I"] ++ wsX00)
def wsX0_pointsOf : List Cond := .code yX0_pointsOf cX0_pointsOf 4 (some .int) :: ([.fieldLink RX0 18 "Leaguewheel$Cup" "ended" "I", .fieldLink RX0 22 "Leaguewheel$Cup" "dropped" "I", .fieldLink RX0 15 "Leaguewheel$Cup" "pointRow" "[I", .methodLink RX0 28 yX0_countWorse, .instanceMethod yX0_countWorse, .selects RX0 yX0_countWorse yX0_countWorse, .initialized RX0, .code yX0_countWorse cX0_countWorse 7 (some .int)] ++ wsX00)
def wsX0_timesAt : List Cond := .code yX0_timesAt cX0_timesAt 5 (some .int) :: ([.fieldLink RX0 18 "Leaguewheel$Cup" "ended" "I", .fieldLink RX0 9 "Leaguewheel$Cup" "placeRow" "[I"] ++ wsX00)
def wsX0_standsBefore : List Cond := .code yX0_standsBefore cX0_standsBefore 8 (some .boolean) :: ([.methodLink RX0 39 yX0_pointsOf, .instanceMethod yX0_pointsOf, .selects RX0 yX0_pointsOf yX0_pointsOf, .initialized RX0, .code yX0_pointsOf cX0_pointsOf 4 (some .int), .fieldLink RX0 18 "Leaguewheel$Cup" "ended" "I", .fieldLink RX0 22 "Leaguewheel$Cup" "dropped" "I", .fieldLink RX0 15 "Leaguewheel$Cup" "pointRow" "[I", .methodLink RX0 28 yX0_countWorse, .instanceMethod yX0_countWorse, .selects RX0 yX0_countWorse yX0_countWorse, .code yX0_countWorse cX0_countWorse 7 (some .int), .methodLink RX0 43 yX0_timesAt, .instanceMethod yX0_timesAt, .selects RX0 yX0_timesAt yX0_timesAt, .code yX0_timesAt cX0_timesAt 5 (some .int), .fieldLink RX0 9 "Leaguewheel$Cup" "placeRow" "[I"] ++ wsX00)
def wsX0_countBefore : List Cond := .code yX0_countBefore cX0_countBefore 5 (some .int) :: ([.methodLink RX0 32 yX0_standsBefore, .instanceMethod yX0_standsBefore, .selects RX0 yX0_standsBefore yX0_standsBefore, .initialized RX0, .code yX0_standsBefore cX0_standsBefore 8 (some .boolean), .methodLink RX0 39 yX0_pointsOf, .instanceMethod yX0_pointsOf, .selects RX0 yX0_pointsOf yX0_pointsOf, .code yX0_pointsOf cX0_pointsOf 4 (some .int), .fieldLink RX0 18 "Leaguewheel$Cup" "ended" "I", .fieldLink RX0 22 "Leaguewheel$Cup" "dropped" "I", .fieldLink RX0 15 "Leaguewheel$Cup" "pointRow" "[I", .methodLink RX0 28 yX0_countWorse, .instanceMethod yX0_countWorse, .selects RX0 yX0_countWorse yX0_countWorse, .code yX0_countWorse cX0_countWorse 7 (some .int), .methodLink RX0 43 yX0_timesAt, .instanceMethod yX0_timesAt, .selects RX0 yX0_timesAt yX0_timesAt, .code yX0_timesAt cX0_timesAt 5 (some .int), .fieldLink RX0 9 "Leaguewheel$Cup" "placeRow" "[I"] ++ wsX00)
def wsX0_kartStandingAt_r1 : List Cond := [Cond.methodLink RX0 36 yX0_countBefore, Cond.instanceMethod yX0_countBefore, Cond.selects RX0 yX0_countBefore yX0_countBefore, Cond.initialized RX0, Cond.code yX0_countBefore cX0_countBefore 5 (some .int), Cond.methodLink RX0 32 yX0_standsBefore, Cond.instanceMethod yX0_standsBefore, Cond.selects RX0 yX0_standsBefore yX0_standsBefore, Cond.code yX0_standsBefore cX0_standsBefore 8 (some .boolean), Cond.methodLink RX0 39 yX0_pointsOf, Cond.instanceMethod yX0_pointsOf, Cond.selects RX0 yX0_pointsOf yX0_pointsOf, Cond.code yX0_pointsOf cX0_pointsOf 4 (some .int), Cond.fieldLink RX0 18 "Leaguewheel$Cup" "ended" "I", Cond.fieldLink RX0 22 "Leaguewheel$Cup" "dropped" "I", Cond.fieldLink RX0 15 "Leaguewheel$Cup" "pointRow" "[I", Cond.methodLink RX0 28 yX0_countWorse, Cond.instanceMethod yX0_countWorse, Cond.selects RX0 yX0_countWorse yX0_countWorse, Cond.code yX0_countWorse cX0_countWorse 7 (some .int), Cond.methodLink RX0 43 yX0_timesAt, Cond.instanceMethod yX0_timesAt, Cond.selects RX0 yX0_timesAt yX0_timesAt, Cond.code yX0_timesAt cX0_timesAt 5 (some .int)]
def wsX0_kartStandingAt_r2 : List Cond := [Cond.fieldLink RX0 9 "Leaguewheel$Cup" "placeRow" "[I"]
def wsX0_kartStandingAt : List Cond := .code yX0_kartStandingAt cX0_kartStandingAt 5 (some .int) :: ((wsX0_kartStandingAt_r1 ++ wsX0_kartStandingAt_r2) ++ wsX00)
def wsX1_clear : List Cond := .code yX1_clear cX1_clear 2 none :: ([.fieldLink RX1 9 "Leaguewheel$Items" "itemRow" "[I", .fieldLink RX1 15 "Leaguewheel$Items" "shieldRow" "[Z", .fieldLink RX1 19 "Leaguewheel$Items" "awakeRow" "[I"] ++ wsX10)
def wsX1_init : List Cond := .code yX1_init cX1_init 1 none :: ([.methodLink RX1 3 objectInit, .instanceMethod objectInit, .code objectInit ⟨#[0xb1]⟩ 1 none, .arrayClass .int, .fieldLink RX1 9 "Leaguewheel$Items" "itemRow" "[I", .arrayClass .boolean, .fieldLink RX1 15 "Leaguewheel$Items" "shieldRow" "[Z", .fieldLink RX1 19 "Leaguewheel$Items" "awakeRow" "[I", .fieldLink RX1 22 "Leaguewheel$Items" "number" "I", .methodLink RX1 26 yX1_clear, .instanceMethod yX1_clear, .selects RX1 yX1_clear yX1_clear, .initialized RX1, .code yX1_clear cX1_clear 2 none] ++ wsX10)
def wsX1_setNumber : List Cond := .code yX1_setNumber cX1_setNumber 2 none :: ([.fieldLink RX1 22 "Leaguewheel$Items" "number" "I"] ++ wsX10)
def wsX1_heldBy : List Cond := .code yX1_heldBy cX1_heldBy 2 (some .int) :: ([.fieldLink RX1 9 "Leaguewheel$Items" "itemRow" "[I"] ++ wsX10)
def wsX1_takeFrom : List Cond := .code yX1_takeFrom cX1_takeFrom 2 none :: ([.fieldLink RX1 9 "Leaguewheel$Items" "itemRow" "[I"] ++ wsX10)
def wsX1_itemAt : List Cond := .code yX1_itemAt cX1_itemAt 2 (some .int) :: ([.fieldLink RX1 34 "Leaguewheel$Items" "FOR_FIRST" "[I", .fieldLink RX1 37 "Leaguewheel$Items" "FOR_MIDDLE" "[I", .fieldLink RX1 40 "Leaguewheel$Items" "FOR_OTHERS" "[I"])
def wsX1_drawFor : List Cond := .code yX1_drawFor cX1_drawFor 4 (some .int) :: ([.fieldLink RX1 22 "Leaguewheel$Items" "number" "I", .constant RX1 29 (1103515245), .fieldLink RX1 9 "Leaguewheel$Items" "itemRow" "[I", .methodLink RX1 30 yX1_itemAt, .static yX1_itemAt, .initialized RX1, .code yX1_itemAt cX1_itemAt 2 (some .int), .fieldLink RX1 34 "Leaguewheel$Items" "FOR_FIRST" "[I", .fieldLink RX1 37 "Leaguewheel$Items" "FOR_MIDDLE" "[I", .fieldLink RX1 40 "Leaguewheel$Items" "FOR_OTHERS" "[I"] ++ wsX10)
def wsX1_ticksStunned : List Cond := .code yX1_ticksStunned cX1_ticksStunned 3 (some .int) :: ([.fieldLink RX1 19 "Leaguewheel$Items" "awakeRow" "[I", .methodLink RX1 43 Lib.Math.max.name, .static Lib.Math.max.name, .initialized "java/lang/Math", .code Lib.Math.max.name Lib.Math.max.code 2 (some .int)] ++ wsX10)
def wsX1_wake : List Cond := .code yX1_wake cX1_wake 2 none :: ([.fieldLink RX1 19 "Leaguewheel$Items" "awakeRow" "[I"] ++ wsX10)
def wsX1_shield : List Cond := .code yX1_shield cX1_shield 2 none :: ([.fieldLink RX1 15 "Leaguewheel$Items" "shieldRow" "[Z"] ++ wsX10)
def wsX1_hit : List Cond := .code yX1_hit cX1_hit 3 (some .boolean) :: ([.fieldLink RX1 15 "Leaguewheel$Items" "shieldRow" "[Z", .fieldLink RX1 19 "Leaguewheel$Items" "awakeRow" "[I", .methodLink RX1 43 Lib.Math.max.name, .static Lib.Math.max.name, .initialized "java/lang/Math", .code Lib.Math.max.name Lib.Math.max.code 2 (some .int)] ++ wsX10)
def wsX2_init : List Cond := .code yX2_init cX2_init 1 none :: ([.methodLink RX2 3 objectInit, .instanceMethod objectInit, .code objectInit ⟨#[0xb1]⟩ 1 none, .arrayClass .int, .fieldLink RX2 9 "Leaguewheel$Passings" "kartRow" "[I", .fieldLink RX2 15 "Leaguewheel$Passings" "gateRow" "[I", .fieldLink RX2 18 "Leaguewheel$Passings" "count" "I"] ++ wsX20)
def wsX2_clear : List Cond := .code yX2_clear cX2_clear 1 none :: ([.fieldLink RX2 18 "Leaguewheel$Passings" "count" "I"] ++ wsX20)
def wsX2_isFull : List Cond := .code yX2_isFull cX2_isFull 1 (some .boolean) :: ([.fieldLink RX2 18 "Leaguewheel$Passings" "count" "I"] ++ wsX20)
def wsX2_note : List Cond := .code yX2_note cX2_note 3 none :: ([.fieldLink RX2 9 "Leaguewheel$Passings" "kartRow" "[I", .fieldLink RX2 18 "Leaguewheel$Passings" "count" "I", .fieldLink RX2 15 "Leaguewheel$Passings" "gateRow" "[I"] ++ wsX20)
def wsX2_count : List Cond := .code yX2_count cX2_count 1 (some .int) :: ([.fieldLink RX2 18 "Leaguewheel$Passings" "count" "I"] ++ wsX20)
def wsX2_kartAt : List Cond := .code yX2_kartAt cX2_kartAt 2 (some .int) :: ([.fieldLink RX2 9 "Leaguewheel$Passings" "kartRow" "[I"] ++ wsX20)
def wsX2_gateAt : List Cond := .code yX2_gateAt cX2_gateAt 2 (some .int) :: ([.fieldLink RX2 15 "Leaguewheel$Passings" "gateRow" "[I"] ++ wsX20)
def wsX3_init : List Cond := .code yX3_init cX3_init 2 none :: ([.methodLink RX3 3 objectInit, .instanceMethod objectInit, .code objectInit ⟨#[0xb1]⟩ 1 none, .fieldLink RX3 9 "Leaguewheel$Race" "track" "LLeaguewheel$Track;", .arrayClass .int, .fieldLink RX3 15 "Leaguewheel$Race" "gateRow" "[I", .fieldLink RX3 19 "Leaguewheel$Race" "lapRow" "[I", .fieldLink RX3 22 "Leaguewheel$Race" "debtRow" "[I", .fieldLink RX3 25 "Leaguewheel$Race" "passedRow" "[I", .fieldLink RX3 28 "Leaguewheel$Race" "momentRow" "[I", .fieldLink RX3 31 "Leaguewheel$Race" "order" "[I", .fieldLink RX3 34 "Leaguewheel$Race" "rankRow" "[I", .fieldLink RX3 37 "Leaguewheel$Race" "count" "I", .fieldLink RX3 41 "Leaguewheel$Race" "goal" "I", .fieldLink RX3 44 "Leaguewheel$Race" "moment" "I"] ++ wsX30)
def wsX3_begin : List Cond := .code yX3_begin cX3_begin 4 none :: ([.fieldLink RX3 37 "Leaguewheel$Race" "count" "I", .fieldLink RX3 41 "Leaguewheel$Race" "goal" "I", .fieldLink RX3 44 "Leaguewheel$Race" "moment" "I", .fieldLink RX3 15 "Leaguewheel$Race" "gateRow" "[I", .fieldLink RX3 19 "Leaguewheel$Race" "lapRow" "[I", .fieldLink RX3 22 "Leaguewheel$Race" "debtRow" "[I", .fieldLink RX3 25 "Leaguewheel$Race" "passedRow" "[I", .fieldLink RX3 28 "Leaguewheel$Race" "momentRow" "[I"] ++ wsX30)
def wsX3_lapGoal : List Cond := .code yX3_lapGoal cX3_lapGoal 1 (some .int) :: ([.fieldLink RX3 41 "Leaguewheel$Race" "goal" "I"] ++ wsX30)
def wsX3_gateAt : List Cond := .code yX3_gateAt cX3_gateAt 2 (some .int) :: ([.fieldLink RX3 15 "Leaguewheel$Race" "gateRow" "[I"] ++ wsX30)
def wsX3_netLaps : List Cond := .code yX3_netLaps cX3_netLaps 2 (some .int) :: ([.fieldLink RX3 19 "Leaguewheel$Race" "lapRow" "[I", .fieldLink RX3 22 "Leaguewheel$Race" "debtRow" "[I"] ++ wsX30)
def wsX4_needed : List Cond := .code yX4_needed cX4_needed 1 (some .int) :: ([.fieldLink RX4 22 "Leaguewheel$Track" "neededGates" "I"] ++ wsX40)
def wsX3_missingGates : List Cond := .code yX3_missingGates cX3_missingGates 2 (some .int) :: ([.fieldLink RX3 9 "Leaguewheel$Race" "track" "LLeaguewheel$Track;", .fieldLink RX3 25 "Leaguewheel$Race" "passedRow" "[I", .methodLink RX3 47 yX4_needed, .instanceMethod yX4_needed, .selects RX4 yX4_needed yX4_needed, .initialized RX4, .code yX4_needed cX4_needed 1 (some .int), .fieldLink RX4 22 "Leaguewheel$Track" "neededGates" "I"] ++ wsX30 ++ wsX40)
def wsX3_isFinished : List Cond := .code yX3_isFinished cX3_isFinished 2 (some .boolean) :: ([.fieldLink RX3 19 "Leaguewheel$Race" "lapRow" "[I", .fieldLink RX3 41 "Leaguewheel$Race" "goal" "I"] ++ wsX30)
def wsX3_isWorthPoints : List Cond := .code yX3_isWorthPoints cX3_isWorthPoints 2 (some .boolean) :: ([.methodLink RX3 53 yX3_isFinished, .instanceMethod yX3_isFinished, .selects RX3 yX3_isFinished yX3_isFinished, .initialized RX3, .code yX3_isFinished cX3_isFinished 2 (some .boolean), .fieldLink RX3 19 "Leaguewheel$Race" "lapRow" "[I", .fieldLink RX3 41 "Leaguewheel$Race" "goal" "I", .methodLink RX3 57 yX3_netLaps, .instanceMethod yX3_netLaps, .selects RX3 yX3_netLaps yX3_netLaps, .code yX3_netLaps cX3_netLaps 2 (some .int), .fieldLink RX3 22 "Leaguewheel$Race" "debtRow" "[I"] ++ wsX30)
def wsX4_wayLength : List Cond := .code yX4_wayLength cX4_wayLength 3 (some .int) :: ([.fieldLink RX4 9 "Leaguewheel$Track" "lengths" "[I"] ++ wsX40)
def wsX4_leads : List Cond := .code yX4_leads cX4_leads 3 (some .boolean) :: ([.methodLink RX4 25 yX4_wayLength, .instanceMethod yX4_wayLength, .selects RX4 yX4_wayLength yX4_wayLength, .initialized RX4, .code yX4_wayLength cX4_wayLength 3 (some .int), .fieldLink RX4 9 "Leaguewheel$Track" "lengths" "[I"] ++ wsX40)
def wsX3_goBack : List Cond := .code yX3_goBack cX3_goBack 3 (some .int) :: ([.fieldLink RX3 22 "Leaguewheel$Race" "debtRow" "[I", .fieldLink RX3 25 "Leaguewheel$Race" "passedRow" "[I"] ++ wsX30)
def wsX3_crossLine : List Cond := .code yX3_crossLine cX3_crossLine 3 (some .int) :: ([.fieldLink RX3 25 "Leaguewheel$Race" "passedRow" "[I", .fieldLink RX3 22 "Leaguewheel$Race" "debtRow" "[I", .fieldLink RX3 19 "Leaguewheel$Race" "lapRow" "[I", .methodLink RX3 78 yX3_missingGates, .instanceMethod yX3_missingGates, .selects RX3 yX3_missingGates yX3_missingGates, .initialized RX3, .code yX3_missingGates cX3_missingGates 2 (some .int), .fieldLink RX3 9 "Leaguewheel$Race" "track" "LLeaguewheel$Track;", .methodLink RX3 47 yX4_needed, .instanceMethod yX4_needed, .selects RX4 yX4_needed yX4_needed, .initialized RX4, .code yX4_needed cX4_needed 1 (some .int), .fieldLink RX4 22 "Leaguewheel$Track" "neededGates" "I", .methodLink RX3 53 yX3_isFinished, .instanceMethod yX3_isFinished, .selects RX3 yX3_isFinished yX3_isFinished, .code yX3_isFinished cX3_isFinished 2 (some .boolean), .fieldLink RX3 41 "Leaguewheel$Race" "goal" "I"] ++ wsX30 ++ wsX40)
def wsX4_isNeeded : List Cond := .code yX4_isNeeded cX4_isNeeded 2 (some .boolean) :: ([.fieldLink RX4 22 "Leaguewheel$Track" "neededGates" "I"] ++ wsX40)
def wsX3_reachGate : List Cond := .code yX3_reachGate cX3_reachGate 3 (some .int) :: ([.fieldLink RX3 9 "Leaguewheel$Race" "track" "LLeaguewheel$Track;", .fieldLink RX3 22 "Leaguewheel$Race" "debtRow" "[I", .fieldLink RX3 25 "Leaguewheel$Race" "passedRow" "[I", .methodLink RX3 75 yX4_isNeeded, .instanceMethod yX4_isNeeded, .selects RX4 yX4_isNeeded yX4_isNeeded, .initialized RX4, .code yX4_isNeeded cX4_isNeeded 2 (some .boolean), .fieldLink RX4 22 "Leaguewheel$Track" "neededGates" "I"] ++ wsX30 ++ wsX40)
def wsX3_move_r1 : List Cond := [Cond.fieldLink RX3 15 "Leaguewheel$Race" "gateRow" "[I", Cond.fieldLink RX3 44 "Leaguewheel$Race" "moment" "I", Cond.fieldLink RX3 28 "Leaguewheel$Race" "momentRow" "[I", Cond.fieldLink RX3 9 "Leaguewheel$Race" "track" "LLeaguewheel$Track;", Cond.methodLink RX3 61 yX4_leads, Cond.instanceMethod yX4_leads, Cond.selects RX4 yX4_leads yX4_leads, Cond.initialized RX4, Cond.code yX4_leads cX4_leads 3 (some .boolean), Cond.methodLink RX4 25 yX4_wayLength, Cond.instanceMethod yX4_wayLength, Cond.selects RX4 yX4_wayLength yX4_wayLength, Cond.code yX4_wayLength cX4_wayLength 3 (some .int), Cond.fieldLink RX4 9 "Leaguewheel$Track" "lengths" "[I", Cond.methodLink RX3 65 yX3_goBack, Cond.instanceMethod yX3_goBack, Cond.selects RX3 yX3_goBack yX3_goBack, Cond.initialized RX3, Cond.code yX3_goBack cX3_goBack 3 (some .int), Cond.fieldLink RX3 22 "Leaguewheel$Race" "debtRow" "[I", Cond.fieldLink RX3 25 "Leaguewheel$Race" "passedRow" "[I", Cond.methodLink RX3 69 yX3_crossLine, Cond.instanceMethod yX3_crossLine, Cond.selects RX3 yX3_crossLine yX3_crossLine]
def wsX3_move_r2 : List Cond := [Cond.code yX3_crossLine cX3_crossLine 3 (some .int), Cond.fieldLink RX3 19 "Leaguewheel$Race" "lapRow" "[I", Cond.methodLink RX3 78 yX3_missingGates, Cond.instanceMethod yX3_missingGates, Cond.selects RX3 yX3_missingGates yX3_missingGates, Cond.code yX3_missingGates cX3_missingGates 2 (some .int), Cond.methodLink RX3 47 yX4_needed, Cond.instanceMethod yX4_needed, Cond.selects RX4 yX4_needed yX4_needed, Cond.code yX4_needed cX4_needed 1 (some .int), Cond.fieldLink RX4 22 "Leaguewheel$Track" "neededGates" "I", Cond.methodLink RX3 53 yX3_isFinished, Cond.instanceMethod yX3_isFinished, Cond.selects RX3 yX3_isFinished yX3_isFinished, Cond.code yX3_isFinished cX3_isFinished 2 (some .boolean), Cond.fieldLink RX3 41 "Leaguewheel$Race" "goal" "I", Cond.methodLink RX3 72 yX3_reachGate, Cond.instanceMethod yX3_reachGate, Cond.selects RX3 yX3_reachGate yX3_reachGate, Cond.code yX3_reachGate cX3_reachGate 3 (some .int), Cond.methodLink RX3 75 yX4_isNeeded, Cond.instanceMethod yX4_isNeeded, Cond.selects RX4 yX4_isNeeded yX4_isNeeded, Cond.code yX4_isNeeded cX4_isNeeded 2 (some .boolean)]
def wsX3_move : List Cond := .code yX3_move cX3_move 4 (some .int) :: ((wsX3_move_r1 ++ wsX3_move_r2) ++ wsX30 ++ wsX40)
def wsX4_restOf : List Cond := .code yX4_restOf cX4_restOf 2 (some .int) :: ([.fieldLink RX4 15 "Leaguewheel$Track" "rests" "[I"] ++ wsX40)
def wsX3_isAhead : List Cond := .code yX3_isAhead cX3_isAhead 5 (some .boolean) :: ([.fieldLink RX3 28 "Leaguewheel$Race" "momentRow" "[I", .fieldLink RX3 9 "Leaguewheel$Race" "track" "LLeaguewheel$Track;", .fieldLink RX3 15 "Leaguewheel$Race" "gateRow" "[I", .methodLink RX3 53 yX3_isFinished, .instanceMethod yX3_isFinished, .selects RX3 yX3_isFinished yX3_isFinished, .initialized RX3, .code yX3_isFinished cX3_isFinished 2 (some .boolean), .fieldLink RX3 19 "Leaguewheel$Race" "lapRow" "[I", .fieldLink RX3 41 "Leaguewheel$Race" "goal" "I", .methodLink RX3 57 yX3_netLaps, .instanceMethod yX3_netLaps, .selects RX3 yX3_netLaps yX3_netLaps, .code yX3_netLaps cX3_netLaps 2 (some .int), .fieldLink RX3 22 "Leaguewheel$Race" "debtRow" "[I", .methodLink RX3 84 yX4_restOf, .instanceMethod yX4_restOf, .selects RX4 yX4_restOf yX4_restOf, .initialized RX4, .code yX4_restOf cX4_restOf 2 (some .int), .fieldLink RX4 15 "Leaguewheel$Track" "rests" "[I"] ++ wsX30 ++ wsX40)
def wsX3_countAhead_r1 : List Cond := [Cond.fieldLink RX3 37 "Leaguewheel$Race" "count" "I", Cond.methodLink RX3 81 yX3_isAhead, Cond.instanceMethod yX3_isAhead, Cond.selects RX3 yX3_isAhead yX3_isAhead, Cond.initialized RX3, Cond.code yX3_isAhead cX3_isAhead 5 (some .boolean), Cond.fieldLink RX3 28 "Leaguewheel$Race" "momentRow" "[I", Cond.fieldLink RX3 9 "Leaguewheel$Race" "track" "LLeaguewheel$Track;", Cond.fieldLink RX3 15 "Leaguewheel$Race" "gateRow" "[I", Cond.methodLink RX3 53 yX3_isFinished, Cond.instanceMethod yX3_isFinished, Cond.selects RX3 yX3_isFinished yX3_isFinished, Cond.code yX3_isFinished cX3_isFinished 2 (some .boolean), Cond.fieldLink RX3 19 "Leaguewheel$Race" "lapRow" "[I", Cond.fieldLink RX3 41 "Leaguewheel$Race" "goal" "I", Cond.methodLink RX3 57 yX3_netLaps, Cond.instanceMethod yX3_netLaps, Cond.selects RX3 yX3_netLaps yX3_netLaps, Cond.code yX3_netLaps cX3_netLaps 2 (some .int), Cond.fieldLink RX3 22 "Leaguewheel$Race" "debtRow" "[I", Cond.methodLink RX3 84 yX4_restOf, Cond.instanceMethod yX4_restOf, Cond.selects RX4 yX4_restOf yX4_restOf, Cond.initialized RX4]
def wsX3_countAhead_r2 : List Cond := [Cond.code yX4_restOf cX4_restOf 2 (some .int), Cond.fieldLink RX4 15 "Leaguewheel$Track" "rests" "[I"]
def wsX3_countAhead : List Cond := .code yX3_countAhead cX3_countAhead 4 (some .int) :: ((wsX3_countAhead_r1 ++ wsX3_countAhead_r2) ++ wsX30 ++ wsX40)
def wsX3_insertInOrder_r1 : List Cond := [Cond.fieldLink RX3 31 "Leaguewheel$Race" "order" "[I", Cond.methodLink RX3 81 yX3_isAhead, Cond.instanceMethod yX3_isAhead, Cond.selects RX3 yX3_isAhead yX3_isAhead, Cond.initialized RX3, Cond.code yX3_isAhead cX3_isAhead 5 (some .boolean), Cond.fieldLink RX3 28 "Leaguewheel$Race" "momentRow" "[I", Cond.fieldLink RX3 9 "Leaguewheel$Race" "track" "LLeaguewheel$Track;", Cond.fieldLink RX3 15 "Leaguewheel$Race" "gateRow" "[I", Cond.methodLink RX3 53 yX3_isFinished, Cond.instanceMethod yX3_isFinished, Cond.selects RX3 yX3_isFinished yX3_isFinished, Cond.code yX3_isFinished cX3_isFinished 2 (some .boolean), Cond.fieldLink RX3 19 "Leaguewheel$Race" "lapRow" "[I", Cond.fieldLink RX3 41 "Leaguewheel$Race" "goal" "I", Cond.methodLink RX3 57 yX3_netLaps, Cond.instanceMethod yX3_netLaps, Cond.selects RX3 yX3_netLaps yX3_netLaps, Cond.code yX3_netLaps cX3_netLaps 2 (some .int), Cond.fieldLink RX3 22 "Leaguewheel$Race" "debtRow" "[I", Cond.methodLink RX3 84 yX4_restOf, Cond.instanceMethod yX4_restOf, Cond.selects RX4 yX4_restOf yX4_restOf, Cond.initialized RX4]
def wsX3_insertInOrder_r2 : List Cond := [Cond.code yX4_restOf cX4_restOf 2 (some .int), Cond.fieldLink RX4 15 "Leaguewheel$Track" "rests" "[I"]
def wsX3_insertInOrder : List Cond := .code yX3_insertInOrder cX3_insertInOrder 3 none :: ((wsX3_insertInOrder_r1 ++ wsX3_insertInOrder_r2) ++ wsX30 ++ wsX40)
def wsX3_sortedRank_r1 : List Cond := [Cond.fieldLink RX3 37 "Leaguewheel$Race" "count" "I", Cond.fieldLink RX3 34 "Leaguewheel$Race" "rankRow" "[I", Cond.fieldLink RX3 31 "Leaguewheel$Race" "order" "[I", Cond.methodLink RX3 87 yX3_insertInOrder, Cond.instanceMethod yX3_insertInOrder, Cond.selects RX3 yX3_insertInOrder yX3_insertInOrder, Cond.initialized RX3, Cond.code yX3_insertInOrder cX3_insertInOrder 3 none, Cond.methodLink RX3 81 yX3_isAhead, Cond.instanceMethod yX3_isAhead, Cond.selects RX3 yX3_isAhead yX3_isAhead, Cond.code yX3_isAhead cX3_isAhead 5 (some .boolean), Cond.fieldLink RX3 28 "Leaguewheel$Race" "momentRow" "[I", Cond.fieldLink RX3 9 "Leaguewheel$Race" "track" "LLeaguewheel$Track;", Cond.fieldLink RX3 15 "Leaguewheel$Race" "gateRow" "[I", Cond.methodLink RX3 53 yX3_isFinished, Cond.instanceMethod yX3_isFinished, Cond.selects RX3 yX3_isFinished yX3_isFinished, Cond.code yX3_isFinished cX3_isFinished 2 (some .boolean), Cond.fieldLink RX3 19 "Leaguewheel$Race" "lapRow" "[I", Cond.fieldLink RX3 41 "Leaguewheel$Race" "goal" "I", Cond.methodLink RX3 57 yX3_netLaps, Cond.instanceMethod yX3_netLaps, Cond.selects RX3 yX3_netLaps yX3_netLaps]
def wsX3_sortedRank_r2 : List Cond := [Cond.code yX3_netLaps cX3_netLaps 2 (some .int), Cond.fieldLink RX3 22 "Leaguewheel$Race" "debtRow" "[I", Cond.methodLink RX3 84 yX4_restOf, Cond.instanceMethod yX4_restOf, Cond.selects RX4 yX4_restOf yX4_restOf, Cond.initialized RX4, Cond.code yX4_restOf cX4_restOf 2 (some .int), Cond.fieldLink RX4 15 "Leaguewheel$Track" "rests" "[I"]
def wsX3_sortedRank : List Cond := .code yX3_sortedRank cX3_sortedRank 3 (some .int) :: ((wsX3_sortedRank_r1 ++ wsX3_sortedRank_r2) ++ wsX30 ++ wsX40)
def wsX3_wayDone : List Cond := .code yX3_wayDone cX3_wayDone 4 (some .int) :: ([.fieldLink RX3 9 "Leaguewheel$Race" "track" "LLeaguewheel$Track;", .fieldLink RX3 15 "Leaguewheel$Race" "gateRow" "[I", .methodLink RX3 84 yX4_restOf, .instanceMethod yX4_restOf, .selects RX4 yX4_restOf yX4_restOf, .initialized RX4, .code yX4_restOf cX4_restOf 2 (some .int), .fieldLink RX4 15 "Leaguewheel$Track" "rests" "[I", .methodLink RX3 57 yX3_netLaps, .instanceMethod yX3_netLaps, .selects RX3 yX3_netLaps yX3_netLaps, .initialized RX3, .code yX3_netLaps cX3_netLaps 2 (some .int), .fieldLink RX3 19 "Leaguewheel$Race" "lapRow" "[I", .fieldLink RX3 22 "Leaguewheel$Race" "debtRow" "[I"] ++ wsX30 ++ wsX40)
def wsX3_leadOver_r1 : List Cond := [Cond.fieldLink RX3 37 "Leaguewheel$Race" "count" "I", Cond.methodLink RX3 97 Lib.Math.max.name, Cond.static Lib.Math.max.name, Cond.initialized "java/lang/Math", Cond.code Lib.Math.max.name Lib.Math.max.code 2 (some .int), Cond.methodLink RX3 91 yX3_countAhead, Cond.instanceMethod yX3_countAhead, Cond.selects RX3 yX3_countAhead yX3_countAhead, Cond.initialized RX3, Cond.code yX3_countAhead cX3_countAhead 4 (some .int), Cond.methodLink RX3 81 yX3_isAhead, Cond.instanceMethod yX3_isAhead, Cond.selects RX3 yX3_isAhead yX3_isAhead, Cond.code yX3_isAhead cX3_isAhead 5 (some .boolean), Cond.fieldLink RX3 28 "Leaguewheel$Race" "momentRow" "[I", Cond.fieldLink RX3 9 "Leaguewheel$Race" "track" "LLeaguewheel$Track;", Cond.fieldLink RX3 15 "Leaguewheel$Race" "gateRow" "[I", Cond.methodLink RX3 53 yX3_isFinished, Cond.instanceMethod yX3_isFinished, Cond.selects RX3 yX3_isFinished yX3_isFinished, Cond.code yX3_isFinished cX3_isFinished 2 (some .boolean), Cond.fieldLink RX3 19 "Leaguewheel$Race" "lapRow" "[I", Cond.fieldLink RX3 41 "Leaguewheel$Race" "goal" "I", Cond.methodLink RX3 57 yX3_netLaps]
def wsX3_leadOver_r2 : List Cond := [Cond.instanceMethod yX3_netLaps, Cond.selects RX3 yX3_netLaps yX3_netLaps, Cond.code yX3_netLaps cX3_netLaps 2 (some .int), Cond.fieldLink RX3 22 "Leaguewheel$Race" "debtRow" "[I", Cond.methodLink RX3 84 yX4_restOf, Cond.instanceMethod yX4_restOf, Cond.selects RX4 yX4_restOf yX4_restOf, Cond.initialized RX4, Cond.code yX4_restOf cX4_restOf 2 (some .int), Cond.fieldLink RX4 15 "Leaguewheel$Track" "rests" "[I", Cond.methodLink RX3 94 yX3_wayDone, Cond.instanceMethod yX3_wayDone, Cond.selects RX3 yX3_wayDone yX3_wayDone, Cond.code yX3_wayDone cX3_wayDone 4 (some .int)]
def wsX3_leadOver : List Cond := .code yX3_leadOver cX3_leadOver 4 (some .int) :: ((wsX3_leadOver_r1 ++ wsX3_leadOver_r2) ++ wsX30 ++ wsX40)
def wsX4_init : List Cond := .code yX4_init cX4_init 1 none :: ([.methodLink RX4 3 objectInit, .instanceMethod objectInit, .code objectInit ⟨#[0xb1]⟩ 1 none, .arrayClass .int, .fieldLink RX4 9 "Leaguewheel$Track" "lengths" "[I", .fieldLink RX4 15 "Leaguewheel$Track" "rests" "[I", .fieldLink RX4 18 "Leaguewheel$Track" "count" "I", .fieldLink RX4 22 "Leaguewheel$Track" "neededGates" "I"] ++ wsX40)
def wsX4_gateCount : List Cond := .code yX4_gateCount cX4_gateCount 1 (some .int) :: ([.fieldLink RX4 18 "Leaguewheel$Track" "count" "I"] ++ wsX40)
def wsX4_isFull : List Cond := .code yX4_isFull cX4_isFull 1 (some .boolean) :: ([.fieldLink RX4 18 "Leaguewheel$Track" "count" "I"] ++ wsX40)
def wsX4_appendGate : List Cond := .code yX4_appendGate cX4_appendGate 3 (some .int) :: ([.fieldLink RX4 18 "Leaguewheel$Track" "count" "I", .fieldLink RX4 15 "Leaguewheel$Track" "rests" "[I", .fieldLink RX4 22 "Leaguewheel$Track" "neededGates" "I"] ++ wsX40)
def wsX4_joins : List Cond := .code yX4_joins cX4_joins 3 (some .boolean) :: ([.methodLink RX4 29 yX4_leads, .instanceMethod yX4_leads, .selects RX4 yX4_leads yX4_leads, .initialized RX4, .code yX4_leads cX4_leads 3 (some .boolean), .methodLink RX4 25 yX4_wayLength, .instanceMethod yX4_wayLength, .selects RX4 yX4_wayLength yX4_wayLength, .code yX4_wayLength cX4_wayLength 3 (some .int), .fieldLink RX4 9 "Leaguewheel$Track" "lengths" "[I"] ++ wsX40)
def wsX4_leastRest : List Cond := .code yX4_leastRest cX4_leastRest 5 (some .int) :: ([.fieldLink RX4 18 "Leaguewheel$Track" "count" "I", .fieldLink RX4 15 "Leaguewheel$Track" "rests" "[I", .methodLink RX4 44 Lib.Math.min.name, .static Lib.Math.min.name, .initialized "java/lang/Math", .code Lib.Math.min.name Lib.Math.min.code 2 (some .int), .methodLink RX4 29 yX4_leads, .instanceMethod yX4_leads, .selects RX4 yX4_leads yX4_leads, .initialized RX4, .code yX4_leads cX4_leads 3 (some .boolean), .methodLink RX4 25 yX4_wayLength, .instanceMethod yX4_wayLength, .selects RX4 yX4_wayLength yX4_wayLength, .code yX4_wayLength cX4_wayLength 3 (some .int), .fieldLink RX4 9 "Leaguewheel$Track" "lengths" "[I"] ++ wsX40)
def wsX4_measureRests : List Cond := .code yX4_measureRests cX4_measureRests 2 none :: ([.fieldLink RX4 18 "Leaguewheel$Track" "count" "I", .fieldLink RX4 15 "Leaguewheel$Track" "rests" "[I", .methodLink RX4 40 yX4_leastRest, .instanceMethod yX4_leastRest, .selects RX4 yX4_leastRest yX4_leastRest, .initialized RX4, .code yX4_leastRest cX4_leastRest 5 (some .int), .methodLink RX4 44 Lib.Math.min.name, .static Lib.Math.min.name, .initialized "java/lang/Math", .code Lib.Math.min.name Lib.Math.min.code 2 (some .int), .methodLink RX4 29 yX4_leads, .instanceMethod yX4_leads, .selects RX4 yX4_leads yX4_leads, .code yX4_leads cX4_leads 3 (some .boolean), .methodLink RX4 25 yX4_wayLength, .instanceMethod yX4_wayLength, .selects RX4 yX4_wayLength yX4_wayLength, .code yX4_wayLength cX4_wayLength 3 (some .int), .fieldLink RX4 9 "Leaguewheel$Track" "lengths" "[I"] ++ wsX40)
def wsX4_layWay : List Cond := .code yX4_layWay cX4_layWay 4 none :: ([.fieldLink RX4 9 "Leaguewheel$Track" "lengths" "[I", .methodLink RX4 33 yX4_measureRests, .instanceMethod yX4_measureRests, .selects RX4 yX4_measureRests yX4_measureRests, .initialized RX4, .code yX4_measureRests cX4_measureRests 2 none, .fieldLink RX4 18 "Leaguewheel$Track" "count" "I", .fieldLink RX4 15 "Leaguewheel$Track" "rests" "[I", .methodLink RX4 40 yX4_leastRest, .instanceMethod yX4_leastRest, .selects RX4 yX4_leastRest yX4_leastRest, .code yX4_leastRest cX4_leastRest 5 (some .int), .methodLink RX4 44 Lib.Math.min.name, .static Lib.Math.min.name, .initialized "java/lang/Math", .code Lib.Math.min.name Lib.Math.min.code 2 (some .int), .methodLink RX4 29 yX4_leads, .instanceMethod yX4_leads, .selects RX4 yX4_leads yX4_leads, .code yX4_leads cX4_leads 3 (some .boolean), .methodLink RX4 25 yX4_wayLength, .instanceMethod yX4_wayLength, .selects RX4 yX4_wayLength yX4_wayLength, .code yX4_wayLength cX4_wayLength 3 (some .int)] ++ wsX40)
def wsX4_leadsOn : List Cond := .code yX4_leadsOn cX4_leadsOn 3 (some .boolean) :: ([.fieldLink RX4 18 "Leaguewheel$Track" "count" "I", .methodLink RX4 29 yX4_leads, .instanceMethod yX4_leads, .selects RX4 yX4_leads yX4_leads, .initialized RX4, .code yX4_leads cX4_leads 3 (some .boolean), .methodLink RX4 25 yX4_wayLength, .instanceMethod yX4_wayLength, .selects RX4 yX4_wayLength yX4_wayLength, .code yX4_wayLength cX4_wayLength 3 (some .int), .fieldLink RX4 9 "Leaguewheel$Track" "lengths" "[I"] ++ wsX40)
def wsX4_hasDeadEnd : List Cond := .code yX4_hasDeadEnd cX4_hasDeadEnd 2 (some .boolean) :: ([.fieldLink RX4 18 "Leaguewheel$Track" "count" "I", .methodLink RX4 36 yX4_leadsOn, .instanceMethod yX4_leadsOn, .selects RX4 yX4_leadsOn yX4_leadsOn, .initialized RX4, .code yX4_leadsOn cX4_leadsOn 3 (some .boolean), .methodLink RX4 29 yX4_leads, .instanceMethod yX4_leads, .selects RX4 yX4_leads yX4_leads, .code yX4_leads cX4_leads 3 (some .boolean), .methodLink RX4 25 yX4_wayLength, .instanceMethod yX4_wayLength, .selects RX4 yX4_wayLength yX4_wayLength, .code yX4_wayLength cX4_wayLength 3 (some .int), .fieldLink RX4 9 "Leaguewheel$Track" "lengths" "[I"] ++ wsX40)
def wsX5_init_r1 : List Cond := [Cond.methodLink RX5 1 objectInit, Cond.instanceMethod objectInit, Cond.code objectInit ⟨#[0xb1]⟩ 1 none, Cond.classLink RX5 7 RX4, Cond.instantiable RX4 4, Cond.initialized RX4, Cond.fieldLink RX5 10 "Leaguewheel" "track" "LLeaguewheel$Track;", Cond.classLink RX5 16 RX3, Cond.instantiable RX3 11, Cond.initialized RX3, Cond.fieldLink RX5 21 "Leaguewheel" "race" "LLeaguewheel$Race;", Cond.fieldLink RX5 25 "Leaguewheel" "retold" "LLeaguewheel$Race;", Cond.classLink RX5 28 RX2, Cond.instantiable RX2 3, Cond.initialized RX2, Cond.fieldLink RX5 31 "Leaguewheel" "passings" "LLeaguewheel$Passings;", Cond.classLink RX5 35 RX1, Cond.instantiable RX1 4, Cond.initialized RX1, Cond.fieldLink RX5 38 "Leaguewheel" "items" "LLeaguewheel$Items;", Cond.classLink RX5 42 RX0, Cond.instantiable RX0 4, Cond.initialized RX0, Cond.fieldLink RX5 45 "Leaguewheel" "cup" "LLeaguewheel$Cup;"]
def wsX5_init_r2 : List Cond := [Cond.arrayClass .int, Cond.fieldLink RX5 49 "Leaguewheel" "teams" "[I", Cond.fieldLink RX5 53 "Leaguewheel" "kartCount" "I", Cond.fieldLink RX5 57 "Leaguewheel" "raceIsOn" "Z", Cond.fieldLink RX5 61 "Leaguewheel" "tick" "I", Cond.methodLink RX5 9 yX4_init, Cond.instanceMethod yX4_init, Cond.code yX4_init cX4_init 1 none, Cond.methodLink RX4 3 objectInit, Cond.fieldLink RX4 9 "Leaguewheel$Track" "lengths" "[I", Cond.fieldLink RX4 15 "Leaguewheel$Track" "rests" "[I", Cond.fieldLink RX4 18 "Leaguewheel$Track" "count" "I", Cond.fieldLink RX4 22 "Leaguewheel$Track" "neededGates" "I", Cond.methodLink RX5 18 yX3_init, Cond.instanceMethod yX3_init, Cond.code yX3_init cX3_init 2 none, Cond.methodLink RX3 3 objectInit, Cond.fieldLink RX3 9 "Leaguewheel$Race" "track" "LLeaguewheel$Track;", Cond.fieldLink RX3 15 "Leaguewheel$Race" "gateRow" "[I", Cond.fieldLink RX3 19 "Leaguewheel$Race" "lapRow" "[I", Cond.fieldLink RX3 22 "Leaguewheel$Race" "debtRow" "[I", Cond.fieldLink RX3 25 "Leaguewheel$Race" "passedRow" "[I", Cond.fieldLink RX3 28 "Leaguewheel$Race" "momentRow" "[I", Cond.fieldLink RX3 31 "Leaguewheel$Race" "order" "[I"]
def wsX5_init_r3 : List Cond := [Cond.fieldLink RX3 34 "Leaguewheel$Race" "rankRow" "[I", Cond.fieldLink RX3 37 "Leaguewheel$Race" "count" "I", Cond.fieldLink RX3 41 "Leaguewheel$Race" "goal" "I", Cond.fieldLink RX3 44 "Leaguewheel$Race" "moment" "I", Cond.methodLink RX5 30 yX2_init, Cond.instanceMethod yX2_init, Cond.code yX2_init cX2_init 1 none, Cond.methodLink RX2 3 objectInit, Cond.fieldLink RX2 9 "Leaguewheel$Passings" "kartRow" "[I", Cond.fieldLink RX2 15 "Leaguewheel$Passings" "gateRow" "[I", Cond.fieldLink RX2 18 "Leaguewheel$Passings" "count" "I", Cond.methodLink RX5 37 yX1_init, Cond.instanceMethod yX1_init, Cond.code yX1_init cX1_init 1 none, Cond.methodLink RX1 3 objectInit, Cond.fieldLink RX1 9 "Leaguewheel$Items" "itemRow" "[I", Cond.arrayClass .boolean, Cond.fieldLink RX1 15 "Leaguewheel$Items" "shieldRow" "[Z", Cond.fieldLink RX1 19 "Leaguewheel$Items" "awakeRow" "[I", Cond.fieldLink RX1 22 "Leaguewheel$Items" "number" "I", Cond.methodLink RX1 26 yX1_clear, Cond.instanceMethod yX1_clear, Cond.selects RX1 yX1_clear yX1_clear, Cond.code yX1_clear cX1_clear 2 none]
def wsX5_init_r4 : List Cond := [Cond.methodLink RX5 44 yX0_init, Cond.instanceMethod yX0_init, Cond.code yX0_init cX0_init 1 none, Cond.methodLink RX0 3 objectInit, Cond.fieldLink RX0 9 "Leaguewheel$Cup" "placeRow" "[I", Cond.fieldLink RX0 15 "Leaguewheel$Cup" "pointRow" "[I", Cond.fieldLink RX0 18 "Leaguewheel$Cup" "ended" "I", Cond.fieldLink RX0 22 "Leaguewheel$Cup" "dropped" "I"]
def wsX5_init : List Cond := .code yX5_init cX5_init 1 none :: ((wsX5_init_r1 ++ (wsX5_init_r2 ++ (wsX5_init_r3 ++ wsX5_init_r4))) ++ wsX40 ++ wsX50 ++ wsX30 ++ wsX20 ++ wsX10 ++ wsX00)
def wsX5_checkNeverStarted : List Cond := .code yX5_checkNeverStarted cX5_checkNeverStarted 1 none :: ([.classLink RX5 71 "java/lang/IllegalStateException", .initialized "java/lang/IllegalStateException", .fieldLink RX5 57 "Leaguewheel" "raceIsOn" "Z", .fieldLink RX5 45 "Leaguewheel" "cup" "LLeaguewheel$Cup;", .methodLink RX5 120 yX0_endedRaces, .instanceMethod yX0_endedRaces, .selects RX0 yX0_endedRaces yX0_endedRaces, .initialized RX0, .code yX0_endedRaces cX0_endedRaces 1 (some .int), .fieldLink RX0 18 "Leaguewheel$Cup" "ended" "I"] ++ wsX50 ++ wsX00 ++ (vx_atS RX5 75 "java/lang/IllegalStateException" ["java/lang/RuntimeException", "java/lang/Exception"]).filter goodWord)
def wsX5_addGate_r1 : List Cond := [Cond.classLink RX5 71 "java/lang/IllegalStateException", Cond.initialized "java/lang/IllegalStateException", Cond.fieldLink RX5 10 "Leaguewheel" "track" "LLeaguewheel$Track;", Cond.methodLink RX5 64 yX5_checkNeverStarted, Cond.instanceMethod yX5_checkNeverStarted, Cond.selects RX5 yX5_checkNeverStarted yX5_checkNeverStarted, Cond.initialized RX5, Cond.code yX5_checkNeverStarted cX5_checkNeverStarted 1 none, Cond.fieldLink RX5 57 "Leaguewheel" "raceIsOn" "Z", Cond.fieldLink RX5 45 "Leaguewheel" "cup" "LLeaguewheel$Cup;", Cond.methodLink RX5 120 yX0_endedRaces, Cond.instanceMethod yX0_endedRaces, Cond.selects RX0 yX0_endedRaces yX0_endedRaces, Cond.initialized RX0, Cond.code yX0_endedRaces cX0_endedRaces 1 (some .int), Cond.fieldLink RX0 18 "Leaguewheel$Cup" "ended" "I", Cond.methodLink RX5 67 yX4_isFull, Cond.instanceMethod yX4_isFull, Cond.selects RX4 yX4_isFull yX4_isFull, Cond.initialized RX4, Cond.code yX4_isFull cX4_isFull 1 (some .boolean), Cond.fieldLink RX4 18 "Leaguewheel$Track" "count" "I", Cond.methodLink RX5 78 yX4_appendGate, Cond.instanceMethod yX4_appendGate]
def wsX5_addGate_r2 : List Cond := [Cond.selects RX4 yX4_appendGate yX4_appendGate, Cond.code yX4_appendGate cX4_appendGate 3 (some .int), Cond.fieldLink RX4 15 "Leaguewheel$Track" "rests" "[I", Cond.fieldLink RX4 22 "Leaguewheel$Track" "neededGates" "I"]
def wsX5_addGate : List Cond := .code yX5_addGate cX5_addGate 2 (some .int) :: ((wsX5_addGate_r1 ++ wsX5_addGate_r2) ++ wsX50 ++ wsX00 ++ wsX40 ++ (vx_atS RX5 75 "java/lang/IllegalStateException" ["java/lang/RuntimeException", "java/lang/Exception"]).filter goodWord)
def wsX5_checkGate : List Cond := .code yX5_checkGate cX5_checkGate 2 none :: ([.classLink RX5 241 "java/lang/IndexOutOfBoundsException", .initialized "java/lang/IndexOutOfBoundsException", .fieldLink RX5 10 "Leaguewheel" "track" "LLeaguewheel$Track;", .methodLink RX5 108 yX4_gateCount, .instanceMethod yX4_gateCount, .selects RX4 yX4_gateCount yX4_gateCount, .initialized RX4, .code yX4_gateCount cX4_gateCount 1 (some .int), .fieldLink RX4 18 "Leaguewheel$Track" "count" "I"] ++ wsX50 ++ wsX40 ++ (vx_atS RX5 245 "java/lang/IndexOutOfBoundsException" ["java/lang/RuntimeException", "java/lang/Exception"]).filter goodWord)
def wsX5_addWay_r1 : List Cond := [Cond.classLink RX5 86 "java/lang/IllegalArgumentException", Cond.initialized "java/lang/IllegalArgumentException", Cond.fieldLink RX5 10 "Leaguewheel" "track" "LLeaguewheel$Track;", Cond.methodLink RX5 82 yX5_checkGate, Cond.instanceMethod yX5_checkGate, Cond.selects RX5 yX5_checkGate yX5_checkGate, Cond.initialized RX5, Cond.code yX5_checkGate cX5_checkGate 2 none, Cond.classLink RX5 241 "java/lang/IndexOutOfBoundsException", Cond.initialized "java/lang/IndexOutOfBoundsException", Cond.methodLink RX5 108 yX4_gateCount, Cond.instanceMethod yX4_gateCount, Cond.selects RX4 yX4_gateCount yX4_gateCount, Cond.initialized RX4, Cond.code yX4_gateCount cX4_gateCount 1 (some .int), Cond.fieldLink RX4 18 "Leaguewheel$Track" "count" "I", Cond.methodLink RX5 64 yX5_checkNeverStarted, Cond.instanceMethod yX5_checkNeverStarted, Cond.selects RX5 yX5_checkNeverStarted yX5_checkNeverStarted, Cond.code yX5_checkNeverStarted cX5_checkNeverStarted 1 none, Cond.classLink RX5 71 "java/lang/IllegalStateException", Cond.initialized "java/lang/IllegalStateException", Cond.fieldLink RX5 57 "Leaguewheel" "raceIsOn" "Z", Cond.fieldLink RX5 45 "Leaguewheel" "cup" "LLeaguewheel$Cup;"]
def wsX5_addWay_r2 : List Cond := [Cond.methodLink RX5 120 yX0_endedRaces, Cond.instanceMethod yX0_endedRaces, Cond.selects RX0 yX0_endedRaces yX0_endedRaces, Cond.initialized RX0, Cond.code yX0_endedRaces cX0_endedRaces 1 (some .int), Cond.fieldLink RX0 18 "Leaguewheel$Cup" "ended" "I", Cond.methodLink RX5 95 yX4_wayLength, Cond.instanceMethod yX4_wayLength, Cond.selects RX4 yX4_wayLength yX4_wayLength, Cond.code yX4_wayLength cX4_wayLength 3 (some .int), Cond.fieldLink RX4 9 "Leaguewheel$Track" "lengths" "[I", Cond.methodLink RX5 99 yX4_layWay, Cond.instanceMethod yX4_layWay, Cond.selects RX4 yX4_layWay yX4_layWay, Cond.code yX4_layWay cX4_layWay 4 none, Cond.methodLink RX4 33 yX4_measureRests, Cond.instanceMethod yX4_measureRests, Cond.selects RX4 yX4_measureRests yX4_measureRests, Cond.code yX4_measureRests cX4_measureRests 2 none, Cond.fieldLink RX4 15 "Leaguewheel$Track" "rests" "[I", Cond.methodLink RX4 40 yX4_leastRest, Cond.instanceMethod yX4_leastRest, Cond.selects RX4 yX4_leastRest yX4_leastRest, Cond.code yX4_leastRest cX4_leastRest 5 (some .int)]
def wsX5_addWay_r3 : List Cond := [Cond.methodLink RX4 44 Lib.Math.min.name, Cond.static Lib.Math.min.name, Cond.initialized "java/lang/Math", Cond.code Lib.Math.min.name Lib.Math.min.code 2 (some .int), Cond.methodLink RX4 29 yX4_leads, Cond.instanceMethod yX4_leads, Cond.selects RX4 yX4_leads yX4_leads, Cond.code yX4_leads cX4_leads 3 (some .boolean), Cond.methodLink RX4 25 yX4_wayLength]
def wsX5_addWay : List Cond := .code yX5_addWay cX5_addWay 5 (some .int) :: ((wsX5_addWay_r1 ++ (wsX5_addWay_r2 ++ wsX5_addWay_r3)) ++ wsX50 ++ wsX40 ++ wsX00 ++ (vx_atS RX5 90 "java/lang/IllegalArgumentException" ["java/lang/RuntimeException", "java/lang/Exception"]).filter goodWord ++ (vx_atS RX5 245 "java/lang/IndexOutOfBoundsException" ["java/lang/RuntimeException", "java/lang/Exception"]).filter goodWord ++ (vx_atS RX5 75 "java/lang/IllegalStateException" ["java/lang/RuntimeException", "java/lang/Exception"]).filter goodWord)
def wsX5_checkTeam : List Cond := .code yX5_checkTeam cX5_checkTeam 2 none :: ([.classLink RX5 241 "java/lang/IndexOutOfBoundsException", .initialized "java/lang/IndexOutOfBoundsException"] ++ (vx_atS RX5 245 "java/lang/IndexOutOfBoundsException" ["java/lang/RuntimeException", "java/lang/Exception"]).filter goodWord)
def wsX5_addKart : List Cond := .code yX5_addKart cX5_addKart 3 (some .int) :: ([.classLink RX5 71 "java/lang/IllegalStateException", .initialized "java/lang/IllegalStateException", .fieldLink RX5 53 "Leaguewheel" "kartCount" "I", .fieldLink RX5 49 "Leaguewheel" "teams" "[I", .methodLink RX5 103 yX5_checkTeam, .instanceMethod yX5_checkTeam, .selects RX5 yX5_checkTeam yX5_checkTeam, .initialized RX5, .code yX5_checkTeam cX5_checkTeam 2 none, .classLink RX5 241 "java/lang/IndexOutOfBoundsException", .initialized "java/lang/IndexOutOfBoundsException", .methodLink RX5 64 yX5_checkNeverStarted, .instanceMethod yX5_checkNeverStarted, .selects RX5 yX5_checkNeverStarted yX5_checkNeverStarted, .code yX5_checkNeverStarted cX5_checkNeverStarted 1 none, .fieldLink RX5 57 "Leaguewheel" "raceIsOn" "Z", .fieldLink RX5 45 "Leaguewheel" "cup" "LLeaguewheel$Cup;", .methodLink RX5 120 yX0_endedRaces, .instanceMethod yX0_endedRaces, .selects RX0 yX0_endedRaces yX0_endedRaces, .initialized RX0, .code yX0_endedRaces cX0_endedRaces 1 (some .int), .fieldLink RX0 18 "Leaguewheel$Cup" "ended" "I"] ++ wsX50 ++ wsX00 ++ (vx_atS RX5 75 "java/lang/IllegalStateException" ["java/lang/RuntimeException", "java/lang/Exception"]).filter goodWord ++ (vx_atS RX5 245 "java/lang/IndexOutOfBoundsException" ["java/lang/RuntimeException", "java/lang/Exception"]).filter goodWord)
def wsX5_gates : List Cond := .code yX5_gates cX5_gates 1 (some .int) :: ([.fieldLink RX5 10 "Leaguewheel" "track" "LLeaguewheel$Track;", .methodLink RX5 108 yX4_gateCount, .instanceMethod yX4_gateCount, .selects RX4 yX4_gateCount yX4_gateCount, .initialized RX4, .code yX4_gateCount cX4_gateCount 1 (some .int), .fieldLink RX4 18 "Leaguewheel$Track" "count" "I"] ++ wsX50 ++ wsX40)
def wsX5_karts : List Cond := .code yX5_karts cX5_karts 1 (some .int) :: ([.fieldLink RX5 53 "Leaguewheel" "kartCount" "I"] ++ wsX50)
def wsX5_rest : List Cond := .code yX5_rest cX5_rest 2 (some .int) :: ([.fieldLink RX5 10 "Leaguewheel" "track" "LLeaguewheel$Track;", .methodLink RX5 82 yX5_checkGate, .instanceMethod yX5_checkGate, .selects RX5 yX5_checkGate yX5_checkGate, .initialized RX5, .code yX5_checkGate cX5_checkGate 2 none, .classLink RX5 241 "java/lang/IndexOutOfBoundsException", .initialized "java/lang/IndexOutOfBoundsException", .methodLink RX5 108 yX4_gateCount, .instanceMethod yX4_gateCount, .selects RX4 yX4_gateCount yX4_gateCount, .initialized RX4, .code yX4_gateCount cX4_gateCount 1 (some .int), .fieldLink RX4 18 "Leaguewheel$Track" "count" "I", .methodLink RX5 112 yX4_restOf, .instanceMethod yX4_restOf, .selects RX4 yX4_restOf yX4_restOf, .code yX4_restOf cX4_restOf 2 (some .int), .fieldLink RX4 15 "Leaguewheel$Track" "rests" "[I"] ++ wsX50 ++ wsX40 ++ (vx_atS RX5 245 "java/lang/IndexOutOfBoundsException" ["java/lang/RuntimeException", "java/lang/Exception"]).filter goodWord)
def wsX5_start_r1 : List Cond := [Cond.classLink RX5 86 "java/lang/IllegalArgumentException", Cond.initialized "java/lang/IllegalArgumentException", Cond.classLink RX5 71 "java/lang/IllegalStateException", Cond.initialized "java/lang/IllegalStateException", Cond.fieldLink RX5 57 "Leaguewheel" "raceIsOn" "Z", Cond.fieldLink RX5 45 "Leaguewheel" "cup" "LLeaguewheel$Cup;", Cond.fieldLink RX5 53 "Leaguewheel" "kartCount" "I", Cond.fieldLink RX5 10 "Leaguewheel" "track" "LLeaguewheel$Track;", Cond.fieldLink RX5 21 "Leaguewheel" "race" "LLeaguewheel$Race;", Cond.fieldLink RX5 31 "Leaguewheel" "passings" "LLeaguewheel$Passings;", Cond.fieldLink RX5 38 "Leaguewheel" "items" "LLeaguewheel$Items;", Cond.methodLink RX5 120 yX0_endedRaces, Cond.instanceMethod yX0_endedRaces, Cond.selects RX0 yX0_endedRaces yX0_endedRaces, Cond.initialized RX0, Cond.code yX0_endedRaces cX0_endedRaces 1 (some .int), Cond.fieldLink RX0 18 "Leaguewheel$Cup" "ended" "I", Cond.methodLink RX5 127 yX4_hasDeadEnd, Cond.instanceMethod yX4_hasDeadEnd, Cond.selects RX4 yX4_hasDeadEnd yX4_hasDeadEnd, Cond.initialized RX4, Cond.code yX4_hasDeadEnd cX4_hasDeadEnd 2 (some .boolean), Cond.fieldLink RX4 18 "Leaguewheel$Track" "count" "I", Cond.methodLink RX4 36 yX4_leadsOn]
def wsX5_start_r2 : List Cond := [Cond.instanceMethod yX4_leadsOn, Cond.selects RX4 yX4_leadsOn yX4_leadsOn, Cond.code yX4_leadsOn cX4_leadsOn 3 (some .boolean), Cond.methodLink RX4 29 yX4_leads, Cond.instanceMethod yX4_leads, Cond.selects RX4 yX4_leads yX4_leads, Cond.code yX4_leads cX4_leads 3 (some .boolean), Cond.methodLink RX4 25 yX4_wayLength, Cond.instanceMethod yX4_wayLength, Cond.selects RX4 yX4_wayLength yX4_wayLength, Cond.code yX4_wayLength cX4_wayLength 3 (some .int), Cond.fieldLink RX4 9 "Leaguewheel$Track" "lengths" "[I", Cond.methodLink RX5 132 yX3_begin, Cond.instanceMethod yX3_begin, Cond.selects RX3 yX3_begin yX3_begin, Cond.initialized RX3, Cond.code yX3_begin cX3_begin 4 none, Cond.fieldLink RX3 37 "Leaguewheel$Race" "count" "I", Cond.fieldLink RX3 41 "Leaguewheel$Race" "goal" "I", Cond.fieldLink RX3 44 "Leaguewheel$Race" "moment" "I", Cond.fieldLink RX3 15 "Leaguewheel$Race" "gateRow" "[I", Cond.fieldLink RX3 19 "Leaguewheel$Race" "lapRow" "[I", Cond.fieldLink RX3 22 "Leaguewheel$Race" "debtRow" "[I", Cond.fieldLink RX3 25 "Leaguewheel$Race" "passedRow" "[I"]
def wsX5_start_r3 : List Cond := [Cond.fieldLink RX3 28 "Leaguewheel$Race" "momentRow" "[I", Cond.methodLink RX5 136 yX2_clear, Cond.instanceMethod yX2_clear, Cond.selects RX2 yX2_clear yX2_clear, Cond.initialized RX2, Cond.code yX2_clear cX2_clear 1 none, Cond.fieldLink RX2 18 "Leaguewheel$Passings" "count" "I", Cond.methodLink RX5 139 yX1_clear, Cond.instanceMethod yX1_clear, Cond.selects RX1 yX1_clear yX1_clear, Cond.initialized RX1, Cond.code yX1_clear cX1_clear 2 none, Cond.fieldLink RX1 9 "Leaguewheel$Items" "itemRow" "[I", Cond.fieldLink RX1 15 "Leaguewheel$Items" "shieldRow" "[Z", Cond.fieldLink RX1 19 "Leaguewheel$Items" "awakeRow" "[I"]
def wsX5_start : List Cond := .code yX5_start cX5_start 2 (some .int) :: ((wsX5_start_r1 ++ (wsX5_start_r2 ++ wsX5_start_r3)) ++ wsX50 ++ wsX00 ++ wsX40 ++ wsX30 ++ wsX20 ++ wsX10 ++ (vx_atS RX5 90 "java/lang/IllegalArgumentException" ["java/lang/RuntimeException", "java/lang/Exception"]).filter goodWord ++ (vx_atS RX5 75 "java/lang/IllegalStateException" ["java/lang/RuntimeException", "java/lang/Exception"]).filter goodWord)
def wsX5_isOn : List Cond := .code yX5_isOn cX5_isOn 1 (some .boolean) :: ([.fieldLink RX5 57 "Leaguewheel" "raceIsOn" "Z"] ++ wsX50)
def wsX5_checkKart : List Cond := .code yX5_checkKart cX5_checkKart 2 none :: ([.classLink RX5 241 "java/lang/IndexOutOfBoundsException", .initialized "java/lang/IndexOutOfBoundsException", .fieldLink RX5 53 "Leaguewheel" "kartCount" "I"] ++ wsX50 ++ (vx_atS RX5 245 "java/lang/IndexOutOfBoundsException" ["java/lang/RuntimeException", "java/lang/Exception"]).filter goodWord)
def wsX5_checkRaceIsOn : List Cond := .code yX5_checkRaceIsOn cX5_checkRaceIsOn 1 none :: ([.classLink RX5 71 "java/lang/IllegalStateException", .initialized "java/lang/IllegalStateException", .fieldLink RX5 57 "Leaguewheel" "raceIsOn" "Z"] ++ wsX50 ++ (vx_atS RX5 75 "java/lang/IllegalStateException" ["java/lang/RuntimeException", "java/lang/Exception"]).filter goodWord)
def wsX5_checkStillRacing : List Cond := .code yX5_checkStillRacing cX5_checkStillRacing 2 none :: ([.classLink RX5 71 "java/lang/IllegalStateException", .initialized "java/lang/IllegalStateException", .fieldLink RX5 21 "Leaguewheel" "race" "LLeaguewheel$Race;", .methodLink RX5 171 yX5_checkRaceIsOn, .instanceMethod yX5_checkRaceIsOn, .selects RX5 yX5_checkRaceIsOn yX5_checkRaceIsOn, .initialized RX5, .code yX5_checkRaceIsOn cX5_checkRaceIsOn 1 none, .fieldLink RX5 57 "Leaguewheel" "raceIsOn" "Z", .methodLink RX5 265 yX3_isFinished, .instanceMethod yX3_isFinished, .selects RX3 yX3_isFinished yX3_isFinished, .initialized RX3, .code yX3_isFinished cX3_isFinished 2 (some .boolean), .fieldLink RX3 19 "Leaguewheel$Race" "lapRow" "[I", .fieldLink RX3 41 "Leaguewheel$Race" "goal" "I"] ++ wsX50 ++ wsX30 ++ (vx_atS RX5 75 "java/lang/IllegalStateException" ["java/lang/RuntimeException", "java/lang/Exception"]).filter goodWord)
def wsX5_pass_r1 : List Cond := [Cond.classLink RX5 71 "java/lang/IllegalStateException", Cond.initialized "java/lang/IllegalStateException", Cond.fieldLink RX5 38 "Leaguewheel" "items" "LLeaguewheel$Items;", Cond.fieldLink RX5 61 "Leaguewheel" "tick" "I", Cond.fieldLink RX5 10 "Leaguewheel" "track" "LLeaguewheel$Track;", Cond.fieldLink RX5 21 "Leaguewheel" "race" "LLeaguewheel$Race;", Cond.fieldLink RX5 31 "Leaguewheel" "passings" "LLeaguewheel$Passings;", Cond.methodLink RX5 140 yX5_checkKart, Cond.instanceMethod yX5_checkKart, Cond.selects RX5 yX5_checkKart yX5_checkKart, Cond.initialized RX5, Cond.code yX5_checkKart cX5_checkKart 2 none, Cond.classLink RX5 241 "java/lang/IndexOutOfBoundsException", Cond.initialized "java/lang/IndexOutOfBoundsException", Cond.fieldLink RX5 53 "Leaguewheel" "kartCount" "I", Cond.methodLink RX5 82 yX5_checkGate, Cond.instanceMethod yX5_checkGate, Cond.selects RX5 yX5_checkGate yX5_checkGate, Cond.code yX5_checkGate cX5_checkGate 2 none, Cond.methodLink RX5 108 yX4_gateCount, Cond.instanceMethod yX4_gateCount, Cond.selects RX4 yX4_gateCount yX4_gateCount, Cond.initialized RX4, Cond.code yX4_gateCount cX4_gateCount 1 (some .int)]
def wsX5_pass_r2 : List Cond := [Cond.fieldLink RX4 18 "Leaguewheel$Track" "count" "I", Cond.methodLink RX5 143 yX5_checkStillRacing, Cond.instanceMethod yX5_checkStillRacing, Cond.selects RX5 yX5_checkStillRacing yX5_checkStillRacing, Cond.code yX5_checkStillRacing cX5_checkStillRacing 2 none, Cond.methodLink RX5 171 yX5_checkRaceIsOn, Cond.instanceMethod yX5_checkRaceIsOn, Cond.selects RX5 yX5_checkRaceIsOn yX5_checkRaceIsOn, Cond.code yX5_checkRaceIsOn cX5_checkRaceIsOn 1 none, Cond.fieldLink RX5 57 "Leaguewheel" "raceIsOn" "Z", Cond.methodLink RX5 265 yX3_isFinished, Cond.instanceMethod yX3_isFinished, Cond.selects RX3 yX3_isFinished yX3_isFinished, Cond.initialized RX3, Cond.code yX3_isFinished cX3_isFinished 2 (some .boolean), Cond.fieldLink RX3 19 "Leaguewheel$Race" "lapRow" "[I", Cond.fieldLink RX3 41 "Leaguewheel$Race" "goal" "I", Cond.methodLink RX5 146 yX1_ticksStunned, Cond.instanceMethod yX1_ticksStunned, Cond.selects RX1 yX1_ticksStunned yX1_ticksStunned, Cond.initialized RX1, Cond.code yX1_ticksStunned cX1_ticksStunned 3 (some .int), Cond.fieldLink RX1 19 "Leaguewheel$Items" "awakeRow" "[I", Cond.methodLink RX1 43 Lib.Math.max.name]
def wsX5_pass_r3 : List Cond := [Cond.static Lib.Math.max.name, Cond.initialized "java/lang/Math", Cond.code Lib.Math.max.name Lib.Math.max.code 2 (some .int), Cond.methodLink RX5 151 yX3_gateAt, Cond.instanceMethod yX3_gateAt, Cond.selects RX3 yX3_gateAt yX3_gateAt, Cond.code yX3_gateAt cX3_gateAt 2 (some .int), Cond.fieldLink RX3 15 "Leaguewheel$Race" "gateRow" "[I", Cond.methodLink RX5 154 yX4_joins, Cond.instanceMethod yX4_joins, Cond.selects RX4 yX4_joins yX4_joins, Cond.code yX4_joins cX4_joins 3 (some .boolean), Cond.methodLink RX4 29 yX4_leads, Cond.instanceMethod yX4_leads, Cond.selects RX4 yX4_leads yX4_leads, Cond.code yX4_leads cX4_leads 3 (some .boolean), Cond.methodLink RX4 25 yX4_wayLength, Cond.instanceMethod yX4_wayLength, Cond.selects RX4 yX4_wayLength yX4_wayLength, Cond.code yX4_wayLength cX4_wayLength 3 (some .int), Cond.fieldLink RX4 9 "Leaguewheel$Track" "lengths" "[I", Cond.methodLink RX5 160 yX2_isFull, Cond.instanceMethod yX2_isFull, Cond.selects RX2 yX2_isFull yX2_isFull]
def wsX5_pass_r4 : List Cond := [Cond.initialized RX2, Cond.code yX2_isFull cX2_isFull 1 (some .boolean), Cond.fieldLink RX2 18 "Leaguewheel$Passings" "count" "I", Cond.methodLink RX5 163 yX2_note, Cond.instanceMethod yX2_note, Cond.selects RX2 yX2_note yX2_note, Cond.code yX2_note cX2_note 3 none, Cond.fieldLink RX2 9 "Leaguewheel$Passings" "kartRow" "[I", Cond.fieldLink RX2 15 "Leaguewheel$Passings" "gateRow" "[I", Cond.methodLink RX5 166 yX3_move, Cond.instanceMethod yX3_move, Cond.selects RX3 yX3_move yX3_move, Cond.code yX3_move cX3_move 4 (some .int), Cond.fieldLink RX3 44 "Leaguewheel$Race" "moment" "I", Cond.fieldLink RX3 28 "Leaguewheel$Race" "momentRow" "[I", Cond.fieldLink RX3 9 "Leaguewheel$Race" "track" "LLeaguewheel$Track;", Cond.methodLink RX3 61 yX4_leads, Cond.methodLink RX3 65 yX3_goBack, Cond.instanceMethod yX3_goBack, Cond.selects RX3 yX3_goBack yX3_goBack, Cond.code yX3_goBack cX3_goBack 3 (some .int), Cond.fieldLink RX3 22 "Leaguewheel$Race" "debtRow" "[I", Cond.fieldLink RX3 25 "Leaguewheel$Race" "passedRow" "[I", Cond.methodLink RX3 69 yX3_crossLine]
def wsX5_pass_r5 : List Cond := [Cond.instanceMethod yX3_crossLine, Cond.selects RX3 yX3_crossLine yX3_crossLine, Cond.code yX3_crossLine cX3_crossLine 3 (some .int), Cond.methodLink RX3 78 yX3_missingGates, Cond.instanceMethod yX3_missingGates, Cond.selects RX3 yX3_missingGates yX3_missingGates, Cond.code yX3_missingGates cX3_missingGates 2 (some .int), Cond.methodLink RX3 47 yX4_needed, Cond.instanceMethod yX4_needed, Cond.selects RX4 yX4_needed yX4_needed, Cond.code yX4_needed cX4_needed 1 (some .int), Cond.fieldLink RX4 22 "Leaguewheel$Track" "neededGates" "I", Cond.methodLink RX3 53 yX3_isFinished, Cond.methodLink RX3 72 yX3_reachGate, Cond.instanceMethod yX3_reachGate, Cond.selects RX3 yX3_reachGate yX3_reachGate, Cond.code yX3_reachGate cX3_reachGate 3 (some .int), Cond.methodLink RX3 75 yX4_isNeeded, Cond.instanceMethod yX4_isNeeded, Cond.selects RX4 yX4_isNeeded yX4_isNeeded, Cond.code yX4_isNeeded cX4_isNeeded 2 (some .boolean)]
def wsX5_pass : List Cond := .code yX5_pass cX5_pass 3 (some .int) :: ((wsX5_pass_r1 ++ (wsX5_pass_r2 ++ (wsX5_pass_r3 ++ (wsX5_pass_r4 ++ wsX5_pass_r5)))) ++ wsX50 ++ wsX40 ++ wsX30 ++ wsX10 ++ wsX20 ++ (vx_atS RX5 75 "java/lang/IllegalStateException" ["java/lang/RuntimeException", "java/lang/Exception"]).filter goodWord ++ (vx_atS RX5 245 "java/lang/IndexOutOfBoundsException" ["java/lang/RuntimeException", "java/lang/Exception"]).filter goodWord)
def wsX5_idle : List Cond := .code yX5_idle cX5_idle 2 (some .int) :: ([.classLink RX5 86 "java/lang/IllegalArgumentException", .initialized "java/lang/IllegalArgumentException", .fieldLink RX5 61 "Leaguewheel" "tick" "I"] ++ wsX50 ++ (vx_atS RX5 90 "java/lang/IllegalArgumentException" ["java/lang/RuntimeException", "java/lang/Exception"]).filter goodWord)
def wsX5_gateOf : List Cond := .code yX5_gateOf cX5_gateOf 2 (some .int) :: ([.fieldLink RX5 21 "Leaguewheel" "race" "LLeaguewheel$Race;", .methodLink RX5 140 yX5_checkKart, .instanceMethod yX5_checkKart, .selects RX5 yX5_checkKart yX5_checkKart, .initialized RX5, .code yX5_checkKart cX5_checkKart 2 none, .classLink RX5 241 "java/lang/IndexOutOfBoundsException", .initialized "java/lang/IndexOutOfBoundsException", .fieldLink RX5 53 "Leaguewheel" "kartCount" "I", .methodLink RX5 171 yX5_checkRaceIsOn, .instanceMethod yX5_checkRaceIsOn, .selects RX5 yX5_checkRaceIsOn yX5_checkRaceIsOn, .code yX5_checkRaceIsOn cX5_checkRaceIsOn 1 none, .classLink RX5 71 "java/lang/IllegalStateException", .initialized "java/lang/IllegalStateException", .fieldLink RX5 57 "Leaguewheel" "raceIsOn" "Z", .methodLink RX5 151 yX3_gateAt, .instanceMethod yX3_gateAt, .selects RX3 yX3_gateAt yX3_gateAt, .initialized RX3, .code yX3_gateAt cX3_gateAt 2 (some .int), .fieldLink RX3 15 "Leaguewheel$Race" "gateRow" "[I"] ++ wsX50 ++ wsX30 ++ (vx_atS RX5 245 "java/lang/IndexOutOfBoundsException" ["java/lang/RuntimeException", "java/lang/Exception"]).filter goodWord ++ (vx_atS RX5 75 "java/lang/IllegalStateException" ["java/lang/RuntimeException", "java/lang/Exception"]).filter goodWord)
def wsX5_lapsOf : List Cond := .code yX5_lapsOf cX5_lapsOf 2 (some .int) :: ([.fieldLink RX5 21 "Leaguewheel" "race" "LLeaguewheel$Race;", .methodLink RX5 140 yX5_checkKart, .instanceMethod yX5_checkKart, .selects RX5 yX5_checkKart yX5_checkKart, .initialized RX5, .code yX5_checkKart cX5_checkKart 2 none, .classLink RX5 241 "java/lang/IndexOutOfBoundsException", .initialized "java/lang/IndexOutOfBoundsException", .fieldLink RX5 53 "Leaguewheel" "kartCount" "I", .methodLink RX5 171 yX5_checkRaceIsOn, .instanceMethod yX5_checkRaceIsOn, .selects RX5 yX5_checkRaceIsOn yX5_checkRaceIsOn, .code yX5_checkRaceIsOn cX5_checkRaceIsOn 1 none, .classLink RX5 71 "java/lang/IllegalStateException", .initialized "java/lang/IllegalStateException", .fieldLink RX5 57 "Leaguewheel" "raceIsOn" "Z", .methodLink RX5 174 yX3_netLaps, .instanceMethod yX3_netLaps, .selects RX3 yX3_netLaps yX3_netLaps, .initialized RX3, .code yX3_netLaps cX3_netLaps 2 (some .int), .fieldLink RX3 19 "Leaguewheel$Race" "lapRow" "[I", .fieldLink RX3 22 "Leaguewheel$Race" "debtRow" "[I"] ++ wsX50 ++ wsX30 ++ (vx_atS RX5 245 "java/lang/IndexOutOfBoundsException" ["java/lang/RuntimeException", "java/lang/Exception"]).filter goodWord ++ (vx_atS RX5 75 "java/lang/IllegalStateException" ["java/lang/RuntimeException", "java/lang/Exception"]).filter goodWord)
def wsX5_missing_r1 : List Cond := [Cond.fieldLink RX5 21 "Leaguewheel" "race" "LLeaguewheel$Race;", Cond.methodLink RX5 140 yX5_checkKart, Cond.instanceMethod yX5_checkKart, Cond.selects RX5 yX5_checkKart yX5_checkKart, Cond.initialized RX5, Cond.code yX5_checkKart cX5_checkKart 2 none, Cond.classLink RX5 241 "java/lang/IndexOutOfBoundsException", Cond.initialized "java/lang/IndexOutOfBoundsException", Cond.fieldLink RX5 53 "Leaguewheel" "kartCount" "I", Cond.methodLink RX5 171 yX5_checkRaceIsOn, Cond.instanceMethod yX5_checkRaceIsOn, Cond.selects RX5 yX5_checkRaceIsOn yX5_checkRaceIsOn, Cond.code yX5_checkRaceIsOn cX5_checkRaceIsOn 1 none, Cond.classLink RX5 71 "java/lang/IllegalStateException", Cond.initialized "java/lang/IllegalStateException", Cond.fieldLink RX5 57 "Leaguewheel" "raceIsOn" "Z", Cond.methodLink RX5 177 yX3_missingGates, Cond.instanceMethod yX3_missingGates, Cond.selects RX3 yX3_missingGates yX3_missingGates, Cond.initialized RX3, Cond.code yX3_missingGates cX3_missingGates 2 (some .int), Cond.fieldLink RX3 9 "Leaguewheel$Race" "track" "LLeaguewheel$Track;", Cond.fieldLink RX3 25 "Leaguewheel$Race" "passedRow" "[I", Cond.methodLink RX3 47 yX4_needed]
def wsX5_missing_r2 : List Cond := [Cond.instanceMethod yX4_needed, Cond.selects RX4 yX4_needed yX4_needed, Cond.initialized RX4, Cond.code yX4_needed cX4_needed 1 (some .int), Cond.fieldLink RX4 22 "Leaguewheel$Track" "neededGates" "I"]
def wsX5_missing : List Cond := .code yX5_missing cX5_missing 2 (some .int) :: ((wsX5_missing_r1 ++ wsX5_missing_r2) ++ wsX50 ++ wsX30 ++ wsX40 ++ (vx_atS RX5 245 "java/lang/IndexOutOfBoundsException" ["java/lang/RuntimeException", "java/lang/Exception"]).filter goodWord ++ (vx_atS RX5 75 "java/lang/IllegalStateException" ["java/lang/RuntimeException", "java/lang/Exception"]).filter goodWord)
def wsX5_rank_r1 : List Cond := [Cond.fieldLink RX5 21 "Leaguewheel" "race" "LLeaguewheel$Race;", Cond.methodLink RX5 140 yX5_checkKart, Cond.instanceMethod yX5_checkKart, Cond.selects RX5 yX5_checkKart yX5_checkKart, Cond.initialized RX5, Cond.code yX5_checkKart cX5_checkKart 2 none, Cond.classLink RX5 241 "java/lang/IndexOutOfBoundsException", Cond.initialized "java/lang/IndexOutOfBoundsException", Cond.fieldLink RX5 53 "Leaguewheel" "kartCount" "I", Cond.methodLink RX5 171 yX5_checkRaceIsOn, Cond.instanceMethod yX5_checkRaceIsOn, Cond.selects RX5 yX5_checkRaceIsOn yX5_checkRaceIsOn, Cond.code yX5_checkRaceIsOn cX5_checkRaceIsOn 1 none, Cond.classLink RX5 71 "java/lang/IllegalStateException", Cond.initialized "java/lang/IllegalStateException", Cond.fieldLink RX5 57 "Leaguewheel" "raceIsOn" "Z", Cond.methodLink RX5 180 yX3_countAhead, Cond.instanceMethod yX3_countAhead, Cond.selects RX3 yX3_countAhead yX3_countAhead, Cond.initialized RX3, Cond.code yX3_countAhead cX3_countAhead 4 (some .int), Cond.fieldLink RX3 37 "Leaguewheel$Race" "count" "I", Cond.methodLink RX3 81 yX3_isAhead, Cond.instanceMethod yX3_isAhead]
def wsX5_rank_r2 : List Cond := [Cond.selects RX3 yX3_isAhead yX3_isAhead, Cond.code yX3_isAhead cX3_isAhead 5 (some .boolean), Cond.fieldLink RX3 28 "Leaguewheel$Race" "momentRow" "[I", Cond.fieldLink RX3 9 "Leaguewheel$Race" "track" "LLeaguewheel$Track;", Cond.fieldLink RX3 15 "Leaguewheel$Race" "gateRow" "[I", Cond.methodLink RX3 53 yX3_isFinished, Cond.instanceMethod yX3_isFinished, Cond.selects RX3 yX3_isFinished yX3_isFinished, Cond.code yX3_isFinished cX3_isFinished 2 (some .boolean), Cond.fieldLink RX3 19 "Leaguewheel$Race" "lapRow" "[I", Cond.fieldLink RX3 41 "Leaguewheel$Race" "goal" "I", Cond.methodLink RX3 57 yX3_netLaps, Cond.instanceMethod yX3_netLaps, Cond.selects RX3 yX3_netLaps yX3_netLaps, Cond.code yX3_netLaps cX3_netLaps 2 (some .int), Cond.fieldLink RX3 22 "Leaguewheel$Race" "debtRow" "[I", Cond.methodLink RX3 84 yX4_restOf, Cond.instanceMethod yX4_restOf, Cond.selects RX4 yX4_restOf yX4_restOf, Cond.initialized RX4, Cond.code yX4_restOf cX4_restOf 2 (some .int), Cond.fieldLink RX4 15 "Leaguewheel$Track" "rests" "[I"]
def wsX5_rank : List Cond := .code yX5_rank cX5_rank 2 (some .int) :: ((wsX5_rank_r1 ++ wsX5_rank_r2) ++ wsX50 ++ wsX30 ++ wsX40 ++ (vx_atS RX5 245 "java/lang/IndexOutOfBoundsException" ["java/lang/RuntimeException", "java/lang/Exception"]).filter goodWord ++ (vx_atS RX5 75 "java/lang/IllegalStateException" ["java/lang/RuntimeException", "java/lang/Exception"]).filter goodWord)
def wsX5_rankByRecord_r1 : List Cond := [Cond.fieldLink RX5 25 "Leaguewheel" "retold" "LLeaguewheel$Race;", Cond.fieldLink RX5 53 "Leaguewheel" "kartCount" "I", Cond.fieldLink RX5 21 "Leaguewheel" "race" "LLeaguewheel$Race;", Cond.fieldLink RX5 31 "Leaguewheel" "passings" "LLeaguewheel$Passings;", Cond.methodLink RX5 140 yX5_checkKart, Cond.instanceMethod yX5_checkKart, Cond.selects RX5 yX5_checkKart yX5_checkKart, Cond.initialized RX5, Cond.code yX5_checkKart cX5_checkKart 2 none, Cond.classLink RX5 241 "java/lang/IndexOutOfBoundsException", Cond.initialized "java/lang/IndexOutOfBoundsException", Cond.methodLink RX5 171 yX5_checkRaceIsOn, Cond.instanceMethod yX5_checkRaceIsOn, Cond.selects RX5 yX5_checkRaceIsOn yX5_checkRaceIsOn, Cond.code yX5_checkRaceIsOn cX5_checkRaceIsOn 1 none, Cond.classLink RX5 71 "java/lang/IllegalStateException", Cond.initialized "java/lang/IllegalStateException", Cond.fieldLink RX5 57 "Leaguewheel" "raceIsOn" "Z", Cond.methodLink RX5 183 yX3_lapGoal, Cond.instanceMethod yX3_lapGoal, Cond.selects RX3 yX3_lapGoal yX3_lapGoal, Cond.initialized RX3, Cond.code yX3_lapGoal cX3_lapGoal 1 (some .int), Cond.fieldLink RX3 41 "Leaguewheel$Race" "goal" "I"]
def wsX5_rankByRecord_r2 : List Cond := [Cond.methodLink RX5 132 yX3_begin, Cond.instanceMethod yX3_begin, Cond.selects RX3 yX3_begin yX3_begin, Cond.code yX3_begin cX3_begin 4 none, Cond.fieldLink RX3 37 "Leaguewheel$Race" "count" "I", Cond.fieldLink RX3 44 "Leaguewheel$Race" "moment" "I", Cond.fieldLink RX3 15 "Leaguewheel$Race" "gateRow" "[I", Cond.fieldLink RX3 19 "Leaguewheel$Race" "lapRow" "[I", Cond.fieldLink RX3 22 "Leaguewheel$Race" "debtRow" "[I", Cond.fieldLink RX3 25 "Leaguewheel$Race" "passedRow" "[I", Cond.fieldLink RX3 28 "Leaguewheel$Race" "momentRow" "[I", Cond.methodLink RX5 186 yX2_count, Cond.instanceMethod yX2_count, Cond.selects RX2 yX2_count yX2_count, Cond.initialized RX2, Cond.code yX2_count cX2_count 1 (some .int), Cond.fieldLink RX2 18 "Leaguewheel$Passings" "count" "I", Cond.methodLink RX5 189 yX2_kartAt, Cond.instanceMethod yX2_kartAt, Cond.selects RX2 yX2_kartAt yX2_kartAt, Cond.code yX2_kartAt cX2_kartAt 2 (some .int), Cond.fieldLink RX2 9 "Leaguewheel$Passings" "kartRow" "[I", Cond.methodLink RX5 192 yX2_gateAt, Cond.instanceMethod yX2_gateAt]
def wsX5_rankByRecord_r3 : List Cond := [Cond.selects RX2 yX2_gateAt yX2_gateAt, Cond.code yX2_gateAt cX2_gateAt 2 (some .int), Cond.fieldLink RX2 15 "Leaguewheel$Passings" "gateRow" "[I", Cond.methodLink RX5 166 yX3_move, Cond.instanceMethod yX3_move, Cond.selects RX3 yX3_move yX3_move, Cond.code yX3_move cX3_move 4 (some .int), Cond.fieldLink RX3 9 "Leaguewheel$Race" "track" "LLeaguewheel$Track;", Cond.methodLink RX3 61 yX4_leads, Cond.instanceMethod yX4_leads, Cond.selects RX4 yX4_leads yX4_leads, Cond.initialized RX4, Cond.code yX4_leads cX4_leads 3 (some .boolean), Cond.methodLink RX4 25 yX4_wayLength, Cond.instanceMethod yX4_wayLength, Cond.selects RX4 yX4_wayLength yX4_wayLength, Cond.code yX4_wayLength cX4_wayLength 3 (some .int), Cond.fieldLink RX4 9 "Leaguewheel$Track" "lengths" "[I", Cond.methodLink RX3 65 yX3_goBack, Cond.instanceMethod yX3_goBack, Cond.selects RX3 yX3_goBack yX3_goBack, Cond.code yX3_goBack cX3_goBack 3 (some .int), Cond.methodLink RX3 69 yX3_crossLine, Cond.instanceMethod yX3_crossLine]
def wsX5_rankByRecord_r4 : List Cond := [Cond.selects RX3 yX3_crossLine yX3_crossLine, Cond.code yX3_crossLine cX3_crossLine 3 (some .int), Cond.methodLink RX3 78 yX3_missingGates, Cond.instanceMethod yX3_missingGates, Cond.selects RX3 yX3_missingGates yX3_missingGates, Cond.code yX3_missingGates cX3_missingGates 2 (some .int), Cond.methodLink RX3 47 yX4_needed, Cond.instanceMethod yX4_needed, Cond.selects RX4 yX4_needed yX4_needed, Cond.code yX4_needed cX4_needed 1 (some .int), Cond.fieldLink RX4 22 "Leaguewheel$Track" "neededGates" "I", Cond.methodLink RX3 53 yX3_isFinished, Cond.instanceMethod yX3_isFinished, Cond.selects RX3 yX3_isFinished yX3_isFinished, Cond.code yX3_isFinished cX3_isFinished 2 (some .boolean), Cond.methodLink RX3 72 yX3_reachGate, Cond.instanceMethod yX3_reachGate, Cond.selects RX3 yX3_reachGate yX3_reachGate, Cond.code yX3_reachGate cX3_reachGate 3 (some .int), Cond.methodLink RX3 75 yX4_isNeeded, Cond.instanceMethod yX4_isNeeded, Cond.selects RX4 yX4_isNeeded yX4_isNeeded, Cond.code yX4_isNeeded cX4_isNeeded 2 (some .boolean), Cond.methodLink RX5 193 yX3_sortedRank]
def wsX5_rankByRecord_r5 : List Cond := [Cond.instanceMethod yX3_sortedRank, Cond.selects RX3 yX3_sortedRank yX3_sortedRank, Cond.code yX3_sortedRank cX3_sortedRank 3 (some .int), Cond.fieldLink RX3 34 "Leaguewheel$Race" "rankRow" "[I", Cond.fieldLink RX3 31 "Leaguewheel$Race" "order" "[I", Cond.methodLink RX3 87 yX3_insertInOrder, Cond.instanceMethod yX3_insertInOrder, Cond.selects RX3 yX3_insertInOrder yX3_insertInOrder, Cond.code yX3_insertInOrder cX3_insertInOrder 3 none, Cond.methodLink RX3 81 yX3_isAhead, Cond.instanceMethod yX3_isAhead, Cond.selects RX3 yX3_isAhead yX3_isAhead, Cond.code yX3_isAhead cX3_isAhead 5 (some .boolean), Cond.methodLink RX3 57 yX3_netLaps, Cond.instanceMethod yX3_netLaps, Cond.selects RX3 yX3_netLaps yX3_netLaps, Cond.code yX3_netLaps cX3_netLaps 2 (some .int), Cond.methodLink RX3 84 yX4_restOf, Cond.instanceMethod yX4_restOf, Cond.selects RX4 yX4_restOf yX4_restOf, Cond.code yX4_restOf cX4_restOf 2 (some .int), Cond.fieldLink RX4 15 "Leaguewheel$Track" "rests" "[I"]
def wsX5_rankByRecord : List Cond := .code yX5_rankByRecord cX5_rankByRecord 3 (some .int) :: ((wsX5_rankByRecord_r1 ++ (wsX5_rankByRecord_r2 ++ (wsX5_rankByRecord_r3 ++ (wsX5_rankByRecord_r4 ++ wsX5_rankByRecord_r5)))) ++ wsX50 ++ wsX30 ++ wsX20 ++ wsX40 ++ (vx_atS RX5 245 "java/lang/IndexOutOfBoundsException" ["java/lang/RuntimeException", "java/lang/Exception"]).filter goodWord ++ (vx_atS RX5 75 "java/lang/IllegalStateException" ["java/lang/RuntimeException", "java/lang/Exception"]).filter goodWord)
def wsX5_catchUp_r1 : List Cond := [Cond.fieldLink RX5 21 "Leaguewheel" "race" "LLeaguewheel$Race;", Cond.methodLink RX5 199 Lib.Math.min.name, Cond.static Lib.Math.min.name, Cond.initialized "java/lang/Math", Cond.code Lib.Math.min.name Lib.Math.min.code 2 (some .int), Cond.methodLink RX5 140 yX5_checkKart, Cond.instanceMethod yX5_checkKart, Cond.selects RX5 yX5_checkKart yX5_checkKart, Cond.initialized RX5, Cond.code yX5_checkKart cX5_checkKart 2 none, Cond.classLink RX5 241 "java/lang/IndexOutOfBoundsException", Cond.initialized "java/lang/IndexOutOfBoundsException", Cond.fieldLink RX5 53 "Leaguewheel" "kartCount" "I", Cond.methodLink RX5 171 yX5_checkRaceIsOn, Cond.instanceMethod yX5_checkRaceIsOn, Cond.selects RX5 yX5_checkRaceIsOn yX5_checkRaceIsOn, Cond.code yX5_checkRaceIsOn cX5_checkRaceIsOn 1 none, Cond.classLink RX5 71 "java/lang/IllegalStateException", Cond.initialized "java/lang/IllegalStateException", Cond.fieldLink RX5 57 "Leaguewheel" "raceIsOn" "Z", Cond.methodLink RX5 196 yX3_leadOver, Cond.instanceMethod yX3_leadOver, Cond.selects RX3 yX3_leadOver yX3_leadOver, Cond.initialized RX3]
def wsX5_catchUp_r2 : List Cond := [Cond.code yX3_leadOver cX3_leadOver 4 (some .int), Cond.fieldLink RX3 37 "Leaguewheel$Race" "count" "I", Cond.methodLink RX3 97 Lib.Math.max.name, Cond.static Lib.Math.max.name, Cond.code Lib.Math.max.name Lib.Math.max.code 2 (some .int), Cond.methodLink RX3 91 yX3_countAhead, Cond.instanceMethod yX3_countAhead, Cond.selects RX3 yX3_countAhead yX3_countAhead, Cond.code yX3_countAhead cX3_countAhead 4 (some .int), Cond.methodLink RX3 81 yX3_isAhead, Cond.instanceMethod yX3_isAhead, Cond.selects RX3 yX3_isAhead yX3_isAhead, Cond.code yX3_isAhead cX3_isAhead 5 (some .boolean), Cond.fieldLink RX3 28 "Leaguewheel$Race" "momentRow" "[I", Cond.fieldLink RX3 9 "Leaguewheel$Race" "track" "LLeaguewheel$Track;", Cond.fieldLink RX3 15 "Leaguewheel$Race" "gateRow" "[I", Cond.methodLink RX3 53 yX3_isFinished, Cond.instanceMethod yX3_isFinished, Cond.selects RX3 yX3_isFinished yX3_isFinished, Cond.code yX3_isFinished cX3_isFinished 2 (some .boolean), Cond.fieldLink RX3 19 "Leaguewheel$Race" "lapRow" "[I", Cond.fieldLink RX3 41 "Leaguewheel$Race" "goal" "I", Cond.methodLink RX3 57 yX3_netLaps, Cond.instanceMethod yX3_netLaps]
def wsX5_catchUp_r3 : List Cond := [Cond.selects RX3 yX3_netLaps yX3_netLaps, Cond.code yX3_netLaps cX3_netLaps 2 (some .int), Cond.fieldLink RX3 22 "Leaguewheel$Race" "debtRow" "[I", Cond.methodLink RX3 84 yX4_restOf, Cond.instanceMethod yX4_restOf, Cond.selects RX4 yX4_restOf yX4_restOf, Cond.initialized RX4, Cond.code yX4_restOf cX4_restOf 2 (some .int), Cond.fieldLink RX4 15 "Leaguewheel$Track" "rests" "[I", Cond.methodLink RX3 94 yX3_wayDone, Cond.instanceMethod yX3_wayDone, Cond.selects RX3 yX3_wayDone yX3_wayDone, Cond.code yX3_wayDone cX3_wayDone 4 (some .int)]
def wsX5_catchUp : List Cond := .code yX5_catchUp cX5_catchUp 2 (some .int) :: ((wsX5_catchUp_r1 ++ (wsX5_catchUp_r2 ++ wsX5_catchUp_r3)) ++ wsX50 ++ wsX30 ++ wsX40 ++ (vx_atS RX5 245 "java/lang/IndexOutOfBoundsException" ["java/lang/RuntimeException", "java/lang/Exception"]).filter goodWord ++ (vx_atS RX5 75 "java/lang/IllegalStateException" ["java/lang/RuntimeException", "java/lang/Exception"]).filter goodWord)
def wsX5_setDraw : List Cond := .code yX5_setDraw cX5_setDraw 2 none :: ([.fieldLink RX5 38 "Leaguewheel" "items" "LLeaguewheel$Items;", .methodLink RX5 204 yX1_setNumber, .instanceMethod yX1_setNumber, .selects RX1 yX1_setNumber yX1_setNumber, .initialized RX1, .code yX1_setNumber cX1_setNumber 2 none, .fieldLink RX1 22 "Leaguewheel$Items" "number" "I"] ++ wsX50 ++ wsX10)
def wsX5_draw_r1 : List Cond := [Cond.classLink RX5 71 "java/lang/IllegalStateException", Cond.initialized "java/lang/IllegalStateException", Cond.fieldLink RX5 38 "Leaguewheel" "items" "LLeaguewheel$Items;", Cond.fieldLink RX5 21 "Leaguewheel" "race" "LLeaguewheel$Race;", Cond.methodLink RX5 140 yX5_checkKart, Cond.instanceMethod yX5_checkKart, Cond.selects RX5 yX5_checkKart yX5_checkKart, Cond.initialized RX5, Cond.code yX5_checkKart cX5_checkKart 2 none, Cond.classLink RX5 241 "java/lang/IndexOutOfBoundsException", Cond.initialized "java/lang/IndexOutOfBoundsException", Cond.fieldLink RX5 53 "Leaguewheel" "kartCount" "I", Cond.methodLink RX5 143 yX5_checkStillRacing, Cond.instanceMethod yX5_checkStillRacing, Cond.selects RX5 yX5_checkStillRacing yX5_checkStillRacing, Cond.code yX5_checkStillRacing cX5_checkStillRacing 2 none, Cond.methodLink RX5 171 yX5_checkRaceIsOn, Cond.instanceMethod yX5_checkRaceIsOn, Cond.selects RX5 yX5_checkRaceIsOn yX5_checkRaceIsOn, Cond.code yX5_checkRaceIsOn cX5_checkRaceIsOn 1 none, Cond.fieldLink RX5 57 "Leaguewheel" "raceIsOn" "Z", Cond.methodLink RX5 265 yX3_isFinished, Cond.instanceMethod yX3_isFinished, Cond.selects RX3 yX3_isFinished yX3_isFinished]
def wsX5_draw_r2 : List Cond := [Cond.initialized RX3, Cond.code yX3_isFinished cX3_isFinished 2 (some .boolean), Cond.fieldLink RX3 19 "Leaguewheel$Race" "lapRow" "[I", Cond.fieldLink RX3 41 "Leaguewheel$Race" "goal" "I", Cond.methodLink RX5 207 yX1_heldBy, Cond.instanceMethod yX1_heldBy, Cond.selects RX1 yX1_heldBy yX1_heldBy, Cond.initialized RX1, Cond.code yX1_heldBy cX1_heldBy 2 (some .int), Cond.fieldLink RX1 9 "Leaguewheel$Items" "itemRow" "[I", Cond.methodLink RX5 180 yX3_countAhead, Cond.instanceMethod yX3_countAhead, Cond.selects RX3 yX3_countAhead yX3_countAhead, Cond.code yX3_countAhead cX3_countAhead 4 (some .int), Cond.fieldLink RX3 37 "Leaguewheel$Race" "count" "I", Cond.methodLink RX3 81 yX3_isAhead, Cond.instanceMethod yX3_isAhead, Cond.selects RX3 yX3_isAhead yX3_isAhead, Cond.code yX3_isAhead cX3_isAhead 5 (some .boolean), Cond.fieldLink RX3 28 "Leaguewheel$Race" "momentRow" "[I", Cond.fieldLink RX3 9 "Leaguewheel$Race" "track" "LLeaguewheel$Track;", Cond.fieldLink RX3 15 "Leaguewheel$Race" "gateRow" "[I", Cond.methodLink RX3 53 yX3_isFinished, Cond.methodLink RX3 57 yX3_netLaps]
def wsX5_draw_r3 : List Cond := [Cond.instanceMethod yX3_netLaps, Cond.selects RX3 yX3_netLaps yX3_netLaps, Cond.code yX3_netLaps cX3_netLaps 2 (some .int), Cond.fieldLink RX3 22 "Leaguewheel$Race" "debtRow" "[I", Cond.methodLink RX3 84 yX4_restOf, Cond.instanceMethod yX4_restOf, Cond.selects RX4 yX4_restOf yX4_restOf, Cond.initialized RX4, Cond.code yX4_restOf cX4_restOf 2 (some .int), Cond.fieldLink RX4 15 "Leaguewheel$Track" "rests" "[I", Cond.methodLink RX5 212 yX1_drawFor, Cond.instanceMethod yX1_drawFor, Cond.selects RX1 yX1_drawFor yX1_drawFor, Cond.code yX1_drawFor cX1_drawFor 4 (some .int), Cond.fieldLink RX1 22 "Leaguewheel$Items" "number" "I", Cond.constant RX1 29 (1103515245), Cond.methodLink RX1 30 yX1_itemAt, Cond.static yX1_itemAt, Cond.code yX1_itemAt cX1_itemAt 2 (some .int), Cond.fieldLink RX1 34 "Leaguewheel$Items" "FOR_FIRST" "[I", Cond.fieldLink RX1 37 "Leaguewheel$Items" "FOR_MIDDLE" "[I", Cond.fieldLink RX1 40 "Leaguewheel$Items" "FOR_OTHERS" "[I"]
def wsX5_draw : List Cond := .code yX5_draw cX5_draw 2 (some .int) :: ((wsX5_draw_r1 ++ (wsX5_draw_r2 ++ wsX5_draw_r3)) ++ wsX50 ++ wsX30 ++ wsX10 ++ wsX40 ++ (vx_atS RX5 75 "java/lang/IllegalStateException" ["java/lang/RuntimeException", "java/lang/Exception"]).filter goodWord ++ (vx_atS RX5 245 "java/lang/IndexOutOfBoundsException" ["java/lang/RuntimeException", "java/lang/Exception"]).filter goodWord)
def wsX5_hitRanks_r1 : List Cond := [Cond.fieldLink RX5 53 "Leaguewheel" "kartCount" "I", Cond.fieldLink RX5 21 "Leaguewheel" "race" "LLeaguewheel$Race;", Cond.fieldLink RX5 38 "Leaguewheel" "items" "LLeaguewheel$Items;", Cond.methodLink RX5 180 yX3_countAhead, Cond.instanceMethod yX3_countAhead, Cond.selects RX3 yX3_countAhead yX3_countAhead, Cond.initialized RX3, Cond.code yX3_countAhead cX3_countAhead 4 (some .int), Cond.fieldLink RX3 37 "Leaguewheel$Race" "count" "I", Cond.methodLink RX3 81 yX3_isAhead, Cond.instanceMethod yX3_isAhead, Cond.selects RX3 yX3_isAhead yX3_isAhead, Cond.code yX3_isAhead cX3_isAhead 5 (some .boolean), Cond.fieldLink RX3 28 "Leaguewheel$Race" "momentRow" "[I", Cond.fieldLink RX3 9 "Leaguewheel$Race" "track" "LLeaguewheel$Track;", Cond.fieldLink RX3 15 "Leaguewheel$Race" "gateRow" "[I", Cond.methodLink RX3 53 yX3_isFinished, Cond.instanceMethod yX3_isFinished, Cond.selects RX3 yX3_isFinished yX3_isFinished, Cond.code yX3_isFinished cX3_isFinished 2 (some .boolean), Cond.fieldLink RX3 19 "Leaguewheel$Race" "lapRow" "[I", Cond.fieldLink RX3 41 "Leaguewheel$Race" "goal" "I", Cond.methodLink RX3 57 yX3_netLaps, Cond.instanceMethod yX3_netLaps]
def wsX5_hitRanks_r2 : List Cond := [Cond.selects RX3 yX3_netLaps yX3_netLaps, Cond.code yX3_netLaps cX3_netLaps 2 (some .int), Cond.fieldLink RX3 22 "Leaguewheel$Race" "debtRow" "[I", Cond.methodLink RX3 84 yX4_restOf, Cond.instanceMethod yX4_restOf, Cond.selects RX4 yX4_restOf yX4_restOf, Cond.initialized RX4, Cond.code yX4_restOf cX4_restOf 2 (some .int), Cond.fieldLink RX4 15 "Leaguewheel$Track" "rests" "[I", Cond.methodLink RX5 265 yX3_isFinished, Cond.methodLink RX5 268 yX1_hit, Cond.instanceMethod yX1_hit, Cond.selects RX1 yX1_hit yX1_hit, Cond.initialized RX1, Cond.code yX1_hit cX1_hit 3 (some .boolean), Cond.fieldLink RX1 15 "Leaguewheel$Items" "shieldRow" "[Z", Cond.fieldLink RX1 19 "Leaguewheel$Items" "awakeRow" "[I", Cond.methodLink RX1 43 Lib.Math.max.name, Cond.static Lib.Math.max.name, Cond.initialized "java/lang/Math", Cond.code Lib.Math.max.name Lib.Math.max.code 2 (some .int)]
def wsX5_hitRanks : List Cond := .code yX5_hitRanks cX5_hitRanks 7 (some .int) :: ((wsX5_hitRanks_r1 ++ wsX5_hitRanks_r2) ++ wsX50 ++ wsX30 ++ wsX40 ++ wsX10)
def wsX5_use_r1 : List Cond := [Cond.classLink RX5 71 "java/lang/IllegalStateException", Cond.initialized "java/lang/IllegalStateException", Cond.fieldLink RX5 38 "Leaguewheel" "items" "LLeaguewheel$Items;", Cond.fieldLink RX5 21 "Leaguewheel" "race" "LLeaguewheel$Race;", Cond.fieldLink RX5 61 "Leaguewheel" "tick" "I", Cond.methodLink RX5 140 yX5_checkKart, Cond.instanceMethod yX5_checkKart, Cond.selects RX5 yX5_checkKart yX5_checkKart, Cond.initialized RX5, Cond.code yX5_checkKart cX5_checkKart 2 none, Cond.classLink RX5 241 "java/lang/IndexOutOfBoundsException", Cond.initialized "java/lang/IndexOutOfBoundsException", Cond.fieldLink RX5 53 "Leaguewheel" "kartCount" "I", Cond.methodLink RX5 143 yX5_checkStillRacing, Cond.instanceMethod yX5_checkStillRacing, Cond.selects RX5 yX5_checkStillRacing yX5_checkStillRacing, Cond.code yX5_checkStillRacing cX5_checkStillRacing 2 none, Cond.methodLink RX5 171 yX5_checkRaceIsOn, Cond.instanceMethod yX5_checkRaceIsOn, Cond.selects RX5 yX5_checkRaceIsOn yX5_checkRaceIsOn, Cond.code yX5_checkRaceIsOn cX5_checkRaceIsOn 1 none, Cond.fieldLink RX5 57 "Leaguewheel" "raceIsOn" "Z", Cond.methodLink RX5 265 yX3_isFinished, Cond.instanceMethod yX3_isFinished]
def wsX5_use_r2 : List Cond := [Cond.selects RX3 yX3_isFinished yX3_isFinished, Cond.initialized RX3, Cond.code yX3_isFinished cX3_isFinished 2 (some .boolean), Cond.fieldLink RX3 19 "Leaguewheel$Race" "lapRow" "[I", Cond.fieldLink RX3 41 "Leaguewheel$Race" "goal" "I", Cond.methodLink RX5 207 yX1_heldBy, Cond.instanceMethod yX1_heldBy, Cond.selects RX1 yX1_heldBy yX1_heldBy, Cond.initialized RX1, Cond.code yX1_heldBy cX1_heldBy 2 (some .int), Cond.fieldLink RX1 9 "Leaguewheel$Items" "itemRow" "[I", Cond.methodLink RX5 217 yX1_takeFrom, Cond.instanceMethod yX1_takeFrom, Cond.selects RX1 yX1_takeFrom yX1_takeFrom, Cond.code yX1_takeFrom cX1_takeFrom 2 none, Cond.methodLink RX5 180 yX3_countAhead, Cond.instanceMethod yX3_countAhead, Cond.selects RX3 yX3_countAhead yX3_countAhead, Cond.code yX3_countAhead cX3_countAhead 4 (some .int), Cond.fieldLink RX3 37 "Leaguewheel$Race" "count" "I", Cond.methodLink RX3 81 yX3_isAhead, Cond.instanceMethod yX3_isAhead, Cond.selects RX3 yX3_isAhead yX3_isAhead, Cond.code yX3_isAhead cX3_isAhead 5 (some .boolean)]
def wsX5_use_r3 : List Cond := [Cond.fieldLink RX3 28 "Leaguewheel$Race" "momentRow" "[I", Cond.fieldLink RX3 9 "Leaguewheel$Race" "track" "LLeaguewheel$Track;", Cond.fieldLink RX3 15 "Leaguewheel$Race" "gateRow" "[I", Cond.methodLink RX3 53 yX3_isFinished, Cond.methodLink RX3 57 yX3_netLaps, Cond.instanceMethod yX3_netLaps, Cond.selects RX3 yX3_netLaps yX3_netLaps, Cond.code yX3_netLaps cX3_netLaps 2 (some .int), Cond.fieldLink RX3 22 "Leaguewheel$Race" "debtRow" "[I", Cond.methodLink RX3 84 yX4_restOf, Cond.instanceMethod yX4_restOf, Cond.selects RX4 yX4_restOf yX4_restOf, Cond.initialized RX4, Cond.code yX4_restOf cX4_restOf 2 (some .int), Cond.fieldLink RX4 15 "Leaguewheel$Track" "rests" "[I", Cond.methodLink RX5 220 yX1_wake, Cond.instanceMethod yX1_wake, Cond.selects RX1 yX1_wake yX1_wake, Cond.code yX1_wake cX1_wake 2 none, Cond.fieldLink RX1 19 "Leaguewheel$Items" "awakeRow" "[I", Cond.methodLink RX5 223 yX1_shield, Cond.instanceMethod yX1_shield, Cond.selects RX1 yX1_shield yX1_shield, Cond.code yX1_shield cX1_shield 2 none]
def wsX5_use_r4 : List Cond := [Cond.fieldLink RX1 15 "Leaguewheel$Items" "shieldRow" "[Z", Cond.methodLink RX5 226 yX5_hitRanks, Cond.instanceMethod yX5_hitRanks, Cond.selects RX5 yX5_hitRanks yX5_hitRanks, Cond.code yX5_hitRanks cX5_hitRanks 7 (some .int), Cond.methodLink RX5 268 yX1_hit, Cond.instanceMethod yX1_hit, Cond.selects RX1 yX1_hit yX1_hit, Cond.code yX1_hit cX1_hit 3 (some .boolean), Cond.methodLink RX1 43 Lib.Math.max.name, Cond.static Lib.Math.max.name, Cond.initialized "java/lang/Math", Cond.code Lib.Math.max.name Lib.Math.max.code 2 (some .int)]
def wsX5_use : List Cond := .code yX5_use cX5_use 4 (some .int) :: ((wsX5_use_r1 ++ (wsX5_use_r2 ++ (wsX5_use_r3 ++ wsX5_use_r4))) ++ wsX50 ++ wsX30 ++ wsX10 ++ wsX40 ++ (vx_atS RX5 75 "java/lang/IllegalStateException" ["java/lang/RuntimeException", "java/lang/Exception"]).filter goodWord ++ (vx_atS RX5 245 "java/lang/IndexOutOfBoundsException" ["java/lang/RuntimeException", "java/lang/Exception"]).filter goodWord)
def wsX5_itemOf : List Cond := .code yX5_itemOf cX5_itemOf 2 (some .int) :: ([.fieldLink RX5 57 "Leaguewheel" "raceIsOn" "Z", .fieldLink RX5 38 "Leaguewheel" "items" "LLeaguewheel$Items;", .methodLink RX5 140 yX5_checkKart, .instanceMethod yX5_checkKart, .selects RX5 yX5_checkKart yX5_checkKart, .initialized RX5, .code yX5_checkKart cX5_checkKart 2 none, .classLink RX5 241 "java/lang/IndexOutOfBoundsException", .initialized "java/lang/IndexOutOfBoundsException", .fieldLink RX5 53 "Leaguewheel" "kartCount" "I", .methodLink RX5 207 yX1_heldBy, .instanceMethod yX1_heldBy, .selects RX1 yX1_heldBy yX1_heldBy, .initialized RX1, .code yX1_heldBy cX1_heldBy 2 (some .int), .fieldLink RX1 9 "Leaguewheel$Items" "itemRow" "[I"] ++ wsX50 ++ wsX10 ++ (vx_atS RX5 245 "java/lang/IndexOutOfBoundsException" ["java/lang/RuntimeException", "java/lang/Exception"]).filter goodWord)
def wsX5_stunned : List Cond := .code yX5_stunned cX5_stunned 2 (some .int) :: ([.fieldLink RX5 57 "Leaguewheel" "raceIsOn" "Z", .fieldLink RX5 38 "Leaguewheel" "items" "LLeaguewheel$Items;", .fieldLink RX5 61 "Leaguewheel" "tick" "I", .methodLink RX5 140 yX5_checkKart, .instanceMethod yX5_checkKart, .selects RX5 yX5_checkKart yX5_checkKart, .initialized RX5, .code yX5_checkKart cX5_checkKart 2 none, .classLink RX5 241 "java/lang/IndexOutOfBoundsException", .initialized "java/lang/IndexOutOfBoundsException", .fieldLink RX5 53 "Leaguewheel" "kartCount" "I", .methodLink RX5 146 yX1_ticksStunned, .instanceMethod yX1_ticksStunned, .selects RX1 yX1_ticksStunned yX1_ticksStunned, .initialized RX1, .code yX1_ticksStunned cX1_ticksStunned 3 (some .int), .fieldLink RX1 19 "Leaguewheel$Items" "awakeRow" "[I", .methodLink RX1 43 Lib.Math.max.name, .static Lib.Math.max.name, .initialized "java/lang/Math", .code Lib.Math.max.name Lib.Math.max.code 2 (some .int)] ++ wsX50 ++ wsX10 ++ (vx_atS RX5 245 "java/lang/IndexOutOfBoundsException" ["java/lang/RuntimeException", "java/lang/Exception"]).filter goodWord)
def wsX5_end_r1 : List Cond := [Cond.fieldLink RX5 53 "Leaguewheel" "kartCount" "I", Cond.fieldLink RX5 21 "Leaguewheel" "race" "LLeaguewheel$Race;", Cond.fieldLink RX5 45 "Leaguewheel" "cup" "LLeaguewheel$Cup;", Cond.fieldLink RX5 57 "Leaguewheel" "raceIsOn" "Z", Cond.methodLink RX5 171 yX5_checkRaceIsOn, Cond.instanceMethod yX5_checkRaceIsOn, Cond.selects RX5 yX5_checkRaceIsOn yX5_checkRaceIsOn, Cond.initialized RX5, Cond.code yX5_checkRaceIsOn cX5_checkRaceIsOn 1 none, Cond.classLink RX5 71 "java/lang/IllegalStateException", Cond.initialized "java/lang/IllegalStateException", Cond.methodLink RX5 180 yX3_countAhead, Cond.instanceMethod yX3_countAhead, Cond.selects RX3 yX3_countAhead yX3_countAhead, Cond.initialized RX3, Cond.code yX3_countAhead cX3_countAhead 4 (some .int), Cond.fieldLink RX3 37 "Leaguewheel$Race" "count" "I", Cond.methodLink RX3 81 yX3_isAhead, Cond.instanceMethod yX3_isAhead, Cond.selects RX3 yX3_isAhead yX3_isAhead, Cond.code yX3_isAhead cX3_isAhead 5 (some .boolean), Cond.fieldLink RX3 28 "Leaguewheel$Race" "momentRow" "[I", Cond.fieldLink RX3 9 "Leaguewheel$Race" "track" "LLeaguewheel$Track;", Cond.fieldLink RX3 15 "Leaguewheel$Race" "gateRow" "[I"]
def wsX5_end_r2 : List Cond := [Cond.methodLink RX3 53 yX3_isFinished, Cond.instanceMethod yX3_isFinished, Cond.selects RX3 yX3_isFinished yX3_isFinished, Cond.code yX3_isFinished cX3_isFinished 2 (some .boolean), Cond.fieldLink RX3 19 "Leaguewheel$Race" "lapRow" "[I", Cond.fieldLink RX3 41 "Leaguewheel$Race" "goal" "I", Cond.methodLink RX3 57 yX3_netLaps, Cond.instanceMethod yX3_netLaps, Cond.selects RX3 yX3_netLaps yX3_netLaps, Cond.code yX3_netLaps cX3_netLaps 2 (some .int), Cond.fieldLink RX3 22 "Leaguewheel$Race" "debtRow" "[I", Cond.methodLink RX3 84 yX4_restOf, Cond.instanceMethod yX4_restOf, Cond.selects RX4 yX4_restOf yX4_restOf, Cond.initialized RX4, Cond.code yX4_restOf cX4_restOf 2 (some .int), Cond.fieldLink RX4 15 "Leaguewheel$Track" "rests" "[I", Cond.methodLink RX5 230 yX3_isWorthPoints, Cond.instanceMethod yX3_isWorthPoints, Cond.selects RX3 yX3_isWorthPoints yX3_isWorthPoints, Cond.code yX3_isWorthPoints cX3_isWorthPoints 2 (some .boolean), Cond.methodLink RX5 234 yX0_noteResult, Cond.instanceMethod yX0_noteResult, Cond.selects RX0 yX0_noteResult yX0_noteResult]
def wsX5_end_r3 : List Cond := [Cond.initialized RX0, Cond.code yX0_noteResult cX0_noteResult 4 none, Cond.fieldLink RX0 9 "Leaguewheel$Cup" "placeRow" "[I", Cond.fieldLink RX0 18 "Leaguewheel$Cup" "ended" "I", Cond.fieldLink RX0 15 "Leaguewheel$Cup" "pointRow" "[I", Cond.fieldLink RX0 25 "Leaguewheel$Cup" "POINTS_BY_PLACE" "[I", Cond.methodLink RX5 238 yX0_closeRace, Cond.instanceMethod yX0_closeRace, Cond.selects RX0 yX0_closeRace yX0_closeRace, Cond.code yX0_closeRace cX0_closeRace 1 none]
def wsX5_end : List Cond := .code yX5_end cX5_end 4 (some .int) :: ((wsX5_end_r1 ++ (wsX5_end_r2 ++ wsX5_end_r3)) ++ wsX50 ++ wsX30 ++ wsX40 ++ wsX00 ++ (vx_atS RX5 75 "java/lang/IllegalStateException" ["java/lang/RuntimeException", "java/lang/Exception"]).filter goodWord)
def wsX5_races : List Cond := .code yX5_races cX5_races 1 (some .int) :: ([.fieldLink RX5 45 "Leaguewheel" "cup" "LLeaguewheel$Cup;", .methodLink RX5 120 yX0_endedRaces, .instanceMethod yX0_endedRaces, .selects RX0 yX0_endedRaces yX0_endedRaces, .initialized RX0, .code yX0_endedRaces cX0_endedRaces 1 (some .int), .fieldLink RX0 18 "Leaguewheel$Cup" "ended" "I"] ++ wsX50 ++ wsX00)
def wsX5_place : List Cond := .code yX5_place cX5_place 3 (some .int) :: ([.classLink RX5 241 "java/lang/IndexOutOfBoundsException", .initialized "java/lang/IndexOutOfBoundsException", .fieldLink RX5 45 "Leaguewheel" "cup" "LLeaguewheel$Cup;", .methodLink RX5 120 yX0_endedRaces, .instanceMethod yX0_endedRaces, .selects RX0 yX0_endedRaces yX0_endedRaces, .initialized RX0, .code yX0_endedRaces cX0_endedRaces 1 (some .int), .fieldLink RX0 18 "Leaguewheel$Cup" "ended" "I", .methodLink RX5 140 yX5_checkKart, .instanceMethod yX5_checkKart, .selects RX5 yX5_checkKart yX5_checkKart, .initialized RX5, .code yX5_checkKart cX5_checkKart 2 none, .fieldLink RX5 53 "Leaguewheel" "kartCount" "I", .methodLink RX5 246 yX0_placeIn, .instanceMethod yX0_placeIn, .selects RX0 yX0_placeIn yX0_placeIn, .code yX0_placeIn cX0_placeIn 3 (some .int), .fieldLink RX0 9 "Leaguewheel$Cup" "placeRow" "[I"] ++ wsX50 ++ wsX00 ++ (vx_atS RX5 245 "java/lang/IndexOutOfBoundsException" ["java/lang/RuntimeException", "java/lang/Exception"]).filter goodWord)
def wsX5_setDropped : List Cond := .code yX5_setDropped cX5_setDropped 2 (some .int) :: ([.classLink RX5 86 "java/lang/IllegalArgumentException", .initialized "java/lang/IllegalArgumentException", .fieldLink RX5 45 "Leaguewheel" "cup" "LLeaguewheel$Cup;", .methodLink RX5 251 yX0_changeDropped, .instanceMethod yX0_changeDropped, .selects RX0 yX0_changeDropped yX0_changeDropped, .initialized RX0, .code yX0_changeDropped cX0_changeDropped 3 (some .int), .fieldLink RX0 22 "Leaguewheel$Cup" "dropped" "I"] ++ wsX50 ++ wsX00 ++ (vx_atS RX5 90 "java/lang/IllegalArgumentException" ["java/lang/RuntimeException", "java/lang/Exception"]).filter goodWord)
def wsX5_points : List Cond := .code yX5_points cX5_points 2 (some .int) :: ([.fieldLink RX5 45 "Leaguewheel" "cup" "LLeaguewheel$Cup;", .methodLink RX5 140 yX5_checkKart, .instanceMethod yX5_checkKart, .selects RX5 yX5_checkKart yX5_checkKart, .initialized RX5, .code yX5_checkKart cX5_checkKart 2 none, .classLink RX5 241 "java/lang/IndexOutOfBoundsException", .initialized "java/lang/IndexOutOfBoundsException", .fieldLink RX5 53 "Leaguewheel" "kartCount" "I", .methodLink RX5 254 yX0_pointsOf, .instanceMethod yX0_pointsOf, .selects RX0 yX0_pointsOf yX0_pointsOf, .initialized RX0, .code yX0_pointsOf cX0_pointsOf 4 (some .int), .fieldLink RX0 18 "Leaguewheel$Cup" "ended" "I", .fieldLink RX0 22 "Leaguewheel$Cup" "dropped" "I", .fieldLink RX0 15 "Leaguewheel$Cup" "pointRow" "[I", .methodLink RX0 28 yX0_countWorse, .instanceMethod yX0_countWorse, .selects RX0 yX0_countWorse yX0_countWorse, .code yX0_countWorse cX0_countWorse 7 (some .int)] ++ wsX50 ++ wsX00 ++ (vx_atS RX5 245 "java/lang/IndexOutOfBoundsException" ["java/lang/RuntimeException", "java/lang/Exception"]).filter goodWord)
def wsX5_teamPoints : List Cond := .code yX5_teamPoints cX5_teamPoints 4 (some .int) :: ([.fieldLink RX5 53 "Leaguewheel" "kartCount" "I", .fieldLink RX5 49 "Leaguewheel" "teams" "[I", .fieldLink RX5 45 "Leaguewheel" "cup" "LLeaguewheel$Cup;", .methodLink RX5 103 yX5_checkTeam, .instanceMethod yX5_checkTeam, .selects RX5 yX5_checkTeam yX5_checkTeam, .initialized RX5, .code yX5_checkTeam cX5_checkTeam 2 none, .classLink RX5 241 "java/lang/IndexOutOfBoundsException", .initialized "java/lang/IndexOutOfBoundsException", .methodLink RX5 254 yX0_pointsOf, .instanceMethod yX0_pointsOf, .selects RX0 yX0_pointsOf yX0_pointsOf, .initialized RX0, .code yX0_pointsOf cX0_pointsOf 4 (some .int), .fieldLink RX0 18 "Leaguewheel$Cup" "ended" "I", .fieldLink RX0 22 "Leaguewheel$Cup" "dropped" "I", .fieldLink RX0 15 "Leaguewheel$Cup" "pointRow" "[I", .methodLink RX0 28 yX0_countWorse, .instanceMethod yX0_countWorse, .selects RX0 yX0_countWorse yX0_countWorse, .code yX0_countWorse cX0_countWorse 7 (some .int)] ++ wsX50 ++ wsX00 ++ (vx_atS RX5 245 "java/lang/IndexOutOfBoundsException" ["java/lang/RuntimeException", "java/lang/Exception"]).filter goodWord)
def wsX5_standing_r1 : List Cond := [Cond.fieldLink RX5 45 "Leaguewheel" "cup" "LLeaguewheel$Cup;", Cond.fieldLink RX5 53 "Leaguewheel" "kartCount" "I", Cond.methodLink RX5 140 yX5_checkKart, Cond.instanceMethod yX5_checkKart, Cond.selects RX5 yX5_checkKart yX5_checkKart, Cond.initialized RX5, Cond.code yX5_checkKart cX5_checkKart 2 none, Cond.classLink RX5 241 "java/lang/IndexOutOfBoundsException", Cond.initialized "java/lang/IndexOutOfBoundsException", Cond.methodLink RX5 257 yX0_countBefore, Cond.instanceMethod yX0_countBefore, Cond.selects RX0 yX0_countBefore yX0_countBefore, Cond.initialized RX0, Cond.code yX0_countBefore cX0_countBefore 5 (some .int), Cond.methodLink RX0 32 yX0_standsBefore, Cond.instanceMethod yX0_standsBefore, Cond.selects RX0 yX0_standsBefore yX0_standsBefore, Cond.code yX0_standsBefore cX0_standsBefore 8 (some .boolean), Cond.methodLink RX0 39 yX0_pointsOf, Cond.instanceMethod yX0_pointsOf, Cond.selects RX0 yX0_pointsOf yX0_pointsOf, Cond.code yX0_pointsOf cX0_pointsOf 4 (some .int), Cond.fieldLink RX0 18 "Leaguewheel$Cup" "ended" "I", Cond.fieldLink RX0 22 "Leaguewheel$Cup" "dropped" "I"]
def wsX5_standing_r2 : List Cond := [Cond.fieldLink RX0 15 "Leaguewheel$Cup" "pointRow" "[I", Cond.methodLink RX0 28 yX0_countWorse, Cond.instanceMethod yX0_countWorse, Cond.selects RX0 yX0_countWorse yX0_countWorse, Cond.code yX0_countWorse cX0_countWorse 7 (some .int), Cond.methodLink RX0 43 yX0_timesAt, Cond.instanceMethod yX0_timesAt, Cond.selects RX0 yX0_timesAt yX0_timesAt, Cond.code yX0_timesAt cX0_timesAt 5 (some .int), Cond.fieldLink RX0 9 "Leaguewheel$Cup" "placeRow" "[I"]
def wsX5_standing : List Cond := .code yX5_standing cX5_standing 2 (some .int) :: ((wsX5_standing_r1 ++ wsX5_standing_r2) ++ wsX50 ++ wsX00 ++ (vx_atS RX5 245 "java/lang/IndexOutOfBoundsException" ["java/lang/RuntimeException", "java/lang/Exception"]).filter goodWord)
def wsX5_textLength : List Cond := .code yX5_textLength cX5_textLength 1 (some .int) :: ([.fieldLink RX5 53 "Leaguewheel" "kartCount" "I"] ++ wsX50)
def wsX5_textAt_r1 : List Cond := [Cond.classLink RX5 241 "java/lang/IndexOutOfBoundsException", Cond.initialized "java/lang/IndexOutOfBoundsException", Cond.fieldLink RX5 53 "Leaguewheel" "kartCount" "I", Cond.fieldLink RX5 45 "Leaguewheel" "cup" "LLeaguewheel$Cup;", Cond.methodLink RX5 262 yX0_kartStandingAt, Cond.instanceMethod yX0_kartStandingAt, Cond.selects RX0 yX0_kartStandingAt yX0_kartStandingAt, Cond.initialized RX0, Cond.code yX0_kartStandingAt cX0_kartStandingAt 5 (some .int), Cond.methodLink RX0 36 yX0_countBefore, Cond.instanceMethod yX0_countBefore, Cond.selects RX0 yX0_countBefore yX0_countBefore, Cond.code yX0_countBefore cX0_countBefore 5 (some .int), Cond.methodLink RX0 32 yX0_standsBefore, Cond.instanceMethod yX0_standsBefore, Cond.selects RX0 yX0_standsBefore yX0_standsBefore, Cond.code yX0_standsBefore cX0_standsBefore 8 (some .boolean), Cond.methodLink RX0 39 yX0_pointsOf, Cond.instanceMethod yX0_pointsOf, Cond.selects RX0 yX0_pointsOf yX0_pointsOf, Cond.code yX0_pointsOf cX0_pointsOf 4 (some .int), Cond.fieldLink RX0 18 "Leaguewheel$Cup" "ended" "I", Cond.fieldLink RX0 22 "Leaguewheel$Cup" "dropped" "I", Cond.fieldLink RX0 15 "Leaguewheel$Cup" "pointRow" "[I"]
def wsX5_textAt_r2 : List Cond := [Cond.methodLink RX0 28 yX0_countWorse, Cond.instanceMethod yX0_countWorse, Cond.selects RX0 yX0_countWorse yX0_countWorse, Cond.code yX0_countWorse cX0_countWorse 7 (some .int), Cond.methodLink RX0 43 yX0_timesAt, Cond.instanceMethod yX0_timesAt, Cond.selects RX0 yX0_timesAt yX0_timesAt, Cond.code yX0_timesAt cX0_timesAt 5 (some .int), Cond.fieldLink RX0 9 "Leaguewheel$Cup" "placeRow" "[I"]
def wsX5_textAt : List Cond := .code yX5_textAt cX5_textAt 2 (some .char) :: ((wsX5_textAt_r1 ++ wsX5_textAt_r2) ++ wsX50 ++ wsX00 ++ (vx_atS RX5 245 "java/lang/IndexOutOfBoundsException" ["java/lang/RuntimeException", "java/lang/Exception"]).filter goodWord)
def wsX6_init : List Cond := .code yX6_init cX6_init 1 none :: ([.methodLink RX6 1 objectInit, .instanceMethod objectInit, .code objectInit ⟨#[0xb1]⟩ 1 none, .fieldLink RX6 7 "LeaguewheelModel" "gates" "I", .arrayClass .int, .fieldLink RX6 13 "LeaguewheelModel" "length" "[I", .fieldLink RX6 17 "LeaguewheelModel" "rest" "[I", .fieldLink RX6 20 "LeaguewheelModel" "team" "[I", .fieldLink RX6 23 "LeaguewheelModel" "gate" "[I", .fieldLink RX6 26 "LeaguewheelModel" "lap" "[I", .fieldLink RX6 29 "LeaguewheelModel" "debt" "[I", .fieldLink RX6 32 "LeaguewheelModel" "passed" "[I", .fieldLink RX6 35 "LeaguewheelModel" "last" "[I", .fieldLink RX6 38 "LeaguewheelModel" "finish" "[I", .fieldLink RX6 41 "LeaguewheelModel" "item" "[I", .arrayClass .boolean, .fieldLink RX6 44 "LeaguewheelModel" "isShielded" "[Z", .fieldLink RX6 48 "LeaguewheelModel" "until" "[I", .fieldLink RX6 51 "LeaguewheelModel" "place" "[I", .fieldLink RX6 54 "LeaguewheelModel" "point" "[I"] ++ wsX60)
def wsX6_thrown : List Cond := .code yX6_thrown cX6_thrown 1 (some .int) :: ([.fieldLink RX6 57 "LeaguewheelModel" "thrown" "I"] ++ wsX60)
def wsX6_fails : List Cond := .code yX6_fails cX6_fails 2 (some .boolean) :: ([.fieldLink RX6 57 "LeaguewheelModel" "thrown" "I"] ++ wsX60)
def wsX6_tells : List Cond := .code yX6_tells cX6_tells 2 (some .int) :: ([.fieldLink RX6 57 "LeaguewheelModel" "thrown" "I"] ++ wsX60)
def wsX6_isIn : List Cond := .code yX6_isIn cX6_isIn 3 (some .boolean) :: ([])
def wsX6_isGate : List Cond := .code yX6_isGate cX6_isGate 2 (some .boolean) :: ([.fieldLink RX6 7 "LeaguewheelModel" "gates" "I", .methodLink RX6 60 yX6_isIn, .static yX6_isIn, .initialized RX6, .code yX6_isIn cX6_isIn 3 (some .boolean)] ++ wsX60)
def wsX6_isKart : List Cond := .code yX6_isKart cX6_isKart 2 (some .boolean) :: ([.fieldLink RX6 64 "LeaguewheelModel" "karts" "I", .methodLink RX6 60 yX6_isIn, .static yX6_isIn, .initialized RX6, .code yX6_isIn cX6_isIn 3 (some .boolean)] ++ wsX60)
def wsX6_addGate : List Cond := .code yX6_addGate cX6_addGate 2 (some .int) :: ([.fieldLink RX6 67 "LeaguewheelModel" "started" "I", .fieldLink RX6 7 "LeaguewheelModel" "gates" "I", .fieldLink RX6 74 "LeaguewheelModel" "needed" "I", .methodLink RX6 70 yX6_fails, .instanceMethod yX6_fails, .selects RX6 yX6_fails yX6_fails, .initialized RX6, .code yX6_fails cX6_fails 2 (some .boolean), .fieldLink RX6 57 "LeaguewheelModel" "thrown" "I"] ++ wsX60)
def wsX6_addWay : List Cond := .code yX6_addWay cX6_addWay 7 (some .int) :: ([.fieldLink RX6 67 "LeaguewheelModel" "started" "I", .fieldLink RX6 13 "LeaguewheelModel" "length" "[I", .methodLink RX6 77 yX6_isGate, .instanceMethod yX6_isGate, .selects RX6 yX6_isGate yX6_isGate, .initialized RX6, .code yX6_isGate cX6_isGate 2 (some .boolean), .fieldLink RX6 7 "LeaguewheelModel" "gates" "I", .methodLink RX6 60 yX6_isIn, .static yX6_isIn, .code yX6_isIn cX6_isIn 3 (some .boolean), .methodLink RX6 70 yX6_fails, .instanceMethod yX6_fails, .selects RX6 yX6_fails yX6_fails, .code yX6_fails cX6_fails 2 (some .boolean), .fieldLink RX6 57 "LeaguewheelModel" "thrown" "I"] ++ wsX60)
def wsX6_addKart : List Cond := .code yX6_addKart cX6_addKart 2 (some .int) :: ([.fieldLink RX6 67 "LeaguewheelModel" "started" "I", .fieldLink RX6 64 "LeaguewheelModel" "karts" "I", .fieldLink RX6 20 "LeaguewheelModel" "team" "[I", .methodLink RX6 60 yX6_isIn, .static yX6_isIn, .initialized RX6, .code yX6_isIn cX6_isIn 3 (some .boolean), .methodLink RX6 70 yX6_fails, .instanceMethod yX6_fails, .selects RX6 yX6_fails yX6_fails, .code yX6_fails cX6_fails 2 (some .boolean), .fieldLink RX6 57 "LeaguewheelModel" "thrown" "I"] ++ wsX60)
def wsX6_gates : List Cond := .code yX6_gates cX6_gates 1 (some .int) :: ([.fieldLink RX6 7 "LeaguewheelModel" "gates" "I", .methodLink RX6 80 yX6_tells, .instanceMethod yX6_tells, .selects RX6 yX6_tells yX6_tells, .initialized RX6, .code yX6_tells cX6_tells 2 (some .int), .fieldLink RX6 57 "LeaguewheelModel" "thrown" "I"] ++ wsX60)
def wsX6_karts : List Cond := .code yX6_karts cX6_karts 1 (some .int) :: ([.fieldLink RX6 64 "LeaguewheelModel" "karts" "I", .methodLink RX6 80 yX6_tells, .instanceMethod yX6_tells, .selects RX6 yX6_tells yX6_tells, .initialized RX6, .code yX6_tells cX6_tells 2 (some .int), .fieldLink RX6 57 "LeaguewheelModel" "thrown" "I"] ++ wsX60)
def wsX6_finds : List Cond := .code yX6_finds cX6_finds 6 none :: ([.fieldLink RX6 7 "LeaguewheelModel" "gates" "I", .fieldLink RX6 13 "LeaguewheelModel" "length" "[I", .fieldLink RX6 17 "LeaguewheelModel" "rest" "[I"] ++ wsX60)
def wsX6_rest : List Cond := .code yX6_rest cX6_rest 2 (some .int) :: ([.fieldLink RX6 17 "LeaguewheelModel" "rest" "[I", .methodLink RX6 77 yX6_isGate, .instanceMethod yX6_isGate, .selects RX6 yX6_isGate yX6_isGate, .initialized RX6, .code yX6_isGate cX6_isGate 2 (some .boolean), .fieldLink RX6 7 "LeaguewheelModel" "gates" "I", .methodLink RX6 60 yX6_isIn, .static yX6_isIn, .code yX6_isIn cX6_isIn 3 (some .boolean), .methodLink RX6 70 yX6_fails, .instanceMethod yX6_fails, .selects RX6 yX6_fails yX6_fails, .code yX6_fails cX6_fails 2 (some .boolean), .fieldLink RX6 57 "LeaguewheelModel" "thrown" "I", .methodLink RX6 84 yX6_finds, .instanceMethod yX6_finds, .selects RX6 yX6_finds yX6_finds, .code yX6_finds cX6_finds 6 none, .fieldLink RX6 13 "LeaguewheelModel" "length" "[I"] ++ wsX60)
def wsX6_isTrack : List Cond := .code yX6_isTrack cX6_isTrack 3 (some .boolean) :: ([.fieldLink RX6 7 "LeaguewheelModel" "gates" "I", .fieldLink RX6 17 "LeaguewheelModel" "rest" "[I", .methodLink RX6 84 yX6_finds, .instanceMethod yX6_finds, .selects RX6 yX6_finds yX6_finds, .initialized RX6, .code yX6_finds cX6_finds 6 none, .fieldLink RX6 13 "LeaguewheelModel" "length" "[I"] ++ wsX60)
def wsX6_start_r1 : List Cond := [Cond.fieldLink RX6 87 "LeaguewheelModel" "isOn" "Z", Cond.fieldLink RX6 67 "LeaguewheelModel" "started" "I", Cond.fieldLink RX6 64 "LeaguewheelModel" "karts" "I", Cond.fieldLink RX6 95 "LeaguewheelModel" "laps" "I", Cond.fieldLink RX6 98 "LeaguewheelModel" "passings" "I", Cond.fieldLink RX6 23 "LeaguewheelModel" "gate" "[I", Cond.fieldLink RX6 26 "LeaguewheelModel" "lap" "[I", Cond.fieldLink RX6 29 "LeaguewheelModel" "debt" "[I", Cond.fieldLink RX6 32 "LeaguewheelModel" "passed" "[I", Cond.fieldLink RX6 35 "LeaguewheelModel" "last" "[I", Cond.fieldLink RX6 38 "LeaguewheelModel" "finish" "[I", Cond.fieldLink RX6 41 "LeaguewheelModel" "item" "[I", Cond.fieldLink RX6 44 "LeaguewheelModel" "isShielded" "[Z", Cond.fieldLink RX6 48 "LeaguewheelModel" "until" "[I", Cond.methodLink RX6 91 yX6_isTrack, Cond.instanceMethod yX6_isTrack, Cond.selects RX6 yX6_isTrack yX6_isTrack, Cond.initialized RX6, Cond.code yX6_isTrack cX6_isTrack 3 (some .boolean), Cond.fieldLink RX6 7 "LeaguewheelModel" "gates" "I", Cond.fieldLink RX6 17 "LeaguewheelModel" "rest" "[I", Cond.methodLink RX6 84 yX6_finds, Cond.instanceMethod yX6_finds, Cond.selects RX6 yX6_finds yX6_finds]
def wsX6_start_r2 : List Cond := [Cond.code yX6_finds cX6_finds 6 none, Cond.fieldLink RX6 13 "LeaguewheelModel" "length" "[I", Cond.methodLink RX6 60 yX6_isIn, Cond.static yX6_isIn, Cond.code yX6_isIn cX6_isIn 3 (some .boolean), Cond.methodLink RX6 70 yX6_fails, Cond.instanceMethod yX6_fails, Cond.selects RX6 yX6_fails yX6_fails, Cond.code yX6_fails cX6_fails 2 (some .boolean), Cond.fieldLink RX6 57 "LeaguewheelModel" "thrown" "I"]
def wsX6_start : List Cond := .code yX6_start cX6_start 4 (some .int) :: ((wsX6_start_r1 ++ wsX6_start_r2) ++ wsX60)
def wsX6_isOn : List Cond := .code yX6_isOn cX6_isOn 1 (some .boolean) :: ([.fieldLink RX6 57 "LeaguewheelModel" "thrown" "I", .fieldLink RX6 87 "LeaguewheelModel" "isOn" "Z"] ++ wsX60)
def wsX6_crosses : List Cond := .code yX6_crosses cX6_crosses 3 (some .int) :: ([.fieldLink RX6 32 "LeaguewheelModel" "passed" "[I", .fieldLink RX6 74 "LeaguewheelModel" "needed" "I", .fieldLink RX6 29 "LeaguewheelModel" "debt" "[I", .fieldLink RX6 26 "LeaguewheelModel" "lap" "[I", .fieldLink RX6 95 "LeaguewheelModel" "laps" "I", .fieldLink RX6 38 "LeaguewheelModel" "finish" "[I", .fieldLink RX6 98 "LeaguewheelModel" "passings" "I"] ++ wsX60)
def wsX6_pass_r1 : List Cond := [Cond.fieldLink RX6 23 "LeaguewheelModel" "gate" "[I", Cond.fieldLink RX6 13 "LeaguewheelModel" "length" "[I", Cond.fieldLink RX6 87 "LeaguewheelModel" "isOn" "Z", Cond.fieldLink RX6 38 "LeaguewheelModel" "finish" "[I", Cond.fieldLink RX6 48 "LeaguewheelModel" "until" "[I", Cond.fieldLink RX6 104 "LeaguewheelModel" "time" "I", Cond.fieldLink RX6 98 "LeaguewheelModel" "passings" "I", Cond.fieldLink RX6 35 "LeaguewheelModel" "last" "[I", Cond.fieldLink RX6 29 "LeaguewheelModel" "debt" "[I", Cond.fieldLink RX6 32 "LeaguewheelModel" "passed" "[I", Cond.fieldLink RX6 74 "LeaguewheelModel" "needed" "I", Cond.methodLink RX6 101 yX6_isKart, Cond.instanceMethod yX6_isKart, Cond.selects RX6 yX6_isKart yX6_isKart, Cond.initialized RX6, Cond.code yX6_isKart cX6_isKart 2 (some .boolean), Cond.fieldLink RX6 64 "LeaguewheelModel" "karts" "I", Cond.methodLink RX6 60 yX6_isIn, Cond.static yX6_isIn, Cond.code yX6_isIn cX6_isIn 3 (some .boolean), Cond.methodLink RX6 77 yX6_isGate, Cond.instanceMethod yX6_isGate, Cond.selects RX6 yX6_isGate yX6_isGate, Cond.code yX6_isGate cX6_isGate 2 (some .boolean)]
def wsX6_pass_r2 : List Cond := [Cond.fieldLink RX6 7 "LeaguewheelModel" "gates" "I", Cond.methodLink RX6 70 yX6_fails, Cond.instanceMethod yX6_fails, Cond.selects RX6 yX6_fails yX6_fails, Cond.code yX6_fails cX6_fails 2 (some .boolean), Cond.fieldLink RX6 57 "LeaguewheelModel" "thrown" "I", Cond.methodLink RX6 107 yX6_crosses, Cond.instanceMethod yX6_crosses, Cond.selects RX6 yX6_crosses yX6_crosses, Cond.code yX6_crosses cX6_crosses 3 (some .int), Cond.fieldLink RX6 26 "LeaguewheelModel" "lap" "[I", Cond.fieldLink RX6 95 "LeaguewheelModel" "laps" "I"]
def wsX6_pass : List Cond := .code yX6_pass cX6_pass 7 (some .int) :: ((wsX6_pass_r1 ++ wsX6_pass_r2) ++ wsX60)
def wsX6_idle : List Cond := .code yX6_idle cX6_idle 2 (some .int) :: ([.fieldLink RX6 104 "LeaguewheelModel" "time" "I", .methodLink RX6 60 yX6_isIn, .static yX6_isIn, .initialized RX6, .code yX6_isIn cX6_isIn 3 (some .boolean), .methodLink RX6 70 yX6_fails, .instanceMethod yX6_fails, .selects RX6 yX6_fails yX6_fails, .code yX6_fails cX6_fails 2 (some .boolean), .fieldLink RX6 57 "LeaguewheelModel" "thrown" "I"] ++ wsX60)
def wsX6_of : List Cond := .code yX6_of cX6_of 3 (some .int) :: ([.fieldLink RX6 87 "LeaguewheelModel" "isOn" "Z", .methodLink RX6 101 yX6_isKart, .instanceMethod yX6_isKart, .selects RX6 yX6_isKart yX6_isKart, .initialized RX6, .code yX6_isKart cX6_isKart 2 (some .boolean), .fieldLink RX6 64 "LeaguewheelModel" "karts" "I", .methodLink RX6 60 yX6_isIn, .static yX6_isIn, .code yX6_isIn cX6_isIn 3 (some .boolean), .methodLink RX6 70 yX6_fails, .instanceMethod yX6_fails, .selects RX6 yX6_fails yX6_fails, .code yX6_fails cX6_fails 2 (some .boolean), .fieldLink RX6 57 "LeaguewheelModel" "thrown" "I"] ++ wsX60)
def wsX6_gateOf : List Cond := .code yX6_gateOf cX6_gateOf 2 (some .int) :: ([.fieldLink RX6 23 "LeaguewheelModel" "gate" "[I", .methodLink RX6 110 yX6_of, .instanceMethod yX6_of, .selects RX6 yX6_of yX6_of, .initialized RX6, .code yX6_of cX6_of 3 (some .int), .fieldLink RX6 87 "LeaguewheelModel" "isOn" "Z", .methodLink RX6 101 yX6_isKart, .instanceMethod yX6_isKart, .selects RX6 yX6_isKart yX6_isKart, .code yX6_isKart cX6_isKart 2 (some .boolean), .fieldLink RX6 64 "LeaguewheelModel" "karts" "I", .methodLink RX6 60 yX6_isIn, .static yX6_isIn, .code yX6_isIn cX6_isIn 3 (some .boolean), .methodLink RX6 70 yX6_fails, .instanceMethod yX6_fails, .selects RX6 yX6_fails yX6_fails, .code yX6_fails cX6_fails 2 (some .boolean), .fieldLink RX6 57 "LeaguewheelModel" "thrown" "I"] ++ wsX60)
def wsX6_lapsOf : List Cond := .code yX6_lapsOf cX6_lapsOf 2 (some .int) :: ([.fieldLink RX6 26 "LeaguewheelModel" "lap" "[I", .fieldLink RX6 57 "LeaguewheelModel" "thrown" "I", .fieldLink RX6 29 "LeaguewheelModel" "debt" "[I", .methodLink RX6 110 yX6_of, .instanceMethod yX6_of, .selects RX6 yX6_of yX6_of, .initialized RX6, .code yX6_of cX6_of 3 (some .int), .fieldLink RX6 87 "LeaguewheelModel" "isOn" "Z", .methodLink RX6 101 yX6_isKart, .instanceMethod yX6_isKart, .selects RX6 yX6_isKart yX6_isKart, .code yX6_isKart cX6_isKart 2 (some .boolean), .fieldLink RX6 64 "LeaguewheelModel" "karts" "I", .methodLink RX6 60 yX6_isIn, .static yX6_isIn, .code yX6_isIn cX6_isIn 3 (some .boolean), .methodLink RX6 70 yX6_fails, .instanceMethod yX6_fails, .selects RX6 yX6_fails yX6_fails, .code yX6_fails cX6_fails 2 (some .boolean)] ++ wsX60)
def wsX6_missing : List Cond := .code yX6_missing cX6_missing 2 (some .int) :: ([.fieldLink RX6 87 "LeaguewheelModel" "isOn" "Z", .fieldLink RX6 74 "LeaguewheelModel" "needed" "I", .fieldLink RX6 32 "LeaguewheelModel" "passed" "[I", .methodLink RX6 101 yX6_isKart, .instanceMethod yX6_isKart, .selects RX6 yX6_isKart yX6_isKart, .initialized RX6, .code yX6_isKart cX6_isKart 2 (some .boolean), .fieldLink RX6 64 "LeaguewheelModel" "karts" "I", .methodLink RX6 60 yX6_isIn, .static yX6_isIn, .code yX6_isIn cX6_isIn 3 (some .boolean), .methodLink RX6 70 yX6_fails, .instanceMethod yX6_fails, .selects RX6 yX6_fails yX6_fails, .code yX6_fails cX6_fails 2 (some .boolean), .fieldLink RX6 57 "LeaguewheelModel" "thrown" "I"] ++ wsX60)
def wsX6_isAhead : List Cond := .code yX6_isAhead cX6_isAhead 7 (some .boolean) :: ([.fieldLink RX6 38 "LeaguewheelModel" "finish" "[I", .fieldLink RX6 26 "LeaguewheelModel" "lap" "[I", .fieldLink RX6 29 "LeaguewheelModel" "debt" "[I", .fieldLink RX6 17 "LeaguewheelModel" "rest" "[I", .fieldLink RX6 23 "LeaguewheelModel" "gate" "[I", .fieldLink RX6 35 "LeaguewheelModel" "last" "[I"] ++ wsX60)
def wsX6_ranked : List Cond := .code yX6_ranked cX6_ranked 4 (some .int) :: ([.fieldLink RX6 64 "LeaguewheelModel" "karts" "I", .methodLink RX6 114 yX6_isAhead, .instanceMethod yX6_isAhead, .selects RX6 yX6_isAhead yX6_isAhead, .initialized RX6, .code yX6_isAhead cX6_isAhead 7 (some .boolean), .fieldLink RX6 38 "LeaguewheelModel" "finish" "[I", .fieldLink RX6 26 "LeaguewheelModel" "lap" "[I", .fieldLink RX6 29 "LeaguewheelModel" "debt" "[I", .fieldLink RX6 17 "LeaguewheelModel" "rest" "[I", .fieldLink RX6 23 "LeaguewheelModel" "gate" "[I", .fieldLink RX6 35 "LeaguewheelModel" "last" "[I"] ++ wsX60)
def wsX6_rank_r1 : List Cond := [Cond.fieldLink RX6 87 "LeaguewheelModel" "isOn" "Z", Cond.methodLink RX6 101 yX6_isKart, Cond.instanceMethod yX6_isKart, Cond.selects RX6 yX6_isKart yX6_isKart, Cond.initialized RX6, Cond.code yX6_isKart cX6_isKart 2 (some .boolean), Cond.fieldLink RX6 64 "LeaguewheelModel" "karts" "I", Cond.methodLink RX6 60 yX6_isIn, Cond.static yX6_isIn, Cond.code yX6_isIn cX6_isIn 3 (some .boolean), Cond.methodLink RX6 70 yX6_fails, Cond.instanceMethod yX6_fails, Cond.selects RX6 yX6_fails yX6_fails, Cond.code yX6_fails cX6_fails 2 (some .boolean), Cond.fieldLink RX6 57 "LeaguewheelModel" "thrown" "I", Cond.methodLink RX6 118 yX6_ranked, Cond.instanceMethod yX6_ranked, Cond.selects RX6 yX6_ranked yX6_ranked, Cond.code yX6_ranked cX6_ranked 4 (some .int), Cond.methodLink RX6 114 yX6_isAhead, Cond.instanceMethod yX6_isAhead, Cond.selects RX6 yX6_isAhead yX6_isAhead, Cond.code yX6_isAhead cX6_isAhead 7 (some .boolean), Cond.fieldLink RX6 38 "LeaguewheelModel" "finish" "[I"]
def wsX6_rank_r2 : List Cond := [Cond.fieldLink RX6 26 "LeaguewheelModel" "lap" "[I", Cond.fieldLink RX6 29 "LeaguewheelModel" "debt" "[I", Cond.fieldLink RX6 17 "LeaguewheelModel" "rest" "[I", Cond.fieldLink RX6 23 "LeaguewheelModel" "gate" "[I", Cond.fieldLink RX6 35 "LeaguewheelModel" "last" "[I"]
def wsX6_rank : List Cond := .code yX6_rank cX6_rank 2 (some .int) :: ((wsX6_rank_r1 ++ wsX6_rank_r2) ++ wsX60)
def wsX6_rankByRecord_r1 : List Cond := [Cond.fieldLink RX6 87 "LeaguewheelModel" "isOn" "Z", Cond.methodLink RX6 101 yX6_isKart, Cond.instanceMethod yX6_isKart, Cond.selects RX6 yX6_isKart yX6_isKart, Cond.initialized RX6, Cond.code yX6_isKart cX6_isKart 2 (some .boolean), Cond.fieldLink RX6 64 "LeaguewheelModel" "karts" "I", Cond.methodLink RX6 60 yX6_isIn, Cond.static yX6_isIn, Cond.code yX6_isIn cX6_isIn 3 (some .boolean), Cond.methodLink RX6 70 yX6_fails, Cond.instanceMethod yX6_fails, Cond.selects RX6 yX6_fails yX6_fails, Cond.code yX6_fails cX6_fails 2 (some .boolean), Cond.fieldLink RX6 57 "LeaguewheelModel" "thrown" "I", Cond.methodLink RX6 118 yX6_ranked, Cond.instanceMethod yX6_ranked, Cond.selects RX6 yX6_ranked yX6_ranked, Cond.code yX6_ranked cX6_ranked 4 (some .int), Cond.methodLink RX6 114 yX6_isAhead, Cond.instanceMethod yX6_isAhead, Cond.selects RX6 yX6_isAhead yX6_isAhead, Cond.code yX6_isAhead cX6_isAhead 7 (some .boolean), Cond.fieldLink RX6 38 "LeaguewheelModel" "finish" "[I"]
def wsX6_rankByRecord_r2 : List Cond := [Cond.fieldLink RX6 26 "LeaguewheelModel" "lap" "[I", Cond.fieldLink RX6 29 "LeaguewheelModel" "debt" "[I", Cond.fieldLink RX6 17 "LeaguewheelModel" "rest" "[I", Cond.fieldLink RX6 23 "LeaguewheelModel" "gate" "[I", Cond.fieldLink RX6 35 "LeaguewheelModel" "last" "[I"]
def wsX6_rankByRecord : List Cond := .code yX6_rankByRecord cX6_rankByRecord 2 (some .int) :: ((wsX6_rankByRecord_r1 ++ wsX6_rankByRecord_r2) ++ wsX60)
def wsX6_done : List Cond := .code yX6_done cX6_done 2 (some .int) :: ([.fieldLink RX6 26 "LeaguewheelModel" "lap" "[I", .fieldLink RX6 29 "LeaguewheelModel" "debt" "[I", .fieldLink RX6 17 "LeaguewheelModel" "rest" "[I", .fieldLink RX6 23 "LeaguewheelModel" "gate" "[I"] ++ wsX60)
def wsX6_atRank : List Cond := .code yX6_atRank cX6_atRank 4 (some .int) :: ([.fieldLink RX6 64 "LeaguewheelModel" "karts" "I", .methodLink RX6 118 yX6_ranked, .instanceMethod yX6_ranked, .selects RX6 yX6_ranked yX6_ranked, .initialized RX6, .code yX6_ranked cX6_ranked 4 (some .int), .methodLink RX6 114 yX6_isAhead, .instanceMethod yX6_isAhead, .selects RX6 yX6_isAhead yX6_isAhead, .code yX6_isAhead cX6_isAhead 7 (some .boolean), .fieldLink RX6 38 "LeaguewheelModel" "finish" "[I", .fieldLink RX6 26 "LeaguewheelModel" "lap" "[I", .fieldLink RX6 29 "LeaguewheelModel" "debt" "[I", .fieldLink RX6 17 "LeaguewheelModel" "rest" "[I", .fieldLink RX6 23 "LeaguewheelModel" "gate" "[I", .fieldLink RX6 35 "LeaguewheelModel" "last" "[I"] ++ wsX60)
def wsX6_catchUp_r1 : List Cond := [Cond.fieldLink RX6 87 "LeaguewheelModel" "isOn" "Z", Cond.methodLink RX6 101 yX6_isKart, Cond.instanceMethod yX6_isKart, Cond.selects RX6 yX6_isKart yX6_isKart, Cond.initialized RX6, Cond.code yX6_isKart cX6_isKart 2 (some .boolean), Cond.fieldLink RX6 64 "LeaguewheelModel" "karts" "I", Cond.methodLink RX6 60 yX6_isIn, Cond.static yX6_isIn, Cond.code yX6_isIn cX6_isIn 3 (some .boolean), Cond.methodLink RX6 70 yX6_fails, Cond.instanceMethod yX6_fails, Cond.selects RX6 yX6_fails yX6_fails, Cond.code yX6_fails cX6_fails 2 (some .boolean), Cond.fieldLink RX6 57 "LeaguewheelModel" "thrown" "I", Cond.methodLink RX6 121 yX6_atRank, Cond.instanceMethod yX6_atRank, Cond.selects RX6 yX6_atRank yX6_atRank, Cond.code yX6_atRank cX6_atRank 4 (some .int), Cond.methodLink RX6 118 yX6_ranked, Cond.instanceMethod yX6_ranked, Cond.selects RX6 yX6_ranked yX6_ranked, Cond.code yX6_ranked cX6_ranked 4 (some .int), Cond.methodLink RX6 114 yX6_isAhead]
def wsX6_catchUp_r2 : List Cond := [Cond.instanceMethod yX6_isAhead, Cond.selects RX6 yX6_isAhead yX6_isAhead, Cond.code yX6_isAhead cX6_isAhead 7 (some .boolean), Cond.fieldLink RX6 38 "LeaguewheelModel" "finish" "[I", Cond.fieldLink RX6 26 "LeaguewheelModel" "lap" "[I", Cond.fieldLink RX6 29 "LeaguewheelModel" "debt" "[I", Cond.fieldLink RX6 17 "LeaguewheelModel" "rest" "[I", Cond.fieldLink RX6 23 "LeaguewheelModel" "gate" "[I", Cond.fieldLink RX6 35 "LeaguewheelModel" "last" "[I", Cond.methodLink RX6 124 yX6_done, Cond.instanceMethod yX6_done, Cond.selects RX6 yX6_done yX6_done, Cond.code yX6_done cX6_done 2 (some .int)]
def wsX6_catchUp : List Cond := .code yX6_catchUp cX6_catchUp 3 (some .int) :: ((wsX6_catchUp_r1 ++ wsX6_catchUp_r2) ++ wsX60)
def wsX6_setDraw : List Cond := .code yX6_setDraw cX6_setDraw 2 none :: ([.fieldLink RX6 57 "LeaguewheelModel" "thrown" "I", .fieldLink RX6 127 "LeaguewheelModel" "x" "I"] ++ wsX60)
def wsX6_drawn : List Cond := .code yX6_drawn cX6_drawn 2 (some .int) :: ([])
def wsX6_draw_r1 : List Cond := [Cond.fieldLink RX6 87 "LeaguewheelModel" "isOn" "Z", Cond.fieldLink RX6 38 "LeaguewheelModel" "finish" "[I", Cond.fieldLink RX6 41 "LeaguewheelModel" "item" "[I", Cond.fieldLink RX6 127 "LeaguewheelModel" "x" "I", Cond.constant RX6 130 (1103515245), Cond.methodLink RX6 101 yX6_isKart, Cond.instanceMethod yX6_isKart, Cond.selects RX6 yX6_isKart yX6_isKart, Cond.initialized RX6, Cond.code yX6_isKart cX6_isKart 2 (some .boolean), Cond.fieldLink RX6 64 "LeaguewheelModel" "karts" "I", Cond.methodLink RX6 60 yX6_isIn, Cond.static yX6_isIn, Cond.code yX6_isIn cX6_isIn 3 (some .boolean), Cond.methodLink RX6 70 yX6_fails, Cond.instanceMethod yX6_fails, Cond.selects RX6 yX6_fails yX6_fails, Cond.code yX6_fails cX6_fails 2 (some .boolean), Cond.fieldLink RX6 57 "LeaguewheelModel" "thrown" "I", Cond.methodLink RX6 118 yX6_ranked, Cond.instanceMethod yX6_ranked, Cond.selects RX6 yX6_ranked yX6_ranked, Cond.code yX6_ranked cX6_ranked 4 (some .int), Cond.methodLink RX6 114 yX6_isAhead]
def wsX6_draw_r2 : List Cond := [Cond.instanceMethod yX6_isAhead, Cond.selects RX6 yX6_isAhead yX6_isAhead, Cond.code yX6_isAhead cX6_isAhead 7 (some .boolean), Cond.fieldLink RX6 26 "LeaguewheelModel" "lap" "[I", Cond.fieldLink RX6 29 "LeaguewheelModel" "debt" "[I", Cond.fieldLink RX6 17 "LeaguewheelModel" "rest" "[I", Cond.fieldLink RX6 23 "LeaguewheelModel" "gate" "[I", Cond.fieldLink RX6 35 "LeaguewheelModel" "last" "[I", Cond.methodLink RX6 131 yX6_drawn, Cond.static yX6_drawn, Cond.code yX6_drawn cX6_drawn 2 (some .int)]
def wsX6_draw : List Cond := .code yX6_draw cX6_draw 3 (some .int) :: ((wsX6_draw_r1 ++ wsX6_draw_r2) ++ wsX60)
def wsX6_hits : List Cond := .code yX6_hits cX6_hits 3 (some .int) :: ([.fieldLink RX6 38 "LeaguewheelModel" "finish" "[I", .fieldLink RX6 44 "LeaguewheelModel" "isShielded" "[Z", .fieldLink RX6 48 "LeaguewheelModel" "until" "[I", .fieldLink RX6 104 "LeaguewheelModel" "time" "I"] ++ wsX60)
def wsX6_use_r1 : List Cond := [Cond.fieldLink RX6 87 "LeaguewheelModel" "isOn" "Z", Cond.fieldLink RX6 38 "LeaguewheelModel" "finish" "[I", Cond.fieldLink RX6 41 "LeaguewheelModel" "item" "[I", Cond.fieldLink RX6 48 "LeaguewheelModel" "until" "[I", Cond.fieldLink RX6 44 "LeaguewheelModel" "isShielded" "[Z", Cond.fieldLink RX6 64 "LeaguewheelModel" "karts" "I", Cond.methodLink RX6 101 yX6_isKart, Cond.instanceMethod yX6_isKart, Cond.selects RX6 yX6_isKart yX6_isKart, Cond.initialized RX6, Cond.code yX6_isKart cX6_isKart 2 (some .boolean), Cond.methodLink RX6 60 yX6_isIn, Cond.static yX6_isIn, Cond.code yX6_isIn cX6_isIn 3 (some .boolean), Cond.methodLink RX6 70 yX6_fails, Cond.instanceMethod yX6_fails, Cond.selects RX6 yX6_fails yX6_fails, Cond.code yX6_fails cX6_fails 2 (some .boolean), Cond.fieldLink RX6 57 "LeaguewheelModel" "thrown" "I", Cond.methodLink RX6 118 yX6_ranked, Cond.instanceMethod yX6_ranked, Cond.selects RX6 yX6_ranked yX6_ranked, Cond.code yX6_ranked cX6_ranked 4 (some .int), Cond.methodLink RX6 114 yX6_isAhead]
def wsX6_use_r2 : List Cond := [Cond.instanceMethod yX6_isAhead, Cond.selects RX6 yX6_isAhead yX6_isAhead, Cond.code yX6_isAhead cX6_isAhead 7 (some .boolean), Cond.fieldLink RX6 26 "LeaguewheelModel" "lap" "[I", Cond.fieldLink RX6 29 "LeaguewheelModel" "debt" "[I", Cond.fieldLink RX6 17 "LeaguewheelModel" "rest" "[I", Cond.fieldLink RX6 23 "LeaguewheelModel" "gate" "[I", Cond.fieldLink RX6 35 "LeaguewheelModel" "last" "[I", Cond.methodLink RX6 135 yX6_hits, Cond.instanceMethod yX6_hits, Cond.selects RX6 yX6_hits yX6_hits, Cond.code yX6_hits cX6_hits 3 (some .int), Cond.fieldLink RX6 104 "LeaguewheelModel" "time" "I"]
def wsX6_use : List Cond := .code yX6_use cX6_use 9 (some .int) :: ((wsX6_use_r1 ++ wsX6_use_r2) ++ wsX60)
def wsX6_itemOf : List Cond := .code yX6_itemOf cX6_itemOf 2 (some .int) :: ([.fieldLink RX6 87 "LeaguewheelModel" "isOn" "Z", .fieldLink RX6 41 "LeaguewheelModel" "item" "[I", .methodLink RX6 101 yX6_isKart, .instanceMethod yX6_isKart, .selects RX6 yX6_isKart yX6_isKart, .initialized RX6, .code yX6_isKart cX6_isKart 2 (some .boolean), .fieldLink RX6 64 "LeaguewheelModel" "karts" "I", .methodLink RX6 60 yX6_isIn, .static yX6_isIn, .code yX6_isIn cX6_isIn 3 (some .boolean), .methodLink RX6 70 yX6_fails, .instanceMethod yX6_fails, .selects RX6 yX6_fails yX6_fails, .code yX6_fails cX6_fails 2 (some .boolean), .fieldLink RX6 57 "LeaguewheelModel" "thrown" "I"] ++ wsX60)
def wsX6_stunned : List Cond := .code yX6_stunned cX6_stunned 2 (some .int) :: ([.fieldLink RX6 87 "LeaguewheelModel" "isOn" "Z", .fieldLink RX6 48 "LeaguewheelModel" "until" "[I", .fieldLink RX6 104 "LeaguewheelModel" "time" "I", .methodLink RX6 101 yX6_isKart, .instanceMethod yX6_isKart, .selects RX6 yX6_isKart yX6_isKart, .initialized RX6, .code yX6_isKart cX6_isKart 2 (some .boolean), .fieldLink RX6 64 "LeaguewheelModel" "karts" "I", .methodLink RX6 60 yX6_isIn, .static yX6_isIn, .code yX6_isIn cX6_isIn 3 (some .boolean), .methodLink RX6 70 yX6_fails, .instanceMethod yX6_fails, .selects RX6 yX6_fails yX6_fails, .code yX6_fails cX6_fails 2 (some .boolean), .fieldLink RX6 57 "LeaguewheelModel" "thrown" "I"] ++ wsX60)
def wsX6_worth : List Cond := .code yX6_worth cX6_worth 1 (some .int) :: ([])
def wsX6_end_r1 : List Cond := [Cond.fieldLink RX6 87 "LeaguewheelModel" "isOn" "Z", Cond.fieldLink RX6 64 "LeaguewheelModel" "karts" "I", Cond.fieldLink RX6 38 "LeaguewheelModel" "finish" "[I", Cond.fieldLink RX6 26 "LeaguewheelModel" "lap" "[I", Cond.fieldLink RX6 29 "LeaguewheelModel" "debt" "[I", Cond.fieldLink RX6 51 "LeaguewheelModel" "place" "[I", Cond.fieldLink RX6 138 "LeaguewheelModel" "ended" "I", Cond.fieldLink RX6 54 "LeaguewheelModel" "point" "[I", Cond.methodLink RX6 70 yX6_fails, Cond.instanceMethod yX6_fails, Cond.selects RX6 yX6_fails yX6_fails, Cond.initialized RX6, Cond.code yX6_fails cX6_fails 2 (some .boolean), Cond.fieldLink RX6 57 "LeaguewheelModel" "thrown" "I", Cond.methodLink RX6 121 yX6_atRank, Cond.instanceMethod yX6_atRank, Cond.selects RX6 yX6_atRank yX6_atRank, Cond.code yX6_atRank cX6_atRank 4 (some .int), Cond.methodLink RX6 118 yX6_ranked, Cond.instanceMethod yX6_ranked, Cond.selects RX6 yX6_ranked yX6_ranked, Cond.code yX6_ranked cX6_ranked 4 (some .int), Cond.methodLink RX6 114 yX6_isAhead, Cond.instanceMethod yX6_isAhead]
def wsX6_end_r2 : List Cond := [Cond.selects RX6 yX6_isAhead yX6_isAhead, Cond.code yX6_isAhead cX6_isAhead 7 (some .boolean), Cond.fieldLink RX6 17 "LeaguewheelModel" "rest" "[I", Cond.fieldLink RX6 23 "LeaguewheelModel" "gate" "[I", Cond.fieldLink RX6 35 "LeaguewheelModel" "last" "[I", Cond.methodLink RX6 141 yX6_worth, Cond.static yX6_worth, Cond.code yX6_worth cX6_worth 1 (some .int)]
def wsX6_end : List Cond := .code yX6_end cX6_end 5 (some .int) :: ((wsX6_end_r1 ++ wsX6_end_r2) ++ wsX60)
def wsX6_races : List Cond := .code yX6_races cX6_races 1 (some .int) :: ([.fieldLink RX6 138 "LeaguewheelModel" "ended" "I", .methodLink RX6 80 yX6_tells, .instanceMethod yX6_tells, .selects RX6 yX6_tells yX6_tells, .initialized RX6, .code yX6_tells cX6_tells 2 (some .int), .fieldLink RX6 57 "LeaguewheelModel" "thrown" "I"] ++ wsX60)
def wsX6_place : List Cond := .code yX6_place cX6_place 3 (some .int) :: ([.fieldLink RX6 138 "LeaguewheelModel" "ended" "I", .fieldLink RX6 51 "LeaguewheelModel" "place" "[I", .methodLink RX6 60 yX6_isIn, .static yX6_isIn, .initialized RX6, .code yX6_isIn cX6_isIn 3 (some .boolean), .methodLink RX6 101 yX6_isKart, .instanceMethod yX6_isKart, .selects RX6 yX6_isKart yX6_isKart, .code yX6_isKart cX6_isKart 2 (some .boolean), .fieldLink RX6 64 "LeaguewheelModel" "karts" "I", .methodLink RX6 70 yX6_fails, .instanceMethod yX6_fails, .selects RX6 yX6_fails yX6_fails, .code yX6_fails cX6_fails 2 (some .boolean), .fieldLink RX6 57 "LeaguewheelModel" "thrown" "I"] ++ wsX60)
def wsX6_setDropped : List Cond := .code yX6_setDropped cX6_setDropped 3 (some .int) :: ([.fieldLink RX6 144 "LeaguewheelModel" "dropped" "I", .methodLink RX6 60 yX6_isIn, .static yX6_isIn, .initialized RX6, .code yX6_isIn cX6_isIn 3 (some .boolean), .methodLink RX6 70 yX6_fails, .instanceMethod yX6_fails, .selects RX6 yX6_fails yX6_fails, .code yX6_fails cX6_fails 2 (some .boolean), .fieldLink RX6 57 "LeaguewheelModel" "thrown" "I"] ++ wsX60)
def wsX6_sum : List Cond := .code yX6_sum cX6_sum 8 (some .int) :: ([.fieldLink RX6 138 "LeaguewheelModel" "ended" "I", .fieldLink RX6 54 "LeaguewheelModel" "point" "[I", .fieldLink RX6 144 "LeaguewheelModel" "dropped" "I"] ++ wsX60)
def wsX6_points : List Cond := .code yX6_points cX6_points 2 (some .int) :: ([.methodLink RX6 101 yX6_isKart, .instanceMethod yX6_isKart, .selects RX6 yX6_isKart yX6_isKart, .initialized RX6, .code yX6_isKart cX6_isKart 2 (some .boolean), .fieldLink RX6 64 "LeaguewheelModel" "karts" "I", .methodLink RX6 60 yX6_isIn, .static yX6_isIn, .code yX6_isIn cX6_isIn 3 (some .boolean), .methodLink RX6 70 yX6_fails, .instanceMethod yX6_fails, .selects RX6 yX6_fails yX6_fails, .code yX6_fails cX6_fails 2 (some .boolean), .fieldLink RX6 57 "LeaguewheelModel" "thrown" "I", .methodLink RX6 147 yX6_sum, .instanceMethod yX6_sum, .selects RX6 yX6_sum yX6_sum, .code yX6_sum cX6_sum 8 (some .int), .fieldLink RX6 138 "LeaguewheelModel" "ended" "I", .fieldLink RX6 54 "LeaguewheelModel" "point" "[I", .fieldLink RX6 144 "LeaguewheelModel" "dropped" "I"] ++ wsX60)
def wsX6_teamPoints : List Cond := .code yX6_teamPoints cX6_teamPoints 4 (some .int) :: ([.fieldLink RX6 64 "LeaguewheelModel" "karts" "I", .fieldLink RX6 20 "LeaguewheelModel" "team" "[I", .methodLink RX6 60 yX6_isIn, .static yX6_isIn, .initialized RX6, .code yX6_isIn cX6_isIn 3 (some .boolean), .methodLink RX6 70 yX6_fails, .instanceMethod yX6_fails, .selects RX6 yX6_fails yX6_fails, .code yX6_fails cX6_fails 2 (some .boolean), .fieldLink RX6 57 "LeaguewheelModel" "thrown" "I", .methodLink RX6 147 yX6_sum, .instanceMethod yX6_sum, .selects RX6 yX6_sum yX6_sum, .code yX6_sum cX6_sum 8 (some .int), .fieldLink RX6 138 "LeaguewheelModel" "ended" "I", .fieldLink RX6 54 "LeaguewheelModel" "point" "[I", .fieldLink RX6 144 "LeaguewheelModel" "dropped" "I"] ++ wsX60)
def wsX6_times : List Cond := .code yX6_times cX6_times 5 (some .int) :: ([.fieldLink RX6 138 "LeaguewheelModel" "ended" "I", .fieldLink RX6 51 "LeaguewheelModel" "place" "[I"] ++ wsX60)
def wsX6_stands : List Cond := .code yX6_stands cX6_stands 4 (some .boolean) :: ([.fieldLink RX6 64 "LeaguewheelModel" "karts" "I", .methodLink RX6 147 yX6_sum, .instanceMethod yX6_sum, .selects RX6 yX6_sum yX6_sum, .initialized RX6, .code yX6_sum cX6_sum 8 (some .int), .fieldLink RX6 138 "LeaguewheelModel" "ended" "I", .fieldLink RX6 54 "LeaguewheelModel" "point" "[I", .fieldLink RX6 144 "LeaguewheelModel" "dropped" "I", .methodLink RX6 150 yX6_times, .instanceMethod yX6_times, .selects RX6 yX6_times yX6_times, .code yX6_times cX6_times 5 (some .int), .fieldLink RX6 51 "LeaguewheelModel" "place" "[I"] ++ wsX60)
def wsX6_stand : List Cond := .code yX6_stand cX6_stand 4 (some .int) :: ([.fieldLink RX6 64 "LeaguewheelModel" "karts" "I", .methodLink RX6 153 yX6_stands, .instanceMethod yX6_stands, .selects RX6 yX6_stands yX6_stands, .initialized RX6, .code yX6_stands cX6_stands 4 (some .boolean), .methodLink RX6 147 yX6_sum, .instanceMethod yX6_sum, .selects RX6 yX6_sum yX6_sum, .code yX6_sum cX6_sum 8 (some .int), .fieldLink RX6 138 "LeaguewheelModel" "ended" "I", .fieldLink RX6 54 "LeaguewheelModel" "point" "[I", .fieldLink RX6 144 "LeaguewheelModel" "dropped" "I", .methodLink RX6 150 yX6_times, .instanceMethod yX6_times, .selects RX6 yX6_times yX6_times, .code yX6_times cX6_times 5 (some .int), .fieldLink RX6 51 "LeaguewheelModel" "place" "[I"] ++ wsX60)
def wsX6_standing_r1 : List Cond := [Cond.methodLink RX6 101 yX6_isKart, Cond.instanceMethod yX6_isKart, Cond.selects RX6 yX6_isKart yX6_isKart, Cond.initialized RX6, Cond.code yX6_isKart cX6_isKart 2 (some .boolean), Cond.fieldLink RX6 64 "LeaguewheelModel" "karts" "I", Cond.methodLink RX6 60 yX6_isIn, Cond.static yX6_isIn, Cond.code yX6_isIn cX6_isIn 3 (some .boolean), Cond.methodLink RX6 70 yX6_fails, Cond.instanceMethod yX6_fails, Cond.selects RX6 yX6_fails yX6_fails, Cond.code yX6_fails cX6_fails 2 (some .boolean), Cond.fieldLink RX6 57 "LeaguewheelModel" "thrown" "I", Cond.methodLink RX6 156 yX6_stand, Cond.instanceMethod yX6_stand, Cond.selects RX6 yX6_stand yX6_stand, Cond.code yX6_stand cX6_stand 4 (some .int), Cond.methodLink RX6 153 yX6_stands, Cond.instanceMethod yX6_stands, Cond.selects RX6 yX6_stands yX6_stands, Cond.code yX6_stands cX6_stands 4 (some .boolean), Cond.methodLink RX6 147 yX6_sum, Cond.instanceMethod yX6_sum]
def wsX6_standing_r2 : List Cond := [Cond.selects RX6 yX6_sum yX6_sum, Cond.code yX6_sum cX6_sum 8 (some .int), Cond.fieldLink RX6 138 "LeaguewheelModel" "ended" "I", Cond.fieldLink RX6 54 "LeaguewheelModel" "point" "[I", Cond.fieldLink RX6 144 "LeaguewheelModel" "dropped" "I", Cond.methodLink RX6 150 yX6_times, Cond.instanceMethod yX6_times, Cond.selects RX6 yX6_times yX6_times, Cond.code yX6_times cX6_times 5 (some .int), Cond.fieldLink RX6 51 "LeaguewheelModel" "place" "[I"]
def wsX6_standing : List Cond := .code yX6_standing cX6_standing 2 (some .int) :: ((wsX6_standing_r1 ++ wsX6_standing_r2) ++ wsX60)
def wsX6_textLength : List Cond := .code yX6_textLength cX6_textLength 1 (some .int) :: ([.fieldLink RX6 64 "LeaguewheelModel" "karts" "I", .methodLink RX6 80 yX6_tells, .instanceMethod yX6_tells, .selects RX6 yX6_tells yX6_tells, .initialized RX6, .code yX6_tells cX6_tells 2 (some .int), .fieldLink RX6 57 "LeaguewheelModel" "thrown" "I"] ++ wsX60)
def wsX6_textAt_r1 : List Cond := [Cond.fieldLink RX6 64 "LeaguewheelModel" "karts" "I", Cond.methodLink RX6 70 yX6_fails, Cond.instanceMethod yX6_fails, Cond.selects RX6 yX6_fails yX6_fails, Cond.initialized RX6, Cond.code yX6_fails cX6_fails 2 (some .boolean), Cond.fieldLink RX6 57 "LeaguewheelModel" "thrown" "I", Cond.methodLink RX6 156 yX6_stand, Cond.instanceMethod yX6_stand, Cond.selects RX6 yX6_stand yX6_stand, Cond.code yX6_stand cX6_stand 4 (some .int), Cond.methodLink RX6 153 yX6_stands, Cond.instanceMethod yX6_stands, Cond.selects RX6 yX6_stands yX6_stands, Cond.code yX6_stands cX6_stands 4 (some .boolean), Cond.methodLink RX6 147 yX6_sum, Cond.instanceMethod yX6_sum, Cond.selects RX6 yX6_sum yX6_sum, Cond.code yX6_sum cX6_sum 8 (some .int), Cond.fieldLink RX6 138 "LeaguewheelModel" "ended" "I", Cond.fieldLink RX6 54 "LeaguewheelModel" "point" "[I", Cond.fieldLink RX6 144 "LeaguewheelModel" "dropped" "I", Cond.methodLink RX6 150 yX6_times, Cond.instanceMethod yX6_times]
def wsX6_textAt_r2 : List Cond := [Cond.selects RX6 yX6_times yX6_times, Cond.code yX6_times cX6_times 5 (some .int), Cond.fieldLink RX6 51 "LeaguewheelModel" "place" "[I"]
def wsX6_textAt : List Cond := .code yX6_textAt cX6_textAt 4 (some .char) :: ((wsX6_textAt_r1 ++ wsX6_textAt_r2) ++ wsX60)
def wsJ9_max_7cf53 : List Cond := .code yJ9_max_7cf53 cJ9_max_7cf53 2 (some .int) :: ([])
def wsJ9_min_7cf53 : List Cond := .code yJ9_min_7cf53 cJ9_min_7cf53 2 (some .int) :: ([])
def wsL_addGate_r1 : List Cond := [Cond.classLink RL 13 "java/lang/IllegalStateException", Cond.methodLink RL 7 yX5_addGate, Cond.instanceMethod yX5_addGate, Cond.selects RX5 yX5_addGate yX5_addGate, Cond.initialized RX5, Cond.code yX5_addGate cX5_addGate 2 (some .int), Cond.classLink RX5 71 "java/lang/IllegalStateException", Cond.initialized "java/lang/IllegalStateException", Cond.fieldLink RX5 10 "Leaguewheel" "track" "LLeaguewheel$Track;", Cond.methodLink RX5 64 yX5_checkNeverStarted, Cond.instanceMethod yX5_checkNeverStarted, Cond.selects RX5 yX5_checkNeverStarted yX5_checkNeverStarted, Cond.code yX5_checkNeverStarted cX5_checkNeverStarted 1 none, Cond.fieldLink RX5 57 "Leaguewheel" "raceIsOn" "Z", Cond.fieldLink RX5 45 "Leaguewheel" "cup" "LLeaguewheel$Cup;", Cond.methodLink RX5 120 yX0_endedRaces, Cond.instanceMethod yX0_endedRaces, Cond.selects RX0 yX0_endedRaces yX0_endedRaces, Cond.initialized RX0, Cond.code yX0_endedRaces cX0_endedRaces 1 (some .int), Cond.fieldLink RX0 18 "Leaguewheel$Cup" "ended" "I", Cond.methodLink RX5 67 yX4_isFull, Cond.instanceMethod yX4_isFull, Cond.selects RX4 yX4_isFull yX4_isFull]
def wsL_addGate_r2 : List Cond := [Cond.initialized RX4, Cond.code yX4_isFull cX4_isFull 1 (some .boolean), Cond.fieldLink RX4 18 "Leaguewheel$Track" "count" "I", Cond.methodLink RX5 78 yX4_appendGate, Cond.instanceMethod yX4_appendGate, Cond.selects RX4 yX4_appendGate yX4_appendGate, Cond.code yX4_appendGate cX4_appendGate 3 (some .int), Cond.fieldLink RX4 15 "Leaguewheel$Track" "rests" "[I", Cond.fieldLink RX4 22 "Leaguewheel$Track" "neededGates" "I"]
def wsL_addGate : List Cond := .codeWith yL_addGate cL_addGate 4 (some .int) [(0, 9, 12, 13)] :: ((wsL_addGate_r1 ++ wsL_addGate_r2) ++ wsX50 ++ wsX00 ++ wsX40 ++ (vx_atS RX5 75 "java/lang/IllegalStateException" ["java/lang/RuntimeException", "java/lang/Exception"]).filter goodWord)
def wsL_addWay_r1 : List Cond := [Cond.classLink RL 19 "java/lang/IndexOutOfBoundsException", Cond.classLink RL 21 "java/lang/IllegalArgumentException", Cond.classLink RL 13 "java/lang/IllegalStateException", Cond.methodLink RL 15 yX5_addWay, Cond.instanceMethod yX5_addWay, Cond.selects RX5 yX5_addWay yX5_addWay, Cond.initialized RX5, Cond.code yX5_addWay cX5_addWay 5 (some .int), Cond.classLink RX5 86 "java/lang/IllegalArgumentException", Cond.initialized "java/lang/IllegalArgumentException", Cond.fieldLink RX5 10 "Leaguewheel" "track" "LLeaguewheel$Track;", Cond.methodLink RX5 82 yX5_checkGate, Cond.instanceMethod yX5_checkGate, Cond.selects RX5 yX5_checkGate yX5_checkGate, Cond.code yX5_checkGate cX5_checkGate 2 none, Cond.classLink RX5 241 "java/lang/IndexOutOfBoundsException", Cond.initialized "java/lang/IndexOutOfBoundsException", Cond.methodLink RX5 108 yX4_gateCount, Cond.instanceMethod yX4_gateCount, Cond.selects RX4 yX4_gateCount yX4_gateCount, Cond.initialized RX4, Cond.code yX4_gateCount cX4_gateCount 1 (some .int), Cond.fieldLink RX4 18 "Leaguewheel$Track" "count" "I", Cond.methodLink RX5 64 yX5_checkNeverStarted]
def wsL_addWay_r2 : List Cond := [Cond.instanceMethod yX5_checkNeverStarted, Cond.selects RX5 yX5_checkNeverStarted yX5_checkNeverStarted, Cond.code yX5_checkNeverStarted cX5_checkNeverStarted 1 none, Cond.classLink RX5 71 "java/lang/IllegalStateException", Cond.initialized "java/lang/IllegalStateException", Cond.fieldLink RX5 57 "Leaguewheel" "raceIsOn" "Z", Cond.fieldLink RX5 45 "Leaguewheel" "cup" "LLeaguewheel$Cup;", Cond.methodLink RX5 120 yX0_endedRaces, Cond.instanceMethod yX0_endedRaces, Cond.selects RX0 yX0_endedRaces yX0_endedRaces, Cond.initialized RX0, Cond.code yX0_endedRaces cX0_endedRaces 1 (some .int), Cond.fieldLink RX0 18 "Leaguewheel$Cup" "ended" "I", Cond.methodLink RX5 95 yX4_wayLength, Cond.instanceMethod yX4_wayLength, Cond.selects RX4 yX4_wayLength yX4_wayLength, Cond.code yX4_wayLength cX4_wayLength 3 (some .int), Cond.fieldLink RX4 9 "Leaguewheel$Track" "lengths" "[I", Cond.methodLink RX5 99 yX4_layWay, Cond.instanceMethod yX4_layWay, Cond.selects RX4 yX4_layWay yX4_layWay, Cond.code yX4_layWay cX4_layWay 4 none, Cond.methodLink RX4 33 yX4_measureRests, Cond.instanceMethod yX4_measureRests]
def wsL_addWay_r3 : List Cond := [Cond.selects RX4 yX4_measureRests yX4_measureRests, Cond.code yX4_measureRests cX4_measureRests 2 none, Cond.fieldLink RX4 15 "Leaguewheel$Track" "rests" "[I", Cond.methodLink RX4 40 yX4_leastRest, Cond.instanceMethod yX4_leastRest, Cond.selects RX4 yX4_leastRest yX4_leastRest, Cond.code yX4_leastRest cX4_leastRest 5 (some .int), Cond.methodLink RX4 44 Lib.Math.min.name, Cond.static Lib.Math.min.name, Cond.initialized "java/lang/Math", Cond.code Lib.Math.min.name Lib.Math.min.code 2 (some .int), Cond.methodLink RX4 29 yX4_leads, Cond.instanceMethod yX4_leads, Cond.selects RX4 yX4_leads yX4_leads, Cond.code yX4_leads cX4_leads 3 (some .boolean), Cond.methodLink RX4 25 yX4_wayLength]
def wsL_addWay : List Cond := .codeWith yL_addWay cL_addWay 6 (some .int) [(0, 12, 15, 19), (0, 12, 19, 21), (0, 12, 23, 13)] :: ((wsL_addWay_r1 ++ (wsL_addWay_r2 ++ wsL_addWay_r3)) ++ wsX50 ++ wsX40 ++ wsX00 ++ (vx_atS RX5 90 "java/lang/IllegalArgumentException" ["java/lang/RuntimeException", "java/lang/Exception"]).filter goodWord ++ (vx_atS RX5 245 "java/lang/IndexOutOfBoundsException" ["java/lang/RuntimeException", "java/lang/Exception"]).filter goodWord ++ (vx_atS RX5 75 "java/lang/IllegalStateException" ["java/lang/RuntimeException", "java/lang/Exception"]).filter goodWord)
def wsL_addKart_r1 : List Cond := [Cond.classLink RL 19 "java/lang/IndexOutOfBoundsException", Cond.classLink RL 13 "java/lang/IllegalStateException", Cond.methodLink RL 23 yX5_addKart, Cond.instanceMethod yX5_addKart, Cond.selects RX5 yX5_addKart yX5_addKart, Cond.initialized RX5, Cond.code yX5_addKart cX5_addKart 3 (some .int), Cond.classLink RX5 71 "java/lang/IllegalStateException", Cond.initialized "java/lang/IllegalStateException", Cond.fieldLink RX5 53 "Leaguewheel" "kartCount" "I", Cond.fieldLink RX5 49 "Leaguewheel" "teams" "[I", Cond.methodLink RX5 103 yX5_checkTeam, Cond.instanceMethod yX5_checkTeam, Cond.selects RX5 yX5_checkTeam yX5_checkTeam, Cond.code yX5_checkTeam cX5_checkTeam 2 none, Cond.classLink RX5 241 "java/lang/IndexOutOfBoundsException", Cond.initialized "java/lang/IndexOutOfBoundsException", Cond.methodLink RX5 64 yX5_checkNeverStarted, Cond.instanceMethod yX5_checkNeverStarted, Cond.selects RX5 yX5_checkNeverStarted yX5_checkNeverStarted, Cond.code yX5_checkNeverStarted cX5_checkNeverStarted 1 none, Cond.fieldLink RX5 57 "Leaguewheel" "raceIsOn" "Z", Cond.fieldLink RX5 45 "Leaguewheel" "cup" "LLeaguewheel$Cup;", Cond.methodLink RX5 120 yX0_endedRaces]
def wsL_addKart_r2 : List Cond := [Cond.instanceMethod yX0_endedRaces, Cond.selects RX0 yX0_endedRaces yX0_endedRaces, Cond.initialized RX0, Cond.code yX0_endedRaces cX0_endedRaces 1 (some .int), Cond.fieldLink RX0 18 "Leaguewheel$Cup" "ended" "I"]
def wsL_addKart : List Cond := .codeWith yL_addKart cL_addKart 4 (some .int) [(0, 9, 12, 19), (0, 9, 15, 13)] :: ((wsL_addKart_r1 ++ wsL_addKart_r2) ++ wsX50 ++ wsX00 ++ (vx_atS RX5 75 "java/lang/IllegalStateException" ["java/lang/RuntimeException", "java/lang/Exception"]).filter goodWord ++ (vx_atS RX5 245 "java/lang/IndexOutOfBoundsException" ["java/lang/RuntimeException", "java/lang/Exception"]).filter goodWord)
def wsL_rest : List Cond := .codeWith yL_rest cL_rest 4 (some .int) [(0, 9, 12, 19)] :: ([.classLink RL 19 "java/lang/IndexOutOfBoundsException", .methodLink RL 27 yX5_rest, .instanceMethod yX5_rest, .selects RX5 yX5_rest yX5_rest, .initialized RX5, .code yX5_rest cX5_rest 2 (some .int), .fieldLink RX5 10 "Leaguewheel" "track" "LLeaguewheel$Track;", .methodLink RX5 82 yX5_checkGate, .instanceMethod yX5_checkGate, .selects RX5 yX5_checkGate yX5_checkGate, .code yX5_checkGate cX5_checkGate 2 none, .classLink RX5 241 "java/lang/IndexOutOfBoundsException", .initialized "java/lang/IndexOutOfBoundsException", .methodLink RX5 108 yX4_gateCount, .instanceMethod yX4_gateCount, .selects RX4 yX4_gateCount yX4_gateCount, .initialized RX4, .code yX4_gateCount cX4_gateCount 1 (some .int), .fieldLink RX4 18 "Leaguewheel$Track" "count" "I", .methodLink RX5 112 yX4_restOf, .instanceMethod yX4_restOf, .selects RX4 yX4_restOf yX4_restOf, .code yX4_restOf cX4_restOf 2 (some .int), .fieldLink RX4 15 "Leaguewheel$Track" "rests" "[I"] ++ wsX50 ++ wsX40 ++ (vx_atS RX5 245 "java/lang/IndexOutOfBoundsException" ["java/lang/RuntimeException", "java/lang/Exception"]).filter goodWord)
def wsL_start_r1 : List Cond := [Cond.classLink RL 21 "java/lang/IllegalArgumentException", Cond.classLink RL 13 "java/lang/IllegalStateException", Cond.methodLink RL 30 yX5_start, Cond.instanceMethod yX5_start, Cond.selects RX5 yX5_start yX5_start, Cond.initialized RX5, Cond.code yX5_start cX5_start 2 (some .int), Cond.classLink RX5 86 "java/lang/IllegalArgumentException", Cond.initialized "java/lang/IllegalArgumentException", Cond.classLink RX5 71 "java/lang/IllegalStateException", Cond.initialized "java/lang/IllegalStateException", Cond.fieldLink RX5 57 "Leaguewheel" "raceIsOn" "Z", Cond.fieldLink RX5 45 "Leaguewheel" "cup" "LLeaguewheel$Cup;", Cond.fieldLink RX5 53 "Leaguewheel" "kartCount" "I", Cond.fieldLink RX5 10 "Leaguewheel" "track" "LLeaguewheel$Track;", Cond.fieldLink RX5 21 "Leaguewheel" "race" "LLeaguewheel$Race;", Cond.fieldLink RX5 31 "Leaguewheel" "passings" "LLeaguewheel$Passings;", Cond.fieldLink RX5 38 "Leaguewheel" "items" "LLeaguewheel$Items;", Cond.methodLink RX5 120 yX0_endedRaces, Cond.instanceMethod yX0_endedRaces, Cond.selects RX0 yX0_endedRaces yX0_endedRaces, Cond.initialized RX0, Cond.code yX0_endedRaces cX0_endedRaces 1 (some .int), Cond.fieldLink RX0 18 "Leaguewheel$Cup" "ended" "I"]
def wsL_start_r2 : List Cond := [Cond.methodLink RX5 127 yX4_hasDeadEnd, Cond.instanceMethod yX4_hasDeadEnd, Cond.selects RX4 yX4_hasDeadEnd yX4_hasDeadEnd, Cond.initialized RX4, Cond.code yX4_hasDeadEnd cX4_hasDeadEnd 2 (some .boolean), Cond.fieldLink RX4 18 "Leaguewheel$Track" "count" "I", Cond.methodLink RX4 36 yX4_leadsOn, Cond.instanceMethod yX4_leadsOn, Cond.selects RX4 yX4_leadsOn yX4_leadsOn, Cond.code yX4_leadsOn cX4_leadsOn 3 (some .boolean), Cond.methodLink RX4 29 yX4_leads, Cond.instanceMethod yX4_leads, Cond.selects RX4 yX4_leads yX4_leads, Cond.code yX4_leads cX4_leads 3 (some .boolean), Cond.methodLink RX4 25 yX4_wayLength, Cond.instanceMethod yX4_wayLength, Cond.selects RX4 yX4_wayLength yX4_wayLength, Cond.code yX4_wayLength cX4_wayLength 3 (some .int), Cond.fieldLink RX4 9 "Leaguewheel$Track" "lengths" "[I", Cond.methodLink RX5 132 yX3_begin, Cond.instanceMethod yX3_begin, Cond.selects RX3 yX3_begin yX3_begin, Cond.initialized RX3, Cond.code yX3_begin cX3_begin 4 none]
def wsL_start_r3 : List Cond := [Cond.fieldLink RX3 37 "Leaguewheel$Race" "count" "I", Cond.fieldLink RX3 41 "Leaguewheel$Race" "goal" "I", Cond.fieldLink RX3 44 "Leaguewheel$Race" "moment" "I", Cond.fieldLink RX3 15 "Leaguewheel$Race" "gateRow" "[I", Cond.fieldLink RX3 19 "Leaguewheel$Race" "lapRow" "[I", Cond.fieldLink RX3 22 "Leaguewheel$Race" "debtRow" "[I", Cond.fieldLink RX3 25 "Leaguewheel$Race" "passedRow" "[I", Cond.fieldLink RX3 28 "Leaguewheel$Race" "momentRow" "[I", Cond.methodLink RX5 136 yX2_clear, Cond.instanceMethod yX2_clear, Cond.selects RX2 yX2_clear yX2_clear, Cond.initialized RX2, Cond.code yX2_clear cX2_clear 1 none, Cond.fieldLink RX2 18 "Leaguewheel$Passings" "count" "I", Cond.methodLink RX5 139 yX1_clear, Cond.instanceMethod yX1_clear, Cond.selects RX1 yX1_clear yX1_clear, Cond.initialized RX1, Cond.code yX1_clear cX1_clear 2 none, Cond.fieldLink RX1 9 "Leaguewheel$Items" "itemRow" "[I", Cond.fieldLink RX1 15 "Leaguewheel$Items" "shieldRow" "[Z", Cond.fieldLink RX1 19 "Leaguewheel$Items" "awakeRow" "[I"]
def wsL_start : List Cond := .codeWith yL_start cL_start 4 (some .int) [(0, 9, 12, 21), (0, 9, 15, 13)] :: ((wsL_start_r1 ++ (wsL_start_r2 ++ wsL_start_r3)) ++ wsX50 ++ wsX00 ++ wsX40 ++ wsX30 ++ wsX20 ++ wsX10 ++ (vx_atS RX5 90 "java/lang/IllegalArgumentException" ["java/lang/RuntimeException", "java/lang/Exception"]).filter goodWord ++ (vx_atS RX5 75 "java/lang/IllegalStateException" ["java/lang/RuntimeException", "java/lang/Exception"]).filter goodWord)
def wsL_pass_r1 : List Cond := [Cond.classLink RL 19 "java/lang/IndexOutOfBoundsException", Cond.classLink RL 13 "java/lang/IllegalStateException", Cond.methodLink RL 33 yX5_pass, Cond.instanceMethod yX5_pass, Cond.selects RX5 yX5_pass yX5_pass, Cond.initialized RX5, Cond.code yX5_pass cX5_pass 3 (some .int), Cond.classLink RX5 71 "java/lang/IllegalStateException", Cond.initialized "java/lang/IllegalStateException", Cond.fieldLink RX5 38 "Leaguewheel" "items" "LLeaguewheel$Items;", Cond.fieldLink RX5 61 "Leaguewheel" "tick" "I", Cond.fieldLink RX5 10 "Leaguewheel" "track" "LLeaguewheel$Track;", Cond.fieldLink RX5 21 "Leaguewheel" "race" "LLeaguewheel$Race;", Cond.fieldLink RX5 31 "Leaguewheel" "passings" "LLeaguewheel$Passings;", Cond.methodLink RX5 140 yX5_checkKart, Cond.instanceMethod yX5_checkKart, Cond.selects RX5 yX5_checkKart yX5_checkKart, Cond.code yX5_checkKart cX5_checkKart 2 none, Cond.classLink RX5 241 "java/lang/IndexOutOfBoundsException", Cond.initialized "java/lang/IndexOutOfBoundsException", Cond.fieldLink RX5 53 "Leaguewheel" "kartCount" "I", Cond.methodLink RX5 82 yX5_checkGate, Cond.instanceMethod yX5_checkGate, Cond.selects RX5 yX5_checkGate yX5_checkGate]
def wsL_pass_r2 : List Cond := [Cond.code yX5_checkGate cX5_checkGate 2 none, Cond.methodLink RX5 108 yX4_gateCount, Cond.instanceMethod yX4_gateCount, Cond.selects RX4 yX4_gateCount yX4_gateCount, Cond.initialized RX4, Cond.code yX4_gateCount cX4_gateCount 1 (some .int), Cond.fieldLink RX4 18 "Leaguewheel$Track" "count" "I", Cond.methodLink RX5 143 yX5_checkStillRacing, Cond.instanceMethod yX5_checkStillRacing, Cond.selects RX5 yX5_checkStillRacing yX5_checkStillRacing, Cond.code yX5_checkStillRacing cX5_checkStillRacing 2 none, Cond.methodLink RX5 171 yX5_checkRaceIsOn, Cond.instanceMethod yX5_checkRaceIsOn, Cond.selects RX5 yX5_checkRaceIsOn yX5_checkRaceIsOn, Cond.code yX5_checkRaceIsOn cX5_checkRaceIsOn 1 none, Cond.fieldLink RX5 57 "Leaguewheel" "raceIsOn" "Z", Cond.methodLink RX5 265 yX3_isFinished, Cond.instanceMethod yX3_isFinished, Cond.selects RX3 yX3_isFinished yX3_isFinished, Cond.initialized RX3, Cond.code yX3_isFinished cX3_isFinished 2 (some .boolean), Cond.fieldLink RX3 19 "Leaguewheel$Race" "lapRow" "[I", Cond.fieldLink RX3 41 "Leaguewheel$Race" "goal" "I", Cond.methodLink RX5 146 yX1_ticksStunned]
def wsL_pass_r3 : List Cond := [Cond.instanceMethod yX1_ticksStunned, Cond.selects RX1 yX1_ticksStunned yX1_ticksStunned, Cond.initialized RX1, Cond.code yX1_ticksStunned cX1_ticksStunned 3 (some .int), Cond.fieldLink RX1 19 "Leaguewheel$Items" "awakeRow" "[I", Cond.methodLink RX1 43 Lib.Math.max.name, Cond.static Lib.Math.max.name, Cond.initialized "java/lang/Math", Cond.code Lib.Math.max.name Lib.Math.max.code 2 (some .int), Cond.methodLink RX5 151 yX3_gateAt, Cond.instanceMethod yX3_gateAt, Cond.selects RX3 yX3_gateAt yX3_gateAt, Cond.code yX3_gateAt cX3_gateAt 2 (some .int), Cond.fieldLink RX3 15 "Leaguewheel$Race" "gateRow" "[I", Cond.methodLink RX5 154 yX4_joins, Cond.instanceMethod yX4_joins, Cond.selects RX4 yX4_joins yX4_joins, Cond.code yX4_joins cX4_joins 3 (some .boolean), Cond.methodLink RX4 29 yX4_leads, Cond.instanceMethod yX4_leads, Cond.selects RX4 yX4_leads yX4_leads, Cond.code yX4_leads cX4_leads 3 (some .boolean), Cond.methodLink RX4 25 yX4_wayLength, Cond.instanceMethod yX4_wayLength]
def wsL_pass_r4 : List Cond := [Cond.selects RX4 yX4_wayLength yX4_wayLength, Cond.code yX4_wayLength cX4_wayLength 3 (some .int), Cond.fieldLink RX4 9 "Leaguewheel$Track" "lengths" "[I", Cond.methodLink RX5 160 yX2_isFull, Cond.instanceMethod yX2_isFull, Cond.selects RX2 yX2_isFull yX2_isFull, Cond.initialized RX2, Cond.code yX2_isFull cX2_isFull 1 (some .boolean), Cond.fieldLink RX2 18 "Leaguewheel$Passings" "count" "I", Cond.methodLink RX5 163 yX2_note, Cond.instanceMethod yX2_note, Cond.selects RX2 yX2_note yX2_note, Cond.code yX2_note cX2_note 3 none, Cond.fieldLink RX2 9 "Leaguewheel$Passings" "kartRow" "[I", Cond.fieldLink RX2 15 "Leaguewheel$Passings" "gateRow" "[I", Cond.methodLink RX5 166 yX3_move, Cond.instanceMethod yX3_move, Cond.selects RX3 yX3_move yX3_move, Cond.code yX3_move cX3_move 4 (some .int), Cond.fieldLink RX3 44 "Leaguewheel$Race" "moment" "I", Cond.fieldLink RX3 28 "Leaguewheel$Race" "momentRow" "[I", Cond.fieldLink RX3 9 "Leaguewheel$Race" "track" "LLeaguewheel$Track;", Cond.methodLink RX3 61 yX4_leads, Cond.methodLink RX3 65 yX3_goBack]
def wsL_pass_r5 : List Cond := [Cond.instanceMethod yX3_goBack, Cond.selects RX3 yX3_goBack yX3_goBack, Cond.code yX3_goBack cX3_goBack 3 (some .int), Cond.fieldLink RX3 22 "Leaguewheel$Race" "debtRow" "[I", Cond.fieldLink RX3 25 "Leaguewheel$Race" "passedRow" "[I", Cond.methodLink RX3 69 yX3_crossLine, Cond.instanceMethod yX3_crossLine, Cond.selects RX3 yX3_crossLine yX3_crossLine, Cond.code yX3_crossLine cX3_crossLine 3 (some .int), Cond.methodLink RX3 78 yX3_missingGates, Cond.instanceMethod yX3_missingGates, Cond.selects RX3 yX3_missingGates yX3_missingGates, Cond.code yX3_missingGates cX3_missingGates 2 (some .int), Cond.methodLink RX3 47 yX4_needed, Cond.instanceMethod yX4_needed, Cond.selects RX4 yX4_needed yX4_needed, Cond.code yX4_needed cX4_needed 1 (some .int), Cond.fieldLink RX4 22 "Leaguewheel$Track" "neededGates" "I", Cond.methodLink RX3 53 yX3_isFinished, Cond.methodLink RX3 72 yX3_reachGate, Cond.instanceMethod yX3_reachGate, Cond.selects RX3 yX3_reachGate yX3_reachGate, Cond.code yX3_reachGate cX3_reachGate 3 (some .int), Cond.methodLink RX3 75 yX4_isNeeded]
def wsL_pass_r6 : List Cond := [Cond.instanceMethod yX4_isNeeded, Cond.selects RX4 yX4_isNeeded yX4_isNeeded, Cond.code yX4_isNeeded cX4_isNeeded 2 (some .boolean)]
def wsL_pass : List Cond := .codeWith yL_pass cL_pass 5 (some .int) [(0, 10, 13, 19), (0, 10, 17, 13)] :: ((wsL_pass_r1 ++ (wsL_pass_r2 ++ (wsL_pass_r3 ++ (wsL_pass_r4 ++ (wsL_pass_r5 ++ wsL_pass_r6))))) ++ wsX50 ++ wsX40 ++ wsX30 ++ wsX10 ++ wsX20 ++ (vx_atS RX5 75 "java/lang/IllegalStateException" ["java/lang/RuntimeException", "java/lang/Exception"]).filter goodWord ++ (vx_atS RX5 245 "java/lang/IndexOutOfBoundsException" ["java/lang/RuntimeException", "java/lang/Exception"]).filter goodWord)
def wsL_idle : List Cond := .codeWith yL_idle cL_idle 4 (some .int) [(0, 9, 12, 21)] :: ([.classLink RL 21 "java/lang/IllegalArgumentException", .methodLink RL 37 yX5_idle, .instanceMethod yX5_idle, .selects RX5 yX5_idle yX5_idle, .initialized RX5, .code yX5_idle cX5_idle 2 (some .int), .classLink RX5 86 "java/lang/IllegalArgumentException", .initialized "java/lang/IllegalArgumentException", .fieldLink RX5 61 "Leaguewheel" "tick" "I"] ++ wsX50 ++ (vx_atS RX5 90 "java/lang/IllegalArgumentException" ["java/lang/RuntimeException", "java/lang/Exception"]).filter goodWord)
def wsL_gateOf_r1 : List Cond := [Cond.classLink RL 19 "java/lang/IndexOutOfBoundsException", Cond.classLink RL 13 "java/lang/IllegalStateException", Cond.methodLink RL 40 yX5_gateOf, Cond.instanceMethod yX5_gateOf, Cond.selects RX5 yX5_gateOf yX5_gateOf, Cond.initialized RX5, Cond.code yX5_gateOf cX5_gateOf 2 (some .int), Cond.fieldLink RX5 21 "Leaguewheel" "race" "LLeaguewheel$Race;", Cond.methodLink RX5 140 yX5_checkKart, Cond.instanceMethod yX5_checkKart, Cond.selects RX5 yX5_checkKart yX5_checkKart, Cond.code yX5_checkKart cX5_checkKart 2 none, Cond.classLink RX5 241 "java/lang/IndexOutOfBoundsException", Cond.initialized "java/lang/IndexOutOfBoundsException", Cond.fieldLink RX5 53 "Leaguewheel" "kartCount" "I", Cond.methodLink RX5 171 yX5_checkRaceIsOn, Cond.instanceMethod yX5_checkRaceIsOn, Cond.selects RX5 yX5_checkRaceIsOn yX5_checkRaceIsOn, Cond.code yX5_checkRaceIsOn cX5_checkRaceIsOn 1 none, Cond.classLink RX5 71 "java/lang/IllegalStateException", Cond.initialized "java/lang/IllegalStateException", Cond.fieldLink RX5 57 "Leaguewheel" "raceIsOn" "Z", Cond.methodLink RX5 151 yX3_gateAt, Cond.instanceMethod yX3_gateAt]
def wsL_gateOf_r2 : List Cond := [Cond.selects RX3 yX3_gateAt yX3_gateAt, Cond.initialized RX3, Cond.code yX3_gateAt cX3_gateAt 2 (some .int), Cond.fieldLink RX3 15 "Leaguewheel$Race" "gateRow" "[I"]
def wsL_gateOf : List Cond := .codeWith yL_gateOf cL_gateOf 4 (some .int) [(0, 9, 12, 19), (0, 9, 15, 13)] :: ((wsL_gateOf_r1 ++ wsL_gateOf_r2) ++ wsX50 ++ wsX30 ++ (vx_atS RX5 245 "java/lang/IndexOutOfBoundsException" ["java/lang/RuntimeException", "java/lang/Exception"]).filter goodWord ++ (vx_atS RX5 75 "java/lang/IllegalStateException" ["java/lang/RuntimeException", "java/lang/Exception"]).filter goodWord)
def wsL_lapsOf_r1 : List Cond := [Cond.classLink RL 19 "java/lang/IndexOutOfBoundsException", Cond.classLink RL 13 "java/lang/IllegalStateException", Cond.methodLink RL 43 yX5_lapsOf, Cond.instanceMethod yX5_lapsOf, Cond.selects RX5 yX5_lapsOf yX5_lapsOf, Cond.initialized RX5, Cond.code yX5_lapsOf cX5_lapsOf 2 (some .int), Cond.fieldLink RX5 21 "Leaguewheel" "race" "LLeaguewheel$Race;", Cond.methodLink RX5 140 yX5_checkKart, Cond.instanceMethod yX5_checkKart, Cond.selects RX5 yX5_checkKart yX5_checkKart, Cond.code yX5_checkKart cX5_checkKart 2 none, Cond.classLink RX5 241 "java/lang/IndexOutOfBoundsException", Cond.initialized "java/lang/IndexOutOfBoundsException", Cond.fieldLink RX5 53 "Leaguewheel" "kartCount" "I", Cond.methodLink RX5 171 yX5_checkRaceIsOn, Cond.instanceMethod yX5_checkRaceIsOn, Cond.selects RX5 yX5_checkRaceIsOn yX5_checkRaceIsOn, Cond.code yX5_checkRaceIsOn cX5_checkRaceIsOn 1 none, Cond.classLink RX5 71 "java/lang/IllegalStateException", Cond.initialized "java/lang/IllegalStateException", Cond.fieldLink RX5 57 "Leaguewheel" "raceIsOn" "Z", Cond.methodLink RX5 174 yX3_netLaps, Cond.instanceMethod yX3_netLaps]
def wsL_lapsOf_r2 : List Cond := [Cond.selects RX3 yX3_netLaps yX3_netLaps, Cond.initialized RX3, Cond.code yX3_netLaps cX3_netLaps 2 (some .int), Cond.fieldLink RX3 19 "Leaguewheel$Race" "lapRow" "[I", Cond.fieldLink RX3 22 "Leaguewheel$Race" "debtRow" "[I"]
def wsL_lapsOf : List Cond := .codeWith yL_lapsOf cL_lapsOf 4 (some .int) [(0, 9, 12, 19), (0, 9, 15, 13)] :: ((wsL_lapsOf_r1 ++ wsL_lapsOf_r2) ++ wsX50 ++ wsX30 ++ (vx_atS RX5 245 "java/lang/IndexOutOfBoundsException" ["java/lang/RuntimeException", "java/lang/Exception"]).filter goodWord ++ (vx_atS RX5 75 "java/lang/IllegalStateException" ["java/lang/RuntimeException", "java/lang/Exception"]).filter goodWord)
def wsL_missing_r1 : List Cond := [Cond.classLink RL 19 "java/lang/IndexOutOfBoundsException", Cond.classLink RL 13 "java/lang/IllegalStateException", Cond.methodLink RL 46 yX5_missing, Cond.instanceMethod yX5_missing, Cond.selects RX5 yX5_missing yX5_missing, Cond.initialized RX5, Cond.code yX5_missing cX5_missing 2 (some .int), Cond.fieldLink RX5 21 "Leaguewheel" "race" "LLeaguewheel$Race;", Cond.methodLink RX5 140 yX5_checkKart, Cond.instanceMethod yX5_checkKart, Cond.selects RX5 yX5_checkKart yX5_checkKart, Cond.code yX5_checkKart cX5_checkKart 2 none, Cond.classLink RX5 241 "java/lang/IndexOutOfBoundsException", Cond.initialized "java/lang/IndexOutOfBoundsException", Cond.fieldLink RX5 53 "Leaguewheel" "kartCount" "I", Cond.methodLink RX5 171 yX5_checkRaceIsOn, Cond.instanceMethod yX5_checkRaceIsOn, Cond.selects RX5 yX5_checkRaceIsOn yX5_checkRaceIsOn, Cond.code yX5_checkRaceIsOn cX5_checkRaceIsOn 1 none, Cond.classLink RX5 71 "java/lang/IllegalStateException", Cond.initialized "java/lang/IllegalStateException", Cond.fieldLink RX5 57 "Leaguewheel" "raceIsOn" "Z", Cond.methodLink RX5 177 yX3_missingGates, Cond.instanceMethod yX3_missingGates]
def wsL_missing_r2 : List Cond := [Cond.selects RX3 yX3_missingGates yX3_missingGates, Cond.initialized RX3, Cond.code yX3_missingGates cX3_missingGates 2 (some .int), Cond.fieldLink RX3 9 "Leaguewheel$Race" "track" "LLeaguewheel$Track;", Cond.fieldLink RX3 25 "Leaguewheel$Race" "passedRow" "[I", Cond.methodLink RX3 47 yX4_needed, Cond.instanceMethod yX4_needed, Cond.selects RX4 yX4_needed yX4_needed, Cond.initialized RX4, Cond.code yX4_needed cX4_needed 1 (some .int), Cond.fieldLink RX4 22 "Leaguewheel$Track" "neededGates" "I"]
def wsL_missing : List Cond := .codeWith yL_missing cL_missing 4 (some .int) [(0, 9, 12, 19), (0, 9, 15, 13)] :: ((wsL_missing_r1 ++ wsL_missing_r2) ++ wsX50 ++ wsX30 ++ wsX40 ++ (vx_atS RX5 245 "java/lang/IndexOutOfBoundsException" ["java/lang/RuntimeException", "java/lang/Exception"]).filter goodWord ++ (vx_atS RX5 75 "java/lang/IllegalStateException" ["java/lang/RuntimeException", "java/lang/Exception"]).filter goodWord)
def wsL_rank_r1 : List Cond := [Cond.classLink RL 19 "java/lang/IndexOutOfBoundsException", Cond.classLink RL 13 "java/lang/IllegalStateException", Cond.methodLink RL 49 yX5_rank, Cond.instanceMethod yX5_rank, Cond.selects RX5 yX5_rank yX5_rank, Cond.initialized RX5, Cond.code yX5_rank cX5_rank 2 (some .int), Cond.fieldLink RX5 21 "Leaguewheel" "race" "LLeaguewheel$Race;", Cond.methodLink RX5 140 yX5_checkKart, Cond.instanceMethod yX5_checkKart, Cond.selects RX5 yX5_checkKart yX5_checkKart, Cond.code yX5_checkKart cX5_checkKart 2 none, Cond.classLink RX5 241 "java/lang/IndexOutOfBoundsException", Cond.initialized "java/lang/IndexOutOfBoundsException", Cond.fieldLink RX5 53 "Leaguewheel" "kartCount" "I", Cond.methodLink RX5 171 yX5_checkRaceIsOn, Cond.instanceMethod yX5_checkRaceIsOn, Cond.selects RX5 yX5_checkRaceIsOn yX5_checkRaceIsOn, Cond.code yX5_checkRaceIsOn cX5_checkRaceIsOn 1 none, Cond.classLink RX5 71 "java/lang/IllegalStateException", Cond.initialized "java/lang/IllegalStateException", Cond.fieldLink RX5 57 "Leaguewheel" "raceIsOn" "Z", Cond.methodLink RX5 180 yX3_countAhead, Cond.instanceMethod yX3_countAhead]
def wsL_rank_r2 : List Cond := [Cond.selects RX3 yX3_countAhead yX3_countAhead, Cond.initialized RX3, Cond.code yX3_countAhead cX3_countAhead 4 (some .int), Cond.fieldLink RX3 37 "Leaguewheel$Race" "count" "I", Cond.methodLink RX3 81 yX3_isAhead, Cond.instanceMethod yX3_isAhead, Cond.selects RX3 yX3_isAhead yX3_isAhead, Cond.code yX3_isAhead cX3_isAhead 5 (some .boolean), Cond.fieldLink RX3 28 "Leaguewheel$Race" "momentRow" "[I", Cond.fieldLink RX3 9 "Leaguewheel$Race" "track" "LLeaguewheel$Track;", Cond.fieldLink RX3 15 "Leaguewheel$Race" "gateRow" "[I", Cond.methodLink RX3 53 yX3_isFinished, Cond.instanceMethod yX3_isFinished, Cond.selects RX3 yX3_isFinished yX3_isFinished, Cond.code yX3_isFinished cX3_isFinished 2 (some .boolean), Cond.fieldLink RX3 19 "Leaguewheel$Race" "lapRow" "[I", Cond.fieldLink RX3 41 "Leaguewheel$Race" "goal" "I", Cond.methodLink RX3 57 yX3_netLaps, Cond.instanceMethod yX3_netLaps, Cond.selects RX3 yX3_netLaps yX3_netLaps, Cond.code yX3_netLaps cX3_netLaps 2 (some .int), Cond.fieldLink RX3 22 "Leaguewheel$Race" "debtRow" "[I", Cond.methodLink RX3 84 yX4_restOf, Cond.instanceMethod yX4_restOf]
def wsL_rank_r3 : List Cond := [Cond.selects RX4 yX4_restOf yX4_restOf, Cond.initialized RX4, Cond.code yX4_restOf cX4_restOf 2 (some .int), Cond.fieldLink RX4 15 "Leaguewheel$Track" "rests" "[I"]
def wsL_rank : List Cond := .codeWith yL_rank cL_rank 4 (some .int) [(0, 9, 12, 19), (0, 9, 15, 13)] :: ((wsL_rank_r1 ++ (wsL_rank_r2 ++ wsL_rank_r3)) ++ wsX50 ++ wsX30 ++ wsX40 ++ (vx_atS RX5 245 "java/lang/IndexOutOfBoundsException" ["java/lang/RuntimeException", "java/lang/Exception"]).filter goodWord ++ (vx_atS RX5 75 "java/lang/IllegalStateException" ["java/lang/RuntimeException", "java/lang/Exception"]).filter goodWord)
def wsL_rankByRecord_r1 : List Cond := [Cond.classLink RL 19 "java/lang/IndexOutOfBoundsException", Cond.classLink RL 13 "java/lang/IllegalStateException", Cond.methodLink RL 52 yX5_rankByRecord, Cond.instanceMethod yX5_rankByRecord, Cond.selects RX5 yX5_rankByRecord yX5_rankByRecord, Cond.initialized RX5, Cond.code yX5_rankByRecord cX5_rankByRecord 3 (some .int), Cond.fieldLink RX5 25 "Leaguewheel" "retold" "LLeaguewheel$Race;", Cond.fieldLink RX5 53 "Leaguewheel" "kartCount" "I", Cond.fieldLink RX5 21 "Leaguewheel" "race" "LLeaguewheel$Race;", Cond.fieldLink RX5 31 "Leaguewheel" "passings" "LLeaguewheel$Passings;", Cond.methodLink RX5 140 yX5_checkKart, Cond.instanceMethod yX5_checkKart, Cond.selects RX5 yX5_checkKart yX5_checkKart, Cond.code yX5_checkKart cX5_checkKart 2 none, Cond.classLink RX5 241 "java/lang/IndexOutOfBoundsException", Cond.initialized "java/lang/IndexOutOfBoundsException", Cond.methodLink RX5 171 yX5_checkRaceIsOn, Cond.instanceMethod yX5_checkRaceIsOn, Cond.selects RX5 yX5_checkRaceIsOn yX5_checkRaceIsOn, Cond.code yX5_checkRaceIsOn cX5_checkRaceIsOn 1 none, Cond.classLink RX5 71 "java/lang/IllegalStateException", Cond.initialized "java/lang/IllegalStateException", Cond.fieldLink RX5 57 "Leaguewheel" "raceIsOn" "Z"]
def wsL_rankByRecord_r2 : List Cond := [Cond.methodLink RX5 183 yX3_lapGoal, Cond.instanceMethod yX3_lapGoal, Cond.selects RX3 yX3_lapGoal yX3_lapGoal, Cond.initialized RX3, Cond.code yX3_lapGoal cX3_lapGoal 1 (some .int), Cond.fieldLink RX3 41 "Leaguewheel$Race" "goal" "I", Cond.methodLink RX5 132 yX3_begin, Cond.instanceMethod yX3_begin, Cond.selects RX3 yX3_begin yX3_begin, Cond.code yX3_begin cX3_begin 4 none, Cond.fieldLink RX3 37 "Leaguewheel$Race" "count" "I", Cond.fieldLink RX3 44 "Leaguewheel$Race" "moment" "I", Cond.fieldLink RX3 15 "Leaguewheel$Race" "gateRow" "[I", Cond.fieldLink RX3 19 "Leaguewheel$Race" "lapRow" "[I", Cond.fieldLink RX3 22 "Leaguewheel$Race" "debtRow" "[I", Cond.fieldLink RX3 25 "Leaguewheel$Race" "passedRow" "[I", Cond.fieldLink RX3 28 "Leaguewheel$Race" "momentRow" "[I", Cond.methodLink RX5 186 yX2_count, Cond.instanceMethod yX2_count, Cond.selects RX2 yX2_count yX2_count, Cond.initialized RX2, Cond.code yX2_count cX2_count 1 (some .int), Cond.fieldLink RX2 18 "Leaguewheel$Passings" "count" "I", Cond.methodLink RX5 189 yX2_kartAt]
def wsL_rankByRecord_r3 : List Cond := [Cond.instanceMethod yX2_kartAt, Cond.selects RX2 yX2_kartAt yX2_kartAt, Cond.code yX2_kartAt cX2_kartAt 2 (some .int), Cond.fieldLink RX2 9 "Leaguewheel$Passings" "kartRow" "[I", Cond.methodLink RX5 192 yX2_gateAt, Cond.instanceMethod yX2_gateAt, Cond.selects RX2 yX2_gateAt yX2_gateAt, Cond.code yX2_gateAt cX2_gateAt 2 (some .int), Cond.fieldLink RX2 15 "Leaguewheel$Passings" "gateRow" "[I", Cond.methodLink RX5 166 yX3_move, Cond.instanceMethod yX3_move, Cond.selects RX3 yX3_move yX3_move, Cond.code yX3_move cX3_move 4 (some .int), Cond.fieldLink RX3 9 "Leaguewheel$Race" "track" "LLeaguewheel$Track;", Cond.methodLink RX3 61 yX4_leads, Cond.instanceMethod yX4_leads, Cond.selects RX4 yX4_leads yX4_leads, Cond.initialized RX4, Cond.code yX4_leads cX4_leads 3 (some .boolean), Cond.methodLink RX4 25 yX4_wayLength, Cond.instanceMethod yX4_wayLength, Cond.selects RX4 yX4_wayLength yX4_wayLength, Cond.code yX4_wayLength cX4_wayLength 3 (some .int), Cond.fieldLink RX4 9 "Leaguewheel$Track" "lengths" "[I"]
def wsL_rankByRecord_r4 : List Cond := [Cond.methodLink RX3 65 yX3_goBack, Cond.instanceMethod yX3_goBack, Cond.selects RX3 yX3_goBack yX3_goBack, Cond.code yX3_goBack cX3_goBack 3 (some .int), Cond.methodLink RX3 69 yX3_crossLine, Cond.instanceMethod yX3_crossLine, Cond.selects RX3 yX3_crossLine yX3_crossLine, Cond.code yX3_crossLine cX3_crossLine 3 (some .int), Cond.methodLink RX3 78 yX3_missingGates, Cond.instanceMethod yX3_missingGates, Cond.selects RX3 yX3_missingGates yX3_missingGates, Cond.code yX3_missingGates cX3_missingGates 2 (some .int), Cond.methodLink RX3 47 yX4_needed, Cond.instanceMethod yX4_needed, Cond.selects RX4 yX4_needed yX4_needed, Cond.code yX4_needed cX4_needed 1 (some .int), Cond.fieldLink RX4 22 "Leaguewheel$Track" "neededGates" "I", Cond.methodLink RX3 53 yX3_isFinished, Cond.instanceMethod yX3_isFinished, Cond.selects RX3 yX3_isFinished yX3_isFinished, Cond.code yX3_isFinished cX3_isFinished 2 (some .boolean), Cond.methodLink RX3 72 yX3_reachGate, Cond.instanceMethod yX3_reachGate, Cond.selects RX3 yX3_reachGate yX3_reachGate]
def wsL_rankByRecord_r5 : List Cond := [Cond.code yX3_reachGate cX3_reachGate 3 (some .int), Cond.methodLink RX3 75 yX4_isNeeded, Cond.instanceMethod yX4_isNeeded, Cond.selects RX4 yX4_isNeeded yX4_isNeeded, Cond.code yX4_isNeeded cX4_isNeeded 2 (some .boolean), Cond.methodLink RX5 193 yX3_sortedRank, Cond.instanceMethod yX3_sortedRank, Cond.selects RX3 yX3_sortedRank yX3_sortedRank, Cond.code yX3_sortedRank cX3_sortedRank 3 (some .int), Cond.fieldLink RX3 34 "Leaguewheel$Race" "rankRow" "[I", Cond.fieldLink RX3 31 "Leaguewheel$Race" "order" "[I", Cond.methodLink RX3 87 yX3_insertInOrder, Cond.instanceMethod yX3_insertInOrder, Cond.selects RX3 yX3_insertInOrder yX3_insertInOrder, Cond.code yX3_insertInOrder cX3_insertInOrder 3 none, Cond.methodLink RX3 81 yX3_isAhead, Cond.instanceMethod yX3_isAhead, Cond.selects RX3 yX3_isAhead yX3_isAhead, Cond.code yX3_isAhead cX3_isAhead 5 (some .boolean), Cond.methodLink RX3 57 yX3_netLaps, Cond.instanceMethod yX3_netLaps, Cond.selects RX3 yX3_netLaps yX3_netLaps, Cond.code yX3_netLaps cX3_netLaps 2 (some .int), Cond.methodLink RX3 84 yX4_restOf]
def wsL_rankByRecord_r6 : List Cond := [Cond.instanceMethod yX4_restOf, Cond.selects RX4 yX4_restOf yX4_restOf, Cond.code yX4_restOf cX4_restOf 2 (some .int), Cond.fieldLink RX4 15 "Leaguewheel$Track" "rests" "[I"]
def wsL_rankByRecord : List Cond := .codeWith yL_rankByRecord cL_rankByRecord 4 (some .int) [(0, 9, 12, 19), (0, 9, 15, 13)] :: ((wsL_rankByRecord_r1 ++ (wsL_rankByRecord_r2 ++ (wsL_rankByRecord_r3 ++ (wsL_rankByRecord_r4 ++ (wsL_rankByRecord_r5 ++ wsL_rankByRecord_r6))))) ++ wsX50 ++ wsX30 ++ wsX20 ++ wsX40 ++ (vx_atS RX5 245 "java/lang/IndexOutOfBoundsException" ["java/lang/RuntimeException", "java/lang/Exception"]).filter goodWord ++ (vx_atS RX5 75 "java/lang/IllegalStateException" ["java/lang/RuntimeException", "java/lang/Exception"]).filter goodWord)
def wsL_catchUp_r1 : List Cond := [Cond.classLink RL 19 "java/lang/IndexOutOfBoundsException", Cond.classLink RL 13 "java/lang/IllegalStateException", Cond.methodLink RL 55 yX5_catchUp, Cond.instanceMethod yX5_catchUp, Cond.selects RX5 yX5_catchUp yX5_catchUp, Cond.initialized RX5, Cond.code yX5_catchUp cX5_catchUp 2 (some .int), Cond.fieldLink RX5 21 "Leaguewheel" "race" "LLeaguewheel$Race;", Cond.methodLink RX5 199 Lib.Math.min.name, Cond.static Lib.Math.min.name, Cond.initialized "java/lang/Math", Cond.code Lib.Math.min.name Lib.Math.min.code 2 (some .int), Cond.methodLink RX5 140 yX5_checkKart, Cond.instanceMethod yX5_checkKart, Cond.selects RX5 yX5_checkKart yX5_checkKart, Cond.code yX5_checkKart cX5_checkKart 2 none, Cond.classLink RX5 241 "java/lang/IndexOutOfBoundsException", Cond.initialized "java/lang/IndexOutOfBoundsException", Cond.fieldLink RX5 53 "Leaguewheel" "kartCount" "I", Cond.methodLink RX5 171 yX5_checkRaceIsOn, Cond.instanceMethod yX5_checkRaceIsOn, Cond.selects RX5 yX5_checkRaceIsOn yX5_checkRaceIsOn, Cond.code yX5_checkRaceIsOn cX5_checkRaceIsOn 1 none, Cond.classLink RX5 71 "java/lang/IllegalStateException"]
def wsL_catchUp_r2 : List Cond := [Cond.initialized "java/lang/IllegalStateException", Cond.fieldLink RX5 57 "Leaguewheel" "raceIsOn" "Z", Cond.methodLink RX5 196 yX3_leadOver, Cond.instanceMethod yX3_leadOver, Cond.selects RX3 yX3_leadOver yX3_leadOver, Cond.initialized RX3, Cond.code yX3_leadOver cX3_leadOver 4 (some .int), Cond.fieldLink RX3 37 "Leaguewheel$Race" "count" "I", Cond.methodLink RX3 97 Lib.Math.max.name, Cond.static Lib.Math.max.name, Cond.code Lib.Math.max.name Lib.Math.max.code 2 (some .int), Cond.methodLink RX3 91 yX3_countAhead, Cond.instanceMethod yX3_countAhead, Cond.selects RX3 yX3_countAhead yX3_countAhead, Cond.code yX3_countAhead cX3_countAhead 4 (some .int), Cond.methodLink RX3 81 yX3_isAhead, Cond.instanceMethod yX3_isAhead, Cond.selects RX3 yX3_isAhead yX3_isAhead, Cond.code yX3_isAhead cX3_isAhead 5 (some .boolean), Cond.fieldLink RX3 28 "Leaguewheel$Race" "momentRow" "[I", Cond.fieldLink RX3 9 "Leaguewheel$Race" "track" "LLeaguewheel$Track;", Cond.fieldLink RX3 15 "Leaguewheel$Race" "gateRow" "[I", Cond.methodLink RX3 53 yX3_isFinished, Cond.instanceMethod yX3_isFinished]
def wsL_catchUp_r3 : List Cond := [Cond.selects RX3 yX3_isFinished yX3_isFinished, Cond.code yX3_isFinished cX3_isFinished 2 (some .boolean), Cond.fieldLink RX3 19 "Leaguewheel$Race" "lapRow" "[I", Cond.fieldLink RX3 41 "Leaguewheel$Race" "goal" "I", Cond.methodLink RX3 57 yX3_netLaps, Cond.instanceMethod yX3_netLaps, Cond.selects RX3 yX3_netLaps yX3_netLaps, Cond.code yX3_netLaps cX3_netLaps 2 (some .int), Cond.fieldLink RX3 22 "Leaguewheel$Race" "debtRow" "[I", Cond.methodLink RX3 84 yX4_restOf, Cond.instanceMethod yX4_restOf, Cond.selects RX4 yX4_restOf yX4_restOf, Cond.initialized RX4, Cond.code yX4_restOf cX4_restOf 2 (some .int), Cond.fieldLink RX4 15 "Leaguewheel$Track" "rests" "[I", Cond.methodLink RX3 94 yX3_wayDone, Cond.instanceMethod yX3_wayDone, Cond.selects RX3 yX3_wayDone yX3_wayDone, Cond.code yX3_wayDone cX3_wayDone 4 (some .int)]
def wsL_catchUp : List Cond := .codeWith yL_catchUp cL_catchUp 4 (some .int) [(0, 9, 12, 19), (0, 9, 15, 13)] :: ((wsL_catchUp_r1 ++ (wsL_catchUp_r2 ++ wsL_catchUp_r3)) ++ wsX50 ++ wsX30 ++ wsX40 ++ (vx_atS RX5 245 "java/lang/IndexOutOfBoundsException" ["java/lang/RuntimeException", "java/lang/Exception"]).filter goodWord ++ (vx_atS RX5 75 "java/lang/IllegalStateException" ["java/lang/RuntimeException", "java/lang/Exception"]).filter goodWord)
def wsL_draw_r1 : List Cond := [Cond.classLink RL 19 "java/lang/IndexOutOfBoundsException", Cond.classLink RL 13 "java/lang/IllegalStateException", Cond.methodLink RL 58 yX5_draw, Cond.instanceMethod yX5_draw, Cond.selects RX5 yX5_draw yX5_draw, Cond.initialized RX5, Cond.code yX5_draw cX5_draw 2 (some .int), Cond.classLink RX5 71 "java/lang/IllegalStateException", Cond.initialized "java/lang/IllegalStateException", Cond.fieldLink RX5 38 "Leaguewheel" "items" "LLeaguewheel$Items;", Cond.fieldLink RX5 21 "Leaguewheel" "race" "LLeaguewheel$Race;", Cond.methodLink RX5 140 yX5_checkKart, Cond.instanceMethod yX5_checkKart, Cond.selects RX5 yX5_checkKart yX5_checkKart, Cond.code yX5_checkKart cX5_checkKart 2 none, Cond.classLink RX5 241 "java/lang/IndexOutOfBoundsException", Cond.initialized "java/lang/IndexOutOfBoundsException", Cond.fieldLink RX5 53 "Leaguewheel" "kartCount" "I", Cond.methodLink RX5 143 yX5_checkStillRacing, Cond.instanceMethod yX5_checkStillRacing, Cond.selects RX5 yX5_checkStillRacing yX5_checkStillRacing, Cond.code yX5_checkStillRacing cX5_checkStillRacing 2 none, Cond.methodLink RX5 171 yX5_checkRaceIsOn, Cond.instanceMethod yX5_checkRaceIsOn]
def wsL_draw_r2 : List Cond := [Cond.selects RX5 yX5_checkRaceIsOn yX5_checkRaceIsOn, Cond.code yX5_checkRaceIsOn cX5_checkRaceIsOn 1 none, Cond.fieldLink RX5 57 "Leaguewheel" "raceIsOn" "Z", Cond.methodLink RX5 265 yX3_isFinished, Cond.instanceMethod yX3_isFinished, Cond.selects RX3 yX3_isFinished yX3_isFinished, Cond.initialized RX3, Cond.code yX3_isFinished cX3_isFinished 2 (some .boolean), Cond.fieldLink RX3 19 "Leaguewheel$Race" "lapRow" "[I", Cond.fieldLink RX3 41 "Leaguewheel$Race" "goal" "I", Cond.methodLink RX5 207 yX1_heldBy, Cond.instanceMethod yX1_heldBy, Cond.selects RX1 yX1_heldBy yX1_heldBy, Cond.initialized RX1, Cond.code yX1_heldBy cX1_heldBy 2 (some .int), Cond.fieldLink RX1 9 "Leaguewheel$Items" "itemRow" "[I", Cond.methodLink RX5 180 yX3_countAhead, Cond.instanceMethod yX3_countAhead, Cond.selects RX3 yX3_countAhead yX3_countAhead, Cond.code yX3_countAhead cX3_countAhead 4 (some .int), Cond.fieldLink RX3 37 "Leaguewheel$Race" "count" "I", Cond.methodLink RX3 81 yX3_isAhead, Cond.instanceMethod yX3_isAhead, Cond.selects RX3 yX3_isAhead yX3_isAhead]
def wsL_draw_r3 : List Cond := [Cond.code yX3_isAhead cX3_isAhead 5 (some .boolean), Cond.fieldLink RX3 28 "Leaguewheel$Race" "momentRow" "[I", Cond.fieldLink RX3 9 "Leaguewheel$Race" "track" "LLeaguewheel$Track;", Cond.fieldLink RX3 15 "Leaguewheel$Race" "gateRow" "[I", Cond.methodLink RX3 53 yX3_isFinished, Cond.methodLink RX3 57 yX3_netLaps, Cond.instanceMethod yX3_netLaps, Cond.selects RX3 yX3_netLaps yX3_netLaps, Cond.code yX3_netLaps cX3_netLaps 2 (some .int), Cond.fieldLink RX3 22 "Leaguewheel$Race" "debtRow" "[I", Cond.methodLink RX3 84 yX4_restOf, Cond.instanceMethod yX4_restOf, Cond.selects RX4 yX4_restOf yX4_restOf, Cond.initialized RX4, Cond.code yX4_restOf cX4_restOf 2 (some .int), Cond.fieldLink RX4 15 "Leaguewheel$Track" "rests" "[I", Cond.methodLink RX5 212 yX1_drawFor, Cond.instanceMethod yX1_drawFor, Cond.selects RX1 yX1_drawFor yX1_drawFor, Cond.code yX1_drawFor cX1_drawFor 4 (some .int), Cond.fieldLink RX1 22 "Leaguewheel$Items" "number" "I", Cond.constant RX1 29 (1103515245), Cond.methodLink RX1 30 yX1_itemAt, Cond.static yX1_itemAt]
def wsL_draw_r4 : List Cond := [Cond.code yX1_itemAt cX1_itemAt 2 (some .int), Cond.fieldLink RX1 34 "Leaguewheel$Items" "FOR_FIRST" "[I", Cond.fieldLink RX1 37 "Leaguewheel$Items" "FOR_MIDDLE" "[I", Cond.fieldLink RX1 40 "Leaguewheel$Items" "FOR_OTHERS" "[I"]
def wsL_draw : List Cond := .codeWith yL_draw cL_draw 4 (some .int) [(0, 9, 12, 19), (0, 9, 15, 13)] :: ((wsL_draw_r1 ++ (wsL_draw_r2 ++ (wsL_draw_r3 ++ wsL_draw_r4))) ++ wsX50 ++ wsX30 ++ wsX10 ++ wsX40 ++ (vx_atS RX5 75 "java/lang/IllegalStateException" ["java/lang/RuntimeException", "java/lang/Exception"]).filter goodWord ++ (vx_atS RX5 245 "java/lang/IndexOutOfBoundsException" ["java/lang/RuntimeException", "java/lang/Exception"]).filter goodWord)
def wsL_use_r1 : List Cond := [Cond.classLink RL 19 "java/lang/IndexOutOfBoundsException", Cond.classLink RL 13 "java/lang/IllegalStateException", Cond.methodLink RL 61 yX5_use, Cond.instanceMethod yX5_use, Cond.selects RX5 yX5_use yX5_use, Cond.initialized RX5, Cond.code yX5_use cX5_use 4 (some .int), Cond.classLink RX5 71 "java/lang/IllegalStateException", Cond.initialized "java/lang/IllegalStateException", Cond.fieldLink RX5 38 "Leaguewheel" "items" "LLeaguewheel$Items;", Cond.fieldLink RX5 21 "Leaguewheel" "race" "LLeaguewheel$Race;", Cond.fieldLink RX5 61 "Leaguewheel" "tick" "I", Cond.methodLink RX5 140 yX5_checkKart, Cond.instanceMethod yX5_checkKart, Cond.selects RX5 yX5_checkKart yX5_checkKart, Cond.code yX5_checkKart cX5_checkKart 2 none, Cond.classLink RX5 241 "java/lang/IndexOutOfBoundsException", Cond.initialized "java/lang/IndexOutOfBoundsException", Cond.fieldLink RX5 53 "Leaguewheel" "kartCount" "I", Cond.methodLink RX5 143 yX5_checkStillRacing, Cond.instanceMethod yX5_checkStillRacing, Cond.selects RX5 yX5_checkStillRacing yX5_checkStillRacing, Cond.code yX5_checkStillRacing cX5_checkStillRacing 2 none, Cond.methodLink RX5 171 yX5_checkRaceIsOn]
def wsL_use_r2 : List Cond := [Cond.instanceMethod yX5_checkRaceIsOn, Cond.selects RX5 yX5_checkRaceIsOn yX5_checkRaceIsOn, Cond.code yX5_checkRaceIsOn cX5_checkRaceIsOn 1 none, Cond.fieldLink RX5 57 "Leaguewheel" "raceIsOn" "Z", Cond.methodLink RX5 265 yX3_isFinished, Cond.instanceMethod yX3_isFinished, Cond.selects RX3 yX3_isFinished yX3_isFinished, Cond.initialized RX3, Cond.code yX3_isFinished cX3_isFinished 2 (some .boolean), Cond.fieldLink RX3 19 "Leaguewheel$Race" "lapRow" "[I", Cond.fieldLink RX3 41 "Leaguewheel$Race" "goal" "I", Cond.methodLink RX5 207 yX1_heldBy, Cond.instanceMethod yX1_heldBy, Cond.selects RX1 yX1_heldBy yX1_heldBy, Cond.initialized RX1, Cond.code yX1_heldBy cX1_heldBy 2 (some .int), Cond.fieldLink RX1 9 "Leaguewheel$Items" "itemRow" "[I", Cond.methodLink RX5 217 yX1_takeFrom, Cond.instanceMethod yX1_takeFrom, Cond.selects RX1 yX1_takeFrom yX1_takeFrom, Cond.code yX1_takeFrom cX1_takeFrom 2 none, Cond.methodLink RX5 180 yX3_countAhead, Cond.instanceMethod yX3_countAhead, Cond.selects RX3 yX3_countAhead yX3_countAhead]
def wsL_use_r3 : List Cond := [Cond.code yX3_countAhead cX3_countAhead 4 (some .int), Cond.fieldLink RX3 37 "Leaguewheel$Race" "count" "I", Cond.methodLink RX3 81 yX3_isAhead, Cond.instanceMethod yX3_isAhead, Cond.selects RX3 yX3_isAhead yX3_isAhead, Cond.code yX3_isAhead cX3_isAhead 5 (some .boolean), Cond.fieldLink RX3 28 "Leaguewheel$Race" "momentRow" "[I", Cond.fieldLink RX3 9 "Leaguewheel$Race" "track" "LLeaguewheel$Track;", Cond.fieldLink RX3 15 "Leaguewheel$Race" "gateRow" "[I", Cond.methodLink RX3 53 yX3_isFinished, Cond.methodLink RX3 57 yX3_netLaps, Cond.instanceMethod yX3_netLaps, Cond.selects RX3 yX3_netLaps yX3_netLaps, Cond.code yX3_netLaps cX3_netLaps 2 (some .int), Cond.fieldLink RX3 22 "Leaguewheel$Race" "debtRow" "[I", Cond.methodLink RX3 84 yX4_restOf, Cond.instanceMethod yX4_restOf, Cond.selects RX4 yX4_restOf yX4_restOf, Cond.initialized RX4, Cond.code yX4_restOf cX4_restOf 2 (some .int), Cond.fieldLink RX4 15 "Leaguewheel$Track" "rests" "[I", Cond.methodLink RX5 220 yX1_wake, Cond.instanceMethod yX1_wake, Cond.selects RX1 yX1_wake yX1_wake]
def wsL_use_r4 : List Cond := [Cond.code yX1_wake cX1_wake 2 none, Cond.fieldLink RX1 19 "Leaguewheel$Items" "awakeRow" "[I", Cond.methodLink RX5 223 yX1_shield, Cond.instanceMethod yX1_shield, Cond.selects RX1 yX1_shield yX1_shield, Cond.code yX1_shield cX1_shield 2 none, Cond.fieldLink RX1 15 "Leaguewheel$Items" "shieldRow" "[Z", Cond.methodLink RX5 226 yX5_hitRanks, Cond.instanceMethod yX5_hitRanks, Cond.selects RX5 yX5_hitRanks yX5_hitRanks, Cond.code yX5_hitRanks cX5_hitRanks 7 (some .int), Cond.methodLink RX5 268 yX1_hit, Cond.instanceMethod yX1_hit, Cond.selects RX1 yX1_hit yX1_hit, Cond.code yX1_hit cX1_hit 3 (some .boolean), Cond.methodLink RX1 43 Lib.Math.max.name, Cond.static Lib.Math.max.name, Cond.initialized "java/lang/Math", Cond.code Lib.Math.max.name Lib.Math.max.code 2 (some .int)]
def wsL_use : List Cond := .codeWith yL_use cL_use 4 (some .int) [(0, 9, 12, 19), (0, 9, 15, 13)] :: ((wsL_use_r1 ++ (wsL_use_r2 ++ (wsL_use_r3 ++ wsL_use_r4))) ++ wsX50 ++ wsX30 ++ wsX10 ++ wsX40 ++ (vx_atS RX5 75 "java/lang/IllegalStateException" ["java/lang/RuntimeException", "java/lang/Exception"]).filter goodWord ++ (vx_atS RX5 245 "java/lang/IndexOutOfBoundsException" ["java/lang/RuntimeException", "java/lang/Exception"]).filter goodWord)
def wsL_itemOf : List Cond := .codeWith yL_itemOf cL_itemOf 4 (some .int) [(0, 9, 12, 19)] :: ([.classLink RL 19 "java/lang/IndexOutOfBoundsException", .methodLink RL 64 yX5_itemOf, .instanceMethod yX5_itemOf, .selects RX5 yX5_itemOf yX5_itemOf, .initialized RX5, .code yX5_itemOf cX5_itemOf 2 (some .int), .fieldLink RX5 57 "Leaguewheel" "raceIsOn" "Z", .fieldLink RX5 38 "Leaguewheel" "items" "LLeaguewheel$Items;", .methodLink RX5 140 yX5_checkKart, .instanceMethod yX5_checkKart, .selects RX5 yX5_checkKart yX5_checkKart, .code yX5_checkKart cX5_checkKart 2 none, .classLink RX5 241 "java/lang/IndexOutOfBoundsException", .initialized "java/lang/IndexOutOfBoundsException", .fieldLink RX5 53 "Leaguewheel" "kartCount" "I", .methodLink RX5 207 yX1_heldBy, .instanceMethod yX1_heldBy, .selects RX1 yX1_heldBy yX1_heldBy, .initialized RX1, .code yX1_heldBy cX1_heldBy 2 (some .int), .fieldLink RX1 9 "Leaguewheel$Items" "itemRow" "[I"] ++ wsX50 ++ wsX10 ++ (vx_atS RX5 245 "java/lang/IndexOutOfBoundsException" ["java/lang/RuntimeException", "java/lang/Exception"]).filter goodWord)
def wsL_stunned_r1 : List Cond := [Cond.classLink RL 19 "java/lang/IndexOutOfBoundsException", Cond.methodLink RL 67 yX5_stunned, Cond.instanceMethod yX5_stunned, Cond.selects RX5 yX5_stunned yX5_stunned, Cond.initialized RX5, Cond.code yX5_stunned cX5_stunned 2 (some .int), Cond.fieldLink RX5 57 "Leaguewheel" "raceIsOn" "Z", Cond.fieldLink RX5 38 "Leaguewheel" "items" "LLeaguewheel$Items;", Cond.fieldLink RX5 61 "Leaguewheel" "tick" "I", Cond.methodLink RX5 140 yX5_checkKart, Cond.instanceMethod yX5_checkKart, Cond.selects RX5 yX5_checkKart yX5_checkKart, Cond.code yX5_checkKart cX5_checkKart 2 none, Cond.classLink RX5 241 "java/lang/IndexOutOfBoundsException", Cond.initialized "java/lang/IndexOutOfBoundsException", Cond.fieldLink RX5 53 "Leaguewheel" "kartCount" "I", Cond.methodLink RX5 146 yX1_ticksStunned, Cond.instanceMethod yX1_ticksStunned, Cond.selects RX1 yX1_ticksStunned yX1_ticksStunned, Cond.initialized RX1, Cond.code yX1_ticksStunned cX1_ticksStunned 3 (some .int), Cond.fieldLink RX1 19 "Leaguewheel$Items" "awakeRow" "[I", Cond.methodLink RX1 43 Lib.Math.max.name, Cond.static Lib.Math.max.name]
def wsL_stunned_r2 : List Cond := [Cond.initialized "java/lang/Math", Cond.code Lib.Math.max.name Lib.Math.max.code 2 (some .int)]
def wsL_stunned : List Cond := .codeWith yL_stunned cL_stunned 4 (some .int) [(0, 9, 12, 19)] :: ((wsL_stunned_r1 ++ wsL_stunned_r2) ++ wsX50 ++ wsX10 ++ (vx_atS RX5 245 "java/lang/IndexOutOfBoundsException" ["java/lang/RuntimeException", "java/lang/Exception"]).filter goodWord)
def wsL_end_r1 : List Cond := [Cond.classLink RL 13 "java/lang/IllegalStateException", Cond.methodLink RL 70 yX5_end, Cond.instanceMethod yX5_end, Cond.selects RX5 yX5_end yX5_end, Cond.initialized RX5, Cond.code yX5_end cX5_end 4 (some .int), Cond.fieldLink RX5 53 "Leaguewheel" "kartCount" "I", Cond.fieldLink RX5 21 "Leaguewheel" "race" "LLeaguewheel$Race;", Cond.fieldLink RX5 45 "Leaguewheel" "cup" "LLeaguewheel$Cup;", Cond.fieldLink RX5 57 "Leaguewheel" "raceIsOn" "Z", Cond.methodLink RX5 171 yX5_checkRaceIsOn, Cond.instanceMethod yX5_checkRaceIsOn, Cond.selects RX5 yX5_checkRaceIsOn yX5_checkRaceIsOn, Cond.code yX5_checkRaceIsOn cX5_checkRaceIsOn 1 none, Cond.classLink RX5 71 "java/lang/IllegalStateException", Cond.initialized "java/lang/IllegalStateException", Cond.methodLink RX5 180 yX3_countAhead, Cond.instanceMethod yX3_countAhead, Cond.selects RX3 yX3_countAhead yX3_countAhead, Cond.initialized RX3, Cond.code yX3_countAhead cX3_countAhead 4 (some .int), Cond.fieldLink RX3 37 "Leaguewheel$Race" "count" "I", Cond.methodLink RX3 81 yX3_isAhead, Cond.instanceMethod yX3_isAhead]
def wsL_end_r2 : List Cond := [Cond.selects RX3 yX3_isAhead yX3_isAhead, Cond.code yX3_isAhead cX3_isAhead 5 (some .boolean), Cond.fieldLink RX3 28 "Leaguewheel$Race" "momentRow" "[I", Cond.fieldLink RX3 9 "Leaguewheel$Race" "track" "LLeaguewheel$Track;", Cond.fieldLink RX3 15 "Leaguewheel$Race" "gateRow" "[I", Cond.methodLink RX3 53 yX3_isFinished, Cond.instanceMethod yX3_isFinished, Cond.selects RX3 yX3_isFinished yX3_isFinished, Cond.code yX3_isFinished cX3_isFinished 2 (some .boolean), Cond.fieldLink RX3 19 "Leaguewheel$Race" "lapRow" "[I", Cond.fieldLink RX3 41 "Leaguewheel$Race" "goal" "I", Cond.methodLink RX3 57 yX3_netLaps, Cond.instanceMethod yX3_netLaps, Cond.selects RX3 yX3_netLaps yX3_netLaps, Cond.code yX3_netLaps cX3_netLaps 2 (some .int), Cond.fieldLink RX3 22 "Leaguewheel$Race" "debtRow" "[I", Cond.methodLink RX3 84 yX4_restOf, Cond.instanceMethod yX4_restOf, Cond.selects RX4 yX4_restOf yX4_restOf, Cond.initialized RX4, Cond.code yX4_restOf cX4_restOf 2 (some .int), Cond.fieldLink RX4 15 "Leaguewheel$Track" "rests" "[I", Cond.methodLink RX5 230 yX3_isWorthPoints, Cond.instanceMethod yX3_isWorthPoints]
def wsL_end_r3 : List Cond := [Cond.selects RX3 yX3_isWorthPoints yX3_isWorthPoints, Cond.code yX3_isWorthPoints cX3_isWorthPoints 2 (some .boolean), Cond.methodLink RX5 234 yX0_noteResult, Cond.instanceMethod yX0_noteResult, Cond.selects RX0 yX0_noteResult yX0_noteResult, Cond.initialized RX0, Cond.code yX0_noteResult cX0_noteResult 4 none, Cond.fieldLink RX0 9 "Leaguewheel$Cup" "placeRow" "[I", Cond.fieldLink RX0 18 "Leaguewheel$Cup" "ended" "I", Cond.fieldLink RX0 15 "Leaguewheel$Cup" "pointRow" "[I", Cond.fieldLink RX0 25 "Leaguewheel$Cup" "POINTS_BY_PLACE" "[I", Cond.methodLink RX5 238 yX0_closeRace, Cond.instanceMethod yX0_closeRace, Cond.selects RX0 yX0_closeRace yX0_closeRace, Cond.code yX0_closeRace cX0_closeRace 1 none]
def wsL_end : List Cond := .codeWith yL_end cL_end 3 (some .int) [(0, 8, 11, 13)] :: ((wsL_end_r1 ++ (wsL_end_r2 ++ wsL_end_r3)) ++ wsX50 ++ wsX30 ++ wsX40 ++ wsX00 ++ (vx_atS RX5 75 "java/lang/IllegalStateException" ["java/lang/RuntimeException", "java/lang/Exception"]).filter goodWord)
def wsL_place_r1 : List Cond := [Cond.classLink RL 19 "java/lang/IndexOutOfBoundsException", Cond.methodLink RL 74 yX5_place, Cond.instanceMethod yX5_place, Cond.selects RX5 yX5_place yX5_place, Cond.initialized RX5, Cond.code yX5_place cX5_place 3 (some .int), Cond.classLink RX5 241 "java/lang/IndexOutOfBoundsException", Cond.initialized "java/lang/IndexOutOfBoundsException", Cond.fieldLink RX5 45 "Leaguewheel" "cup" "LLeaguewheel$Cup;", Cond.methodLink RX5 120 yX0_endedRaces, Cond.instanceMethod yX0_endedRaces, Cond.selects RX0 yX0_endedRaces yX0_endedRaces, Cond.initialized RX0, Cond.code yX0_endedRaces cX0_endedRaces 1 (some .int), Cond.fieldLink RX0 18 "Leaguewheel$Cup" "ended" "I", Cond.methodLink RX5 140 yX5_checkKart, Cond.instanceMethod yX5_checkKart, Cond.selects RX5 yX5_checkKart yX5_checkKart, Cond.code yX5_checkKart cX5_checkKart 2 none, Cond.fieldLink RX5 53 "Leaguewheel" "kartCount" "I", Cond.methodLink RX5 246 yX0_placeIn, Cond.instanceMethod yX0_placeIn, Cond.selects RX0 yX0_placeIn yX0_placeIn, Cond.code yX0_placeIn cX0_placeIn 3 (some .int)]
def wsL_place_r2 : List Cond := [Cond.fieldLink RX0 9 "Leaguewheel$Cup" "placeRow" "[I"]
def wsL_place : List Cond := .codeWith yL_place cL_place 5 (some .int) [(0, 10, 13, 19)] :: ((wsL_place_r1 ++ wsL_place_r2) ++ wsX50 ++ wsX00 ++ (vx_atS RX5 245 "java/lang/IndexOutOfBoundsException" ["java/lang/RuntimeException", "java/lang/Exception"]).filter goodWord)
def wsL_setDropped : List Cond := .codeWith yL_setDropped cL_setDropped 4 (some .int) [(0, 9, 12, 21)] :: ([.classLink RL 21 "java/lang/IllegalArgumentException", .methodLink RL 77 yX5_setDropped, .instanceMethod yX5_setDropped, .selects RX5 yX5_setDropped yX5_setDropped, .initialized RX5, .code yX5_setDropped cX5_setDropped 2 (some .int), .classLink RX5 86 "java/lang/IllegalArgumentException", .initialized "java/lang/IllegalArgumentException", .fieldLink RX5 45 "Leaguewheel" "cup" "LLeaguewheel$Cup;", .methodLink RX5 251 yX0_changeDropped, .instanceMethod yX0_changeDropped, .selects RX0 yX0_changeDropped yX0_changeDropped, .initialized RX0, .code yX0_changeDropped cX0_changeDropped 3 (some .int), .fieldLink RX0 22 "Leaguewheel$Cup" "dropped" "I"] ++ wsX50 ++ wsX00 ++ (vx_atS RX5 90 "java/lang/IllegalArgumentException" ["java/lang/RuntimeException", "java/lang/Exception"]).filter goodWord)
def wsL_points_r1 : List Cond := [Cond.classLink RL 19 "java/lang/IndexOutOfBoundsException", Cond.methodLink RL 80 yX5_points, Cond.instanceMethod yX5_points, Cond.selects RX5 yX5_points yX5_points, Cond.initialized RX5, Cond.code yX5_points cX5_points 2 (some .int), Cond.fieldLink RX5 45 "Leaguewheel" "cup" "LLeaguewheel$Cup;", Cond.methodLink RX5 140 yX5_checkKart, Cond.instanceMethod yX5_checkKart, Cond.selects RX5 yX5_checkKart yX5_checkKart, Cond.code yX5_checkKart cX5_checkKart 2 none, Cond.classLink RX5 241 "java/lang/IndexOutOfBoundsException", Cond.initialized "java/lang/IndexOutOfBoundsException", Cond.fieldLink RX5 53 "Leaguewheel" "kartCount" "I", Cond.methodLink RX5 254 yX0_pointsOf, Cond.instanceMethod yX0_pointsOf, Cond.selects RX0 yX0_pointsOf yX0_pointsOf, Cond.initialized RX0, Cond.code yX0_pointsOf cX0_pointsOf 4 (some .int), Cond.fieldLink RX0 18 "Leaguewheel$Cup" "ended" "I", Cond.fieldLink RX0 22 "Leaguewheel$Cup" "dropped" "I", Cond.fieldLink RX0 15 "Leaguewheel$Cup" "pointRow" "[I", Cond.methodLink RX0 28 yX0_countWorse, Cond.instanceMethod yX0_countWorse]
def wsL_points_r2 : List Cond := [Cond.selects RX0 yX0_countWorse yX0_countWorse, Cond.code yX0_countWorse cX0_countWorse 7 (some .int)]
def wsL_points : List Cond := .codeWith yL_points cL_points 4 (some .int) [(0, 9, 12, 19)] :: ((wsL_points_r1 ++ wsL_points_r2) ++ wsX50 ++ wsX00 ++ (vx_atS RX5 245 "java/lang/IndexOutOfBoundsException" ["java/lang/RuntimeException", "java/lang/Exception"]).filter goodWord)
def wsL_teamPoints_r1 : List Cond := [Cond.classLink RL 19 "java/lang/IndexOutOfBoundsException", Cond.methodLink RL 83 yX5_teamPoints, Cond.instanceMethod yX5_teamPoints, Cond.selects RX5 yX5_teamPoints yX5_teamPoints, Cond.initialized RX5, Cond.code yX5_teamPoints cX5_teamPoints 4 (some .int), Cond.fieldLink RX5 53 "Leaguewheel" "kartCount" "I", Cond.fieldLink RX5 49 "Leaguewheel" "teams" "[I", Cond.fieldLink RX5 45 "Leaguewheel" "cup" "LLeaguewheel$Cup;", Cond.methodLink RX5 103 yX5_checkTeam, Cond.instanceMethod yX5_checkTeam, Cond.selects RX5 yX5_checkTeam yX5_checkTeam, Cond.code yX5_checkTeam cX5_checkTeam 2 none, Cond.classLink RX5 241 "java/lang/IndexOutOfBoundsException", Cond.initialized "java/lang/IndexOutOfBoundsException", Cond.methodLink RX5 254 yX0_pointsOf, Cond.instanceMethod yX0_pointsOf, Cond.selects RX0 yX0_pointsOf yX0_pointsOf, Cond.initialized RX0, Cond.code yX0_pointsOf cX0_pointsOf 4 (some .int), Cond.fieldLink RX0 18 "Leaguewheel$Cup" "ended" "I", Cond.fieldLink RX0 22 "Leaguewheel$Cup" "dropped" "I", Cond.fieldLink RX0 15 "Leaguewheel$Cup" "pointRow" "[I", Cond.methodLink RX0 28 yX0_countWorse]
def wsL_teamPoints_r2 : List Cond := [Cond.instanceMethod yX0_countWorse, Cond.selects RX0 yX0_countWorse yX0_countWorse, Cond.code yX0_countWorse cX0_countWorse 7 (some .int)]
def wsL_teamPoints : List Cond := .codeWith yL_teamPoints cL_teamPoints 4 (some .int) [(0, 9, 12, 19)] :: ((wsL_teamPoints_r1 ++ wsL_teamPoints_r2) ++ wsX50 ++ wsX00 ++ (vx_atS RX5 245 "java/lang/IndexOutOfBoundsException" ["java/lang/RuntimeException", "java/lang/Exception"]).filter goodWord)
def wsL_standing_r1 : List Cond := [Cond.classLink RL 19 "java/lang/IndexOutOfBoundsException", Cond.methodLink RL 86 yX5_standing, Cond.instanceMethod yX5_standing, Cond.selects RX5 yX5_standing yX5_standing, Cond.initialized RX5, Cond.code yX5_standing cX5_standing 2 (some .int), Cond.fieldLink RX5 45 "Leaguewheel" "cup" "LLeaguewheel$Cup;", Cond.fieldLink RX5 53 "Leaguewheel" "kartCount" "I", Cond.methodLink RX5 140 yX5_checkKart, Cond.instanceMethod yX5_checkKart, Cond.selects RX5 yX5_checkKart yX5_checkKart, Cond.code yX5_checkKart cX5_checkKart 2 none, Cond.classLink RX5 241 "java/lang/IndexOutOfBoundsException", Cond.initialized "java/lang/IndexOutOfBoundsException", Cond.methodLink RX5 257 yX0_countBefore, Cond.instanceMethod yX0_countBefore, Cond.selects RX0 yX0_countBefore yX0_countBefore, Cond.initialized RX0, Cond.code yX0_countBefore cX0_countBefore 5 (some .int), Cond.methodLink RX0 32 yX0_standsBefore, Cond.instanceMethod yX0_standsBefore, Cond.selects RX0 yX0_standsBefore yX0_standsBefore, Cond.code yX0_standsBefore cX0_standsBefore 8 (some .boolean), Cond.methodLink RX0 39 yX0_pointsOf]
def wsL_standing_r2 : List Cond := [Cond.instanceMethod yX0_pointsOf, Cond.selects RX0 yX0_pointsOf yX0_pointsOf, Cond.code yX0_pointsOf cX0_pointsOf 4 (some .int), Cond.fieldLink RX0 18 "Leaguewheel$Cup" "ended" "I", Cond.fieldLink RX0 22 "Leaguewheel$Cup" "dropped" "I", Cond.fieldLink RX0 15 "Leaguewheel$Cup" "pointRow" "[I", Cond.methodLink RX0 28 yX0_countWorse, Cond.instanceMethod yX0_countWorse, Cond.selects RX0 yX0_countWorse yX0_countWorse, Cond.code yX0_countWorse cX0_countWorse 7 (some .int), Cond.methodLink RX0 43 yX0_timesAt, Cond.instanceMethod yX0_timesAt, Cond.selects RX0 yX0_timesAt yX0_timesAt, Cond.code yX0_timesAt cX0_timesAt 5 (some .int), Cond.fieldLink RX0 9 "Leaguewheel$Cup" "placeRow" "[I"]
def wsL_standing : List Cond := .codeWith yL_standing cL_standing 4 (some .int) [(0, 9, 12, 19)] :: ((wsL_standing_r1 ++ wsL_standing_r2) ++ wsX50 ++ wsX00 ++ (vx_atS RX5 245 "java/lang/IndexOutOfBoundsException" ["java/lang/RuntimeException", "java/lang/Exception"]).filter goodWord)
def wsL_textAt_r1 : List Cond := [Cond.classLink RL 19 "java/lang/IndexOutOfBoundsException", Cond.methodLink RL 89 yX5_textAt, Cond.instanceMethod yX5_textAt, Cond.selects RX5 yX5_textAt yX5_textAt, Cond.initialized RX5, Cond.code yX5_textAt cX5_textAt 2 (some .char), Cond.classLink RX5 241 "java/lang/IndexOutOfBoundsException", Cond.initialized "java/lang/IndexOutOfBoundsException", Cond.fieldLink RX5 53 "Leaguewheel" "kartCount" "I", Cond.fieldLink RX5 45 "Leaguewheel" "cup" "LLeaguewheel$Cup;", Cond.methodLink RX5 262 yX0_kartStandingAt, Cond.instanceMethod yX0_kartStandingAt, Cond.selects RX0 yX0_kartStandingAt yX0_kartStandingAt, Cond.initialized RX0, Cond.code yX0_kartStandingAt cX0_kartStandingAt 5 (some .int), Cond.methodLink RX0 36 yX0_countBefore, Cond.instanceMethod yX0_countBefore, Cond.selects RX0 yX0_countBefore yX0_countBefore, Cond.code yX0_countBefore cX0_countBefore 5 (some .int), Cond.methodLink RX0 32 yX0_standsBefore, Cond.instanceMethod yX0_standsBefore, Cond.selects RX0 yX0_standsBefore yX0_standsBefore, Cond.code yX0_standsBefore cX0_standsBefore 8 (some .boolean), Cond.methodLink RX0 39 yX0_pointsOf]
def wsL_textAt_r2 : List Cond := [Cond.instanceMethod yX0_pointsOf, Cond.selects RX0 yX0_pointsOf yX0_pointsOf, Cond.code yX0_pointsOf cX0_pointsOf 4 (some .int), Cond.fieldLink RX0 18 "Leaguewheel$Cup" "ended" "I", Cond.fieldLink RX0 22 "Leaguewheel$Cup" "dropped" "I", Cond.fieldLink RX0 15 "Leaguewheel$Cup" "pointRow" "[I", Cond.methodLink RX0 28 yX0_countWorse, Cond.instanceMethod yX0_countWorse, Cond.selects RX0 yX0_countWorse yX0_countWorse, Cond.code yX0_countWorse cX0_countWorse 7 (some .int), Cond.methodLink RX0 43 yX0_timesAt, Cond.instanceMethod yX0_timesAt, Cond.selects RX0 yX0_timesAt yX0_timesAt, Cond.code yX0_timesAt cX0_timesAt 5 (some .int), Cond.fieldLink RX0 9 "Leaguewheel$Cup" "placeRow" "[I"]
def wsL_textAt : List Cond := .codeWith yL_textAt cL_textAt 4 (some .int) [(0, 9, 12, 19)] :: ((wsL_textAt_r1 ++ wsL_textAt_r2) ++ wsX50 ++ wsX00 ++ (vx_atS RX5 245 "java/lang/IndexOutOfBoundsException" ["java/lang/RuntimeException", "java/lang/Exception"]).filter goodWord)
def wsL_law0_r1 : List Cond := [Cond.classLink RL 8 RX5, Cond.instantiable RX5 10, Cond.initialized RX5, Cond.classLink RL 94 RX6, Cond.instantiable RX6 26, Cond.initialized RX6, Cond.arrayClass .long, Cond.methodLink RL 93 yX5_init, Cond.instanceMethod yX5_init, Cond.code yX5_init cX5_init 1 none, Cond.methodLink RX5 1 objectInit, Cond.instanceMethod objectInit, Cond.code objectInit ⟨#[0xb1]⟩ 1 none, Cond.classLink RX5 7 RX4, Cond.instantiable RX4 4, Cond.initialized RX4, Cond.fieldLink RX5 10 "Leaguewheel" "track" "LLeaguewheel$Track;", Cond.classLink RX5 16 RX3, Cond.instantiable RX3 11, Cond.initialized RX3, Cond.fieldLink RX5 21 "Leaguewheel" "race" "LLeaguewheel$Race;", Cond.fieldLink RX5 25 "Leaguewheel" "retold" "LLeaguewheel$Race;", Cond.classLink RX5 28 RX2, Cond.instantiable RX2 3]
def wsL_law0_r2 : List Cond := [Cond.initialized RX2, Cond.fieldLink RX5 31 "Leaguewheel" "passings" "LLeaguewheel$Passings;", Cond.classLink RX5 35 RX1, Cond.instantiable RX1 4, Cond.initialized RX1, Cond.fieldLink RX5 38 "Leaguewheel" "items" "LLeaguewheel$Items;", Cond.classLink RX5 42 RX0, Cond.instantiable RX0 4, Cond.initialized RX0, Cond.fieldLink RX5 45 "Leaguewheel" "cup" "LLeaguewheel$Cup;", Cond.arrayClass .int, Cond.fieldLink RX5 49 "Leaguewheel" "teams" "[I", Cond.fieldLink RX5 53 "Leaguewheel" "kartCount" "I", Cond.fieldLink RX5 57 "Leaguewheel" "raceIsOn" "Z", Cond.fieldLink RX5 61 "Leaguewheel" "tick" "I", Cond.methodLink RX5 9 yX4_init, Cond.instanceMethod yX4_init, Cond.code yX4_init cX4_init 1 none, Cond.methodLink RX4 3 objectInit, Cond.fieldLink RX4 9 "Leaguewheel$Track" "lengths" "[I", Cond.fieldLink RX4 15 "Leaguewheel$Track" "rests" "[I", Cond.fieldLink RX4 18 "Leaguewheel$Track" "count" "I", Cond.fieldLink RX4 22 "Leaguewheel$Track" "neededGates" "I", Cond.methodLink RX5 18 yX3_init]
def wsL_law0_r3 : List Cond := [Cond.instanceMethod yX3_init, Cond.code yX3_init cX3_init 2 none, Cond.methodLink RX3 3 objectInit, Cond.fieldLink RX3 9 "Leaguewheel$Race" "track" "LLeaguewheel$Track;", Cond.fieldLink RX3 15 "Leaguewheel$Race" "gateRow" "[I", Cond.fieldLink RX3 19 "Leaguewheel$Race" "lapRow" "[I", Cond.fieldLink RX3 22 "Leaguewheel$Race" "debtRow" "[I", Cond.fieldLink RX3 25 "Leaguewheel$Race" "passedRow" "[I", Cond.fieldLink RX3 28 "Leaguewheel$Race" "momentRow" "[I", Cond.fieldLink RX3 31 "Leaguewheel$Race" "order" "[I", Cond.fieldLink RX3 34 "Leaguewheel$Race" "rankRow" "[I", Cond.fieldLink RX3 37 "Leaguewheel$Race" "count" "I", Cond.fieldLink RX3 41 "Leaguewheel$Race" "goal" "I", Cond.fieldLink RX3 44 "Leaguewheel$Race" "moment" "I", Cond.methodLink RX5 30 yX2_init, Cond.instanceMethod yX2_init, Cond.code yX2_init cX2_init 1 none, Cond.methodLink RX2 3 objectInit, Cond.fieldLink RX2 9 "Leaguewheel$Passings" "kartRow" "[I", Cond.fieldLink RX2 15 "Leaguewheel$Passings" "gateRow" "[I", Cond.fieldLink RX2 18 "Leaguewheel$Passings" "count" "I", Cond.methodLink RX5 37 yX1_init, Cond.instanceMethod yX1_init, Cond.code yX1_init cX1_init 1 none]
def wsL_law0_r4 : List Cond := [Cond.methodLink RX1 3 objectInit, Cond.fieldLink RX1 9 "Leaguewheel$Items" "itemRow" "[I", Cond.arrayClass .boolean, Cond.fieldLink RX1 15 "Leaguewheel$Items" "shieldRow" "[Z", Cond.fieldLink RX1 19 "Leaguewheel$Items" "awakeRow" "[I", Cond.fieldLink RX1 22 "Leaguewheel$Items" "number" "I", Cond.methodLink RX1 26 yX1_clear, Cond.instanceMethod yX1_clear, Cond.selects RX1 yX1_clear yX1_clear, Cond.code yX1_clear cX1_clear 2 none, Cond.methodLink RX5 44 yX0_init, Cond.instanceMethod yX0_init, Cond.code yX0_init cX0_init 1 none, Cond.methodLink RX0 3 objectInit, Cond.fieldLink RX0 9 "Leaguewheel$Cup" "placeRow" "[I", Cond.fieldLink RX0 15 "Leaguewheel$Cup" "pointRow" "[I", Cond.fieldLink RX0 18 "Leaguewheel$Cup" "ended" "I", Cond.fieldLink RX0 22 "Leaguewheel$Cup" "dropped" "I", Cond.methodLink RL 96 yX6_init, Cond.instanceMethod yX6_init, Cond.code yX6_init cX6_init 1 none, Cond.methodLink RX6 1 objectInit, Cond.fieldLink RX6 7 "LeaguewheelModel" "gates" "I", Cond.fieldLink RX6 13 "LeaguewheelModel" "length" "[I"]
def wsL_law0_r5 : List Cond := [Cond.fieldLink RX6 17 "LeaguewheelModel" "rest" "[I", Cond.fieldLink RX6 20 "LeaguewheelModel" "team" "[I", Cond.fieldLink RX6 23 "LeaguewheelModel" "gate" "[I", Cond.fieldLink RX6 26 "LeaguewheelModel" "lap" "[I", Cond.fieldLink RX6 29 "LeaguewheelModel" "debt" "[I", Cond.fieldLink RX6 32 "LeaguewheelModel" "passed" "[I", Cond.fieldLink RX6 35 "LeaguewheelModel" "last" "[I", Cond.fieldLink RX6 38 "LeaguewheelModel" "finish" "[I", Cond.fieldLink RX6 41 "LeaguewheelModel" "item" "[I", Cond.fieldLink RX6 44 "LeaguewheelModel" "isShielded" "[Z", Cond.fieldLink RX6 48 "LeaguewheelModel" "until" "[I", Cond.fieldLink RX6 51 "LeaguewheelModel" "place" "[I", Cond.fieldLink RX6 54 "LeaguewheelModel" "point" "[I", Cond.methodLink RL 97 yL_addGate, Cond.static yL_addGate, Cond.initialized RL, Cond.codeWith yL_addGate cL_addGate 4 (some .int) [(0, 9, 12, 13)], Cond.classLink RL 13 "java/lang/IllegalStateException", Cond.methodLink RL 7 yX5_addGate, Cond.instanceMethod yX5_addGate, Cond.selects RX5 yX5_addGate yX5_addGate, Cond.code yX5_addGate cX5_addGate 2 (some .int), Cond.classLink RX5 71 "java/lang/IllegalStateException", Cond.initialized "java/lang/IllegalStateException"]
def wsL_law0_r6 : List Cond := [Cond.methodLink RX5 64 yX5_checkNeverStarted, Cond.instanceMethod yX5_checkNeverStarted, Cond.selects RX5 yX5_checkNeverStarted yX5_checkNeverStarted, Cond.code yX5_checkNeverStarted cX5_checkNeverStarted 1 none, Cond.methodLink RX5 120 yX0_endedRaces, Cond.instanceMethod yX0_endedRaces, Cond.selects RX0 yX0_endedRaces yX0_endedRaces, Cond.code yX0_endedRaces cX0_endedRaces 1 (some .int), Cond.methodLink RX5 67 yX4_isFull, Cond.instanceMethod yX4_isFull, Cond.selects RX4 yX4_isFull yX4_isFull, Cond.code yX4_isFull cX4_isFull 1 (some .boolean), Cond.methodLink RX5 78 yX4_appendGate, Cond.instanceMethod yX4_appendGate, Cond.selects RX4 yX4_appendGate yX4_appendGate, Cond.code yX4_appendGate cX4_appendGate 3 (some .int), Cond.methodLink RL 102 yX6_addGate, Cond.instanceMethod yX6_addGate, Cond.selects RX6 yX6_addGate yX6_addGate, Cond.code yX6_addGate cX6_addGate 2 (some .int), Cond.fieldLink RX6 67 "LeaguewheelModel" "started" "I", Cond.fieldLink RX6 74 "LeaguewheelModel" "needed" "I", Cond.methodLink RX6 70 yX6_fails, Cond.instanceMethod yX6_fails]
def wsL_law0_r7 : List Cond := [Cond.selects RX6 yX6_fails yX6_fails, Cond.code yX6_fails cX6_fails 2 (some .boolean), Cond.fieldLink RX6 57 "LeaguewheelModel" "thrown" "I", Cond.methodLink RL 103 yX6_thrown, Cond.instanceMethod yX6_thrown, Cond.selects RX6 yX6_thrown yX6_thrown, Cond.code yX6_thrown cX6_thrown 1 (some .int), Cond.methodLink RL 106 yL_addWay, Cond.static yL_addWay, Cond.codeWith yL_addWay cL_addWay 6 (some .int) [(0, 12, 15, 19), (0, 12, 19, 21), (0, 12, 23, 13)], Cond.classLink RL 19 "java/lang/IndexOutOfBoundsException", Cond.classLink RL 21 "java/lang/IllegalArgumentException", Cond.methodLink RL 15 yX5_addWay, Cond.instanceMethod yX5_addWay, Cond.selects RX5 yX5_addWay yX5_addWay, Cond.code yX5_addWay cX5_addWay 5 (some .int), Cond.classLink RX5 86 "java/lang/IllegalArgumentException", Cond.initialized "java/lang/IllegalArgumentException", Cond.methodLink RX5 82 yX5_checkGate, Cond.instanceMethod yX5_checkGate, Cond.selects RX5 yX5_checkGate yX5_checkGate, Cond.code yX5_checkGate cX5_checkGate 2 none, Cond.classLink RX5 241 "java/lang/IndexOutOfBoundsException", Cond.initialized "java/lang/IndexOutOfBoundsException"]
def wsL_law0_r8 : List Cond := [Cond.methodLink RX5 108 yX4_gateCount, Cond.instanceMethod yX4_gateCount, Cond.selects RX4 yX4_gateCount yX4_gateCount, Cond.code yX4_gateCount cX4_gateCount 1 (some .int), Cond.methodLink RX5 95 yX4_wayLength, Cond.instanceMethod yX4_wayLength, Cond.selects RX4 yX4_wayLength yX4_wayLength, Cond.code yX4_wayLength cX4_wayLength 3 (some .int), Cond.methodLink RX5 99 yX4_layWay, Cond.instanceMethod yX4_layWay, Cond.selects RX4 yX4_layWay yX4_layWay, Cond.code yX4_layWay cX4_layWay 4 none, Cond.methodLink RX4 33 yX4_measureRests, Cond.instanceMethod yX4_measureRests, Cond.selects RX4 yX4_measureRests yX4_measureRests, Cond.code yX4_measureRests cX4_measureRests 2 none, Cond.methodLink RX4 40 yX4_leastRest, Cond.instanceMethod yX4_leastRest, Cond.selects RX4 yX4_leastRest yX4_leastRest, Cond.code yX4_leastRest cX4_leastRest 5 (some .int), Cond.methodLink RX4 44 Lib.Math.min.name, Cond.static Lib.Math.min.name, Cond.initialized "java/lang/Math", Cond.code Lib.Math.min.name Lib.Math.min.code 2 (some .int)]
def wsL_law0_r9 : List Cond := [Cond.methodLink RX4 29 yX4_leads, Cond.instanceMethod yX4_leads, Cond.selects RX4 yX4_leads yX4_leads, Cond.code yX4_leads cX4_leads 3 (some .boolean), Cond.methodLink RX4 25 yX4_wayLength, Cond.methodLink RL 109 yX6_addWay, Cond.instanceMethod yX6_addWay, Cond.selects RX6 yX6_addWay yX6_addWay, Cond.code yX6_addWay cX6_addWay 7 (some .int), Cond.methodLink RX6 77 yX6_isGate, Cond.instanceMethod yX6_isGate, Cond.selects RX6 yX6_isGate yX6_isGate, Cond.code yX6_isGate cX6_isGate 2 (some .boolean), Cond.methodLink RX6 60 yX6_isIn, Cond.static yX6_isIn, Cond.code yX6_isIn cX6_isIn 3 (some .boolean), Cond.methodLink RL 110 yL_addKart, Cond.static yL_addKart, Cond.codeWith yL_addKart cL_addKart 4 (some .int) [(0, 9, 12, 19), (0, 9, 15, 13)], Cond.methodLink RL 23 yX5_addKart, Cond.instanceMethod yX5_addKart, Cond.selects RX5 yX5_addKart yX5_addKart, Cond.code yX5_addKart cX5_addKart 3 (some .int), Cond.methodLink RX5 103 yX5_checkTeam]
def wsL_law0_r10 : List Cond := [Cond.instanceMethod yX5_checkTeam, Cond.selects RX5 yX5_checkTeam yX5_checkTeam, Cond.code yX5_checkTeam cX5_checkTeam 2 none, Cond.methodLink RL 113 yX6_addKart, Cond.instanceMethod yX6_addKart, Cond.selects RX6 yX6_addKart yX6_addKart, Cond.code yX6_addKart cX6_addKart 2 (some .int), Cond.fieldLink RX6 64 "LeaguewheelModel" "karts" "I", Cond.methodLink RL 114 yX5_gates, Cond.instanceMethod yX5_gates, Cond.selects RX5 yX5_gates yX5_gates, Cond.code yX5_gates cX5_gates 1 (some .int), Cond.methodLink RL 117 yX6_gates, Cond.instanceMethod yX6_gates, Cond.selects RX6 yX6_gates yX6_gates, Cond.code yX6_gates cX6_gates 1 (some .int), Cond.methodLink RX6 80 yX6_tells, Cond.instanceMethod yX6_tells, Cond.selects RX6 yX6_tells yX6_tells, Cond.code yX6_tells cX6_tells 2 (some .int), Cond.methodLink RL 118 yX5_karts, Cond.instanceMethod yX5_karts, Cond.selects RX5 yX5_karts yX5_karts, Cond.code yX5_karts cX5_karts 1 (some .int)]
def wsL_law0_r11 : List Cond := [Cond.methodLink RL 121 yX6_karts, Cond.instanceMethod yX6_karts, Cond.selects RX6 yX6_karts yX6_karts, Cond.code yX6_karts cX6_karts 1 (some .int), Cond.methodLink RL 122 yL_rest, Cond.static yL_rest, Cond.codeWith yL_rest cL_rest 4 (some .int) [(0, 9, 12, 19)], Cond.methodLink RL 27 yX5_rest, Cond.instanceMethod yX5_rest, Cond.selects RX5 yX5_rest yX5_rest, Cond.code yX5_rest cX5_rest 2 (some .int), Cond.methodLink RX5 112 yX4_restOf, Cond.instanceMethod yX4_restOf, Cond.selects RX4 yX4_restOf yX4_restOf, Cond.code yX4_restOf cX4_restOf 2 (some .int), Cond.methodLink RL 124 yX6_rest, Cond.instanceMethod yX6_rest, Cond.selects RX6 yX6_rest yX6_rest, Cond.code yX6_rest cX6_rest 2 (some .int), Cond.methodLink RX6 84 yX6_finds, Cond.instanceMethod yX6_finds, Cond.selects RX6 yX6_finds yX6_finds, Cond.code yX6_finds cX6_finds 6 none, Cond.methodLink RL 125 yL_start]
def wsL_law0_r12 : List Cond := [Cond.static yL_start, Cond.codeWith yL_start cL_start 4 (some .int) [(0, 9, 12, 21), (0, 9, 15, 13)], Cond.methodLink RL 30 yX5_start, Cond.instanceMethod yX5_start, Cond.selects RX5 yX5_start yX5_start, Cond.code yX5_start cX5_start 2 (some .int), Cond.methodLink RX5 127 yX4_hasDeadEnd, Cond.instanceMethod yX4_hasDeadEnd, Cond.selects RX4 yX4_hasDeadEnd yX4_hasDeadEnd, Cond.code yX4_hasDeadEnd cX4_hasDeadEnd 2 (some .boolean), Cond.methodLink RX4 36 yX4_leadsOn, Cond.instanceMethod yX4_leadsOn, Cond.selects RX4 yX4_leadsOn yX4_leadsOn, Cond.code yX4_leadsOn cX4_leadsOn 3 (some .boolean), Cond.methodLink RX5 132 yX3_begin, Cond.instanceMethod yX3_begin, Cond.selects RX3 yX3_begin yX3_begin, Cond.code yX3_begin cX3_begin 4 none, Cond.methodLink RX5 136 yX2_clear, Cond.instanceMethod yX2_clear, Cond.selects RX2 yX2_clear yX2_clear, Cond.code yX2_clear cX2_clear 1 none, Cond.methodLink RX5 139 yX1_clear, Cond.methodLink RL 127 yX6_start]
def wsL_law0_r13 : List Cond := [Cond.instanceMethod yX6_start, Cond.selects RX6 yX6_start yX6_start, Cond.code yX6_start cX6_start 4 (some .int), Cond.fieldLink RX6 87 "LeaguewheelModel" "isOn" "Z", Cond.fieldLink RX6 95 "LeaguewheelModel" "laps" "I", Cond.fieldLink RX6 98 "LeaguewheelModel" "passings" "I", Cond.methodLink RX6 91 yX6_isTrack, Cond.instanceMethod yX6_isTrack, Cond.selects RX6 yX6_isTrack yX6_isTrack, Cond.code yX6_isTrack cX6_isTrack 3 (some .boolean), Cond.methodLink RL 128 yX5_isOn, Cond.instanceMethod yX5_isOn, Cond.selects RX5 yX5_isOn yX5_isOn, Cond.code yX5_isOn cX5_isOn 1 (some .boolean), Cond.methodLink RL 132 yX6_isOn, Cond.instanceMethod yX6_isOn, Cond.selects RX6 yX6_isOn yX6_isOn, Cond.code yX6_isOn cX6_isOn 1 (some .boolean), Cond.methodLink RL 133 yL_pass, Cond.static yL_pass, Cond.codeWith yL_pass cL_pass 5 (some .int) [(0, 10, 13, 19), (0, 10, 17, 13)], Cond.methodLink RL 33 yX5_pass, Cond.instanceMethod yX5_pass, Cond.selects RX5 yX5_pass yX5_pass]
def wsL_law0_r14 : List Cond := [Cond.code yX5_pass cX5_pass 3 (some .int), Cond.methodLink RX5 140 yX5_checkKart, Cond.instanceMethod yX5_checkKart, Cond.selects RX5 yX5_checkKart yX5_checkKart, Cond.code yX5_checkKart cX5_checkKart 2 none, Cond.methodLink RX5 143 yX5_checkStillRacing, Cond.instanceMethod yX5_checkStillRacing, Cond.selects RX5 yX5_checkStillRacing yX5_checkStillRacing, Cond.code yX5_checkStillRacing cX5_checkStillRacing 2 none, Cond.methodLink RX5 171 yX5_checkRaceIsOn, Cond.instanceMethod yX5_checkRaceIsOn, Cond.selects RX5 yX5_checkRaceIsOn yX5_checkRaceIsOn, Cond.code yX5_checkRaceIsOn cX5_checkRaceIsOn 1 none, Cond.methodLink RX5 265 yX3_isFinished, Cond.instanceMethod yX3_isFinished, Cond.selects RX3 yX3_isFinished yX3_isFinished, Cond.code yX3_isFinished cX3_isFinished 2 (some .boolean), Cond.methodLink RX5 146 yX1_ticksStunned, Cond.instanceMethod yX1_ticksStunned, Cond.selects RX1 yX1_ticksStunned yX1_ticksStunned, Cond.code yX1_ticksStunned cX1_ticksStunned 3 (some .int), Cond.methodLink RX1 43 Lib.Math.max.name, Cond.static Lib.Math.max.name, Cond.code Lib.Math.max.name Lib.Math.max.code 2 (some .int)]
def wsL_law0_r15 : List Cond := [Cond.methodLink RX5 151 yX3_gateAt, Cond.instanceMethod yX3_gateAt, Cond.selects RX3 yX3_gateAt yX3_gateAt, Cond.code yX3_gateAt cX3_gateAt 2 (some .int), Cond.methodLink RX5 154 yX4_joins, Cond.instanceMethod yX4_joins, Cond.selects RX4 yX4_joins yX4_joins, Cond.code yX4_joins cX4_joins 3 (some .boolean), Cond.methodLink RX5 160 yX2_isFull, Cond.instanceMethod yX2_isFull, Cond.selects RX2 yX2_isFull yX2_isFull, Cond.code yX2_isFull cX2_isFull 1 (some .boolean), Cond.methodLink RX5 163 yX2_note, Cond.instanceMethod yX2_note, Cond.selects RX2 yX2_note yX2_note, Cond.code yX2_note cX2_note 3 none, Cond.methodLink RX5 166 yX3_move, Cond.instanceMethod yX3_move, Cond.selects RX3 yX3_move yX3_move, Cond.code yX3_move cX3_move 4 (some .int), Cond.methodLink RX3 61 yX4_leads, Cond.methodLink RX3 65 yX3_goBack, Cond.instanceMethod yX3_goBack, Cond.selects RX3 yX3_goBack yX3_goBack]
def wsL_law0_r16 : List Cond := [Cond.code yX3_goBack cX3_goBack 3 (some .int), Cond.methodLink RX3 69 yX3_crossLine, Cond.instanceMethod yX3_crossLine, Cond.selects RX3 yX3_crossLine yX3_crossLine, Cond.code yX3_crossLine cX3_crossLine 3 (some .int), Cond.methodLink RX3 78 yX3_missingGates, Cond.instanceMethod yX3_missingGates, Cond.selects RX3 yX3_missingGates yX3_missingGates, Cond.code yX3_missingGates cX3_missingGates 2 (some .int), Cond.methodLink RX3 47 yX4_needed, Cond.instanceMethod yX4_needed, Cond.selects RX4 yX4_needed yX4_needed, Cond.code yX4_needed cX4_needed 1 (some .int), Cond.methodLink RX3 53 yX3_isFinished, Cond.methodLink RX3 72 yX3_reachGate, Cond.instanceMethod yX3_reachGate, Cond.selects RX3 yX3_reachGate yX3_reachGate, Cond.code yX3_reachGate cX3_reachGate 3 (some .int), Cond.methodLink RX3 75 yX4_isNeeded, Cond.instanceMethod yX4_isNeeded, Cond.selects RX4 yX4_isNeeded yX4_isNeeded, Cond.code yX4_isNeeded cX4_isNeeded 2 (some .boolean), Cond.methodLink RL 136 yX6_pass, Cond.instanceMethod yX6_pass]
def wsL_law0_r17 : List Cond := [Cond.selects RX6 yX6_pass yX6_pass, Cond.code yX6_pass cX6_pass 7 (some .int), Cond.fieldLink RX6 104 "LeaguewheelModel" "time" "I", Cond.methodLink RX6 101 yX6_isKart, Cond.instanceMethod yX6_isKart, Cond.selects RX6 yX6_isKart yX6_isKart, Cond.code yX6_isKart cX6_isKart 2 (some .boolean), Cond.methodLink RX6 107 yX6_crosses, Cond.instanceMethod yX6_crosses, Cond.selects RX6 yX6_crosses yX6_crosses, Cond.code yX6_crosses cX6_crosses 3 (some .int), Cond.methodLink RL 137 yL_idle, Cond.static yL_idle, Cond.codeWith yL_idle cL_idle 4 (some .int) [(0, 9, 12, 21)], Cond.methodLink RL 37 yX5_idle, Cond.instanceMethod yX5_idle, Cond.selects RX5 yX5_idle yX5_idle, Cond.code yX5_idle cX5_idle 2 (some .int), Cond.methodLink RL 139 yX6_idle, Cond.instanceMethod yX6_idle, Cond.selects RX6 yX6_idle yX6_idle, Cond.code yX6_idle cX6_idle 2 (some .int), Cond.methodLink RL 140 yL_gateOf, Cond.static yL_gateOf]
def wsL_law0_r18 : List Cond := [Cond.codeWith yL_gateOf cL_gateOf 4 (some .int) [(0, 9, 12, 19), (0, 9, 15, 13)], Cond.methodLink RL 40 yX5_gateOf, Cond.instanceMethod yX5_gateOf, Cond.selects RX5 yX5_gateOf yX5_gateOf, Cond.code yX5_gateOf cX5_gateOf 2 (some .int), Cond.methodLink RL 142 yX6_gateOf, Cond.instanceMethod yX6_gateOf, Cond.selects RX6 yX6_gateOf yX6_gateOf, Cond.code yX6_gateOf cX6_gateOf 2 (some .int), Cond.methodLink RX6 110 yX6_of, Cond.instanceMethod yX6_of, Cond.selects RX6 yX6_of yX6_of, Cond.code yX6_of cX6_of 3 (some .int), Cond.methodLink RL 143 yL_lapsOf, Cond.static yL_lapsOf, Cond.codeWith yL_lapsOf cL_lapsOf 4 (some .int) [(0, 9, 12, 19), (0, 9, 15, 13)], Cond.methodLink RL 43 yX5_lapsOf, Cond.instanceMethod yX5_lapsOf, Cond.selects RX5 yX5_lapsOf yX5_lapsOf, Cond.code yX5_lapsOf cX5_lapsOf 2 (some .int), Cond.methodLink RX5 174 yX3_netLaps, Cond.instanceMethod yX3_netLaps, Cond.selects RX3 yX3_netLaps yX3_netLaps, Cond.code yX3_netLaps cX3_netLaps 2 (some .int)]
def wsL_law0_r19 : List Cond := [Cond.methodLink RL 145 yX6_lapsOf, Cond.instanceMethod yX6_lapsOf, Cond.selects RX6 yX6_lapsOf yX6_lapsOf, Cond.code yX6_lapsOf cX6_lapsOf 2 (some .int), Cond.methodLink RL 146 yL_missing, Cond.static yL_missing, Cond.codeWith yL_missing cL_missing 4 (some .int) [(0, 9, 12, 19), (0, 9, 15, 13)], Cond.methodLink RL 46 yX5_missing, Cond.instanceMethod yX5_missing, Cond.selects RX5 yX5_missing yX5_missing, Cond.code yX5_missing cX5_missing 2 (some .int), Cond.methodLink RX5 177 yX3_missingGates, Cond.methodLink RL 148 yX6_missing, Cond.instanceMethod yX6_missing, Cond.selects RX6 yX6_missing yX6_missing, Cond.code yX6_missing cX6_missing 2 (some .int), Cond.methodLink RL 149 yL_rank, Cond.static yL_rank, Cond.codeWith yL_rank cL_rank 4 (some .int) [(0, 9, 12, 19), (0, 9, 15, 13)], Cond.methodLink RL 49 yX5_rank, Cond.instanceMethod yX5_rank, Cond.selects RX5 yX5_rank yX5_rank, Cond.code yX5_rank cX5_rank 2 (some .int), Cond.methodLink RX5 180 yX3_countAhead]
def wsL_law0_r20 : List Cond := [Cond.instanceMethod yX3_countAhead, Cond.selects RX3 yX3_countAhead yX3_countAhead, Cond.code yX3_countAhead cX3_countAhead 4 (some .int), Cond.methodLink RX3 81 yX3_isAhead, Cond.instanceMethod yX3_isAhead, Cond.selects RX3 yX3_isAhead yX3_isAhead, Cond.code yX3_isAhead cX3_isAhead 5 (some .boolean), Cond.methodLink RX3 57 yX3_netLaps, Cond.methodLink RX3 84 yX4_restOf, Cond.methodLink RL 151 yX6_rank, Cond.instanceMethod yX6_rank, Cond.selects RX6 yX6_rank yX6_rank, Cond.code yX6_rank cX6_rank 2 (some .int), Cond.methodLink RX6 118 yX6_ranked, Cond.instanceMethod yX6_ranked, Cond.selects RX6 yX6_ranked yX6_ranked, Cond.code yX6_ranked cX6_ranked 4 (some .int), Cond.methodLink RX6 114 yX6_isAhead, Cond.instanceMethod yX6_isAhead, Cond.selects RX6 yX6_isAhead yX6_isAhead, Cond.code yX6_isAhead cX6_isAhead 7 (some .boolean), Cond.methodLink RL 152 yL_rankByRecord, Cond.static yL_rankByRecord, Cond.codeWith yL_rankByRecord cL_rankByRecord 4 (some .int) [(0, 9, 12, 19), (0, 9, 15, 13)]]
def wsL_law0_r21 : List Cond := [Cond.methodLink RL 52 yX5_rankByRecord, Cond.instanceMethod yX5_rankByRecord, Cond.selects RX5 yX5_rankByRecord yX5_rankByRecord, Cond.code yX5_rankByRecord cX5_rankByRecord 3 (some .int), Cond.methodLink RX5 183 yX3_lapGoal, Cond.instanceMethod yX3_lapGoal, Cond.selects RX3 yX3_lapGoal yX3_lapGoal, Cond.code yX3_lapGoal cX3_lapGoal 1 (some .int), Cond.methodLink RX5 186 yX2_count, Cond.instanceMethod yX2_count, Cond.selects RX2 yX2_count yX2_count, Cond.code yX2_count cX2_count 1 (some .int), Cond.methodLink RX5 189 yX2_kartAt, Cond.instanceMethod yX2_kartAt, Cond.selects RX2 yX2_kartAt yX2_kartAt, Cond.code yX2_kartAt cX2_kartAt 2 (some .int), Cond.methodLink RX5 192 yX2_gateAt, Cond.instanceMethod yX2_gateAt, Cond.selects RX2 yX2_gateAt yX2_gateAt, Cond.code yX2_gateAt cX2_gateAt 2 (some .int), Cond.methodLink RX5 193 yX3_sortedRank, Cond.instanceMethod yX3_sortedRank, Cond.selects RX3 yX3_sortedRank yX3_sortedRank, Cond.code yX3_sortedRank cX3_sortedRank 3 (some .int)]
def wsL_law0_r22 : List Cond := [Cond.methodLink RX3 87 yX3_insertInOrder, Cond.instanceMethod yX3_insertInOrder, Cond.selects RX3 yX3_insertInOrder yX3_insertInOrder, Cond.code yX3_insertInOrder cX3_insertInOrder 3 none, Cond.methodLink RL 154 yX6_rankByRecord, Cond.instanceMethod yX6_rankByRecord, Cond.selects RX6 yX6_rankByRecord yX6_rankByRecord, Cond.code yX6_rankByRecord cX6_rankByRecord 2 (some .int), Cond.methodLink RL 155 yL_catchUp, Cond.static yL_catchUp, Cond.codeWith yL_catchUp cL_catchUp 4 (some .int) [(0, 9, 12, 19), (0, 9, 15, 13)], Cond.methodLink RL 55 yX5_catchUp, Cond.instanceMethod yX5_catchUp, Cond.selects RX5 yX5_catchUp yX5_catchUp, Cond.code yX5_catchUp cX5_catchUp 2 (some .int), Cond.methodLink RX5 199 Lib.Math.min.name, Cond.methodLink RX5 196 yX3_leadOver, Cond.instanceMethod yX3_leadOver, Cond.selects RX3 yX3_leadOver yX3_leadOver, Cond.code yX3_leadOver cX3_leadOver 4 (some .int), Cond.methodLink RX3 97 Lib.Math.max.name, Cond.methodLink RX3 91 yX3_countAhead, Cond.methodLink RX3 94 yX3_wayDone, Cond.instanceMethod yX3_wayDone]
def wsL_law0_r23 : List Cond := [Cond.selects RX3 yX3_wayDone yX3_wayDone, Cond.code yX3_wayDone cX3_wayDone 4 (some .int), Cond.methodLink RL 157 yX6_catchUp, Cond.instanceMethod yX6_catchUp, Cond.selects RX6 yX6_catchUp yX6_catchUp, Cond.code yX6_catchUp cX6_catchUp 3 (some .int), Cond.methodLink RX6 121 yX6_atRank, Cond.instanceMethod yX6_atRank, Cond.selects RX6 yX6_atRank yX6_atRank, Cond.code yX6_atRank cX6_atRank 4 (some .int), Cond.methodLink RX6 124 yX6_done, Cond.instanceMethod yX6_done, Cond.selects RX6 yX6_done yX6_done, Cond.code yX6_done cX6_done 2 (some .int), Cond.methodLink RL 158 yX5_setDraw, Cond.instanceMethod yX5_setDraw, Cond.selects RX5 yX5_setDraw yX5_setDraw, Cond.code yX5_setDraw cX5_setDraw 2 none, Cond.methodLink RX5 204 yX1_setNumber, Cond.instanceMethod yX1_setNumber, Cond.selects RX1 yX1_setNumber yX1_setNumber, Cond.code yX1_setNumber cX1_setNumber 2 none, Cond.methodLink RL 162 yX6_setDraw, Cond.instanceMethod yX6_setDraw]
def wsL_law0_r24 : List Cond := [Cond.selects RX6 yX6_setDraw yX6_setDraw, Cond.code yX6_setDraw cX6_setDraw 2 none, Cond.fieldLink RX6 127 "LeaguewheelModel" "x" "I", Cond.methodLink RL 163 yL_draw, Cond.static yL_draw, Cond.codeWith yL_draw cL_draw 4 (some .int) [(0, 9, 12, 19), (0, 9, 15, 13)], Cond.methodLink RL 58 yX5_draw, Cond.instanceMethod yX5_draw, Cond.selects RX5 yX5_draw yX5_draw, Cond.code yX5_draw cX5_draw 2 (some .int), Cond.methodLink RX5 207 yX1_heldBy, Cond.instanceMethod yX1_heldBy, Cond.selects RX1 yX1_heldBy yX1_heldBy, Cond.code yX1_heldBy cX1_heldBy 2 (some .int), Cond.methodLink RX5 212 yX1_drawFor, Cond.instanceMethod yX1_drawFor, Cond.selects RX1 yX1_drawFor yX1_drawFor, Cond.code yX1_drawFor cX1_drawFor 4 (some .int), Cond.constant RX1 29 (1103515245), Cond.methodLink RX1 30 yX1_itemAt, Cond.static yX1_itemAt, Cond.code yX1_itemAt cX1_itemAt 2 (some .int), Cond.fieldLink RX1 34 "Leaguewheel$Items" "FOR_FIRST" "[I", Cond.fieldLink RX1 37 "Leaguewheel$Items" "FOR_MIDDLE" "[I"]
def wsL_law0_r25 : List Cond := [Cond.fieldLink RX1 40 "Leaguewheel$Items" "FOR_OTHERS" "[I", Cond.methodLink RL 165 yX6_draw, Cond.instanceMethod yX6_draw, Cond.selects RX6 yX6_draw yX6_draw, Cond.code yX6_draw cX6_draw 3 (some .int), Cond.constant RX6 130 (1103515245), Cond.methodLink RX6 131 yX6_drawn, Cond.static yX6_drawn, Cond.code yX6_drawn cX6_drawn 2 (some .int), Cond.methodLink RL 166 yL_use, Cond.static yL_use, Cond.codeWith yL_use cL_use 4 (some .int) [(0, 9, 12, 19), (0, 9, 15, 13)], Cond.methodLink RL 61 yX5_use, Cond.instanceMethod yX5_use, Cond.selects RX5 yX5_use yX5_use, Cond.code yX5_use cX5_use 4 (some .int), Cond.methodLink RX5 217 yX1_takeFrom, Cond.instanceMethod yX1_takeFrom, Cond.selects RX1 yX1_takeFrom yX1_takeFrom, Cond.code yX1_takeFrom cX1_takeFrom 2 none, Cond.methodLink RX5 220 yX1_wake, Cond.instanceMethod yX1_wake, Cond.selects RX1 yX1_wake yX1_wake, Cond.code yX1_wake cX1_wake 2 none]
def wsL_law0_r26 : List Cond := [Cond.methodLink RX5 223 yX1_shield, Cond.instanceMethod yX1_shield, Cond.selects RX1 yX1_shield yX1_shield, Cond.code yX1_shield cX1_shield 2 none, Cond.methodLink RX5 226 yX5_hitRanks, Cond.instanceMethod yX5_hitRanks, Cond.selects RX5 yX5_hitRanks yX5_hitRanks, Cond.code yX5_hitRanks cX5_hitRanks 7 (some .int), Cond.methodLink RX5 268 yX1_hit, Cond.instanceMethod yX1_hit, Cond.selects RX1 yX1_hit yX1_hit, Cond.code yX1_hit cX1_hit 3 (some .boolean), Cond.methodLink RL 168 yX6_use, Cond.instanceMethod yX6_use, Cond.selects RX6 yX6_use yX6_use, Cond.code yX6_use cX6_use 9 (some .int), Cond.methodLink RX6 135 yX6_hits, Cond.instanceMethod yX6_hits, Cond.selects RX6 yX6_hits yX6_hits, Cond.code yX6_hits cX6_hits 3 (some .int), Cond.methodLink RL 169 yL_itemOf, Cond.static yL_itemOf, Cond.codeWith yL_itemOf cL_itemOf 4 (some .int) [(0, 9, 12, 19)], Cond.methodLink RL 64 yX5_itemOf]
def wsL_law0_r27 : List Cond := [Cond.instanceMethod yX5_itemOf, Cond.selects RX5 yX5_itemOf yX5_itemOf, Cond.code yX5_itemOf cX5_itemOf 2 (some .int), Cond.methodLink RL 171 yX6_itemOf, Cond.instanceMethod yX6_itemOf, Cond.selects RX6 yX6_itemOf yX6_itemOf, Cond.code yX6_itemOf cX6_itemOf 2 (some .int), Cond.methodLink RL 172 yL_stunned, Cond.static yL_stunned, Cond.codeWith yL_stunned cL_stunned 4 (some .int) [(0, 9, 12, 19)], Cond.methodLink RL 67 yX5_stunned, Cond.instanceMethod yX5_stunned, Cond.selects RX5 yX5_stunned yX5_stunned, Cond.code yX5_stunned cX5_stunned 2 (some .int), Cond.methodLink RL 174 yX6_stunned, Cond.instanceMethod yX6_stunned, Cond.selects RX6 yX6_stunned yX6_stunned, Cond.code yX6_stunned cX6_stunned 2 (some .int), Cond.methodLink RL 175 yL_end, Cond.static yL_end, Cond.codeWith yL_end cL_end 3 (some .int) [(0, 8, 11, 13)], Cond.methodLink RL 70 yX5_end, Cond.instanceMethod yX5_end, Cond.selects RX5 yX5_end yX5_end]
def wsL_law0_r28 : List Cond := [Cond.code yX5_end cX5_end 4 (some .int), Cond.methodLink RX5 230 yX3_isWorthPoints, Cond.instanceMethod yX3_isWorthPoints, Cond.selects RX3 yX3_isWorthPoints yX3_isWorthPoints, Cond.code yX3_isWorthPoints cX3_isWorthPoints 2 (some .boolean), Cond.methodLink RX5 234 yX0_noteResult, Cond.instanceMethod yX0_noteResult, Cond.selects RX0 yX0_noteResult yX0_noteResult, Cond.code yX0_noteResult cX0_noteResult 4 none, Cond.fieldLink RX0 25 "Leaguewheel$Cup" "POINTS_BY_PLACE" "[I", Cond.methodLink RX5 238 yX0_closeRace, Cond.instanceMethod yX0_closeRace, Cond.selects RX0 yX0_closeRace yX0_closeRace, Cond.code yX0_closeRace cX0_closeRace 1 none, Cond.methodLink RL 178 yX6_end, Cond.instanceMethod yX6_end, Cond.selects RX6 yX6_end yX6_end, Cond.code yX6_end cX6_end 5 (some .int), Cond.fieldLink RX6 138 "LeaguewheelModel" "ended" "I", Cond.methodLink RX6 141 yX6_worth, Cond.static yX6_worth, Cond.code yX6_worth cX6_worth 1 (some .int), Cond.methodLink RL 179 yX5_races, Cond.instanceMethod yX5_races]
def wsL_law0_r29 : List Cond := [Cond.selects RX5 yX5_races yX5_races, Cond.code yX5_races cX5_races 1 (some .int), Cond.methodLink RL 182 yX6_races, Cond.instanceMethod yX6_races, Cond.selects RX6 yX6_races yX6_races, Cond.code yX6_races cX6_races 1 (some .int), Cond.methodLink RL 183 yL_place, Cond.static yL_place, Cond.codeWith yL_place cL_place 5 (some .int) [(0, 10, 13, 19)], Cond.methodLink RL 74 yX5_place, Cond.instanceMethod yX5_place, Cond.selects RX5 yX5_place yX5_place, Cond.code yX5_place cX5_place 3 (some .int), Cond.methodLink RX5 246 yX0_placeIn, Cond.instanceMethod yX0_placeIn, Cond.selects RX0 yX0_placeIn yX0_placeIn, Cond.code yX0_placeIn cX0_placeIn 3 (some .int), Cond.methodLink RL 185 yX6_place, Cond.instanceMethod yX6_place, Cond.selects RX6 yX6_place yX6_place, Cond.code yX6_place cX6_place 3 (some .int), Cond.methodLink RL 186 yL_setDropped, Cond.static yL_setDropped, Cond.codeWith yL_setDropped cL_setDropped 4 (some .int) [(0, 9, 12, 21)]]
def wsL_law0_r30 : List Cond := [Cond.methodLink RL 77 yX5_setDropped, Cond.instanceMethod yX5_setDropped, Cond.selects RX5 yX5_setDropped yX5_setDropped, Cond.code yX5_setDropped cX5_setDropped 2 (some .int), Cond.methodLink RX5 251 yX0_changeDropped, Cond.instanceMethod yX0_changeDropped, Cond.selects RX0 yX0_changeDropped yX0_changeDropped, Cond.code yX0_changeDropped cX0_changeDropped 3 (some .int), Cond.methodLink RL 188 yX6_setDropped, Cond.instanceMethod yX6_setDropped, Cond.selects RX6 yX6_setDropped yX6_setDropped, Cond.code yX6_setDropped cX6_setDropped 3 (some .int), Cond.fieldLink RX6 144 "LeaguewheelModel" "dropped" "I", Cond.methodLink RL 189 yL_points, Cond.static yL_points, Cond.codeWith yL_points cL_points 4 (some .int) [(0, 9, 12, 19)], Cond.methodLink RL 80 yX5_points, Cond.instanceMethod yX5_points, Cond.selects RX5 yX5_points yX5_points, Cond.code yX5_points cX5_points 2 (some .int), Cond.methodLink RX5 254 yX0_pointsOf, Cond.instanceMethod yX0_pointsOf, Cond.selects RX0 yX0_pointsOf yX0_pointsOf, Cond.code yX0_pointsOf cX0_pointsOf 4 (some .int)]
def wsL_law0_r31 : List Cond := [Cond.methodLink RX0 28 yX0_countWorse, Cond.instanceMethod yX0_countWorse, Cond.selects RX0 yX0_countWorse yX0_countWorse, Cond.code yX0_countWorse cX0_countWorse 7 (some .int), Cond.methodLink RL 191 yX6_points, Cond.instanceMethod yX6_points, Cond.selects RX6 yX6_points yX6_points, Cond.code yX6_points cX6_points 2 (some .int), Cond.methodLink RX6 147 yX6_sum, Cond.instanceMethod yX6_sum, Cond.selects RX6 yX6_sum yX6_sum, Cond.code yX6_sum cX6_sum 8 (some .int), Cond.methodLink RL 192 yL_teamPoints, Cond.static yL_teamPoints, Cond.codeWith yL_teamPoints cL_teamPoints 4 (some .int) [(0, 9, 12, 19)], Cond.methodLink RL 83 yX5_teamPoints, Cond.instanceMethod yX5_teamPoints, Cond.selects RX5 yX5_teamPoints yX5_teamPoints, Cond.code yX5_teamPoints cX5_teamPoints 4 (some .int), Cond.methodLink RL 194 yX6_teamPoints, Cond.instanceMethod yX6_teamPoints, Cond.selects RX6 yX6_teamPoints yX6_teamPoints, Cond.code yX6_teamPoints cX6_teamPoints 4 (some .int), Cond.methodLink RL 195 yL_standing]
def wsL_law0_r32 : List Cond := [Cond.static yL_standing, Cond.codeWith yL_standing cL_standing 4 (some .int) [(0, 9, 12, 19)], Cond.methodLink RL 86 yX5_standing, Cond.instanceMethod yX5_standing, Cond.selects RX5 yX5_standing yX5_standing, Cond.code yX5_standing cX5_standing 2 (some .int), Cond.methodLink RX5 257 yX0_countBefore, Cond.instanceMethod yX0_countBefore, Cond.selects RX0 yX0_countBefore yX0_countBefore, Cond.code yX0_countBefore cX0_countBefore 5 (some .int), Cond.methodLink RX0 32 yX0_standsBefore, Cond.instanceMethod yX0_standsBefore, Cond.selects RX0 yX0_standsBefore yX0_standsBefore, Cond.code yX0_standsBefore cX0_standsBefore 8 (some .boolean), Cond.methodLink RX0 39 yX0_pointsOf, Cond.methodLink RX0 43 yX0_timesAt, Cond.instanceMethod yX0_timesAt, Cond.selects RX0 yX0_timesAt yX0_timesAt, Cond.code yX0_timesAt cX0_timesAt 5 (some .int), Cond.methodLink RL 197 yX6_standing, Cond.instanceMethod yX6_standing, Cond.selects RX6 yX6_standing yX6_standing, Cond.code yX6_standing cX6_standing 2 (some .int), Cond.methodLink RX6 156 yX6_stand]
def wsL_law0_r33 : List Cond := [Cond.instanceMethod yX6_stand, Cond.selects RX6 yX6_stand yX6_stand, Cond.code yX6_stand cX6_stand 4 (some .int), Cond.methodLink RX6 153 yX6_stands, Cond.instanceMethod yX6_stands, Cond.selects RX6 yX6_stands yX6_stands, Cond.code yX6_stands cX6_stands 4 (some .boolean), Cond.methodLink RX6 150 yX6_times, Cond.instanceMethod yX6_times, Cond.selects RX6 yX6_times yX6_times, Cond.code yX6_times cX6_times 5 (some .int), Cond.methodLink RL 198 yX5_textLength, Cond.instanceMethod yX5_textLength, Cond.selects RX5 yX5_textLength yX5_textLength, Cond.code yX5_textLength cX5_textLength 1 (some .int), Cond.methodLink RL 201 yX6_textLength, Cond.instanceMethod yX6_textLength, Cond.selects RX6 yX6_textLength yX6_textLength, Cond.code yX6_textLength cX6_textLength 1 (some .int), Cond.methodLink RL 202 yL_textAt, Cond.static yL_textAt, Cond.codeWith yL_textAt cL_textAt 4 (some .int) [(0, 9, 12, 19)], Cond.methodLink RL 89 yX5_textAt, Cond.instanceMethod yX5_textAt]
def wsL_law0_r34 : List Cond := [Cond.selects RX5 yX5_textAt yX5_textAt, Cond.code yX5_textAt cX5_textAt 2 (some .char), Cond.methodLink RX5 262 yX0_kartStandingAt, Cond.instanceMethod yX0_kartStandingAt, Cond.selects RX0 yX0_kartStandingAt yX0_kartStandingAt, Cond.code yX0_kartStandingAt cX0_kartStandingAt 5 (some .int), Cond.methodLink RX0 36 yX0_countBefore, Cond.methodLink RL 204 yX6_textAt, Cond.instanceMethod yX6_textAt, Cond.selects RX6 yX6_textAt yX6_textAt, Cond.code yX6_textAt cX6_textAt 4 (some .char)]
def wsL_law0 : List Cond := (wsL_law0_r1 ++ (wsL_law0_r2 ++ (wsL_law0_r3 ++ (wsL_law0_r4 ++ (wsL_law0_r5 ++ (wsL_law0_r6 ++ (wsL_law0_r7 ++ (wsL_law0_r8 ++ (wsL_law0_r9 ++ (wsL_law0_r10 ++ (wsL_law0_r11 ++ (wsL_law0_r12 ++ (wsL_law0_r13 ++ (wsL_law0_r14 ++ (wsL_law0_r15 ++ (wsL_law0_r16 ++ (wsL_law0_r17 ++ (wsL_law0_r18 ++ (wsL_law0_r19 ++ (wsL_law0_r20 ++ (wsL_law0_r21 ++ (wsL_law0_r22 ++ (wsL_law0_r23 ++ (wsL_law0_r24 ++ (wsL_law0_r25 ++ (wsL_law0_r26 ++ (wsL_law0_r27 ++ (wsL_law0_r28 ++ (wsL_law0_r29 ++ (wsL_law0_r30 ++ (wsL_law0_r31 ++ (wsL_law0_r32 ++ (wsL_law0_r33 ++ wsL_law0_r34))))))))))))))))))))))))))))))))) ++ wsX50 ++ wsX60 ++ wsX40 ++ wsX30 ++ wsX20 ++ wsX10 ++ wsX00 ++ ([] : List Cond)
def wsL_law : List Cond := wsL_law0 ++ (vx_atS RX5 75 "java/lang/IllegalStateException" ["java/lang/RuntimeException", "java/lang/Exception"]).filter goodWord ++ (vx_atS RX5 90 "java/lang/IllegalArgumentException" ["java/lang/RuntimeException", "java/lang/Exception"]).filter goodWord ++ (vx_atS RX5 245 "java/lang/IndexOutOfBoundsException" ["java/lang/RuntimeException", "java/lang/Exception"]).filter goodWord
abbrev vwCl : List vw_C := [(RX0, TX0, 4), (RX1, TX1, 4), (RX2, TX2, 3), (RX3, TX3, 11), (RX4, TX4, 4), (RX5, TX5, 10), (RX6, TX6, 26)]
end
section
theorem dX0_init_0 : decode cX0_init 0 = .ok (.aload_n 0, 1) := by decide +kernel
theorem dX0_init_1 : decode cX0_init 1 = .ok (.invokespecial 3, 3) := by decide +kernel
theorem dX0_init_4 : decode cX0_init 4 = .ok (.aload_n 0, 1) := by decide +kernel
theorem dX0_init_5 : decode cX0_init 5 = .ok (.bipush 48, 2) := by decide +kernel
theorem dX0_init_7 : decode cX0_init 7 = .ok (.newarray .int, 2) := by decide +kernel
theorem dX0_init_9 : decode cX0_init 9 = .ok (.putfield 9, 3) := by decide +kernel
theorem dX0_init_12 : decode cX0_init 12 = .ok (.aload_n 0, 1) := by decide +kernel
theorem dX0_init_13 : decode cX0_init 13 = .ok (.bipush 48, 2) := by decide +kernel
theorem dX0_init_15 : decode cX0_init 15 = .ok (.newarray .int, 2) := by decide +kernel
theorem dX0_init_17 : decode cX0_init 17 = .ok (.putfield 15, 3) := by decide +kernel
theorem dX0_init_20 : decode cX0_init 20 = .ok (.aload_n 0, 1) := by decide +kernel
theorem dX0_init_21 : decode cX0_init 21 = .ok (.iconst 0, 1) := by decide +kernel
theorem dX0_init_22 : decode cX0_init 22 = .ok (.putfield 18, 3) := by decide +kernel
theorem dX0_init_25 : decode cX0_init 25 = .ok (.aload_n 0, 1) := by decide +kernel
theorem dX0_init_26 : decode cX0_init 26 = .ok (.iconst 0, 1) := by decide +kernel
theorem dX0_init_27 : decode cX0_init 27 = .ok (.putfield 22, 3) := by decide +kernel
theorem dX0_init_30 : decode cX0_init 30 = .ok (.return_, 1) := by decide +kernel
theorem dX0_endedRaces_0 : decode cX0_endedRaces 0 = .ok (.aload_n 0, 1) := by decide +kernel
theorem dX0_endedRaces_1 : decode cX0_endedRaces 1 = .ok (.getfield 18, 3) := by decide +kernel
theorem dX0_endedRaces_4 : decode cX0_endedRaces 4 = .ok (.ireturn, 1) := by decide +kernel
theorem dX0_noteResult_0 : decode cX0_noteResult 0 = .ok (.aload_n 0, 1) := by decide +kernel
theorem dX0_noteResult_1 : decode cX0_noteResult 1 = .ok (.getfield 9, 3) := by decide +kernel
theorem dX0_noteResult_4 : decode cX0_noteResult 4 = .ok (.aload_n 0, 1) := by decide +kernel
theorem dX0_noteResult_5 : decode cX0_noteResult 5 = .ok (.getfield 18, 3) := by decide +kernel
theorem dX0_noteResult_8 : decode cX0_noteResult 8 = .ok (.bipush 6, 2) := by decide +kernel
theorem dX0_noteResult_10 : decode cX0_noteResult 10 = .ok (.imul, 1) := by decide +kernel
theorem dX0_noteResult_11 : decode cX0_noteResult 11 = .ok (.iload_n 1, 1) := by decide +kernel
theorem dX0_noteResult_12 : decode cX0_noteResult 12 = .ok (.iadd, 1) := by decide +kernel
theorem dX0_noteResult_13 : decode cX0_noteResult 13 = .ok (.iload_n 2, 1) := by decide +kernel
theorem dX0_noteResult_14 : decode cX0_noteResult 14 = .ok (.iastore, 1) := by decide +kernel
theorem dX0_noteResult_15 : decode cX0_noteResult 15 = .ok (.aload_n 0, 1) := by decide +kernel
theorem dX0_noteResult_16 : decode cX0_noteResult 16 = .ok (.getfield 15, 3) := by decide +kernel
theorem dX0_noteResult_19 : decode cX0_noteResult 19 = .ok (.aload_n 0, 1) := by decide +kernel
theorem dX0_noteResult_20 : decode cX0_noteResult 20 = .ok (.getfield 18, 3) := by decide +kernel
theorem dX0_noteResult_23 : decode cX0_noteResult 23 = .ok (.bipush 6, 2) := by decide +kernel
theorem dX0_noteResult_25 : decode cX0_noteResult 25 = .ok (.imul, 1) := by decide +kernel
theorem dX0_noteResult_26 : decode cX0_noteResult 26 = .ok (.iload_n 1, 1) := by decide +kernel
theorem dX0_noteResult_27 : decode cX0_noteResult 27 = .ok (.iadd, 1) := by decide +kernel
theorem dX0_noteResult_28 : decode cX0_noteResult 28 = .ok (.iload_n 3, 1) := by decide +kernel
theorem dX0_noteResult_29 : decode cX0_noteResult 29 = .ok (.ifCond .eq 11, 3) := by decide +kernel
theorem dX0_noteResult_32 : decode cX0_noteResult 32 = .ok (.getstatic 25, 3) := by decide +kernel
theorem dX0_noteResult_35 : decode cX0_noteResult 35 = .ok (.iload_n 2, 1) := by decide +kernel
theorem dX0_noteResult_36 : decode cX0_noteResult 36 = .ok (.iaload, 1) := by decide +kernel
theorem dX0_noteResult_37 : decode cX0_noteResult 37 = .ok (.goto 4, 3) := by decide +kernel
theorem dX0_noteResult_40 : decode cX0_noteResult 40 = .ok (.iconst 0, 1) := by decide +kernel
theorem dX0_noteResult_41 : decode cX0_noteResult 41 = .ok (.iastore, 1) := by decide +kernel
theorem dX0_noteResult_42 : decode cX0_noteResult 42 = .ok (.return_, 1) := by decide +kernel
theorem dX0_closeRace_0 : decode cX0_closeRace 0 = .ok (.aload_n 0, 1) := by decide +kernel
theorem dX0_closeRace_1 : decode cX0_closeRace 1 = .ok (.dup, 1) := by decide +kernel
theorem dX0_closeRace_2 : decode cX0_closeRace 2 = .ok (.getfield 18, 3) := by decide +kernel
theorem dX0_closeRace_5 : decode cX0_closeRace 5 = .ok (.iconst 1, 1) := by decide +kernel
theorem dX0_closeRace_6 : decode cX0_closeRace 6 = .ok (.iadd, 1) := by decide +kernel
theorem dX0_closeRace_7 : decode cX0_closeRace 7 = .ok (.putfield 18, 3) := by decide +kernel
theorem dX0_closeRace_10 : decode cX0_closeRace 10 = .ok (.return_, 1) := by decide +kernel
theorem dX0_placeIn_0 : decode cX0_placeIn 0 = .ok (.aload_n 0, 1) := by decide +kernel
theorem dX0_placeIn_1 : decode cX0_placeIn 1 = .ok (.getfield 9, 3) := by decide +kernel
theorem dX0_placeIn_4 : decode cX0_placeIn 4 = .ok (.iload_n 1, 1) := by decide +kernel
theorem dX0_placeIn_5 : decode cX0_placeIn 5 = .ok (.bipush 6, 2) := by decide +kernel
theorem dX0_placeIn_7 : decode cX0_placeIn 7 = .ok (.imul, 1) := by decide +kernel
theorem dX0_placeIn_8 : decode cX0_placeIn 8 = .ok (.iload_n 2, 1) := by decide +kernel
theorem dX0_placeIn_9 : decode cX0_placeIn 9 = .ok (.iadd, 1) := by decide +kernel
theorem dX0_placeIn_10 : decode cX0_placeIn 10 = .ok (.iaload, 1) := by decide +kernel
theorem dX0_placeIn_11 : decode cX0_placeIn 11 = .ok (.ireturn, 1) := by decide +kernel
theorem dX0_changeDropped_0 : decode cX0_changeDropped 0 = .ok (.aload_n 0, 1) := by decide +kernel
theorem dX0_changeDropped_1 : decode cX0_changeDropped 1 = .ok (.getfield 22, 3) := by decide +kernel
theorem dX0_changeDropped_4 : decode cX0_changeDropped 4 = .ok (.istore_n 2, 1) := by decide +kernel
theorem dX0_changeDropped_5 : decode cX0_changeDropped 5 = .ok (.aload_n 0, 1) := by decide +kernel
theorem dX0_changeDropped_6 : decode cX0_changeDropped 6 = .ok (.iload_n 1, 1) := by decide +kernel
theorem dX0_changeDropped_7 : decode cX0_changeDropped 7 = .ok (.putfield 22, 3) := by decide +kernel
theorem dX0_changeDropped_10 : decode cX0_changeDropped 10 = .ok (.iload_n 2, 1) := by decide +kernel
theorem dX0_changeDropped_11 : decode cX0_changeDropped 11 = .ok (.ireturn, 1) := by decide +kernel
set_option maxRecDepth 20000 in
theorem ggX0_pointsOf_X0_countWorse : GoodIn wsX0_pointsOf wsX0_countWorse := goodIn_r _ [8, 3, 1, 9, 10, 11, 12] (by decide +kernel) (by decide +kernel)
set_option maxRecDepth 20000 in
theorem gX0_pointsOf_X0_countWorse : GoodIn wsX0_pointsOf (wsV RX0 28 RX0 yX0_countWorse wsX0_countWorse) := goodIn_app (goodIn_of _ (by decide +kernel)) ggX0_pointsOf_X0_countWorse
theorem dX0_pointsOf_0 : decode cX0_pointsOf 0 = .ok (.iconst 0, 1) := by decide +kernel
theorem dX0_pointsOf_1 : decode cX0_pointsOf 1 = .ok (.istore_n 2, 1) := by decide +kernel
theorem dX0_pointsOf_2 : decode cX0_pointsOf 2 = .ok (.iconst 0, 1) := by decide +kernel
theorem dX0_pointsOf_3 : decode cX0_pointsOf 3 = .ok (.istore_n 3, 1) := by decide +kernel
theorem dX0_pointsOf_4 : decode cX0_pointsOf 4 = .ok (.iload_n 3, 1) := by decide +kernel
theorem dX0_pointsOf_5 : decode cX0_pointsOf 5 = .ok (.aload_n 0, 1) := by decide +kernel
theorem dX0_pointsOf_6 : decode cX0_pointsOf 6 = .ok (.getfield 18, 3) := by decide +kernel
theorem dX0_pointsOf_9 : decode cX0_pointsOf 9 = .ok (.if_icmp .ge 36, 3) := by decide +kernel
theorem dX0_pointsOf_12 : decode cX0_pointsOf 12 = .ok (.aload_n 0, 1) := by decide +kernel
theorem dX0_pointsOf_13 : decode cX0_pointsOf 13 = .ok (.iload_n 3, 1) := by decide +kernel
theorem dX0_pointsOf_14 : decode cX0_pointsOf 14 = .ok (.iload_n 1, 1) := by decide +kernel
theorem dX0_pointsOf_15 : decode cX0_pointsOf 15 = .ok (.invokevirtual 28, 3) := by decide +kernel
theorem dX0_pointsOf_18 : decode cX0_pointsOf 18 = .ok (.aload_n 0, 1) := by decide +kernel
theorem dX0_pointsOf_19 : decode cX0_pointsOf 19 = .ok (.getfield 22, 3) := by decide +kernel
theorem dX0_pointsOf_22 : decode cX0_pointsOf 22 = .ok (.if_icmp .lt 17, 3) := by decide +kernel
theorem dX0_pointsOf_25 : decode cX0_pointsOf 25 = .ok (.iload_n 2, 1) := by decide +kernel
theorem dX0_pointsOf_26 : decode cX0_pointsOf 26 = .ok (.aload_n 0, 1) := by decide +kernel
theorem dX0_pointsOf_27 : decode cX0_pointsOf 27 = .ok (.getfield 15, 3) := by decide +kernel
theorem dX0_pointsOf_30 : decode cX0_pointsOf 30 = .ok (.iload_n 3, 1) := by decide +kernel
theorem dX0_pointsOf_31 : decode cX0_pointsOf 31 = .ok (.bipush 6, 2) := by decide +kernel
theorem dX0_pointsOf_33 : decode cX0_pointsOf 33 = .ok (.imul, 1) := by decide +kernel
theorem dX0_pointsOf_34 : decode cX0_pointsOf 34 = .ok (.iload_n 1, 1) := by decide +kernel
theorem dX0_pointsOf_35 : decode cX0_pointsOf 35 = .ok (.iadd, 1) := by decide +kernel
theorem dX0_pointsOf_36 : decode cX0_pointsOf 36 = .ok (.iaload, 1) := by decide +kernel
theorem dX0_pointsOf_37 : decode cX0_pointsOf 37 = .ok (.iadd, 1) := by decide +kernel
theorem dX0_pointsOf_38 : decode cX0_pointsOf 38 = .ok (.istore_n 2, 1) := by decide +kernel
theorem dX0_pointsOf_39 : decode cX0_pointsOf 39 = .ok (.iinc 3 1, 3) := by decide +kernel
theorem dX0_pointsOf_42 : decode cX0_pointsOf 42 = .ok (.goto (-38), 3) := by decide +kernel
theorem dX0_pointsOf_45 : decode cX0_pointsOf 45 = .ok (.iload_n 2, 1) := by decide +kernel
theorem dX0_pointsOf_46 : decode cX0_pointsOf 46 = .ok (.ireturn, 1) := by decide +kernel
theorem dX0_countWorse_0 : decode cX0_countWorse 0 = .ok (.aload_n 0, 1) := by decide +kernel
theorem dX0_countWorse_1 : decode cX0_countWorse 1 = .ok (.getfield 15, 3) := by decide +kernel
theorem dX0_countWorse_4 : decode cX0_countWorse 4 = .ok (.iload_n 1, 1) := by decide +kernel
theorem dX0_countWorse_5 : decode cX0_countWorse 5 = .ok (.bipush 6, 2) := by decide +kernel
theorem dX0_countWorse_7 : decode cX0_countWorse 7 = .ok (.imul, 1) := by decide +kernel
theorem dX0_countWorse_8 : decode cX0_countWorse 8 = .ok (.iload_n 2, 1) := by decide +kernel
theorem dX0_countWorse_9 : decode cX0_countWorse 9 = .ok (.iadd, 1) := by decide +kernel
theorem dX0_countWorse_10 : decode cX0_countWorse 10 = .ok (.iaload, 1) := by decide +kernel
theorem dX0_countWorse_11 : decode cX0_countWorse 11 = .ok (.istore_n 3, 1) := by decide +kernel
theorem dX0_countWorse_12 : decode cX0_countWorse 12 = .ok (.iconst 0, 1) := by decide +kernel
theorem dX0_countWorse_13 : decode cX0_countWorse 13 = .ok (.istore 4, 2) := by decide +kernel
theorem dX0_countWorse_15 : decode cX0_countWorse 15 = .ok (.iconst 0, 1) := by decide +kernel
theorem dX0_countWorse_16 : decode cX0_countWorse 16 = .ok (.istore 5, 2) := by decide +kernel
theorem dX0_countWorse_18 : decode cX0_countWorse 18 = .ok (.iload 5, 2) := by decide +kernel
theorem dX0_countWorse_20 : decode cX0_countWorse 20 = .ok (.aload_n 0, 1) := by decide +kernel
theorem dX0_countWorse_21 : decode cX0_countWorse 21 = .ok (.getfield 18, 3) := by decide +kernel
theorem dX0_countWorse_24 : decode cX0_countWorse 24 = .ok (.if_icmp .ge 44, 3) := by decide +kernel
theorem dX0_countWorse_27 : decode cX0_countWorse 27 = .ok (.aload_n 0, 1) := by decide +kernel
theorem dX0_countWorse_28 : decode cX0_countWorse 28 = .ok (.getfield 15, 3) := by decide +kernel
theorem dX0_countWorse_31 : decode cX0_countWorse 31 = .ok (.iload 5, 2) := by decide +kernel
theorem dX0_countWorse_33 : decode cX0_countWorse 33 = .ok (.bipush 6, 2) := by decide +kernel
theorem dX0_countWorse_35 : decode cX0_countWorse 35 = .ok (.imul, 1) := by decide +kernel
theorem dX0_countWorse_36 : decode cX0_countWorse 36 = .ok (.iload_n 2, 1) := by decide +kernel
theorem dX0_countWorse_37 : decode cX0_countWorse 37 = .ok (.iadd, 1) := by decide +kernel
theorem dX0_countWorse_38 : decode cX0_countWorse 38 = .ok (.iaload, 1) := by decide +kernel
theorem dX0_countWorse_39 : decode cX0_countWorse 39 = .ok (.istore 6, 2) := by decide +kernel
theorem dX0_countWorse_41 : decode cX0_countWorse 41 = .ok (.iload 6, 2) := by decide +kernel
theorem dX0_countWorse_43 : decode cX0_countWorse 43 = .ok (.iload_n 3, 1) := by decide +kernel
theorem dX0_countWorse_44 : decode cX0_countWorse 44 = .ok (.if_icmp .lt 15, 3) := by decide +kernel
theorem dX0_countWorse_47 : decode cX0_countWorse 47 = .ok (.iload 6, 2) := by decide +kernel
theorem dX0_countWorse_49 : decode cX0_countWorse 49 = .ok (.iload_n 3, 1) := by decide +kernel
theorem dX0_countWorse_50 : decode cX0_countWorse 50 = .ok (.if_icmp .ne 12, 3) := by decide +kernel
theorem dX0_countWorse_53 : decode cX0_countWorse 53 = .ok (.iload 5, 2) := by decide +kernel
theorem dX0_countWorse_55 : decode cX0_countWorse 55 = .ok (.iload_n 1, 1) := by decide +kernel
theorem dX0_countWorse_56 : decode cX0_countWorse 56 = .ok (.if_icmp .ge 6, 3) := by decide +kernel
theorem dX0_countWorse_59 : decode cX0_countWorse 59 = .ok (.iinc 4 1, 3) := by decide +kernel
theorem dX0_countWorse_62 : decode cX0_countWorse 62 = .ok (.iinc 5 1, 3) := by decide +kernel
theorem dX0_countWorse_65 : decode cX0_countWorse 65 = .ok (.goto (-47), 3) := by decide +kernel
theorem dX0_countWorse_68 : decode cX0_countWorse 68 = .ok (.iload 4, 2) := by decide +kernel
theorem dX0_countWorse_70 : decode cX0_countWorse 70 = .ok (.ireturn, 1) := by decide +kernel
set_option maxRecDepth 20000 in
theorem ggX0_countBefore_X0_standsBefore : GoodIn wsX0_countBefore wsX0_standsBefore := goodIn_r _ [5, 6, 7, 8, 4, 9, 10, 11, 12, 13, 14, 15, 16, 17, 18, 19, 20, 21, 22, 23, 24, 25] (by decide +kernel) (by decide +kernel)
set_option maxRecDepth 20000 in
theorem gX0_countBefore_X0_standsBefore : GoodIn wsX0_countBefore (wsV RX0 32 RX0 yX0_standsBefore wsX0_standsBefore) := goodIn_app (goodIn_of _ (by decide +kernel)) ggX0_countBefore_X0_standsBefore
theorem dX0_countBefore_0 : decode cX0_countBefore 0 = .ok (.iconst 0, 1) := by decide +kernel
theorem dX0_countBefore_1 : decode cX0_countBefore 1 = .ok (.istore_n 3, 1) := by decide +kernel
theorem dX0_countBefore_2 : decode cX0_countBefore 2 = .ok (.iconst 0, 1) := by decide +kernel
theorem dX0_countBefore_3 : decode cX0_countBefore 3 = .ok (.istore 4, 2) := by decide +kernel
theorem dX0_countBefore_5 : decode cX0_countBefore 5 = .ok (.iload 4, 2) := by decide +kernel
theorem dX0_countBefore_7 : decode cX0_countBefore 7 = .ok (.iload_n 2, 1) := by decide +kernel
theorem dX0_countBefore_8 : decode cX0_countBefore 8 = .ok (.if_icmp .ge 22, 3) := by decide +kernel
theorem dX0_countBefore_11 : decode cX0_countBefore 11 = .ok (.aload_n 0, 1) := by decide +kernel
theorem dX0_countBefore_12 : decode cX0_countBefore 12 = .ok (.iload 4, 2) := by decide +kernel
theorem dX0_countBefore_14 : decode cX0_countBefore 14 = .ok (.iload_n 1, 1) := by decide +kernel
theorem dX0_countBefore_15 : decode cX0_countBefore 15 = .ok (.invokevirtual 32, 3) := by decide +kernel
theorem dX0_countBefore_18 : decode cX0_countBefore 18 = .ok (.ifCond .eq 6, 3) := by decide +kernel
theorem dX0_countBefore_21 : decode cX0_countBefore 21 = .ok (.iinc 3 1, 3) := by decide +kernel
theorem dX0_countBefore_24 : decode cX0_countBefore 24 = .ok (.iinc 4 1, 3) := by decide +kernel
theorem dX0_countBefore_27 : decode cX0_countBefore 27 = .ok (.goto (-22), 3) := by decide +kernel
theorem dX0_countBefore_30 : decode cX0_countBefore 30 = .ok (.iload_n 3, 1) := by decide +kernel
theorem dX0_countBefore_31 : decode cX0_countBefore 31 = .ok (.ireturn, 1) := by decide +kernel
set_option maxRecDepth 20000 in
theorem ggX0_kartStandingAt_X0_countBefore : GoodIn wsX0_kartStandingAt wsX0_countBefore := goodIn_r _ [5, 6, 7, 8, 4, 9, 10, 11, 12, 13, 14, 15, 16, 17, 18, 19, 20, 21, 22, 23, 24, 25, 26, 27, 28, 29] (by decide +kernel) (by decide +kernel)
set_option maxRecDepth 20000 in
theorem gX0_kartStandingAt_X0_countBefore : GoodIn wsX0_kartStandingAt (wsV RX0 36 RX0 yX0_countBefore wsX0_countBefore) := goodIn_app (goodIn_of _ (by decide +kernel)) ggX0_kartStandingAt_X0_countBefore
theorem dX0_kartStandingAt_0 : decode cX0_kartStandingAt 0 = .ok (.iconst 0, 1) := by decide +kernel
theorem dX0_kartStandingAt_1 : decode cX0_kartStandingAt 1 = .ok (.istore_n 3, 1) := by decide +kernel
theorem dX0_kartStandingAt_2 : decode cX0_kartStandingAt 2 = .ok (.iconst 0, 1) := by decide +kernel
theorem dX0_kartStandingAt_3 : decode cX0_kartStandingAt 3 = .ok (.istore 4, 2) := by decide +kernel
theorem dX0_kartStandingAt_5 : decode cX0_kartStandingAt 5 = .ok (.iload 4, 2) := by decide +kernel
theorem dX0_kartStandingAt_7 : decode cX0_kartStandingAt 7 = .ok (.iload_n 2, 1) := by decide +kernel
theorem dX0_kartStandingAt_8 : decode cX0_kartStandingAt 8 = .ok (.if_icmp .ge 23, 3) := by decide +kernel
theorem dX0_kartStandingAt_11 : decode cX0_kartStandingAt 11 = .ok (.aload_n 0, 1) := by decide +kernel
theorem dX0_kartStandingAt_12 : decode cX0_kartStandingAt 12 = .ok (.iload 4, 2) := by decide +kernel
theorem dX0_kartStandingAt_14 : decode cX0_kartStandingAt 14 = .ok (.iload_n 2, 1) := by decide +kernel
theorem dX0_kartStandingAt_15 : decode cX0_kartStandingAt 15 = .ok (.invokevirtual 36, 3) := by decide +kernel
theorem dX0_kartStandingAt_18 : decode cX0_kartStandingAt 18 = .ok (.iload_n 1, 1) := by decide +kernel
theorem dX0_kartStandingAt_19 : decode cX0_kartStandingAt 19 = .ok (.if_icmp .ne 6, 3) := by decide +kernel
theorem dX0_kartStandingAt_22 : decode cX0_kartStandingAt 22 = .ok (.iload 4, 2) := by decide +kernel
theorem dX0_kartStandingAt_24 : decode cX0_kartStandingAt 24 = .ok (.istore_n 3, 1) := by decide +kernel
theorem dX0_kartStandingAt_25 : decode cX0_kartStandingAt 25 = .ok (.iinc 4 1, 3) := by decide +kernel
theorem dX0_kartStandingAt_28 : decode cX0_kartStandingAt 28 = .ok (.goto (-23), 3) := by decide +kernel
theorem dX0_kartStandingAt_31 : decode cX0_kartStandingAt 31 = .ok (.iload_n 3, 1) := by decide +kernel
theorem dX0_kartStandingAt_32 : decode cX0_kartStandingAt 32 = .ok (.ireturn, 1) := by decide +kernel
set_option maxRecDepth 20000 in
theorem ggX0_standsBefore_X0_pointsOf : GoodIn wsX0_standsBefore wsX0_pointsOf := goodIn_r _ [5, 6, 7, 8, 9, 10, 11, 4, 12, 18, 19, 20, 21] (by decide +kernel) (by decide +kernel)
set_option maxRecDepth 20000 in
theorem gX0_standsBefore_X0_pointsOf : GoodIn wsX0_standsBefore (wsV RX0 39 RX0 yX0_pointsOf wsX0_pointsOf) := goodIn_app (goodIn_of _ (by decide +kernel)) ggX0_standsBefore_X0_pointsOf
set_option maxRecDepth 20000 in
theorem ggX0_standsBefore_X0_timesAt : GoodIn wsX0_standsBefore wsX0_timesAt := goodIn_r _ [16, 6, 17, 18, 19, 20, 21] (by decide +kernel) (by decide +kernel)
set_option maxRecDepth 20000 in
theorem gX0_standsBefore_X0_timesAt : GoodIn wsX0_standsBefore (wsV RX0 43 RX0 yX0_timesAt wsX0_timesAt) := goodIn_app (goodIn_of _ (by decide +kernel)) ggX0_standsBefore_X0_timesAt
theorem dX0_standsBefore_0 : decode cX0_standsBefore 0 = .ok (.aload_n 0, 1) := by decide +kernel
theorem dX0_standsBefore_1 : decode cX0_standsBefore 1 = .ok (.iload_n 1, 1) := by decide +kernel
theorem dX0_standsBefore_2 : decode cX0_standsBefore 2 = .ok (.invokevirtual 39, 3) := by decide +kernel
theorem dX0_standsBefore_5 : decode cX0_standsBefore 5 = .ok (.istore_n 3, 1) := by decide +kernel
theorem dX0_standsBefore_6 : decode cX0_standsBefore 6 = .ok (.aload_n 0, 1) := by decide +kernel
theorem dX0_standsBefore_7 : decode cX0_standsBefore 7 = .ok (.iload_n 2, 1) := by decide +kernel
theorem dX0_standsBefore_8 : decode cX0_standsBefore 8 = .ok (.invokevirtual 39, 3) := by decide +kernel
theorem dX0_standsBefore_11 : decode cX0_standsBefore 11 = .ok (.istore 4, 2) := by decide +kernel
theorem dX0_standsBefore_13 : decode cX0_standsBefore 13 = .ok (.iload_n 3, 1) := by decide +kernel
theorem dX0_standsBefore_14 : decode cX0_standsBefore 14 = .ok (.iload 4, 2) := by decide +kernel
theorem dX0_standsBefore_16 : decode cX0_standsBefore 16 = .ok (.if_icmp .eq 15, 3) := by decide +kernel
theorem dX0_standsBefore_19 : decode cX0_standsBefore 19 = .ok (.iload_n 3, 1) := by decide +kernel
theorem dX0_standsBefore_20 : decode cX0_standsBefore 20 = .ok (.iload 4, 2) := by decide +kernel
theorem dX0_standsBefore_22 : decode cX0_standsBefore 22 = .ok (.if_icmp .le 7, 3) := by decide +kernel
theorem dX0_standsBefore_25 : decode cX0_standsBefore 25 = .ok (.iconst 1, 1) := by decide +kernel
theorem dX0_standsBefore_26 : decode cX0_standsBefore 26 = .ok (.goto 4, 3) := by decide +kernel
theorem dX0_standsBefore_29 : decode cX0_standsBefore 29 = .ok (.iconst 0, 1) := by decide +kernel
theorem dX0_standsBefore_30 : decode cX0_standsBefore 30 = .ok (.ireturn, 1) := by decide +kernel
theorem dX0_standsBefore_31 : decode cX0_standsBefore 31 = .ok (.iconst 0, 1) := by decide +kernel
theorem dX0_standsBefore_32 : decode cX0_standsBefore 32 = .ok (.istore 5, 2) := by decide +kernel
theorem dX0_standsBefore_34 : decode cX0_standsBefore 34 = .ok (.iload 5, 2) := by decide +kernel
theorem dX0_standsBefore_36 : decode cX0_standsBefore 36 = .ok (.bipush 6, 2) := by decide +kernel
theorem dX0_standsBefore_38 : decode cX0_standsBefore 38 = .ok (.if_icmp .ge 47, 3) := by decide +kernel
theorem dX0_standsBefore_41 : decode cX0_standsBefore 41 = .ok (.aload_n 0, 1) := by decide +kernel
theorem dX0_standsBefore_42 : decode cX0_standsBefore 42 = .ok (.iload 5, 2) := by decide +kernel
theorem dX0_standsBefore_44 : decode cX0_standsBefore 44 = .ok (.iload_n 1, 1) := by decide +kernel
theorem dX0_standsBefore_45 : decode cX0_standsBefore 45 = .ok (.invokevirtual 43, 3) := by decide +kernel
theorem dX0_standsBefore_48 : decode cX0_standsBefore 48 = .ok (.istore 6, 2) := by decide +kernel
theorem dX0_standsBefore_50 : decode cX0_standsBefore 50 = .ok (.aload_n 0, 1) := by decide +kernel
theorem dX0_standsBefore_51 : decode cX0_standsBefore 51 = .ok (.iload 5, 2) := by decide +kernel
theorem dX0_standsBefore_53 : decode cX0_standsBefore 53 = .ok (.iload_n 2, 1) := by decide +kernel
theorem dX0_standsBefore_54 : decode cX0_standsBefore 54 = .ok (.invokevirtual 43, 3) := by decide +kernel
theorem dX0_standsBefore_57 : decode cX0_standsBefore 57 = .ok (.istore 7, 2) := by decide +kernel
theorem dX0_standsBefore_59 : decode cX0_standsBefore 59 = .ok (.iload 6, 2) := by decide +kernel
theorem dX0_standsBefore_61 : decode cX0_standsBefore 61 = .ok (.iload 7, 2) := by decide +kernel
theorem dX0_standsBefore_63 : decode cX0_standsBefore 63 = .ok (.if_icmp .eq 16, 3) := by decide +kernel
theorem dX0_standsBefore_66 : decode cX0_standsBefore 66 = .ok (.iload 6, 2) := by decide +kernel
theorem dX0_standsBefore_68 : decode cX0_standsBefore 68 = .ok (.iload 7, 2) := by decide +kernel
theorem dX0_standsBefore_70 : decode cX0_standsBefore 70 = .ok (.if_icmp .le 7, 3) := by decide +kernel
theorem dX0_standsBefore_73 : decode cX0_standsBefore 73 = .ok (.iconst 1, 1) := by decide +kernel
theorem dX0_standsBefore_74 : decode cX0_standsBefore 74 = .ok (.goto 4, 3) := by decide +kernel
theorem dX0_standsBefore_77 : decode cX0_standsBefore 77 = .ok (.iconst 0, 1) := by decide +kernel
theorem dX0_standsBefore_78 : decode cX0_standsBefore 78 = .ok (.ireturn, 1) := by decide +kernel
theorem dX0_standsBefore_79 : decode cX0_standsBefore 79 = .ok (.iinc 5 1, 3) := by decide +kernel
theorem dX0_standsBefore_82 : decode cX0_standsBefore 82 = .ok (.goto (-48), 3) := by decide +kernel
theorem dX0_standsBefore_85 : decode cX0_standsBefore 85 = .ok (.iload_n 1, 1) := by decide +kernel
theorem dX0_standsBefore_86 : decode cX0_standsBefore 86 = .ok (.iload_n 2, 1) := by decide +kernel
theorem dX0_standsBefore_87 : decode cX0_standsBefore 87 = .ok (.if_icmp .ge 7, 3) := by decide +kernel
theorem dX0_standsBefore_90 : decode cX0_standsBefore 90 = .ok (.iconst 1, 1) := by decide +kernel
theorem dX0_standsBefore_91 : decode cX0_standsBefore 91 = .ok (.goto 4, 3) := by decide +kernel
theorem dX0_standsBefore_94 : decode cX0_standsBefore 94 = .ok (.iconst 0, 1) := by decide +kernel
theorem dX0_standsBefore_95 : decode cX0_standsBefore 95 = .ok (.ireturn, 1) := by decide +kernel
theorem dX0_timesAt_0 : decode cX0_timesAt 0 = .ok (.iconst 0, 1) := by decide +kernel
theorem dX0_timesAt_1 : decode cX0_timesAt 1 = .ok (.istore_n 3, 1) := by decide +kernel
theorem dX0_timesAt_2 : decode cX0_timesAt 2 = .ok (.iconst 0, 1) := by decide +kernel
theorem dX0_timesAt_3 : decode cX0_timesAt 3 = .ok (.istore 4, 2) := by decide +kernel
theorem dX0_timesAt_5 : decode cX0_timesAt 5 = .ok (.iload 4, 2) := by decide +kernel
theorem dX0_timesAt_7 : decode cX0_timesAt 7 = .ok (.aload_n 0, 1) := by decide +kernel
theorem dX0_timesAt_8 : decode cX0_timesAt 8 = .ok (.getfield 18, 3) := by decide +kernel
theorem dX0_timesAt_11 : decode cX0_timesAt 11 = .ok (.if_icmp .ge 28, 3) := by decide +kernel
theorem dX0_timesAt_14 : decode cX0_timesAt 14 = .ok (.aload_n 0, 1) := by decide +kernel
theorem dX0_timesAt_15 : decode cX0_timesAt 15 = .ok (.getfield 9, 3) := by decide +kernel
theorem dX0_timesAt_18 : decode cX0_timesAt 18 = .ok (.iload 4, 2) := by decide +kernel
theorem dX0_timesAt_20 : decode cX0_timesAt 20 = .ok (.bipush 6, 2) := by decide +kernel
theorem dX0_timesAt_22 : decode cX0_timesAt 22 = .ok (.imul, 1) := by decide +kernel
theorem dX0_timesAt_23 : decode cX0_timesAt 23 = .ok (.iload_n 2, 1) := by decide +kernel
theorem dX0_timesAt_24 : decode cX0_timesAt 24 = .ok (.iadd, 1) := by decide +kernel
theorem dX0_timesAt_25 : decode cX0_timesAt 25 = .ok (.iaload, 1) := by decide +kernel
theorem dX0_timesAt_26 : decode cX0_timesAt 26 = .ok (.iload_n 1, 1) := by decide +kernel
theorem dX0_timesAt_27 : decode cX0_timesAt 27 = .ok (.if_icmp .ne 6, 3) := by decide +kernel
theorem dX0_timesAt_30 : decode cX0_timesAt 30 = .ok (.iinc 3 1, 3) := by decide +kernel
theorem dX0_timesAt_33 : decode cX0_timesAt 33 = .ok (.iinc 4 1, 3) := by decide +kernel
theorem dX0_timesAt_36 : decode cX0_timesAt 36 = .ok (.goto (-31), 3) := by decide +kernel
theorem dX0_timesAt_39 : decode cX0_timesAt 39 = .ok (.iload_n 3, 1) := by decide +kernel
theorem dX0_timesAt_40 : decode cX0_timesAt 40 = .ok (.ireturn, 1) := by decide +kernel
set_option maxRecDepth 20000 in
theorem ggX1_init_X1_clear : GoodIn wsX1_init wsX1_clear := goodIn_r _ [14, 5, 7, 8, 15, 16, 17, 18] (by decide +kernel) (by decide +kernel)
set_option maxRecDepth 20000 in
theorem gX1_init_X1_clear : GoodIn wsX1_init (wsV RX1 26 RX1 yX1_clear wsX1_clear) := goodIn_app (goodIn_of _ (by decide +kernel)) ggX1_init_X1_clear
theorem dX1_init_0 : decode cX1_init 0 = .ok (.aload_n 0, 1) := by decide +kernel
theorem dX1_init_1 : decode cX1_init 1 = .ok (.invokespecial 3, 3) := by decide +kernel
theorem dX1_init_4 : decode cX1_init 4 = .ok (.aload_n 0, 1) := by decide +kernel
theorem dX1_init_5 : decode cX1_init 5 = .ok (.bipush 6, 2) := by decide +kernel
theorem dX1_init_7 : decode cX1_init 7 = .ok (.newarray .int, 2) := by decide +kernel
theorem dX1_init_9 : decode cX1_init 9 = .ok (.putfield 9, 3) := by decide +kernel
theorem dX1_init_12 : decode cX1_init 12 = .ok (.aload_n 0, 1) := by decide +kernel
theorem dX1_init_13 : decode cX1_init 13 = .ok (.bipush 6, 2) := by decide +kernel
theorem dX1_init_15 : decode cX1_init 15 = .ok (.newarray .boolean, 2) := by decide +kernel
theorem dX1_init_17 : decode cX1_init 17 = .ok (.putfield 15, 3) := by decide +kernel
theorem dX1_init_20 : decode cX1_init 20 = .ok (.aload_n 0, 1) := by decide +kernel
theorem dX1_init_21 : decode cX1_init 21 = .ok (.bipush 6, 2) := by decide +kernel
theorem dX1_init_23 : decode cX1_init 23 = .ok (.newarray .int, 2) := by decide +kernel
theorem dX1_init_25 : decode cX1_init 25 = .ok (.putfield 19, 3) := by decide +kernel
theorem dX1_init_28 : decode cX1_init 28 = .ok (.aload_n 0, 1) := by decide +kernel
theorem dX1_init_29 : decode cX1_init 29 = .ok (.iconst 0, 1) := by decide +kernel
theorem dX1_init_30 : decode cX1_init 30 = .ok (.putfield 22, 3) := by decide +kernel
theorem dX1_init_33 : decode cX1_init 33 = .ok (.aload_n 0, 1) := by decide +kernel
theorem dX1_init_34 : decode cX1_init 34 = .ok (.invokevirtual 26, 3) := by decide +kernel
theorem dX1_init_37 : decode cX1_init 37 = .ok (.return_, 1) := by decide +kernel
theorem dX1_clear_0 : decode cX1_clear 0 = .ok (.iconst 0, 1) := by decide +kernel
theorem dX1_clear_1 : decode cX1_clear 1 = .ok (.istore_n 1, 1) := by decide +kernel
theorem dX1_clear_2 : decode cX1_clear 2 = .ok (.iload_n 1, 1) := by decide +kernel
theorem dX1_clear_3 : decode cX1_clear 3 = .ok (.bipush 6, 2) := by decide +kernel
theorem dX1_clear_5 : decode cX1_clear 5 = .ok (.if_icmp .ge 30, 3) := by decide +kernel
theorem dX1_clear_8 : decode cX1_clear 8 = .ok (.aload_n 0, 1) := by decide +kernel
theorem dX1_clear_9 : decode cX1_clear 9 = .ok (.getfield 9, 3) := by decide +kernel
theorem dX1_clear_12 : decode cX1_clear 12 = .ok (.iload_n 1, 1) := by decide +kernel
theorem dX1_clear_13 : decode cX1_clear 13 = .ok (.iconst (-1), 1) := by decide +kernel
theorem dX1_clear_14 : decode cX1_clear 14 = .ok (.iastore, 1) := by decide +kernel
theorem dX1_clear_15 : decode cX1_clear 15 = .ok (.aload_n 0, 1) := by decide +kernel
theorem dX1_clear_16 : decode cX1_clear 16 = .ok (.getfield 15, 3) := by decide +kernel
theorem dX1_clear_19 : decode cX1_clear 19 = .ok (.iload_n 1, 1) := by decide +kernel
theorem dX1_clear_20 : decode cX1_clear 20 = .ok (.iconst 0, 1) := by decide +kernel
theorem dX1_clear_21 : decode cX1_clear 21 = .ok (.bastore, 1) := by decide +kernel
theorem dX1_clear_22 : decode cX1_clear 22 = .ok (.aload_n 0, 1) := by decide +kernel
theorem dX1_clear_23 : decode cX1_clear 23 = .ok (.getfield 19, 3) := by decide +kernel
theorem dX1_clear_26 : decode cX1_clear 26 = .ok (.iload_n 1, 1) := by decide +kernel
theorem dX1_clear_27 : decode cX1_clear 27 = .ok (.iconst 0, 1) := by decide +kernel
theorem dX1_clear_28 : decode cX1_clear 28 = .ok (.iastore, 1) := by decide +kernel
theorem dX1_clear_29 : decode cX1_clear 29 = .ok (.iinc 1 1, 3) := by decide +kernel
theorem dX1_clear_32 : decode cX1_clear 32 = .ok (.goto (-30), 3) := by decide +kernel
theorem dX1_clear_35 : decode cX1_clear 35 = .ok (.return_, 1) := by decide +kernel
theorem dX1_setNumber_0 : decode cX1_setNumber 0 = .ok (.aload_n 0, 1) := by decide +kernel
theorem dX1_setNumber_1 : decode cX1_setNumber 1 = .ok (.iload_n 1, 1) := by decide +kernel
theorem dX1_setNumber_2 : decode cX1_setNumber 2 = .ok (.putfield 22, 3) := by decide +kernel
theorem dX1_setNumber_5 : decode cX1_setNumber 5 = .ok (.return_, 1) := by decide +kernel
theorem dX1_heldBy_0 : decode cX1_heldBy 0 = .ok (.aload_n 0, 1) := by decide +kernel
theorem dX1_heldBy_1 : decode cX1_heldBy 1 = .ok (.getfield 9, 3) := by decide +kernel
theorem dX1_heldBy_4 : decode cX1_heldBy 4 = .ok (.iload_n 1, 1) := by decide +kernel
theorem dX1_heldBy_5 : decode cX1_heldBy 5 = .ok (.iaload, 1) := by decide +kernel
theorem dX1_heldBy_6 : decode cX1_heldBy 6 = .ok (.ireturn, 1) := by decide +kernel
theorem dX1_takeFrom_0 : decode cX1_takeFrom 0 = .ok (.aload_n 0, 1) := by decide +kernel
theorem dX1_takeFrom_1 : decode cX1_takeFrom 1 = .ok (.getfield 9, 3) := by decide +kernel
theorem dX1_takeFrom_4 : decode cX1_takeFrom 4 = .ok (.iload_n 1, 1) := by decide +kernel
theorem dX1_takeFrom_5 : decode cX1_takeFrom 5 = .ok (.iconst (-1), 1) := by decide +kernel
theorem dX1_takeFrom_6 : decode cX1_takeFrom 6 = .ok (.iastore, 1) := by decide +kernel
theorem dX1_takeFrom_7 : decode cX1_takeFrom 7 = .ok (.return_, 1) := by decide +kernel
set_option maxRecDepth 20000 in
theorem ggX1_drawFor_X1_itemAt : GoodIn wsX1_drawFor wsX1_itemAt := goodIn_r _ [7, 8, 9, 10] (by decide +kernel) (by decide +kernel)
set_option maxRecDepth 20000 in
theorem gX1_drawFor_X1_itemAt : GoodIn wsX1_drawFor (va_wsS RX1 30 yX1_itemAt wsX1_itemAt) := goodIn_app (goodIn_of _ (by decide +kernel)) ggX1_drawFor_X1_itemAt
theorem dX1_drawFor_0 : decode cX1_drawFor 0 = .ok (.aload_n 0, 1) := by decide +kernel
theorem dX1_drawFor_1 : decode cX1_drawFor 1 = .ok (.aload_n 0, 1) := by decide +kernel
theorem dX1_drawFor_2 : decode cX1_drawFor 2 = .ok (.getfield 22, 3) := by decide +kernel
theorem dX1_drawFor_5 : decode cX1_drawFor 5 = .ok (.ldc 29, 2) := by decide +kernel
theorem dX1_drawFor_7 : decode cX1_drawFor 7 = .ok (.imul, 1) := by decide +kernel
theorem dX1_drawFor_8 : decode cX1_drawFor 8 = .ok (.sipush 12345, 3) := by decide +kernel
theorem dX1_drawFor_11 : decode cX1_drawFor 11 = .ok (.iadd, 1) := by decide +kernel
theorem dX1_drawFor_12 : decode cX1_drawFor 12 = .ok (.putfield 22, 3) := by decide +kernel
theorem dX1_drawFor_15 : decode cX1_drawFor 15 = .ok (.aload_n 0, 1) := by decide +kernel
theorem dX1_drawFor_16 : decode cX1_drawFor 16 = .ok (.getfield 22, 3) := by decide +kernel
theorem dX1_drawFor_19 : decode cX1_drawFor 19 = .ok (.bipush 16, 2) := by decide +kernel
theorem dX1_drawFor_21 : decode cX1_drawFor 21 = .ok (.iushr, 1) := by decide +kernel
theorem dX1_drawFor_22 : decode cX1_drawFor 22 = .ok (.iconst 3, 1) := by decide +kernel
theorem dX1_drawFor_23 : decode cX1_drawFor 23 = .ok (.iand, 1) := by decide +kernel
theorem dX1_drawFor_24 : decode cX1_drawFor 24 = .ok (.istore_n 3, 1) := by decide +kernel
theorem dX1_drawFor_25 : decode cX1_drawFor 25 = .ok (.aload_n 0, 1) := by decide +kernel
theorem dX1_drawFor_26 : decode cX1_drawFor 26 = .ok (.getfield 9, 3) := by decide +kernel
theorem dX1_drawFor_29 : decode cX1_drawFor 29 = .ok (.iload_n 1, 1) := by decide +kernel
theorem dX1_drawFor_30 : decode cX1_drawFor 30 = .ok (.iload_n 2, 1) := by decide +kernel
theorem dX1_drawFor_31 : decode cX1_drawFor 31 = .ok (.iload_n 3, 1) := by decide +kernel
theorem dX1_drawFor_32 : decode cX1_drawFor 32 = .ok (.invokestatic 30, 3) := by decide +kernel
theorem dX1_drawFor_35 : decode cX1_drawFor 35 = .ok (.iastore, 1) := by decide +kernel
theorem dX1_drawFor_36 : decode cX1_drawFor 36 = .ok (.aload_n 0, 1) := by decide +kernel
theorem dX1_drawFor_37 : decode cX1_drawFor 37 = .ok (.getfield 9, 3) := by decide +kernel
theorem dX1_drawFor_40 : decode cX1_drawFor 40 = .ok (.iload_n 1, 1) := by decide +kernel
theorem dX1_drawFor_41 : decode cX1_drawFor 41 = .ok (.iaload, 1) := by decide +kernel
theorem dX1_drawFor_42 : decode cX1_drawFor 42 = .ok (.ireturn, 1) := by decide +kernel
theorem dX1_itemAt_0 : decode cX1_itemAt 0 = .ok (.iload_n 0, 1) := by decide +kernel
theorem dX1_itemAt_1 : decode cX1_itemAt 1 = .ok (.ifCond .ne 9, 3) := by decide +kernel
theorem dX1_itemAt_4 : decode cX1_itemAt 4 = .ok (.getstatic 34, 3) := by decide +kernel
theorem dX1_itemAt_7 : decode cX1_itemAt 7 = .ok (.iload_n 1, 1) := by decide +kernel
theorem dX1_itemAt_8 : decode cX1_itemAt 8 = .ok (.iaload, 1) := by decide +kernel
theorem dX1_itemAt_9 : decode cX1_itemAt 9 = .ok (.ireturn, 1) := by decide +kernel
theorem dX1_itemAt_10 : decode cX1_itemAt 10 = .ok (.iload_n 0, 1) := by decide +kernel
theorem dX1_itemAt_11 : decode cX1_itemAt 11 = .ok (.iconst 2, 1) := by decide +kernel
theorem dX1_itemAt_12 : decode cX1_itemAt 12 = .ok (.if_icmp .gt 11, 3) := by decide +kernel
theorem dX1_itemAt_15 : decode cX1_itemAt 15 = .ok (.getstatic 37, 3) := by decide +kernel
theorem dX1_itemAt_18 : decode cX1_itemAt 18 = .ok (.iload_n 1, 1) := by decide +kernel
theorem dX1_itemAt_19 : decode cX1_itemAt 19 = .ok (.iaload, 1) := by decide +kernel
theorem dX1_itemAt_20 : decode cX1_itemAt 20 = .ok (.goto 8, 3) := by decide +kernel
theorem dX1_itemAt_23 : decode cX1_itemAt 23 = .ok (.getstatic 40, 3) := by decide +kernel
theorem dX1_itemAt_26 : decode cX1_itemAt 26 = .ok (.iload_n 1, 1) := by decide +kernel
theorem dX1_itemAt_27 : decode cX1_itemAt 27 = .ok (.iaload, 1) := by decide +kernel
theorem dX1_itemAt_28 : decode cX1_itemAt 28 = .ok (.ireturn, 1) := by decide +kernel
theorem dX1_ticksStunned_0 : decode cX1_ticksStunned 0 = .ok (.aload_n 0, 1) := by decide +kernel
theorem dX1_ticksStunned_1 : decode cX1_ticksStunned 1 = .ok (.getfield 19, 3) := by decide +kernel
theorem dX1_ticksStunned_4 : decode cX1_ticksStunned 4 = .ok (.iload_n 1, 1) := by decide +kernel
theorem dX1_ticksStunned_5 : decode cX1_ticksStunned 5 = .ok (.iaload, 1) := by decide +kernel
theorem dX1_ticksStunned_6 : decode cX1_ticksStunned 6 = .ok (.iload_n 2, 1) := by decide +kernel
theorem dX1_ticksStunned_7 : decode cX1_ticksStunned 7 = .ok (.isub, 1) := by decide +kernel
theorem dX1_ticksStunned_8 : decode cX1_ticksStunned 8 = .ok (.iconst 0, 1) := by decide +kernel
theorem dX1_ticksStunned_9 : decode cX1_ticksStunned 9 = .ok (.invokestatic 43, 3) := by decide +kernel
theorem dX1_ticksStunned_12 : decode cX1_ticksStunned 12 = .ok (.ireturn, 1) := by decide +kernel
theorem dX1_wake_0 : decode cX1_wake 0 = .ok (.aload_n 0, 1) := by decide +kernel
theorem dX1_wake_1 : decode cX1_wake 1 = .ok (.getfield 19, 3) := by decide +kernel
theorem dX1_wake_4 : decode cX1_wake 4 = .ok (.iload_n 1, 1) := by decide +kernel
theorem dX1_wake_5 : decode cX1_wake 5 = .ok (.iconst 0, 1) := by decide +kernel
theorem dX1_wake_6 : decode cX1_wake 6 = .ok (.iastore, 1) := by decide +kernel
theorem dX1_wake_7 : decode cX1_wake 7 = .ok (.return_, 1) := by decide +kernel
theorem dX1_shield_0 : decode cX1_shield 0 = .ok (.aload_n 0, 1) := by decide +kernel
theorem dX1_shield_1 : decode cX1_shield 1 = .ok (.getfield 15, 3) := by decide +kernel
theorem dX1_shield_4 : decode cX1_shield 4 = .ok (.iload_n 1, 1) := by decide +kernel
theorem dX1_shield_5 : decode cX1_shield 5 = .ok (.iconst 1, 1) := by decide +kernel
theorem dX1_shield_6 : decode cX1_shield 6 = .ok (.bastore, 1) := by decide +kernel
theorem dX1_shield_7 : decode cX1_shield 7 = .ok (.return_, 1) := by decide +kernel
theorem dX1_hit_0 : decode cX1_hit 0 = .ok (.aload_n 0, 1) := by decide +kernel
theorem dX1_hit_1 : decode cX1_hit 1 = .ok (.getfield 15, 3) := by decide +kernel
theorem dX1_hit_4 : decode cX1_hit 4 = .ok (.iload_n 1, 1) := by decide +kernel
theorem dX1_hit_5 : decode cX1_hit 5 = .ok (.baload, 1) := by decide +kernel
theorem dX1_hit_6 : decode cX1_hit 6 = .ok (.ifCond .eq 12, 3) := by decide +kernel
theorem dX1_hit_9 : decode cX1_hit 9 = .ok (.aload_n 0, 1) := by decide +kernel
theorem dX1_hit_10 : decode cX1_hit 10 = .ok (.getfield 15, 3) := by decide +kernel
theorem dX1_hit_13 : decode cX1_hit 13 = .ok (.iload_n 1, 1) := by decide +kernel
theorem dX1_hit_14 : decode cX1_hit 14 = .ok (.iconst 0, 1) := by decide +kernel
theorem dX1_hit_15 : decode cX1_hit 15 = .ok (.bastore, 1) := by decide +kernel
theorem dX1_hit_16 : decode cX1_hit 16 = .ok (.iconst 0, 1) := by decide +kernel
theorem dX1_hit_17 : decode cX1_hit 17 = .ok (.ireturn, 1) := by decide +kernel
theorem dX1_hit_18 : decode cX1_hit 18 = .ok (.aload_n 0, 1) := by decide +kernel
theorem dX1_hit_19 : decode cX1_hit 19 = .ok (.getfield 19, 3) := by decide +kernel
theorem dX1_hit_22 : decode cX1_hit 22 = .ok (.iload_n 1, 1) := by decide +kernel
theorem dX1_hit_23 : decode cX1_hit 23 = .ok (.aload_n 0, 1) := by decide +kernel
theorem dX1_hit_24 : decode cX1_hit 24 = .ok (.getfield 19, 3) := by decide +kernel
theorem dX1_hit_27 : decode cX1_hit 27 = .ok (.iload_n 1, 1) := by decide +kernel
theorem dX1_hit_28 : decode cX1_hit 28 = .ok (.iaload, 1) := by decide +kernel
theorem dX1_hit_29 : decode cX1_hit 29 = .ok (.iload_n 2, 1) := by decide +kernel
theorem dX1_hit_30 : decode cX1_hit 30 = .ok (.invokestatic 43, 3) := by decide +kernel
theorem dX1_hit_33 : decode cX1_hit 33 = .ok (.iastore, 1) := by decide +kernel
theorem dX1_hit_34 : decode cX1_hit 34 = .ok (.iconst 1, 1) := by decide +kernel
theorem dX1_hit_35 : decode cX1_hit 35 = .ok (.ireturn, 1) := by decide +kernel
theorem dX2_init_0 : decode cX2_init 0 = .ok (.aload_n 0, 1) := by decide +kernel
theorem dX2_init_1 : decode cX2_init 1 = .ok (.invokespecial 3, 3) := by decide +kernel
theorem dX2_init_4 : decode cX2_init 4 = .ok (.aload_n 0, 1) := by decide +kernel
theorem dX2_init_5 : decode cX2_init 5 = .ok (.sipush 512, 3) := by decide +kernel
theorem dX2_init_8 : decode cX2_init 8 = .ok (.newarray .int, 2) := by decide +kernel
theorem dX2_init_10 : decode cX2_init 10 = .ok (.putfield 9, 3) := by decide +kernel
theorem dX2_init_13 : decode cX2_init 13 = .ok (.aload_n 0, 1) := by decide +kernel
theorem dX2_init_14 : decode cX2_init 14 = .ok (.sipush 512, 3) := by decide +kernel
theorem dX2_init_17 : decode cX2_init 17 = .ok (.newarray .int, 2) := by decide +kernel
theorem dX2_init_19 : decode cX2_init 19 = .ok (.putfield 15, 3) := by decide +kernel
theorem dX2_init_22 : decode cX2_init 22 = .ok (.aload_n 0, 1) := by decide +kernel
theorem dX2_init_23 : decode cX2_init 23 = .ok (.iconst 0, 1) := by decide +kernel
theorem dX2_init_24 : decode cX2_init 24 = .ok (.putfield 18, 3) := by decide +kernel
theorem dX2_init_27 : decode cX2_init 27 = .ok (.return_, 1) := by decide +kernel
theorem dX2_clear_0 : decode cX2_clear 0 = .ok (.aload_n 0, 1) := by decide +kernel
theorem dX2_clear_1 : decode cX2_clear 1 = .ok (.iconst 0, 1) := by decide +kernel
theorem dX2_clear_2 : decode cX2_clear 2 = .ok (.putfield 18, 3) := by decide +kernel
theorem dX2_clear_5 : decode cX2_clear 5 = .ok (.return_, 1) := by decide +kernel
theorem dX2_isFull_0 : decode cX2_isFull 0 = .ok (.aload_n 0, 1) := by decide +kernel
theorem dX2_isFull_1 : decode cX2_isFull 1 = .ok (.getfield 18, 3) := by decide +kernel
theorem dX2_isFull_4 : decode cX2_isFull 4 = .ok (.sipush 512, 3) := by decide +kernel
theorem dX2_isFull_7 : decode cX2_isFull 7 = .ok (.if_icmp .lt 7, 3) := by decide +kernel
theorem dX2_isFull_10 : decode cX2_isFull 10 = .ok (.iconst 1, 1) := by decide +kernel
theorem dX2_isFull_11 : decode cX2_isFull 11 = .ok (.goto 4, 3) := by decide +kernel
theorem dX2_isFull_14 : decode cX2_isFull 14 = .ok (.iconst 0, 1) := by decide +kernel
theorem dX2_isFull_15 : decode cX2_isFull 15 = .ok (.ireturn, 1) := by decide +kernel
theorem dX2_note_0 : decode cX2_note 0 = .ok (.aload_n 0, 1) := by decide +kernel
theorem dX2_note_1 : decode cX2_note 1 = .ok (.getfield 9, 3) := by decide +kernel
theorem dX2_note_4 : decode cX2_note 4 = .ok (.aload_n 0, 1) := by decide +kernel
theorem dX2_note_5 : decode cX2_note 5 = .ok (.getfield 18, 3) := by decide +kernel
theorem dX2_note_8 : decode cX2_note 8 = .ok (.iload_n 1, 1) := by decide +kernel
theorem dX2_note_9 : decode cX2_note 9 = .ok (.iastore, 1) := by decide +kernel
theorem dX2_note_10 : decode cX2_note 10 = .ok (.aload_n 0, 1) := by decide +kernel
theorem dX2_note_11 : decode cX2_note 11 = .ok (.getfield 15, 3) := by decide +kernel
theorem dX2_note_14 : decode cX2_note 14 = .ok (.aload_n 0, 1) := by decide +kernel
theorem dX2_note_15 : decode cX2_note 15 = .ok (.getfield 18, 3) := by decide +kernel
theorem dX2_note_18 : decode cX2_note 18 = .ok (.iload_n 2, 1) := by decide +kernel
theorem dX2_note_19 : decode cX2_note 19 = .ok (.iastore, 1) := by decide +kernel
theorem dX2_note_20 : decode cX2_note 20 = .ok (.aload_n 0, 1) := by decide +kernel
theorem dX2_note_21 : decode cX2_note 21 = .ok (.dup, 1) := by decide +kernel
theorem dX2_note_22 : decode cX2_note 22 = .ok (.getfield 18, 3) := by decide +kernel
theorem dX2_note_25 : decode cX2_note 25 = .ok (.iconst 1, 1) := by decide +kernel
theorem dX2_note_26 : decode cX2_note 26 = .ok (.iadd, 1) := by decide +kernel
theorem dX2_note_27 : decode cX2_note 27 = .ok (.putfield 18, 3) := by decide +kernel
theorem dX2_note_30 : decode cX2_note 30 = .ok (.return_, 1) := by decide +kernel
theorem dX2_count_0 : decode cX2_count 0 = .ok (.aload_n 0, 1) := by decide +kernel
theorem dX2_count_1 : decode cX2_count 1 = .ok (.getfield 18, 3) := by decide +kernel
theorem dX2_count_4 : decode cX2_count 4 = .ok (.ireturn, 1) := by decide +kernel
theorem dX2_kartAt_0 : decode cX2_kartAt 0 = .ok (.aload_n 0, 1) := by decide +kernel
theorem dX2_kartAt_1 : decode cX2_kartAt 1 = .ok (.getfield 9, 3) := by decide +kernel
theorem dX2_kartAt_4 : decode cX2_kartAt 4 = .ok (.iload_n 1, 1) := by decide +kernel
theorem dX2_kartAt_5 : decode cX2_kartAt 5 = .ok (.iaload, 1) := by decide +kernel
theorem dX2_kartAt_6 : decode cX2_kartAt 6 = .ok (.ireturn, 1) := by decide +kernel
theorem dX2_gateAt_0 : decode cX2_gateAt 0 = .ok (.aload_n 0, 1) := by decide +kernel
theorem dX2_gateAt_1 : decode cX2_gateAt 1 = .ok (.getfield 15, 3) := by decide +kernel
theorem dX2_gateAt_4 : decode cX2_gateAt 4 = .ok (.iload_n 1, 1) := by decide +kernel
theorem dX2_gateAt_5 : decode cX2_gateAt 5 = .ok (.iaload, 1) := by decide +kernel
theorem dX2_gateAt_6 : decode cX2_gateAt 6 = .ok (.ireturn, 1) := by decide +kernel
theorem dX3_init_0 : decode cX3_init 0 = .ok (.aload_n 0, 1) := by decide +kernel
theorem dX3_init_1 : decode cX3_init 1 = .ok (.invokespecial 3, 3) := by decide +kernel
theorem dX3_init_4 : decode cX3_init 4 = .ok (.aload_n 0, 1) := by decide +kernel
theorem dX3_init_5 : decode cX3_init 5 = .ok (.aload_n 1, 1) := by decide +kernel
theorem dX3_init_6 : decode cX3_init 6 = .ok (.putfield 9, 3) := by decide +kernel
theorem dX3_init_9 : decode cX3_init 9 = .ok (.aload_n 0, 1) := by decide +kernel
theorem dX3_init_10 : decode cX3_init 10 = .ok (.bipush 6, 2) := by decide +kernel
theorem dX3_init_12 : decode cX3_init 12 = .ok (.newarray .int, 2) := by decide +kernel
theorem dX3_init_14 : decode cX3_init 14 = .ok (.putfield 15, 3) := by decide +kernel
theorem dX3_init_17 : decode cX3_init 17 = .ok (.aload_n 0, 1) := by decide +kernel
theorem dX3_init_18 : decode cX3_init 18 = .ok (.bipush 6, 2) := by decide +kernel
theorem dX3_init_20 : decode cX3_init 20 = .ok (.newarray .int, 2) := by decide +kernel
theorem dX3_init_22 : decode cX3_init 22 = .ok (.putfield 19, 3) := by decide +kernel
theorem dX3_init_25 : decode cX3_init 25 = .ok (.aload_n 0, 1) := by decide +kernel
theorem dX3_init_26 : decode cX3_init 26 = .ok (.bipush 6, 2) := by decide +kernel
theorem dX3_init_28 : decode cX3_init 28 = .ok (.newarray .int, 2) := by decide +kernel
theorem dX3_init_30 : decode cX3_init 30 = .ok (.putfield 22, 3) := by decide +kernel
theorem dX3_init_33 : decode cX3_init 33 = .ok (.aload_n 0, 1) := by decide +kernel
theorem dX3_init_34 : decode cX3_init 34 = .ok (.bipush 6, 2) := by decide +kernel
theorem dX3_init_36 : decode cX3_init 36 = .ok (.newarray .int, 2) := by decide +kernel
theorem dX3_init_38 : decode cX3_init 38 = .ok (.putfield 25, 3) := by decide +kernel
theorem dX3_init_41 : decode cX3_init 41 = .ok (.aload_n 0, 1) := by decide +kernel
theorem dX3_init_42 : decode cX3_init 42 = .ok (.bipush 6, 2) := by decide +kernel
theorem dX3_init_44 : decode cX3_init 44 = .ok (.newarray .int, 2) := by decide +kernel
theorem dX3_init_46 : decode cX3_init 46 = .ok (.putfield 28, 3) := by decide +kernel
theorem dX3_init_49 : decode cX3_init 49 = .ok (.aload_n 0, 1) := by decide +kernel
theorem dX3_init_50 : decode cX3_init 50 = .ok (.bipush 6, 2) := by decide +kernel
theorem dX3_init_52 : decode cX3_init 52 = .ok (.newarray .int, 2) := by decide +kernel
theorem dX3_init_54 : decode cX3_init 54 = .ok (.putfield 31, 3) := by decide +kernel
theorem dX3_init_57 : decode cX3_init 57 = .ok (.aload_n 0, 1) := by decide +kernel
theorem dX3_init_58 : decode cX3_init 58 = .ok (.bipush 6, 2) := by decide +kernel
theorem dX3_init_60 : decode cX3_init 60 = .ok (.newarray .int, 2) := by decide +kernel
theorem dX3_init_62 : decode cX3_init 62 = .ok (.putfield 34, 3) := by decide +kernel
theorem dX3_init_65 : decode cX3_init 65 = .ok (.aload_n 0, 1) := by decide +kernel
theorem dX3_init_66 : decode cX3_init 66 = .ok (.iconst 0, 1) := by decide +kernel
theorem dX3_init_67 : decode cX3_init 67 = .ok (.putfield 37, 3) := by decide +kernel
theorem dX3_init_70 : decode cX3_init 70 = .ok (.aload_n 0, 1) := by decide +kernel
theorem dX3_init_71 : decode cX3_init 71 = .ok (.iconst 0, 1) := by decide +kernel
theorem dX3_init_72 : decode cX3_init 72 = .ok (.putfield 41, 3) := by decide +kernel
theorem dX3_init_75 : decode cX3_init 75 = .ok (.aload_n 0, 1) := by decide +kernel
theorem dX3_init_76 : decode cX3_init 76 = .ok (.iconst 0, 1) := by decide +kernel
theorem dX3_init_77 : decode cX3_init 77 = .ok (.putfield 44, 3) := by decide +kernel
theorem dX3_init_80 : decode cX3_init 80 = .ok (.return_, 1) := by decide +kernel
theorem dX3_begin_0 : decode cX3_begin 0 = .ok (.aload_n 0, 1) := by decide +kernel
theorem dX3_begin_1 : decode cX3_begin 1 = .ok (.iload_n 1, 1) := by decide +kernel
theorem dX3_begin_2 : decode cX3_begin 2 = .ok (.putfield 37, 3) := by decide +kernel
theorem dX3_begin_5 : decode cX3_begin 5 = .ok (.aload_n 0, 1) := by decide +kernel
theorem dX3_begin_6 : decode cX3_begin 6 = .ok (.iload_n 2, 1) := by decide +kernel
theorem dX3_begin_7 : decode cX3_begin 7 = .ok (.putfield 41, 3) := by decide +kernel
theorem dX3_begin_10 : decode cX3_begin 10 = .ok (.aload_n 0, 1) := by decide +kernel
theorem dX3_begin_11 : decode cX3_begin 11 = .ok (.iconst 0, 1) := by decide +kernel
theorem dX3_begin_12 : decode cX3_begin 12 = .ok (.putfield 44, 3) := by decide +kernel
theorem dX3_begin_15 : decode cX3_begin 15 = .ok (.iconst 0, 1) := by decide +kernel
theorem dX3_begin_16 : decode cX3_begin 16 = .ok (.istore_n 3, 1) := by decide +kernel
theorem dX3_begin_17 : decode cX3_begin 17 = .ok (.iload_n 3, 1) := by decide +kernel
theorem dX3_begin_18 : decode cX3_begin 18 = .ok (.bipush 6, 2) := by decide +kernel
theorem dX3_begin_20 : decode cX3_begin 20 = .ok (.if_icmp .ge 44, 3) := by decide +kernel
theorem dX3_begin_23 : decode cX3_begin 23 = .ok (.aload_n 0, 1) := by decide +kernel
theorem dX3_begin_24 : decode cX3_begin 24 = .ok (.getfield 15, 3) := by decide +kernel
theorem dX3_begin_27 : decode cX3_begin 27 = .ok (.iload_n 3, 1) := by decide +kernel
theorem dX3_begin_28 : decode cX3_begin 28 = .ok (.iconst 0, 1) := by decide +kernel
theorem dX3_begin_29 : decode cX3_begin 29 = .ok (.iastore, 1) := by decide +kernel
theorem dX3_begin_30 : decode cX3_begin 30 = .ok (.aload_n 0, 1) := by decide +kernel
theorem dX3_begin_31 : decode cX3_begin 31 = .ok (.getfield 19, 3) := by decide +kernel
theorem dX3_begin_34 : decode cX3_begin 34 = .ok (.iload_n 3, 1) := by decide +kernel
theorem dX3_begin_35 : decode cX3_begin 35 = .ok (.iconst 0, 1) := by decide +kernel
theorem dX3_begin_36 : decode cX3_begin 36 = .ok (.iastore, 1) := by decide +kernel
theorem dX3_begin_37 : decode cX3_begin 37 = .ok (.aload_n 0, 1) := by decide +kernel
theorem dX3_begin_38 : decode cX3_begin 38 = .ok (.getfield 22, 3) := by decide +kernel
theorem dX3_begin_41 : decode cX3_begin 41 = .ok (.iload_n 3, 1) := by decide +kernel
theorem dX3_begin_42 : decode cX3_begin 42 = .ok (.iconst 0, 1) := by decide +kernel
theorem dX3_begin_43 : decode cX3_begin 43 = .ok (.iastore, 1) := by decide +kernel
theorem dX3_begin_44 : decode cX3_begin 44 = .ok (.aload_n 0, 1) := by decide +kernel
theorem dX3_begin_45 : decode cX3_begin 45 = .ok (.getfield 25, 3) := by decide +kernel
theorem dX3_begin_48 : decode cX3_begin 48 = .ok (.iload_n 3, 1) := by decide +kernel
theorem dX3_begin_49 : decode cX3_begin 49 = .ok (.iconst 0, 1) := by decide +kernel
theorem dX3_begin_50 : decode cX3_begin 50 = .ok (.iastore, 1) := by decide +kernel
theorem dX3_begin_51 : decode cX3_begin 51 = .ok (.aload_n 0, 1) := by decide +kernel
theorem dX3_begin_52 : decode cX3_begin 52 = .ok (.getfield 28, 3) := by decide +kernel
theorem dX3_begin_55 : decode cX3_begin 55 = .ok (.iload_n 3, 1) := by decide +kernel
theorem dX3_begin_56 : decode cX3_begin 56 = .ok (.iconst 0, 1) := by decide +kernel
theorem dX3_begin_57 : decode cX3_begin 57 = .ok (.iastore, 1) := by decide +kernel
theorem dX3_begin_58 : decode cX3_begin 58 = .ok (.iinc 3 1, 3) := by decide +kernel
theorem dX3_begin_61 : decode cX3_begin 61 = .ok (.goto (-44), 3) := by decide +kernel
theorem dX3_begin_64 : decode cX3_begin 64 = .ok (.return_, 1) := by decide +kernel
theorem dX3_lapGoal_0 : decode cX3_lapGoal 0 = .ok (.aload_n 0, 1) := by decide +kernel
theorem dX3_lapGoal_1 : decode cX3_lapGoal 1 = .ok (.getfield 41, 3) := by decide +kernel
theorem dX3_lapGoal_4 : decode cX3_lapGoal 4 = .ok (.ireturn, 1) := by decide +kernel
theorem dX3_gateAt_0 : decode cX3_gateAt 0 = .ok (.aload_n 0, 1) := by decide +kernel
theorem dX3_gateAt_1 : decode cX3_gateAt 1 = .ok (.getfield 15, 3) := by decide +kernel
theorem dX3_gateAt_4 : decode cX3_gateAt 4 = .ok (.iload_n 1, 1) := by decide +kernel
theorem dX3_gateAt_5 : decode cX3_gateAt 5 = .ok (.iaload, 1) := by decide +kernel
theorem dX3_gateAt_6 : decode cX3_gateAt 6 = .ok (.ireturn, 1) := by decide +kernel
theorem dX3_netLaps_0 : decode cX3_netLaps 0 = .ok (.aload_n 0, 1) := by decide +kernel
theorem dX3_netLaps_1 : decode cX3_netLaps 1 = .ok (.getfield 19, 3) := by decide +kernel
theorem dX3_netLaps_4 : decode cX3_netLaps 4 = .ok (.iload_n 1, 1) := by decide +kernel
theorem dX3_netLaps_5 : decode cX3_netLaps 5 = .ok (.iaload, 1) := by decide +kernel
theorem dX3_netLaps_6 : decode cX3_netLaps 6 = .ok (.aload_n 0, 1) := by decide +kernel
theorem dX3_netLaps_7 : decode cX3_netLaps 7 = .ok (.getfield 22, 3) := by decide +kernel
theorem dX3_netLaps_10 : decode cX3_netLaps 10 = .ok (.iload_n 1, 1) := by decide +kernel
theorem dX3_netLaps_11 : decode cX3_netLaps 11 = .ok (.iaload, 1) := by decide +kernel
theorem dX3_netLaps_12 : decode cX3_netLaps 12 = .ok (.isub, 1) := by decide +kernel
theorem dX3_netLaps_13 : decode cX3_netLaps 13 = .ok (.ireturn, 1) := by decide +kernel
set_option maxRecDepth 20000 in
theorem ggX3_missingGates_X4_needed : GoodIn wsX3_missingGates wsX4_needed := goodIn_r _ [7, 8, 20, 21, 22, 23] (by decide +kernel) (by decide +kernel)
set_option maxRecDepth 20000 in
theorem gX3_missingGates_X4_needed : GoodIn wsX3_missingGates (wsV RX3 47 RX4 yX4_needed wsX4_needed) := goodIn_app (goodIn_of _ (by decide +kernel)) ggX3_missingGates_X4_needed
theorem dX3_missingGates_0 : decode cX3_missingGates 0 = .ok (.aload_n 0, 1) := by decide +kernel
theorem dX3_missingGates_1 : decode cX3_missingGates 1 = .ok (.getfield 9, 3) := by decide +kernel
theorem dX3_missingGates_4 : decode cX3_missingGates 4 = .ok (.invokevirtual 47, 3) := by decide +kernel
theorem dX3_missingGates_7 : decode cX3_missingGates 7 = .ok (.aload_n 0, 1) := by decide +kernel
theorem dX3_missingGates_8 : decode cX3_missingGates 8 = .ok (.getfield 25, 3) := by decide +kernel
theorem dX3_missingGates_11 : decode cX3_missingGates 11 = .ok (.iload_n 1, 1) := by decide +kernel
theorem dX3_missingGates_12 : decode cX3_missingGates 12 = .ok (.iaload, 1) := by decide +kernel
theorem dX3_missingGates_13 : decode cX3_missingGates 13 = .ok (.iconst (-1), 1) := by decide +kernel
theorem dX3_missingGates_14 : decode cX3_missingGates 14 = .ok (.ixor, 1) := by decide +kernel
theorem dX3_missingGates_15 : decode cX3_missingGates 15 = .ok (.iand, 1) := by decide +kernel
theorem dX3_missingGates_16 : decode cX3_missingGates 16 = .ok (.ireturn, 1) := by decide +kernel
theorem dX3_isFinished_0 : decode cX3_isFinished 0 = .ok (.aload_n 0, 1) := by decide +kernel
theorem dX3_isFinished_1 : decode cX3_isFinished 1 = .ok (.getfield 19, 3) := by decide +kernel
theorem dX3_isFinished_4 : decode cX3_isFinished 4 = .ok (.iload_n 1, 1) := by decide +kernel
theorem dX3_isFinished_5 : decode cX3_isFinished 5 = .ok (.iaload, 1) := by decide +kernel
theorem dX3_isFinished_6 : decode cX3_isFinished 6 = .ok (.aload_n 0, 1) := by decide +kernel
theorem dX3_isFinished_7 : decode cX3_isFinished 7 = .ok (.getfield 41, 3) := by decide +kernel
theorem dX3_isFinished_10 : decode cX3_isFinished 10 = .ok (.if_icmp .lt 7, 3) := by decide +kernel
theorem dX3_isFinished_13 : decode cX3_isFinished 13 = .ok (.iconst 1, 1) := by decide +kernel
theorem dX3_isFinished_14 : decode cX3_isFinished 14 = .ok (.goto 4, 3) := by decide +kernel
theorem dX3_isFinished_17 : decode cX3_isFinished 17 = .ok (.iconst 0, 1) := by decide +kernel
theorem dX3_isFinished_18 : decode cX3_isFinished 18 = .ok (.ireturn, 1) := by decide +kernel
set_option maxRecDepth 20000 in
theorem ggX3_isWorthPoints_X3_isFinished : GoodIn wsX3_isWorthPoints wsX3_isFinished := goodIn_r _ [5, 6, 7, 13, 14, 15, 16, 17, 18, 19, 20, 21, 22, 23] (by decide +kernel) (by decide +kernel)
set_option maxRecDepth 20000 in
theorem gX3_isWorthPoints_X3_isFinished : GoodIn wsX3_isWorthPoints (wsV RX3 53 RX3 yX3_isFinished wsX3_isFinished) := goodIn_app (goodIn_of _ (by decide +kernel)) ggX3_isWorthPoints_X3_isFinished
set_option maxRecDepth 20000 in
theorem ggX3_isWorthPoints_X3_netLaps : GoodIn wsX3_isWorthPoints wsX3_netLaps := goodIn_r _ [11, 6, 12, 13, 14, 15, 16, 17, 18, 19, 20, 21, 22, 23] (by decide +kernel) (by decide +kernel)
set_option maxRecDepth 20000 in
theorem gX3_isWorthPoints_X3_netLaps : GoodIn wsX3_isWorthPoints (wsV RX3 57 RX3 yX3_netLaps wsX3_netLaps) := goodIn_app (goodIn_of _ (by decide +kernel)) ggX3_isWorthPoints_X3_netLaps
theorem dX3_isWorthPoints_0 : decode cX3_isWorthPoints 0 = .ok (.aload_n 0, 1) := by decide +kernel
theorem dX3_isWorthPoints_1 : decode cX3_isWorthPoints 1 = .ok (.iload_n 1, 1) := by decide +kernel
theorem dX3_isWorthPoints_2 : decode cX3_isWorthPoints 2 = .ok (.invokevirtual 53, 3) := by decide +kernel
theorem dX3_isWorthPoints_5 : decode cX3_isWorthPoints 5 = .ok (.ifCond .ne 11, 3) := by decide +kernel
theorem dX3_isWorthPoints_8 : decode cX3_isWorthPoints 8 = .ok (.aload_n 0, 1) := by decide +kernel
theorem dX3_isWorthPoints_9 : decode cX3_isWorthPoints 9 = .ok (.iload_n 1, 1) := by decide +kernel
theorem dX3_isWorthPoints_10 : decode cX3_isWorthPoints 10 = .ok (.invokevirtual 57, 3) := by decide +kernel
theorem dX3_isWorthPoints_13 : decode cX3_isWorthPoints 13 = .ok (.ifCond .le 7, 3) := by decide +kernel
theorem dX3_isWorthPoints_16 : decode cX3_isWorthPoints 16 = .ok (.iconst 1, 1) := by decide +kernel
theorem dX3_isWorthPoints_17 : decode cX3_isWorthPoints 17 = .ok (.goto 4, 3) := by decide +kernel
theorem dX3_isWorthPoints_20 : decode cX3_isWorthPoints 20 = .ok (.iconst 0, 1) := by decide +kernel
theorem dX3_isWorthPoints_21 : decode cX3_isWorthPoints 21 = .ok (.ireturn, 1) := by decide +kernel
set_option maxRecDepth 20000 in
theorem ggX3_move_X4_leads : GoodIn wsX3_move wsX4_leads := goodIn_r _ [9, 10, 11, 12, 8, 13, 14, 60, 61, 62, 63] (by decide +kernel) (by decide +kernel)
set_option maxRecDepth 20000 in
theorem gX3_move_X4_leads : GoodIn wsX3_move (wsV RX3 61 RX4 yX4_leads wsX4_leads) := goodIn_app (goodIn_of _ (by decide +kernel)) ggX3_move_X4_leads
set_option maxRecDepth 20000 in
theorem ggX3_move_X3_goBack : GoodIn wsX3_move wsX3_goBack := goodIn_r _ [19, 20, 21, 49, 50, 51, 52, 53, 54, 55, 56, 57, 58, 59] (by decide +kernel) (by decide +kernel)
set_option maxRecDepth 20000 in
theorem gX3_move_X3_goBack : GoodIn wsX3_move (wsV RX3 65 RX3 yX3_goBack wsX3_goBack) := goodIn_app (goodIn_of _ (by decide +kernel)) ggX3_move_X3_goBack
set_option maxRecDepth 20000 in
theorem ggX3_move_X3_crossLine : GoodIn wsX3_move wsX3_crossLine := goodIn_r _ [25, 21, 20, 26, 27, 28, 29, 18, 30, 4, 31, 32, 33, 8, 34, 35, 36, 37, 38, 39, 40, 49, 50, 51, 52, 53, 54, 55, 56, 57, 58, 59, 60, 61, 62, 63] (by decide +kernel) (by decide +kernel)
set_option maxRecDepth 20000 in
theorem gX3_move_X3_crossLine : GoodIn wsX3_move (wsV RX3 69 RX3 yX3_crossLine wsX3_crossLine) := goodIn_app (goodIn_of _ (by decide +kernel)) ggX3_move_X3_crossLine
set_option maxRecDepth 20000 in
theorem ggX3_move_X3_reachGate : GoodIn wsX3_move wsX3_reachGate := goodIn_r _ [44, 4, 20, 21, 45, 46, 47, 8, 48, 35, 49, 50, 51, 52, 53, 54, 55, 56, 57, 58, 59, 60, 61, 62, 63] (by decide +kernel) (by decide +kernel)
set_option maxRecDepth 20000 in
theorem gX3_move_X3_reachGate : GoodIn wsX3_move (wsV RX3 72 RX3 yX3_reachGate wsX3_reachGate) := goodIn_app (goodIn_of _ (by decide +kernel)) ggX3_move_X3_reachGate
theorem dX3_move_0 : decode cX3_move 0 = .ok (.aload_n 0, 1) := by decide +kernel
theorem dX3_move_1 : decode cX3_move 1 = .ok (.getfield 15, 3) := by decide +kernel
theorem dX3_move_4 : decode cX3_move 4 = .ok (.iload_n 1, 1) := by decide +kernel
theorem dX3_move_5 : decode cX3_move 5 = .ok (.iaload, 1) := by decide +kernel
theorem dX3_move_6 : decode cX3_move 6 = .ok (.istore_n 3, 1) := by decide +kernel
theorem dX3_move_7 : decode cX3_move 7 = .ok (.aload_n 0, 1) := by decide +kernel
theorem dX3_move_8 : decode cX3_move 8 = .ok (.dup, 1) := by decide +kernel
theorem dX3_move_9 : decode cX3_move 9 = .ok (.getfield 44, 3) := by decide +kernel
theorem dX3_move_12 : decode cX3_move 12 = .ok (.iconst 1, 1) := by decide +kernel
theorem dX3_move_13 : decode cX3_move 13 = .ok (.iadd, 1) := by decide +kernel
theorem dX3_move_14 : decode cX3_move 14 = .ok (.putfield 44, 3) := by decide +kernel
theorem dX3_move_17 : decode cX3_move 17 = .ok (.aload_n 0, 1) := by decide +kernel
theorem dX3_move_18 : decode cX3_move 18 = .ok (.getfield 28, 3) := by decide +kernel
theorem dX3_move_21 : decode cX3_move 21 = .ok (.iload_n 1, 1) := by decide +kernel
theorem dX3_move_22 : decode cX3_move 22 = .ok (.aload_n 0, 1) := by decide +kernel
theorem dX3_move_23 : decode cX3_move 23 = .ok (.getfield 44, 3) := by decide +kernel
theorem dX3_move_26 : decode cX3_move 26 = .ok (.iastore, 1) := by decide +kernel
theorem dX3_move_27 : decode cX3_move 27 = .ok (.aload_n 0, 1) := by decide +kernel
theorem dX3_move_28 : decode cX3_move 28 = .ok (.getfield 15, 3) := by decide +kernel
theorem dX3_move_31 : decode cX3_move 31 = .ok (.iload_n 1, 1) := by decide +kernel
theorem dX3_move_32 : decode cX3_move 32 = .ok (.iload_n 2, 1) := by decide +kernel
theorem dX3_move_33 : decode cX3_move 33 = .ok (.iastore, 1) := by decide +kernel
theorem dX3_move_34 : decode cX3_move 34 = .ok (.aload_n 0, 1) := by decide +kernel
theorem dX3_move_35 : decode cX3_move 35 = .ok (.getfield 9, 3) := by decide +kernel
theorem dX3_move_38 : decode cX3_move 38 = .ok (.iload_n 3, 1) := by decide +kernel
theorem dX3_move_39 : decode cX3_move 39 = .ok (.iload_n 2, 1) := by decide +kernel
theorem dX3_move_40 : decode cX3_move 40 = .ok (.invokevirtual 61, 3) := by decide +kernel
theorem dX3_move_43 : decode cX3_move 43 = .ok (.ifCond .ne 10, 3) := by decide +kernel
theorem dX3_move_46 : decode cX3_move 46 = .ok (.aload_n 0, 1) := by decide +kernel
theorem dX3_move_47 : decode cX3_move 47 = .ok (.iload_n 1, 1) := by decide +kernel
theorem dX3_move_48 : decode cX3_move 48 = .ok (.iload_n 3, 1) := by decide +kernel
theorem dX3_move_49 : decode cX3_move 49 = .ok (.invokevirtual 65, 3) := by decide +kernel
theorem dX3_move_52 : decode cX3_move 52 = .ok (.ireturn, 1) := by decide +kernel
theorem dX3_move_53 : decode cX3_move 53 = .ok (.iload_n 2, 1) := by decide +kernel
theorem dX3_move_54 : decode cX3_move 54 = .ok (.ifCond .ne 11, 3) := by decide +kernel
theorem dX3_move_57 : decode cX3_move 57 = .ok (.aload_n 0, 1) := by decide +kernel
theorem dX3_move_58 : decode cX3_move 58 = .ok (.iload_n 1, 1) := by decide +kernel
theorem dX3_move_59 : decode cX3_move 59 = .ok (.invokevirtual 69, 3) := by decide +kernel
theorem dX3_move_62 : decode cX3_move 62 = .ok (.goto 9, 3) := by decide +kernel
theorem dX3_move_65 : decode cX3_move 65 = .ok (.aload_n 0, 1) := by decide +kernel
theorem dX3_move_66 : decode cX3_move 66 = .ok (.iload_n 1, 1) := by decide +kernel
theorem dX3_move_67 : decode cX3_move 67 = .ok (.iload_n 2, 1) := by decide +kernel
theorem dX3_move_68 : decode cX3_move 68 = .ok (.invokevirtual 72, 3) := by decide +kernel
theorem dX3_move_71 : decode cX3_move 71 = .ok (.ireturn, 1) := by decide +kernel
theorem dX3_goBack_0 : decode cX3_goBack 0 = .ok (.iload_n 2, 1) := by decide +kernel
theorem dX3_goBack_1 : decode cX3_goBack 1 = .ok (.ifCond .ne 16, 3) := by decide +kernel
theorem dX3_goBack_4 : decode cX3_goBack 4 = .ok (.aload_n 0, 1) := by decide +kernel
theorem dX3_goBack_5 : decode cX3_goBack 5 = .ok (.getfield 22, 3) := by decide +kernel
theorem dX3_goBack_8 : decode cX3_goBack 8 = .ok (.iload_n 1, 1) := by decide +kernel
theorem dX3_goBack_9 : decode cX3_goBack 9 = .ok (.dup2, 1) := by decide +kernel
theorem dX3_goBack_10 : decode cX3_goBack 10 = .ok (.iaload, 1) := by decide +kernel
theorem dX3_goBack_11 : decode cX3_goBack 11 = .ok (.iconst 1, 1) := by decide +kernel
theorem dX3_goBack_12 : decode cX3_goBack 12 = .ok (.iadd, 1) := by decide +kernel
theorem dX3_goBack_13 : decode cX3_goBack 13 = .ok (.iastore, 1) := by decide +kernel
theorem dX3_goBack_14 : decode cX3_goBack 14 = .ok (.goto 17, 3) := by decide +kernel
theorem dX3_goBack_17 : decode cX3_goBack 17 = .ok (.aload_n 0, 1) := by decide +kernel
theorem dX3_goBack_18 : decode cX3_goBack 18 = .ok (.getfield 25, 3) := by decide +kernel
theorem dX3_goBack_21 : decode cX3_goBack 21 = .ok (.iload_n 1, 1) := by decide +kernel
theorem dX3_goBack_22 : decode cX3_goBack 22 = .ok (.dup2, 1) := by decide +kernel
theorem dX3_goBack_23 : decode cX3_goBack 23 = .ok (.iaload, 1) := by decide +kernel
theorem dX3_goBack_24 : decode cX3_goBack 24 = .ok (.iconst 1, 1) := by decide +kernel
theorem dX3_goBack_25 : decode cX3_goBack 25 = .ok (.iload_n 2, 1) := by decide +kernel
theorem dX3_goBack_26 : decode cX3_goBack 26 = .ok (.ishl, 1) := by decide +kernel
theorem dX3_goBack_27 : decode cX3_goBack 27 = .ok (.iconst (-1), 1) := by decide +kernel
theorem dX3_goBack_28 : decode cX3_goBack 28 = .ok (.ixor, 1) := by decide +kernel
theorem dX3_goBack_29 : decode cX3_goBack 29 = .ok (.iand, 1) := by decide +kernel
theorem dX3_goBack_30 : decode cX3_goBack 30 = .ok (.iastore, 1) := by decide +kernel
theorem dX3_goBack_31 : decode cX3_goBack 31 = .ok (.iconst 3, 1) := by decide +kernel
theorem dX3_goBack_32 : decode cX3_goBack 32 = .ok (.ireturn, 1) := by decide +kernel
set_option maxRecDepth 20000 in
theorem ggX3_reachGate_X4_isNeeded : GoodIn wsX3_reachGate wsX4_isNeeded := goodIn_r _ [8, 9, 21, 22, 23, 24] (by decide +kernel) (by decide +kernel)
set_option maxRecDepth 20000 in
theorem gX3_reachGate_X4_isNeeded : GoodIn wsX3_reachGate (wsV RX3 75 RX4 yX4_isNeeded wsX4_isNeeded) := goodIn_app (goodIn_of _ (by decide +kernel)) ggX3_reachGate_X4_isNeeded
theorem dX3_reachGate_0 : decode cX3_reachGate 0 = .ok (.aload_n 0, 1) := by decide +kernel
theorem dX3_reachGate_1 : decode cX3_reachGate 1 = .ok (.getfield 9, 3) := by decide +kernel
theorem dX3_reachGate_4 : decode cX3_reachGate 4 = .ok (.iload_n 2, 1) := by decide +kernel
theorem dX3_reachGate_5 : decode cX3_reachGate 5 = .ok (.invokevirtual 75, 3) := by decide +kernel
theorem dX3_reachGate_8 : decode cX3_reachGate 8 = .ok (.ifCond .eq 24, 3) := by decide +kernel
theorem dX3_reachGate_11 : decode cX3_reachGate 11 = .ok (.aload_n 0, 1) := by decide +kernel
theorem dX3_reachGate_12 : decode cX3_reachGate 12 = .ok (.getfield 22, 3) := by decide +kernel
theorem dX3_reachGate_15 : decode cX3_reachGate 15 = .ok (.iload_n 1, 1) := by decide +kernel
theorem dX3_reachGate_16 : decode cX3_reachGate 16 = .ok (.iaload, 1) := by decide +kernel
theorem dX3_reachGate_17 : decode cX3_reachGate 17 = .ok (.ifCond .ne 15, 3) := by decide +kernel
theorem dX3_reachGate_20 : decode cX3_reachGate 20 = .ok (.aload_n 0, 1) := by decide +kernel
theorem dX3_reachGate_21 : decode cX3_reachGate 21 = .ok (.getfield 25, 3) := by decide +kernel
theorem dX3_reachGate_24 : decode cX3_reachGate 24 = .ok (.iload_n 1, 1) := by decide +kernel
theorem dX3_reachGate_25 : decode cX3_reachGate 25 = .ok (.dup2, 1) := by decide +kernel
theorem dX3_reachGate_26 : decode cX3_reachGate 26 = .ok (.iaload, 1) := by decide +kernel
theorem dX3_reachGate_27 : decode cX3_reachGate 27 = .ok (.iconst 1, 1) := by decide +kernel
theorem dX3_reachGate_28 : decode cX3_reachGate 28 = .ok (.iload_n 2, 1) := by decide +kernel
theorem dX3_reachGate_29 : decode cX3_reachGate 29 = .ok (.ishl, 1) := by decide +kernel
theorem dX3_reachGate_30 : decode cX3_reachGate 30 = .ok (.ior, 1) := by decide +kernel
theorem dX3_reachGate_31 : decode cX3_reachGate 31 = .ok (.iastore, 1) := by decide +kernel
theorem dX3_reachGate_32 : decode cX3_reachGate 32 = .ok (.iconst 0, 1) := by decide +kernel
theorem dX3_reachGate_33 : decode cX3_reachGate 33 = .ok (.ireturn, 1) := by decide +kernel
set_option maxRecDepth 20000 in
theorem ggX3_crossLine_X3_missingGates : GoodIn wsX3_crossLine wsX3_missingGates := goodIn_r _ [8, 9, 1, 10, 11, 12, 13, 14, 15, 21, 22, 23, 24, 25, 26, 27, 28, 29, 30, 31, 32, 33, 34, 35] (by decide +kernel) (by decide +kernel)
set_option maxRecDepth 20000 in
theorem gX3_crossLine_X3_missingGates : GoodIn wsX3_crossLine (wsV RX3 78 RX3 yX3_missingGates wsX3_missingGates) := goodIn_app (goodIn_of _ (by decide +kernel)) ggX3_crossLine_X3_missingGates
set_option maxRecDepth 20000 in
theorem ggX3_crossLine_X3_isFinished : GoodIn wsX3_crossLine wsX3_isFinished := goodIn_r _ [19, 3, 20, 21, 22, 23, 24, 25, 26, 27, 28, 29, 30, 31] (by decide +kernel) (by decide +kernel)
set_option maxRecDepth 20000 in
theorem gX3_crossLine_X3_isFinished : GoodIn wsX3_crossLine (wsV RX3 53 RX3 yX3_isFinished wsX3_isFinished) := goodIn_app (goodIn_of _ (by decide +kernel)) ggX3_crossLine_X3_isFinished
theorem dX3_crossLine_0 : decode cX3_crossLine 0 = .ok (.aload_n 0, 1) := by decide +kernel
theorem dX3_crossLine_1 : decode cX3_crossLine 1 = .ok (.iload_n 1, 1) := by decide +kernel
theorem dX3_crossLine_2 : decode cX3_crossLine 2 = .ok (.invokevirtual 78, 3) := by decide +kernel
theorem dX3_crossLine_5 : decode cX3_crossLine 5 = .ok (.ifCond .ne 7, 3) := by decide +kernel
theorem dX3_crossLine_8 : decode cX3_crossLine 8 = .ok (.iconst 1, 1) := by decide +kernel
theorem dX3_crossLine_9 : decode cX3_crossLine 9 = .ok (.goto 4, 3) := by decide +kernel
theorem dX3_crossLine_12 : decode cX3_crossLine 12 = .ok (.iconst 0, 1) := by decide +kernel
theorem dX3_crossLine_13 : decode cX3_crossLine 13 = .ok (.istore_n 2, 1) := by decide +kernel
theorem dX3_crossLine_14 : decode cX3_crossLine 14 = .ok (.aload_n 0, 1) := by decide +kernel
theorem dX3_crossLine_15 : decode cX3_crossLine 15 = .ok (.getfield 25, 3) := by decide +kernel
theorem dX3_crossLine_18 : decode cX3_crossLine 18 = .ok (.iload_n 1, 1) := by decide +kernel
theorem dX3_crossLine_19 : decode cX3_crossLine 19 = .ok (.iconst 0, 1) := by decide +kernel
theorem dX3_crossLine_20 : decode cX3_crossLine 20 = .ok (.iastore, 1) := by decide +kernel
theorem dX3_crossLine_21 : decode cX3_crossLine 21 = .ok (.aload_n 0, 1) := by decide +kernel
theorem dX3_crossLine_22 : decode cX3_crossLine 22 = .ok (.getfield 22, 3) := by decide +kernel
theorem dX3_crossLine_25 : decode cX3_crossLine 25 = .ok (.iload_n 1, 1) := by decide +kernel
theorem dX3_crossLine_26 : decode cX3_crossLine 26 = .ok (.iaload, 1) := by decide +kernel
theorem dX3_crossLine_27 : decode cX3_crossLine 27 = .ok (.ifCond .le 15, 3) := by decide +kernel
theorem dX3_crossLine_30 : decode cX3_crossLine 30 = .ok (.aload_n 0, 1) := by decide +kernel
theorem dX3_crossLine_31 : decode cX3_crossLine 31 = .ok (.getfield 22, 3) := by decide +kernel
theorem dX3_crossLine_34 : decode cX3_crossLine 34 = .ok (.iload_n 1, 1) := by decide +kernel
theorem dX3_crossLine_35 : decode cX3_crossLine 35 = .ok (.dup2, 1) := by decide +kernel
theorem dX3_crossLine_36 : decode cX3_crossLine 36 = .ok (.iaload, 1) := by decide +kernel
theorem dX3_crossLine_37 : decode cX3_crossLine 37 = .ok (.iconst 1, 1) := by decide +kernel
theorem dX3_crossLine_38 : decode cX3_crossLine 38 = .ok (.isub, 1) := by decide +kernel
theorem dX3_crossLine_39 : decode cX3_crossLine 39 = .ok (.iastore, 1) := by decide +kernel
theorem dX3_crossLine_40 : decode cX3_crossLine 40 = .ok (.iconst 4, 1) := by decide +kernel
theorem dX3_crossLine_41 : decode cX3_crossLine 41 = .ok (.ireturn, 1) := by decide +kernel
theorem dX3_crossLine_42 : decode cX3_crossLine 42 = .ok (.iload_n 2, 1) := by decide +kernel
theorem dX3_crossLine_43 : decode cX3_crossLine 43 = .ok (.ifCond .ne 5, 3) := by decide +kernel
theorem dX3_crossLine_46 : decode cX3_crossLine 46 = .ok (.iconst 2, 1) := by decide +kernel
theorem dX3_crossLine_47 : decode cX3_crossLine 47 = .ok (.ireturn, 1) := by decide +kernel
theorem dX3_crossLine_48 : decode cX3_crossLine 48 = .ok (.aload_n 0, 1) := by decide +kernel
theorem dX3_crossLine_49 : decode cX3_crossLine 49 = .ok (.getfield 19, 3) := by decide +kernel
theorem dX3_crossLine_52 : decode cX3_crossLine 52 = .ok (.iload_n 1, 1) := by decide +kernel
theorem dX3_crossLine_53 : decode cX3_crossLine 53 = .ok (.dup2, 1) := by decide +kernel
theorem dX3_crossLine_54 : decode cX3_crossLine 54 = .ok (.iaload, 1) := by decide +kernel
theorem dX3_crossLine_55 : decode cX3_crossLine 55 = .ok (.iconst 1, 1) := by decide +kernel
theorem dX3_crossLine_56 : decode cX3_crossLine 56 = .ok (.iadd, 1) := by decide +kernel
theorem dX3_crossLine_57 : decode cX3_crossLine 57 = .ok (.iastore, 1) := by decide +kernel
theorem dX3_crossLine_58 : decode cX3_crossLine 58 = .ok (.aload_n 0, 1) := by decide +kernel
theorem dX3_crossLine_59 : decode cX3_crossLine 59 = .ok (.iload_n 1, 1) := by decide +kernel
theorem dX3_crossLine_60 : decode cX3_crossLine 60 = .ok (.invokevirtual 53, 3) := by decide +kernel
theorem dX3_crossLine_63 : decode cX3_crossLine 63 = .ok (.ifCond .eq 7, 3) := by decide +kernel
theorem dX3_crossLine_66 : decode cX3_crossLine 66 = .ok (.iconst 5, 1) := by decide +kernel
theorem dX3_crossLine_67 : decode cX3_crossLine 67 = .ok (.goto 4, 3) := by decide +kernel
theorem dX3_crossLine_70 : decode cX3_crossLine 70 = .ok (.iconst 1, 1) := by decide +kernel
theorem dX3_crossLine_71 : decode cX3_crossLine 71 = .ok (.ireturn, 1) := by decide +kernel
set_option maxRecDepth 20000 in
theorem ggX3_countAhead_X3_isAhead : GoodIn wsX3_countAhead wsX3_isAhead := goodIn_r _ [6, 7, 8, 9, 10, 11, 12, 5, 13, 14, 15, 16, 17, 18, 19, 20, 21, 22, 23, 24, 25, 26, 27, 28, 29, 30, 31, 32, 33, 34, 35, 36, 37, 38, 39, 40, 41] (by decide +kernel) (by decide +kernel)
set_option maxRecDepth 20000 in
theorem gX3_countAhead_X3_isAhead : GoodIn wsX3_countAhead (wsV RX3 81 RX3 yX3_isAhead wsX3_isAhead) := goodIn_app (goodIn_of _ (by decide +kernel)) ggX3_countAhead_X3_isAhead
theorem dX3_countAhead_0 : decode cX3_countAhead 0 = .ok (.iconst 0, 1) := by decide +kernel
theorem dX3_countAhead_1 : decode cX3_countAhead 1 = .ok (.istore_n 2, 1) := by decide +kernel
theorem dX3_countAhead_2 : decode cX3_countAhead 2 = .ok (.iconst 0, 1) := by decide +kernel
theorem dX3_countAhead_3 : decode cX3_countAhead 3 = .ok (.istore_n 3, 1) := by decide +kernel
theorem dX3_countAhead_4 : decode cX3_countAhead 4 = .ok (.iload_n 3, 1) := by decide +kernel
theorem dX3_countAhead_5 : decode cX3_countAhead 5 = .ok (.aload_n 0, 1) := by decide +kernel
theorem dX3_countAhead_6 : decode cX3_countAhead 6 = .ok (.getfield 37, 3) := by decide +kernel
theorem dX3_countAhead_9 : decode cX3_countAhead 9 = .ok (.if_icmp .ge 21, 3) := by decide +kernel
theorem dX3_countAhead_12 : decode cX3_countAhead 12 = .ok (.aload_n 0, 1) := by decide +kernel
theorem dX3_countAhead_13 : decode cX3_countAhead 13 = .ok (.iload_n 3, 1) := by decide +kernel
theorem dX3_countAhead_14 : decode cX3_countAhead 14 = .ok (.iload_n 1, 1) := by decide +kernel
theorem dX3_countAhead_15 : decode cX3_countAhead 15 = .ok (.invokevirtual 81, 3) := by decide +kernel
theorem dX3_countAhead_18 : decode cX3_countAhead 18 = .ok (.ifCond .eq 6, 3) := by decide +kernel
theorem dX3_countAhead_21 : decode cX3_countAhead 21 = .ok (.iinc 2 1, 3) := by decide +kernel
theorem dX3_countAhead_24 : decode cX3_countAhead 24 = .ok (.iinc 3 1, 3) := by decide +kernel
theorem dX3_countAhead_27 : decode cX3_countAhead 27 = .ok (.goto (-23), 3) := by decide +kernel
theorem dX3_countAhead_30 : decode cX3_countAhead 30 = .ok (.iload_n 2, 1) := by decide +kernel
theorem dX3_countAhead_31 : decode cX3_countAhead 31 = .ok (.ireturn, 1) := by decide +kernel
set_option maxRecDepth 20000 in
theorem ggX3_isAhead_X3_isFinished : GoodIn wsX3_isAhead wsX3_isFinished := goodIn_r _ [8, 9, 10, 22, 23, 24, 25, 26, 27, 28, 29, 30, 31, 32] (by decide +kernel) (by decide +kernel)
set_option maxRecDepth 20000 in
theorem gX3_isAhead_X3_isFinished : GoodIn wsX3_isAhead (wsV RX3 53 RX3 yX3_isFinished wsX3_isFinished) := goodIn_app (goodIn_of _ (by decide +kernel)) ggX3_isAhead_X3_isFinished
set_option maxRecDepth 20000 in
theorem ggX3_isAhead_X3_netLaps : GoodIn wsX3_isAhead wsX3_netLaps := goodIn_r _ [14, 9, 15, 22, 23, 24, 25, 26, 27, 28, 29, 30, 31, 32] (by decide +kernel) (by decide +kernel)
set_option maxRecDepth 20000 in
theorem gX3_isAhead_X3_netLaps : GoodIn wsX3_isAhead (wsV RX3 57 RX3 yX3_netLaps wsX3_netLaps) := goodIn_app (goodIn_of _ (by decide +kernel)) ggX3_isAhead_X3_netLaps
set_option maxRecDepth 20000 in
theorem ggX3_isAhead_X4_restOf : GoodIn wsX3_isAhead wsX4_restOf := goodIn_r _ [20, 21, 33, 34, 35, 36] (by decide +kernel) (by decide +kernel)
set_option maxRecDepth 20000 in
theorem gX3_isAhead_X4_restOf : GoodIn wsX3_isAhead (wsV RX3 84 RX4 yX4_restOf wsX4_restOf) := goodIn_app (goodIn_of _ (by decide +kernel)) ggX3_isAhead_X4_restOf
theorem dX3_isAhead_0 : decode cX3_isAhead 0 = .ok (.aload_n 0, 1) := by decide +kernel
theorem dX3_isAhead_1 : decode cX3_isAhead 1 = .ok (.iload_n 1, 1) := by decide +kernel
theorem dX3_isAhead_2 : decode cX3_isAhead 2 = .ok (.invokevirtual 53, 3) := by decide +kernel
theorem dX3_isAhead_5 : decode cX3_isAhead 5 = .ok (.ifCond .ne 11, 3) := by decide +kernel
theorem dX3_isAhead_8 : decode cX3_isAhead 8 = .ok (.aload_n 0, 1) := by decide +kernel
theorem dX3_isAhead_9 : decode cX3_isAhead 9 = .ok (.iload_n 2, 1) := by decide +kernel
theorem dX3_isAhead_10 : decode cX3_isAhead 10 = .ok (.invokevirtual 53, 3) := by decide +kernel
theorem dX3_isAhead_13 : decode cX3_isAhead 13 = .ok (.ifCond .eq 40, 3) := by decide +kernel
theorem dX3_isAhead_16 : decode cX3_isAhead 16 = .ok (.aload_n 0, 1) := by decide +kernel
theorem dX3_isAhead_17 : decode cX3_isAhead 17 = .ok (.iload_n 1, 1) := by decide +kernel
theorem dX3_isAhead_18 : decode cX3_isAhead 18 = .ok (.invokevirtual 53, 3) := by decide +kernel
theorem dX3_isAhead_21 : decode cX3_isAhead 21 = .ok (.ifCond .eq 30, 3) := by decide +kernel
theorem dX3_isAhead_24 : decode cX3_isAhead 24 = .ok (.aload_n 0, 1) := by decide +kernel
theorem dX3_isAhead_25 : decode cX3_isAhead 25 = .ok (.iload_n 2, 1) := by decide +kernel
theorem dX3_isAhead_26 : decode cX3_isAhead 26 = .ok (.invokevirtual 53, 3) := by decide +kernel
theorem dX3_isAhead_29 : decode cX3_isAhead 29 = .ok (.ifCond .eq 18, 3) := by decide +kernel
theorem dX3_isAhead_32 : decode cX3_isAhead 32 = .ok (.aload_n 0, 1) := by decide +kernel
theorem dX3_isAhead_33 : decode cX3_isAhead 33 = .ok (.getfield 28, 3) := by decide +kernel
theorem dX3_isAhead_36 : decode cX3_isAhead 36 = .ok (.iload_n 1, 1) := by decide +kernel
theorem dX3_isAhead_37 : decode cX3_isAhead 37 = .ok (.iaload, 1) := by decide +kernel
theorem dX3_isAhead_38 : decode cX3_isAhead 38 = .ok (.aload_n 0, 1) := by decide +kernel
theorem dX3_isAhead_39 : decode cX3_isAhead 39 = .ok (.getfield 28, 3) := by decide +kernel
theorem dX3_isAhead_42 : decode cX3_isAhead 42 = .ok (.iload_n 2, 1) := by decide +kernel
theorem dX3_isAhead_43 : decode cX3_isAhead 43 = .ok (.iaload, 1) := by decide +kernel
theorem dX3_isAhead_44 : decode cX3_isAhead 44 = .ok (.if_icmp .ge 7, 3) := by decide +kernel
theorem dX3_isAhead_47 : decode cX3_isAhead 47 = .ok (.iconst 1, 1) := by decide +kernel
theorem dX3_isAhead_48 : decode cX3_isAhead 48 = .ok (.goto 4, 3) := by decide +kernel
theorem dX3_isAhead_51 : decode cX3_isAhead 51 = .ok (.iconst 0, 1) := by decide +kernel
theorem dX3_isAhead_52 : decode cX3_isAhead 52 = .ok (.ireturn, 1) := by decide +kernel
theorem dX3_isAhead_53 : decode cX3_isAhead 53 = .ok (.aload_n 0, 1) := by decide +kernel
theorem dX3_isAhead_54 : decode cX3_isAhead 54 = .ok (.iload_n 1, 1) := by decide +kernel
theorem dX3_isAhead_55 : decode cX3_isAhead 55 = .ok (.invokevirtual 57, 3) := by decide +kernel
theorem dX3_isAhead_58 : decode cX3_isAhead 58 = .ok (.aload_n 0, 1) := by decide +kernel
theorem dX3_isAhead_59 : decode cX3_isAhead 59 = .ok (.iload_n 2, 1) := by decide +kernel
theorem dX3_isAhead_60 : decode cX3_isAhead 60 = .ok (.invokevirtual 57, 3) := by decide +kernel
theorem dX3_isAhead_63 : decode cX3_isAhead 63 = .ok (.if_icmp .eq 22, 3) := by decide +kernel
theorem dX3_isAhead_66 : decode cX3_isAhead 66 = .ok (.aload_n 0, 1) := by decide +kernel
theorem dX3_isAhead_67 : decode cX3_isAhead 67 = .ok (.iload_n 1, 1) := by decide +kernel
theorem dX3_isAhead_68 : decode cX3_isAhead 68 = .ok (.invokevirtual 57, 3) := by decide +kernel
theorem dX3_isAhead_71 : decode cX3_isAhead 71 = .ok (.aload_n 0, 1) := by decide +kernel
theorem dX3_isAhead_72 : decode cX3_isAhead 72 = .ok (.iload_n 2, 1) := by decide +kernel
theorem dX3_isAhead_73 : decode cX3_isAhead 73 = .ok (.invokevirtual 57, 3) := by decide +kernel
theorem dX3_isAhead_76 : decode cX3_isAhead 76 = .ok (.if_icmp .le 7, 3) := by decide +kernel
theorem dX3_isAhead_79 : decode cX3_isAhead 79 = .ok (.iconst 1, 1) := by decide +kernel
theorem dX3_isAhead_80 : decode cX3_isAhead 80 = .ok (.goto 4, 3) := by decide +kernel
theorem dX3_isAhead_83 : decode cX3_isAhead 83 = .ok (.iconst 0, 1) := by decide +kernel
theorem dX3_isAhead_84 : decode cX3_isAhead 84 = .ok (.ireturn, 1) := by decide +kernel
theorem dX3_isAhead_85 : decode cX3_isAhead 85 = .ok (.aload_n 0, 1) := by decide +kernel
theorem dX3_isAhead_86 : decode cX3_isAhead 86 = .ok (.getfield 9, 3) := by decide +kernel
theorem dX3_isAhead_89 : decode cX3_isAhead 89 = .ok (.aload_n 0, 1) := by decide +kernel
theorem dX3_isAhead_90 : decode cX3_isAhead 90 = .ok (.getfield 15, 3) := by decide +kernel
theorem dX3_isAhead_93 : decode cX3_isAhead 93 = .ok (.iload_n 1, 1) := by decide +kernel
theorem dX3_isAhead_94 : decode cX3_isAhead 94 = .ok (.iaload, 1) := by decide +kernel
theorem dX3_isAhead_95 : decode cX3_isAhead 95 = .ok (.invokevirtual 84, 3) := by decide +kernel
theorem dX3_isAhead_98 : decode cX3_isAhead 98 = .ok (.istore_n 3, 1) := by decide +kernel
theorem dX3_isAhead_99 : decode cX3_isAhead 99 = .ok (.aload_n 0, 1) := by decide +kernel
theorem dX3_isAhead_100 : decode cX3_isAhead 100 = .ok (.getfield 9, 3) := by decide +kernel
theorem dX3_isAhead_103 : decode cX3_isAhead 103 = .ok (.aload_n 0, 1) := by decide +kernel
theorem dX3_isAhead_104 : decode cX3_isAhead 104 = .ok (.getfield 15, 3) := by decide +kernel
theorem dX3_isAhead_107 : decode cX3_isAhead 107 = .ok (.iload_n 2, 1) := by decide +kernel
theorem dX3_isAhead_108 : decode cX3_isAhead 108 = .ok (.iaload, 1) := by decide +kernel
theorem dX3_isAhead_109 : decode cX3_isAhead 109 = .ok (.invokevirtual 84, 3) := by decide +kernel
theorem dX3_isAhead_112 : decode cX3_isAhead 112 = .ok (.istore 4, 2) := by decide +kernel
theorem dX3_isAhead_114 : decode cX3_isAhead 114 = .ok (.iload_n 3, 1) := by decide +kernel
theorem dX3_isAhead_115 : decode cX3_isAhead 115 = .ok (.iload 4, 2) := by decide +kernel
theorem dX3_isAhead_117 : decode cX3_isAhead 117 = .ok (.if_icmp .eq 15, 3) := by decide +kernel
theorem dX3_isAhead_120 : decode cX3_isAhead 120 = .ok (.iload_n 3, 1) := by decide +kernel
theorem dX3_isAhead_121 : decode cX3_isAhead 121 = .ok (.iload 4, 2) := by decide +kernel
theorem dX3_isAhead_123 : decode cX3_isAhead 123 = .ok (.if_icmp .ge 7, 3) := by decide +kernel
theorem dX3_isAhead_126 : decode cX3_isAhead 126 = .ok (.iconst 1, 1) := by decide +kernel
theorem dX3_isAhead_127 : decode cX3_isAhead 127 = .ok (.goto 4, 3) := by decide +kernel
theorem dX3_isAhead_130 : decode cX3_isAhead 130 = .ok (.iconst 0, 1) := by decide +kernel
theorem dX3_isAhead_131 : decode cX3_isAhead 131 = .ok (.ireturn, 1) := by decide +kernel
theorem dX3_isAhead_132 : decode cX3_isAhead 132 = .ok (.aload_n 0, 1) := by decide +kernel
theorem dX3_isAhead_133 : decode cX3_isAhead 133 = .ok (.getfield 28, 3) := by decide +kernel
theorem dX3_isAhead_136 : decode cX3_isAhead 136 = .ok (.iload_n 1, 1) := by decide +kernel
theorem dX3_isAhead_137 : decode cX3_isAhead 137 = .ok (.iaload, 1) := by decide +kernel
theorem dX3_isAhead_138 : decode cX3_isAhead 138 = .ok (.aload_n 0, 1) := by decide +kernel
theorem dX3_isAhead_139 : decode cX3_isAhead 139 = .ok (.getfield 28, 3) := by decide +kernel
theorem dX3_isAhead_142 : decode cX3_isAhead 142 = .ok (.iload_n 2, 1) := by decide +kernel
theorem dX3_isAhead_143 : decode cX3_isAhead 143 = .ok (.iaload, 1) := by decide +kernel
theorem dX3_isAhead_144 : decode cX3_isAhead 144 = .ok (.if_icmp .eq 24, 3) := by decide +kernel
theorem dX3_isAhead_147 : decode cX3_isAhead 147 = .ok (.aload_n 0, 1) := by decide +kernel
theorem dX3_isAhead_148 : decode cX3_isAhead 148 = .ok (.getfield 28, 3) := by decide +kernel
theorem dX3_isAhead_151 : decode cX3_isAhead 151 = .ok (.iload_n 1, 1) := by decide +kernel
theorem dX3_isAhead_152 : decode cX3_isAhead 152 = .ok (.iaload, 1) := by decide +kernel
theorem dX3_isAhead_153 : decode cX3_isAhead 153 = .ok (.aload_n 0, 1) := by decide +kernel
theorem dX3_isAhead_154 : decode cX3_isAhead 154 = .ok (.getfield 28, 3) := by decide +kernel
theorem dX3_isAhead_157 : decode cX3_isAhead 157 = .ok (.iload_n 2, 1) := by decide +kernel
theorem dX3_isAhead_158 : decode cX3_isAhead 158 = .ok (.iaload, 1) := by decide +kernel
theorem dX3_isAhead_159 : decode cX3_isAhead 159 = .ok (.if_icmp .ge 7, 3) := by decide +kernel
theorem dX3_isAhead_162 : decode cX3_isAhead 162 = .ok (.iconst 1, 1) := by decide +kernel
theorem dX3_isAhead_163 : decode cX3_isAhead 163 = .ok (.goto 4, 3) := by decide +kernel
theorem dX3_isAhead_166 : decode cX3_isAhead 166 = .ok (.iconst 0, 1) := by decide +kernel
theorem dX3_isAhead_167 : decode cX3_isAhead 167 = .ok (.ireturn, 1) := by decide +kernel
theorem dX3_isAhead_168 : decode cX3_isAhead 168 = .ok (.iload_n 1, 1) := by decide +kernel
theorem dX3_isAhead_169 : decode cX3_isAhead 169 = .ok (.iload_n 2, 1) := by decide +kernel
theorem dX3_isAhead_170 : decode cX3_isAhead 170 = .ok (.if_icmp .ge 7, 3) := by decide +kernel
theorem dX3_isAhead_173 : decode cX3_isAhead 173 = .ok (.iconst 1, 1) := by decide +kernel
theorem dX3_isAhead_174 : decode cX3_isAhead 174 = .ok (.goto 4, 3) := by decide +kernel
theorem dX3_isAhead_177 : decode cX3_isAhead 177 = .ok (.iconst 0, 1) := by decide +kernel
theorem dX3_isAhead_178 : decode cX3_isAhead 178 = .ok (.ireturn, 1) := by decide +kernel
set_option maxRecDepth 20000 in
theorem ggX3_sortedRank_X3_insertInOrder : GoodIn wsX3_sortedRank wsX3_insertInOrder := goodIn_r _ [8, 3, 9, 10, 11, 7, 12, 13, 14, 15, 16, 17, 18, 19, 20, 21, 22, 23, 24, 25, 26, 27, 28, 29, 30, 31, 32, 33, 34, 35, 36, 37, 38, 39, 40, 41, 42, 43, 44, 45, 46, 47] (by decide +kernel) (by decide +kernel)
set_option maxRecDepth 20000 in
theorem gX3_sortedRank_X3_insertInOrder : GoodIn wsX3_sortedRank (wsV RX3 87 RX3 yX3_insertInOrder wsX3_insertInOrder) := goodIn_app (goodIn_of _ (by decide +kernel)) ggX3_sortedRank_X3_insertInOrder
theorem dX3_sortedRank_0 : decode cX3_sortedRank 0 = .ok (.iconst 0, 1) := by decide +kernel
theorem dX3_sortedRank_1 : decode cX3_sortedRank 1 = .ok (.istore_n 2, 1) := by decide +kernel
theorem dX3_sortedRank_2 : decode cX3_sortedRank 2 = .ok (.iload_n 2, 1) := by decide +kernel
theorem dX3_sortedRank_3 : decode cX3_sortedRank 3 = .ok (.aload_n 0, 1) := by decide +kernel
theorem dX3_sortedRank_4 : decode cX3_sortedRank 4 = .ok (.getfield 37, 3) := by decide +kernel
theorem dX3_sortedRank_7 : decode cX3_sortedRank 7 = .ok (.if_icmp .ge 14, 3) := by decide +kernel
theorem dX3_sortedRank_10 : decode cX3_sortedRank 10 = .ok (.aload_n 0, 1) := by decide +kernel
theorem dX3_sortedRank_11 : decode cX3_sortedRank 11 = .ok (.iload_n 2, 1) := by decide +kernel
theorem dX3_sortedRank_12 : decode cX3_sortedRank 12 = .ok (.invokevirtual 87, 3) := by decide +kernel
theorem dX3_sortedRank_15 : decode cX3_sortedRank 15 = .ok (.iinc 2 1, 3) := by decide +kernel
theorem dX3_sortedRank_18 : decode cX3_sortedRank 18 = .ok (.goto (-16), 3) := by decide +kernel
theorem dX3_sortedRank_21 : decode cX3_sortedRank 21 = .ok (.iconst 0, 1) := by decide +kernel
theorem dX3_sortedRank_22 : decode cX3_sortedRank 22 = .ok (.istore_n 2, 1) := by decide +kernel
theorem dX3_sortedRank_23 : decode cX3_sortedRank 23 = .ok (.iload_n 2, 1) := by decide +kernel
theorem dX3_sortedRank_24 : decode cX3_sortedRank 24 = .ok (.aload_n 0, 1) := by decide +kernel
theorem dX3_sortedRank_25 : decode cX3_sortedRank 25 = .ok (.getfield 37, 3) := by decide +kernel
theorem dX3_sortedRank_28 : decode cX3_sortedRank 28 = .ok (.if_icmp .ge 21, 3) := by decide +kernel
theorem dX3_sortedRank_31 : decode cX3_sortedRank 31 = .ok (.aload_n 0, 1) := by decide +kernel
theorem dX3_sortedRank_32 : decode cX3_sortedRank 32 = .ok (.getfield 34, 3) := by decide +kernel
theorem dX3_sortedRank_35 : decode cX3_sortedRank 35 = .ok (.aload_n 0, 1) := by decide +kernel
theorem dX3_sortedRank_36 : decode cX3_sortedRank 36 = .ok (.getfield 31, 3) := by decide +kernel
theorem dX3_sortedRank_39 : decode cX3_sortedRank 39 = .ok (.iload_n 2, 1) := by decide +kernel
theorem dX3_sortedRank_40 : decode cX3_sortedRank 40 = .ok (.iaload, 1) := by decide +kernel
theorem dX3_sortedRank_41 : decode cX3_sortedRank 41 = .ok (.iload_n 2, 1) := by decide +kernel
theorem dX3_sortedRank_42 : decode cX3_sortedRank 42 = .ok (.iastore, 1) := by decide +kernel
theorem dX3_sortedRank_43 : decode cX3_sortedRank 43 = .ok (.iinc 2 1, 3) := by decide +kernel
theorem dX3_sortedRank_46 : decode cX3_sortedRank 46 = .ok (.goto (-23), 3) := by decide +kernel
theorem dX3_sortedRank_49 : decode cX3_sortedRank 49 = .ok (.aload_n 0, 1) := by decide +kernel
theorem dX3_sortedRank_50 : decode cX3_sortedRank 50 = .ok (.getfield 34, 3) := by decide +kernel
theorem dX3_sortedRank_53 : decode cX3_sortedRank 53 = .ok (.iload_n 1, 1) := by decide +kernel
theorem dX3_sortedRank_54 : decode cX3_sortedRank 54 = .ok (.iaload, 1) := by decide +kernel
theorem dX3_sortedRank_55 : decode cX3_sortedRank 55 = .ok (.ireturn, 1) := by decide +kernel
set_option maxRecDepth 20000 in
theorem ggX3_insertInOrder_X3_isAhead : GoodIn wsX3_insertInOrder wsX3_isAhead := goodIn_r _ [6, 7, 8, 9, 10, 11, 12, 5, 13, 14, 15, 16, 17, 18, 19, 20, 21, 22, 23, 24, 25, 26, 27, 28, 29, 30, 31, 32, 33, 34, 35, 36, 37, 38, 39, 40, 41] (by decide +kernel) (by decide +kernel)
set_option maxRecDepth 20000 in
theorem gX3_insertInOrder_X3_isAhead : GoodIn wsX3_insertInOrder (wsV RX3 81 RX3 yX3_isAhead wsX3_isAhead) := goodIn_app (goodIn_of _ (by decide +kernel)) ggX3_insertInOrder_X3_isAhead
theorem dX3_insertInOrder_0 : decode cX3_insertInOrder 0 = .ok (.iload_n 1, 1) := by decide +kernel
theorem dX3_insertInOrder_1 : decode cX3_insertInOrder 1 = .ok (.istore_n 2, 1) := by decide +kernel
theorem dX3_insertInOrder_2 : decode cX3_insertInOrder 2 = .ok (.iload_n 2, 1) := by decide +kernel
theorem dX3_insertInOrder_3 : decode cX3_insertInOrder 3 = .ok (.ifCond .le 39, 3) := by decide +kernel
theorem dX3_insertInOrder_6 : decode cX3_insertInOrder 6 = .ok (.aload_n 0, 1) := by decide +kernel
theorem dX3_insertInOrder_7 : decode cX3_insertInOrder 7 = .ok (.iload_n 1, 1) := by decide +kernel
theorem dX3_insertInOrder_8 : decode cX3_insertInOrder 8 = .ok (.aload_n 0, 1) := by decide +kernel
theorem dX3_insertInOrder_9 : decode cX3_insertInOrder 9 = .ok (.getfield 31, 3) := by decide +kernel
theorem dX3_insertInOrder_12 : decode cX3_insertInOrder 12 = .ok (.iload_n 2, 1) := by decide +kernel
theorem dX3_insertInOrder_13 : decode cX3_insertInOrder 13 = .ok (.iconst 1, 1) := by decide +kernel
theorem dX3_insertInOrder_14 : decode cX3_insertInOrder 14 = .ok (.isub, 1) := by decide +kernel
theorem dX3_insertInOrder_15 : decode cX3_insertInOrder 15 = .ok (.iaload, 1) := by decide +kernel
theorem dX3_insertInOrder_16 : decode cX3_insertInOrder 16 = .ok (.invokevirtual 81, 3) := by decide +kernel
theorem dX3_insertInOrder_19 : decode cX3_insertInOrder 19 = .ok (.ifCond .eq 23, 3) := by decide +kernel
theorem dX3_insertInOrder_22 : decode cX3_insertInOrder 22 = .ok (.aload_n 0, 1) := by decide +kernel
theorem dX3_insertInOrder_23 : decode cX3_insertInOrder 23 = .ok (.getfield 31, 3) := by decide +kernel
theorem dX3_insertInOrder_26 : decode cX3_insertInOrder 26 = .ok (.iload_n 2, 1) := by decide +kernel
theorem dX3_insertInOrder_27 : decode cX3_insertInOrder 27 = .ok (.aload_n 0, 1) := by decide +kernel
theorem dX3_insertInOrder_28 : decode cX3_insertInOrder 28 = .ok (.getfield 31, 3) := by decide +kernel
theorem dX3_insertInOrder_31 : decode cX3_insertInOrder 31 = .ok (.iload_n 2, 1) := by decide +kernel
theorem dX3_insertInOrder_32 : decode cX3_insertInOrder 32 = .ok (.iconst 1, 1) := by decide +kernel
theorem dX3_insertInOrder_33 : decode cX3_insertInOrder 33 = .ok (.isub, 1) := by decide +kernel
theorem dX3_insertInOrder_34 : decode cX3_insertInOrder 34 = .ok (.iaload, 1) := by decide +kernel
theorem dX3_insertInOrder_35 : decode cX3_insertInOrder 35 = .ok (.iastore, 1) := by decide +kernel
theorem dX3_insertInOrder_36 : decode cX3_insertInOrder 36 = .ok (.iinc 2 (-1), 3) := by decide +kernel
theorem dX3_insertInOrder_39 : decode cX3_insertInOrder 39 = .ok (.goto (-37), 3) := by decide +kernel
theorem dX3_insertInOrder_42 : decode cX3_insertInOrder 42 = .ok (.aload_n 0, 1) := by decide +kernel
theorem dX3_insertInOrder_43 : decode cX3_insertInOrder 43 = .ok (.getfield 31, 3) := by decide +kernel
theorem dX3_insertInOrder_46 : decode cX3_insertInOrder 46 = .ok (.iload_n 2, 1) := by decide +kernel
theorem dX3_insertInOrder_47 : decode cX3_insertInOrder 47 = .ok (.iload_n 1, 1) := by decide +kernel
theorem dX3_insertInOrder_48 : decode cX3_insertInOrder 48 = .ok (.iastore, 1) := by decide +kernel
theorem dX3_insertInOrder_49 : decode cX3_insertInOrder 49 = .ok (.return_, 1) := by decide +kernel
set_option maxRecDepth 20000 in
theorem ggX3_leadOver_X3_countAhead : GoodIn wsX3_leadOver wsX3_countAhead := goodIn_r _ [10, 1, 11, 12, 13, 9, 14, 15, 16, 17, 18, 19, 20, 21, 22, 23, 24, 25, 26, 27, 28, 29, 30, 31, 32, 33, 34, 39, 40, 41, 42, 43, 44, 45, 46, 47, 48, 49, 50, 51, 52, 53] (by decide +kernel) (by decide +kernel)
set_option maxRecDepth 20000 in
theorem gX3_leadOver_X3_countAhead : GoodIn wsX3_leadOver (wsV RX3 91 RX3 yX3_countAhead wsX3_countAhead) := goodIn_app (goodIn_of _ (by decide +kernel)) ggX3_leadOver_X3_countAhead
set_option maxRecDepth 20000 in
theorem ggX3_leadOver_X3_wayDone : GoodIn wsX3_leadOver wsX3_wayDone := goodIn_r _ [38, 16, 17, 29, 30, 31, 32, 33, 34, 24, 25, 26, 9, 27, 22, 28, 39, 40, 41, 42, 43, 44, 45, 46, 47, 48, 49, 50, 51, 52, 53] (by decide +kernel) (by decide +kernel)
set_option maxRecDepth 20000 in
theorem gX3_leadOver_X3_wayDone : GoodIn wsX3_leadOver (wsV RX3 94 RX3 yX3_wayDone wsX3_wayDone) := goodIn_app (goodIn_of _ (by decide +kernel)) ggX3_leadOver_X3_wayDone
theorem dX3_leadOver_0 : decode cX3_leadOver 0 = .ok (.iconst 0, 1) := by decide +kernel
theorem dX3_leadOver_1 : decode cX3_leadOver 1 = .ok (.istore_n 2, 1) := by decide +kernel
theorem dX3_leadOver_2 : decode cX3_leadOver 2 = .ok (.iconst 0, 1) := by decide +kernel
theorem dX3_leadOver_3 : decode cX3_leadOver 3 = .ok (.istore_n 3, 1) := by decide +kernel
theorem dX3_leadOver_4 : decode cX3_leadOver 4 = .ok (.iload_n 3, 1) := by decide +kernel
theorem dX3_leadOver_5 : decode cX3_leadOver 5 = .ok (.aload_n 0, 1) := by decide +kernel
theorem dX3_leadOver_6 : decode cX3_leadOver 6 = .ok (.getfield 37, 3) := by decide +kernel
theorem dX3_leadOver_9 : decode cX3_leadOver 9 = .ok (.if_icmp .ge 29, 3) := by decide +kernel
theorem dX3_leadOver_12 : decode cX3_leadOver 12 = .ok (.aload_n 0, 1) := by decide +kernel
theorem dX3_leadOver_13 : decode cX3_leadOver 13 = .ok (.iload_n 3, 1) := by decide +kernel
theorem dX3_leadOver_14 : decode cX3_leadOver 14 = .ok (.invokevirtual 91, 3) := by decide +kernel
theorem dX3_leadOver_17 : decode cX3_leadOver 17 = .ok (.ifCond .ne 15, 3) := by decide +kernel
theorem dX3_leadOver_20 : decode cX3_leadOver 20 = .ok (.aload_n 0, 1) := by decide +kernel
theorem dX3_leadOver_21 : decode cX3_leadOver 21 = .ok (.iload_n 3, 1) := by decide +kernel
theorem dX3_leadOver_22 : decode cX3_leadOver 22 = .ok (.invokevirtual 94, 3) := by decide +kernel
theorem dX3_leadOver_25 : decode cX3_leadOver 25 = .ok (.aload_n 0, 1) := by decide +kernel
theorem dX3_leadOver_26 : decode cX3_leadOver 26 = .ok (.iload_n 1, 1) := by decide +kernel
theorem dX3_leadOver_27 : decode cX3_leadOver 27 = .ok (.invokevirtual 94, 3) := by decide +kernel
theorem dX3_leadOver_30 : decode cX3_leadOver 30 = .ok (.isub, 1) := by decide +kernel
theorem dX3_leadOver_31 : decode cX3_leadOver 31 = .ok (.istore_n 2, 1) := by decide +kernel
theorem dX3_leadOver_32 : decode cX3_leadOver 32 = .ok (.iinc 3 1, 3) := by decide +kernel
theorem dX3_leadOver_35 : decode cX3_leadOver 35 = .ok (.goto (-31), 3) := by decide +kernel
theorem dX3_leadOver_38 : decode cX3_leadOver 38 = .ok (.iload_n 2, 1) := by decide +kernel
theorem dX3_leadOver_39 : decode cX3_leadOver 39 = .ok (.iconst 0, 1) := by decide +kernel
theorem dX3_leadOver_40 : decode cX3_leadOver 40 = .ok (.invokestatic 97, 3) := by decide +kernel
theorem dX3_leadOver_43 : decode cX3_leadOver 43 = .ok (.ireturn, 1) := by decide +kernel
set_option maxRecDepth 20000 in
theorem ggX3_wayDone_X4_restOf : GoodIn wsX3_wayDone wsX4_restOf := goodIn_r _ [7, 8, 27, 28, 29, 30] (by decide +kernel) (by decide +kernel)
set_option maxRecDepth 20000 in
theorem gX3_wayDone_X4_restOf : GoodIn wsX3_wayDone (wsV RX3 84 RX4 yX4_restOf wsX4_restOf) := goodIn_app (goodIn_of _ (by decide +kernel)) ggX3_wayDone_X4_restOf
set_option maxRecDepth 20000 in
theorem ggX3_wayDone_X3_netLaps : GoodIn wsX3_wayDone wsX3_netLaps := goodIn_r _ [13, 14, 15, 16, 17, 18, 19, 20, 21, 22, 23, 24, 25, 26] (by decide +kernel) (by decide +kernel)
set_option maxRecDepth 20000 in
theorem gX3_wayDone_X3_netLaps : GoodIn wsX3_wayDone (wsV RX3 57 RX3 yX3_netLaps wsX3_netLaps) := goodIn_app (goodIn_of _ (by decide +kernel)) ggX3_wayDone_X3_netLaps
theorem dX3_wayDone_0 : decode cX3_wayDone 0 = .ok (.aload_n 0, 1) := by decide +kernel
theorem dX3_wayDone_1 : decode cX3_wayDone 1 = .ok (.getfield 9, 3) := by decide +kernel
theorem dX3_wayDone_4 : decode cX3_wayDone 4 = .ok (.iconst 0, 1) := by decide +kernel
theorem dX3_wayDone_5 : decode cX3_wayDone 5 = .ok (.invokevirtual 84, 3) := by decide +kernel
theorem dX3_wayDone_8 : decode cX3_wayDone 8 = .ok (.istore_n 2, 1) := by decide +kernel
theorem dX3_wayDone_9 : decode cX3_wayDone 9 = .ok (.aload_n 0, 1) := by decide +kernel
theorem dX3_wayDone_10 : decode cX3_wayDone 10 = .ok (.iload_n 1, 1) := by decide +kernel
theorem dX3_wayDone_11 : decode cX3_wayDone 11 = .ok (.invokevirtual 57, 3) := by decide +kernel
theorem dX3_wayDone_14 : decode cX3_wayDone 14 = .ok (.iload_n 2, 1) := by decide +kernel
theorem dX3_wayDone_15 : decode cX3_wayDone 15 = .ok (.imul, 1) := by decide +kernel
theorem dX3_wayDone_16 : decode cX3_wayDone 16 = .ok (.istore_n 3, 1) := by decide +kernel
theorem dX3_wayDone_17 : decode cX3_wayDone 17 = .ok (.aload_n 0, 1) := by decide +kernel
theorem dX3_wayDone_18 : decode cX3_wayDone 18 = .ok (.getfield 15, 3) := by decide +kernel
theorem dX3_wayDone_21 : decode cX3_wayDone 21 = .ok (.iload_n 1, 1) := by decide +kernel
theorem dX3_wayDone_22 : decode cX3_wayDone 22 = .ok (.iaload, 1) := by decide +kernel
theorem dX3_wayDone_23 : decode cX3_wayDone 23 = .ok (.ifCond .eq 21, 3) := by decide +kernel
theorem dX3_wayDone_26 : decode cX3_wayDone 26 = .ok (.iload_n 3, 1) := by decide +kernel
theorem dX3_wayDone_27 : decode cX3_wayDone 27 = .ok (.iload_n 2, 1) := by decide +kernel
theorem dX3_wayDone_28 : decode cX3_wayDone 28 = .ok (.aload_n 0, 1) := by decide +kernel
theorem dX3_wayDone_29 : decode cX3_wayDone 29 = .ok (.getfield 9, 3) := by decide +kernel
theorem dX3_wayDone_32 : decode cX3_wayDone 32 = .ok (.aload_n 0, 1) := by decide +kernel
theorem dX3_wayDone_33 : decode cX3_wayDone 33 = .ok (.getfield 15, 3) := by decide +kernel
theorem dX3_wayDone_36 : decode cX3_wayDone 36 = .ok (.iload_n 1, 1) := by decide +kernel
theorem dX3_wayDone_37 : decode cX3_wayDone 37 = .ok (.iaload, 1) := by decide +kernel
theorem dX3_wayDone_38 : decode cX3_wayDone 38 = .ok (.invokevirtual 84, 3) := by decide +kernel
theorem dX3_wayDone_41 : decode cX3_wayDone 41 = .ok (.isub, 1) := by decide +kernel
theorem dX3_wayDone_42 : decode cX3_wayDone 42 = .ok (.iadd, 1) := by decide +kernel
theorem dX3_wayDone_43 : decode cX3_wayDone 43 = .ok (.istore_n 3, 1) := by decide +kernel
theorem dX3_wayDone_44 : decode cX3_wayDone 44 = .ok (.iload_n 3, 1) := by decide +kernel
theorem dX3_wayDone_45 : decode cX3_wayDone 45 = .ok (.ireturn, 1) := by decide +kernel
theorem dX4_init_0 : decode cX4_init 0 = .ok (.aload_n 0, 1) := by decide +kernel
theorem dX4_init_1 : decode cX4_init 1 = .ok (.invokespecial 3, 3) := by decide +kernel
theorem dX4_init_4 : decode cX4_init 4 = .ok (.aload_n 0, 1) := by decide +kernel
theorem dX4_init_5 : decode cX4_init 5 = .ok (.sipush 144, 3) := by decide +kernel
theorem dX4_init_8 : decode cX4_init 8 = .ok (.newarray .int, 2) := by decide +kernel
theorem dX4_init_10 : decode cX4_init 10 = .ok (.putfield 9, 3) := by decide +kernel
theorem dX4_init_13 : decode cX4_init 13 = .ok (.aload_n 0, 1) := by decide +kernel
theorem dX4_init_14 : decode cX4_init 14 = .ok (.bipush 12, 2) := by decide +kernel
theorem dX4_init_16 : decode cX4_init 16 = .ok (.newarray .int, 2) := by decide +kernel
theorem dX4_init_18 : decode cX4_init 18 = .ok (.putfield 15, 3) := by decide +kernel
theorem dX4_init_21 : decode cX4_init 21 = .ok (.aload_n 0, 1) := by decide +kernel
theorem dX4_init_22 : decode cX4_init 22 = .ok (.getfield 15, 3) := by decide +kernel
theorem dX4_init_25 : decode cX4_init 25 = .ok (.iconst 0, 1) := by decide +kernel
theorem dX4_init_26 : decode cX4_init 26 = .ok (.iconst (-1), 1) := by decide +kernel
theorem dX4_init_27 : decode cX4_init 27 = .ok (.iastore, 1) := by decide +kernel
theorem dX4_init_28 : decode cX4_init 28 = .ok (.aload_n 0, 1) := by decide +kernel
theorem dX4_init_29 : decode cX4_init 29 = .ok (.iconst 1, 1) := by decide +kernel
theorem dX4_init_30 : decode cX4_init 30 = .ok (.putfield 18, 3) := by decide +kernel
theorem dX4_init_33 : decode cX4_init 33 = .ok (.aload_n 0, 1) := by decide +kernel
theorem dX4_init_34 : decode cX4_init 34 = .ok (.iconst 0, 1) := by decide +kernel
theorem dX4_init_35 : decode cX4_init 35 = .ok (.putfield 22, 3) := by decide +kernel
theorem dX4_init_38 : decode cX4_init 38 = .ok (.return_, 1) := by decide +kernel
theorem dX4_gateCount_0 : decode cX4_gateCount 0 = .ok (.aload_n 0, 1) := by decide +kernel
theorem dX4_gateCount_1 : decode cX4_gateCount 1 = .ok (.getfield 18, 3) := by decide +kernel
theorem dX4_gateCount_4 : decode cX4_gateCount 4 = .ok (.ireturn, 1) := by decide +kernel
theorem dX4_isFull_0 : decode cX4_isFull 0 = .ok (.aload_n 0, 1) := by decide +kernel
theorem dX4_isFull_1 : decode cX4_isFull 1 = .ok (.getfield 18, 3) := by decide +kernel
theorem dX4_isFull_4 : decode cX4_isFull 4 = .ok (.bipush 12, 2) := by decide +kernel
theorem dX4_isFull_6 : decode cX4_isFull 6 = .ok (.if_icmp .lt 7, 3) := by decide +kernel
theorem dX4_isFull_9 : decode cX4_isFull 9 = .ok (.iconst 1, 1) := by decide +kernel
theorem dX4_isFull_10 : decode cX4_isFull 10 = .ok (.goto 4, 3) := by decide +kernel
theorem dX4_isFull_13 : decode cX4_isFull 13 = .ok (.iconst 0, 1) := by decide +kernel
theorem dX4_isFull_14 : decode cX4_isFull 14 = .ok (.ireturn, 1) := by decide +kernel
theorem dX4_appendGate_0 : decode cX4_appendGate 0 = .ok (.aload_n 0, 1) := by decide +kernel
theorem dX4_appendGate_1 : decode cX4_appendGate 1 = .ok (.getfield 18, 3) := by decide +kernel
theorem dX4_appendGate_4 : decode cX4_appendGate 4 = .ok (.istore_n 2, 1) := by decide +kernel
theorem dX4_appendGate_5 : decode cX4_appendGate 5 = .ok (.aload_n 0, 1) := by decide +kernel
theorem dX4_appendGate_6 : decode cX4_appendGate 6 = .ok (.getfield 15, 3) := by decide +kernel
theorem dX4_appendGate_9 : decode cX4_appendGate 9 = .ok (.iload_n 2, 1) := by decide +kernel
theorem dX4_appendGate_10 : decode cX4_appendGate 10 = .ok (.iconst (-1), 1) := by decide +kernel
theorem dX4_appendGate_11 : decode cX4_appendGate 11 = .ok (.iastore, 1) := by decide +kernel
theorem dX4_appendGate_12 : decode cX4_appendGate 12 = .ok (.iload_n 1, 1) := by decide +kernel
theorem dX4_appendGate_13 : decode cX4_appendGate 13 = .ok (.ifCond .eq 15, 3) := by decide +kernel
theorem dX4_appendGate_16 : decode cX4_appendGate 16 = .ok (.aload_n 0, 1) := by decide +kernel
theorem dX4_appendGate_17 : decode cX4_appendGate 17 = .ok (.dup, 1) := by decide +kernel
theorem dX4_appendGate_18 : decode cX4_appendGate 18 = .ok (.getfield 22, 3) := by decide +kernel
theorem dX4_appendGate_21 : decode cX4_appendGate 21 = .ok (.iconst 1, 1) := by decide +kernel
theorem dX4_appendGate_22 : decode cX4_appendGate 22 = .ok (.iload_n 2, 1) := by decide +kernel
theorem dX4_appendGate_23 : decode cX4_appendGate 23 = .ok (.ishl, 1) := by decide +kernel
theorem dX4_appendGate_24 : decode cX4_appendGate 24 = .ok (.ior, 1) := by decide +kernel
theorem dX4_appendGate_25 : decode cX4_appendGate 25 = .ok (.putfield 22, 3) := by decide +kernel
theorem dX4_appendGate_28 : decode cX4_appendGate 28 = .ok (.aload_n 0, 1) := by decide +kernel
theorem dX4_appendGate_29 : decode cX4_appendGate 29 = .ok (.dup, 1) := by decide +kernel
theorem dX4_appendGate_30 : decode cX4_appendGate 30 = .ok (.getfield 18, 3) := by decide +kernel
theorem dX4_appendGate_33 : decode cX4_appendGate 33 = .ok (.iconst 1, 1) := by decide +kernel
theorem dX4_appendGate_34 : decode cX4_appendGate 34 = .ok (.iadd, 1) := by decide +kernel
theorem dX4_appendGate_35 : decode cX4_appendGate 35 = .ok (.putfield 18, 3) := by decide +kernel
theorem dX4_appendGate_38 : decode cX4_appendGate 38 = .ok (.iload_n 2, 1) := by decide +kernel
theorem dX4_appendGate_39 : decode cX4_appendGate 39 = .ok (.ireturn, 1) := by decide +kernel
theorem dX4_needed_0 : decode cX4_needed 0 = .ok (.aload_n 0, 1) := by decide +kernel
theorem dX4_needed_1 : decode cX4_needed 1 = .ok (.getfield 22, 3) := by decide +kernel
theorem dX4_needed_4 : decode cX4_needed 4 = .ok (.ireturn, 1) := by decide +kernel
theorem dX4_isNeeded_0 : decode cX4_isNeeded 0 = .ok (.aload_n 0, 1) := by decide +kernel
theorem dX4_isNeeded_1 : decode cX4_isNeeded 1 = .ok (.getfield 22, 3) := by decide +kernel
theorem dX4_isNeeded_4 : decode cX4_isNeeded 4 = .ok (.iconst 1, 1) := by decide +kernel
theorem dX4_isNeeded_5 : decode cX4_isNeeded 5 = .ok (.iload_n 1, 1) := by decide +kernel
theorem dX4_isNeeded_6 : decode cX4_isNeeded 6 = .ok (.ishl, 1) := by decide +kernel
theorem dX4_isNeeded_7 : decode cX4_isNeeded 7 = .ok (.iand, 1) := by decide +kernel
theorem dX4_isNeeded_8 : decode cX4_isNeeded 8 = .ok (.ifCond .eq 7, 3) := by decide +kernel
theorem dX4_isNeeded_11 : decode cX4_isNeeded 11 = .ok (.iconst 1, 1) := by decide +kernel
theorem dX4_isNeeded_12 : decode cX4_isNeeded 12 = .ok (.goto 4, 3) := by decide +kernel
theorem dX4_isNeeded_15 : decode cX4_isNeeded 15 = .ok (.iconst 0, 1) := by decide +kernel
theorem dX4_isNeeded_16 : decode cX4_isNeeded 16 = .ok (.ireturn, 1) := by decide +kernel
theorem dX4_wayLength_0 : decode cX4_wayLength 0 = .ok (.aload_n 0, 1) := by decide +kernel
theorem dX4_wayLength_1 : decode cX4_wayLength 1 = .ok (.getfield 9, 3) := by decide +kernel
theorem dX4_wayLength_4 : decode cX4_wayLength 4 = .ok (.iload_n 1, 1) := by decide +kernel
theorem dX4_wayLength_5 : decode cX4_wayLength 5 = .ok (.bipush 12, 2) := by decide +kernel
theorem dX4_wayLength_7 : decode cX4_wayLength 7 = .ok (.imul, 1) := by decide +kernel
theorem dX4_wayLength_8 : decode cX4_wayLength 8 = .ok (.iload_n 2, 1) := by decide +kernel
theorem dX4_wayLength_9 : decode cX4_wayLength 9 = .ok (.iadd, 1) := by decide +kernel
theorem dX4_wayLength_10 : decode cX4_wayLength 10 = .ok (.iaload, 1) := by decide +kernel
theorem dX4_wayLength_11 : decode cX4_wayLength 11 = .ok (.ireturn, 1) := by decide +kernel
set_option maxRecDepth 20000 in
theorem ggX4_leads_X4_wayLength : GoodIn wsX4_leads wsX4_wayLength := goodIn_r _ [5, 6, 7, 8, 9, 10] (by decide +kernel) (by decide +kernel)
set_option maxRecDepth 20000 in
theorem gX4_leads_X4_wayLength : GoodIn wsX4_leads (wsV RX4 25 RX4 yX4_wayLength wsX4_wayLength) := goodIn_app (goodIn_of _ (by decide +kernel)) ggX4_leads_X4_wayLength
theorem dX4_leads_0 : decode cX4_leads 0 = .ok (.aload_n 0, 1) := by decide +kernel
theorem dX4_leads_1 : decode cX4_leads 1 = .ok (.iload_n 1, 1) := by decide +kernel
theorem dX4_leads_2 : decode cX4_leads 2 = .ok (.iload_n 2, 1) := by decide +kernel
theorem dX4_leads_3 : decode cX4_leads 3 = .ok (.invokevirtual 25, 3) := by decide +kernel
theorem dX4_leads_6 : decode cX4_leads 6 = .ok (.ifCond .le 7, 3) := by decide +kernel
theorem dX4_leads_9 : decode cX4_leads 9 = .ok (.iconst 1, 1) := by decide +kernel
theorem dX4_leads_10 : decode cX4_leads 10 = .ok (.goto 4, 3) := by decide +kernel
theorem dX4_leads_13 : decode cX4_leads 13 = .ok (.iconst 0, 1) := by decide +kernel
theorem dX4_leads_14 : decode cX4_leads 14 = .ok (.ireturn, 1) := by decide +kernel
set_option maxRecDepth 20000 in
theorem ggX4_joins_X4_leads : GoodIn wsX4_joins wsX4_leads := goodIn_r _ [5, 6, 7, 8, 4, 9, 10, 11, 12, 13, 14] (by decide +kernel) (by decide +kernel)
set_option maxRecDepth 20000 in
theorem gX4_joins_X4_leads : GoodIn wsX4_joins (wsV RX4 29 RX4 yX4_leads wsX4_leads) := goodIn_app (goodIn_of _ (by decide +kernel)) ggX4_joins_X4_leads
theorem dX4_joins_0 : decode cX4_joins 0 = .ok (.aload_n 0, 1) := by decide +kernel
theorem dX4_joins_1 : decode cX4_joins 1 = .ok (.iload_n 1, 1) := by decide +kernel
theorem dX4_joins_2 : decode cX4_joins 2 = .ok (.iload_n 2, 1) := by decide +kernel
theorem dX4_joins_3 : decode cX4_joins 3 = .ok (.invokevirtual 29, 3) := by decide +kernel
theorem dX4_joins_6 : decode cX4_joins 6 = .ok (.ifCond .ne 12, 3) := by decide +kernel
theorem dX4_joins_9 : decode cX4_joins 9 = .ok (.aload_n 0, 1) := by decide +kernel
theorem dX4_joins_10 : decode cX4_joins 10 = .ok (.iload_n 2, 1) := by decide +kernel
theorem dX4_joins_11 : decode cX4_joins 11 = .ok (.iload_n 1, 1) := by decide +kernel
theorem dX4_joins_12 : decode cX4_joins 12 = .ok (.invokevirtual 29, 3) := by decide +kernel
theorem dX4_joins_15 : decode cX4_joins 15 = .ok (.ifCond .eq 7, 3) := by decide +kernel
theorem dX4_joins_18 : decode cX4_joins 18 = .ok (.iconst 1, 1) := by decide +kernel
theorem dX4_joins_19 : decode cX4_joins 19 = .ok (.goto 4, 3) := by decide +kernel
theorem dX4_joins_22 : decode cX4_joins 22 = .ok (.iconst 0, 1) := by decide +kernel
theorem dX4_joins_23 : decode cX4_joins 23 = .ok (.ireturn, 1) := by decide +kernel
set_option maxRecDepth 20000 in
theorem ggX4_layWay_X4_measureRests : GoodIn wsX4_layWay wsX4_measureRests := goodIn_r _ [6, 7, 8, 9, 10, 11, 5, 12, 13, 14, 15, 16, 17, 18, 19, 20, 21, 22, 23, 24, 1, 25, 26, 27, 28] (by decide +kernel) (by decide +kernel)
set_option maxRecDepth 20000 in
theorem gX4_layWay_X4_measureRests : GoodIn wsX4_layWay (wsV RX4 33 RX4 yX4_measureRests wsX4_measureRests) := goodIn_app (goodIn_of _ (by decide +kernel)) ggX4_layWay_X4_measureRests
theorem dX4_layWay_0 : decode cX4_layWay 0 = .ok (.aload_n 0, 1) := by decide +kernel
theorem dX4_layWay_1 : decode cX4_layWay 1 = .ok (.getfield 9, 3) := by decide +kernel
theorem dX4_layWay_4 : decode cX4_layWay 4 = .ok (.iload_n 1, 1) := by decide +kernel
theorem dX4_layWay_5 : decode cX4_layWay 5 = .ok (.bipush 12, 2) := by decide +kernel
theorem dX4_layWay_7 : decode cX4_layWay 7 = .ok (.imul, 1) := by decide +kernel
theorem dX4_layWay_8 : decode cX4_layWay 8 = .ok (.iload_n 2, 1) := by decide +kernel
theorem dX4_layWay_9 : decode cX4_layWay 9 = .ok (.iadd, 1) := by decide +kernel
theorem dX4_layWay_10 : decode cX4_layWay 10 = .ok (.iload_n 3, 1) := by decide +kernel
theorem dX4_layWay_11 : decode cX4_layWay 11 = .ok (.iastore, 1) := by decide +kernel
theorem dX4_layWay_12 : decode cX4_layWay 12 = .ok (.aload_n 0, 1) := by decide +kernel
theorem dX4_layWay_13 : decode cX4_layWay 13 = .ok (.invokevirtual 33, 3) := by decide +kernel
theorem dX4_layWay_16 : decode cX4_layWay 16 = .ok (.return_, 1) := by decide +kernel
theorem dX4_restOf_0 : decode cX4_restOf 0 = .ok (.aload_n 0, 1) := by decide +kernel
theorem dX4_restOf_1 : decode cX4_restOf 1 = .ok (.getfield 15, 3) := by decide +kernel
theorem dX4_restOf_4 : decode cX4_restOf 4 = .ok (.iload_n 1, 1) := by decide +kernel
theorem dX4_restOf_5 : decode cX4_restOf 5 = .ok (.iaload, 1) := by decide +kernel
theorem dX4_restOf_6 : decode cX4_restOf 6 = .ok (.ireturn, 1) := by decide +kernel
set_option maxRecDepth 20000 in
theorem ggX4_hasDeadEnd_X4_leadsOn : GoodIn wsX4_hasDeadEnd wsX4_leadsOn := goodIn_r _ [6, 1, 7, 8, 9, 5, 10, 11, 12, 13, 14, 15, 16, 17, 18, 19] (by decide +kernel) (by decide +kernel)
set_option maxRecDepth 20000 in
theorem gX4_hasDeadEnd_X4_leadsOn : GoodIn wsX4_hasDeadEnd (wsV RX4 36 RX4 yX4_leadsOn wsX4_leadsOn) := goodIn_app (goodIn_of _ (by decide +kernel)) ggX4_hasDeadEnd_X4_leadsOn
theorem dX4_hasDeadEnd_0 : decode cX4_hasDeadEnd 0 = .ok (.iconst 0, 1) := by decide +kernel
theorem dX4_hasDeadEnd_1 : decode cX4_hasDeadEnd 1 = .ok (.istore_n 1, 1) := by decide +kernel
theorem dX4_hasDeadEnd_2 : decode cX4_hasDeadEnd 2 = .ok (.iload_n 1, 1) := by decide +kernel
theorem dX4_hasDeadEnd_3 : decode cX4_hasDeadEnd 3 = .ok (.aload_n 0, 1) := by decide +kernel
theorem dX4_hasDeadEnd_4 : decode cX4_hasDeadEnd 4 = .ok (.getfield 18, 3) := by decide +kernel
end
section
theorem dX4_hasDeadEnd_7 : decode cX4_hasDeadEnd 7 = .ok (.if_icmp .ge 19, 3) := by decide +kernel
theorem dX4_hasDeadEnd_10 : decode cX4_hasDeadEnd 10 = .ok (.aload_n 0, 1) := by decide +kernel
theorem dX4_hasDeadEnd_11 : decode cX4_hasDeadEnd 11 = .ok (.iload_n 1, 1) := by decide +kernel
theorem dX4_hasDeadEnd_12 : decode cX4_hasDeadEnd 12 = .ok (.invokevirtual 36, 3) := by decide +kernel
theorem dX4_hasDeadEnd_15 : decode cX4_hasDeadEnd 15 = .ok (.ifCond .ne 5, 3) := by decide +kernel
theorem dX4_hasDeadEnd_18 : decode cX4_hasDeadEnd 18 = .ok (.iconst 1, 1) := by decide +kernel
theorem dX4_hasDeadEnd_19 : decode cX4_hasDeadEnd 19 = .ok (.ireturn, 1) := by decide +kernel
theorem dX4_hasDeadEnd_20 : decode cX4_hasDeadEnd 20 = .ok (.iinc 1 1, 3) := by decide +kernel
theorem dX4_hasDeadEnd_23 : decode cX4_hasDeadEnd 23 = .ok (.goto (-21), 3) := by decide +kernel
theorem dX4_hasDeadEnd_26 : decode cX4_hasDeadEnd 26 = .ok (.iconst 0, 1) := by decide +kernel
theorem dX4_hasDeadEnd_27 : decode cX4_hasDeadEnd 27 = .ok (.ireturn, 1) := by decide +kernel
set_option maxRecDepth 20000 in
theorem ggX4_leadsOn_X4_leads : GoodIn wsX4_leadsOn wsX4_leads := goodIn_r _ [6, 7, 8, 9, 5, 10, 11, 12, 13, 14, 15] (by decide +kernel) (by decide +kernel)
set_option maxRecDepth 20000 in
theorem gX4_leadsOn_X4_leads : GoodIn wsX4_leadsOn (wsV RX4 29 RX4 yX4_leads wsX4_leads) := goodIn_app (goodIn_of _ (by decide +kernel)) ggX4_leadsOn_X4_leads
theorem dX4_leadsOn_0 : decode cX4_leadsOn 0 = .ok (.iconst 0, 1) := by decide +kernel
theorem dX4_leadsOn_1 : decode cX4_leadsOn 1 = .ok (.istore_n 2, 1) := by decide +kernel
theorem dX4_leadsOn_2 : decode cX4_leadsOn 2 = .ok (.iload_n 2, 1) := by decide +kernel
theorem dX4_leadsOn_3 : decode cX4_leadsOn 3 = .ok (.aload_n 0, 1) := by decide +kernel
theorem dX4_leadsOn_4 : decode cX4_leadsOn 4 = .ok (.getfield 18, 3) := by decide +kernel
theorem dX4_leadsOn_7 : decode cX4_leadsOn 7 = .ok (.if_icmp .ge 20, 3) := by decide +kernel
theorem dX4_leadsOn_10 : decode cX4_leadsOn 10 = .ok (.aload_n 0, 1) := by decide +kernel
theorem dX4_leadsOn_11 : decode cX4_leadsOn 11 = .ok (.iload_n 1, 1) := by decide +kernel
theorem dX4_leadsOn_12 : decode cX4_leadsOn 12 = .ok (.iload_n 2, 1) := by decide +kernel
theorem dX4_leadsOn_13 : decode cX4_leadsOn 13 = .ok (.invokevirtual 29, 3) := by decide +kernel
theorem dX4_leadsOn_16 : decode cX4_leadsOn 16 = .ok (.ifCond .eq 5, 3) := by decide +kernel
theorem dX4_leadsOn_19 : decode cX4_leadsOn 19 = .ok (.iconst 1, 1) := by decide +kernel
theorem dX4_leadsOn_20 : decode cX4_leadsOn 20 = .ok (.ireturn, 1) := by decide +kernel
theorem dX4_leadsOn_21 : decode cX4_leadsOn 21 = .ok (.iinc 2 1, 3) := by decide +kernel
theorem dX4_leadsOn_24 : decode cX4_leadsOn 24 = .ok (.goto (-22), 3) := by decide +kernel
theorem dX4_leadsOn_27 : decode cX4_leadsOn 27 = .ok (.iconst 0, 1) := by decide +kernel
theorem dX4_leadsOn_28 : decode cX4_leadsOn 28 = .ok (.ireturn, 1) := by decide +kernel
set_option maxRecDepth 20000 in
theorem ggX4_measureRests_X4_leastRest : GoodIn wsX4_measureRests wsX4_leastRest := goodIn_r _ [7, 1, 2, 8, 9, 10, 11, 12, 13, 14, 6, 15, 16, 17, 18, 19, 20, 21, 22, 23, 24] (by decide +kernel) (by decide +kernel)
set_option maxRecDepth 20000 in
theorem gX4_measureRests_X4_leastRest : GoodIn wsX4_measureRests (wsV RX4 40 RX4 yX4_leastRest wsX4_leastRest) := goodIn_app (goodIn_of _ (by decide +kernel)) ggX4_measureRests_X4_leastRest
theorem dX4_measureRests_0 : decode cX4_measureRests 0 = .ok (.aload_n 0, 1) := by decide +kernel
theorem dX4_measureRests_1 : decode cX4_measureRests 1 = .ok (.getfield 18, 3) := by decide +kernel
theorem dX4_measureRests_4 : decode cX4_measureRests 4 = .ok (.iconst 1, 1) := by decide +kernel
theorem dX4_measureRests_5 : decode cX4_measureRests 5 = .ok (.isub, 1) := by decide +kernel
theorem dX4_measureRests_6 : decode cX4_measureRests 6 = .ok (.istore_n 1, 1) := by decide +kernel
theorem dX4_measureRests_7 : decode cX4_measureRests 7 = .ok (.iload_n 1, 1) := by decide +kernel
theorem dX4_measureRests_8 : decode cX4_measureRests 8 = .ok (.ifCond .lt 20, 3) := by decide +kernel
theorem dX4_measureRests_11 : decode cX4_measureRests 11 = .ok (.aload_n 0, 1) := by decide +kernel
theorem dX4_measureRests_12 : decode cX4_measureRests 12 = .ok (.getfield 15, 3) := by decide +kernel
theorem dX4_measureRests_15 : decode cX4_measureRests 15 = .ok (.iload_n 1, 1) := by decide +kernel
theorem dX4_measureRests_16 : decode cX4_measureRests 16 = .ok (.aload_n 0, 1) := by decide +kernel
theorem dX4_measureRests_17 : decode cX4_measureRests 17 = .ok (.iload_n 1, 1) := by decide +kernel
theorem dX4_measureRests_18 : decode cX4_measureRests 18 = .ok (.invokevirtual 40, 3) := by decide +kernel
theorem dX4_measureRests_21 : decode cX4_measureRests 21 = .ok (.iastore, 1) := by decide +kernel
theorem dX4_measureRests_22 : decode cX4_measureRests 22 = .ok (.iinc 1 (-1), 3) := by decide +kernel
theorem dX4_measureRests_25 : decode cX4_measureRests 25 = .ok (.goto (-18), 3) := by decide +kernel
theorem dX4_measureRests_28 : decode cX4_measureRests 28 = .ok (.return_, 1) := by decide +kernel
set_option maxRecDepth 20000 in
theorem ggX4_leastRest_X4_leads : GoodIn wsX4_leastRest wsX4_leads := goodIn_r _ [11, 12, 13, 14, 10, 15, 16, 17, 18, 19, 20] (by decide +kernel) (by decide +kernel)
set_option maxRecDepth 20000 in
theorem gX4_leastRest_X4_leads : GoodIn wsX4_leastRest (wsV RX4 29 RX4 yX4_leads wsX4_leads) := goodIn_app (goodIn_of _ (by decide +kernel)) ggX4_leastRest_X4_leads
set_option maxRecDepth 20000 in
theorem ggX4_leastRest_X4_wayLength : GoodIn wsX4_leastRest wsX4_wayLength := goodIn_r _ [15, 16, 17, 18, 19, 20] (by decide +kernel) (by decide +kernel)
set_option maxRecDepth 20000 in
theorem gX4_leastRest_X4_wayLength : GoodIn wsX4_leastRest (wsV RX4 25 RX4 yX4_wayLength wsX4_wayLength) := goodIn_app (goodIn_of _ (by decide +kernel)) ggX4_leastRest_X4_wayLength
theorem dX4_leastRest_0 : decode cX4_leastRest 0 = .ok (.aload_n 0, 1) := by decide +kernel
theorem dX4_leastRest_1 : decode cX4_leastRest 1 = .ok (.iload_n 1, 1) := by decide +kernel
theorem dX4_leastRest_2 : decode cX4_leastRest 2 = .ok (.iconst 0, 1) := by decide +kernel
theorem dX4_leastRest_3 : decode cX4_leastRest 3 = .ok (.invokevirtual 29, 3) := by decide +kernel
theorem dX4_leastRest_6 : decode cX4_leastRest 6 = .ok (.ifCond .eq 12, 3) := by decide +kernel
theorem dX4_leastRest_9 : decode cX4_leastRest 9 = .ok (.aload_n 0, 1) := by decide +kernel
theorem dX4_leastRest_10 : decode cX4_leastRest 10 = .ok (.iload_n 1, 1) := by decide +kernel
theorem dX4_leastRest_11 : decode cX4_leastRest 11 = .ok (.iconst 0, 1) := by decide +kernel
theorem dX4_leastRest_12 : decode cX4_leastRest 12 = .ok (.invokevirtual 25, 3) := by decide +kernel
theorem dX4_leastRest_15 : decode cX4_leastRest 15 = .ok (.goto 4, 3) := by decide +kernel
theorem dX4_leastRest_18 : decode cX4_leastRest 18 = .ok (.iconst (-1), 1) := by decide +kernel
theorem dX4_leastRest_19 : decode cX4_leastRest 19 = .ok (.istore_n 2, 1) := by decide +kernel
theorem dX4_leastRest_20 : decode cX4_leastRest 20 = .ok (.iload_n 1, 1) := by decide +kernel
theorem dX4_leastRest_21 : decode cX4_leastRest 21 = .ok (.iconst 1, 1) := by decide +kernel
theorem dX4_leastRest_22 : decode cX4_leastRest 22 = .ok (.iadd, 1) := by decide +kernel
theorem dX4_leastRest_23 : decode cX4_leastRest 23 = .ok (.istore_n 3, 1) := by decide +kernel
theorem dX4_leastRest_24 : decode cX4_leastRest 24 = .ok (.iload_n 3, 1) := by decide +kernel
theorem dX4_leastRest_25 : decode cX4_leastRest 25 = .ok (.aload_n 0, 1) := by decide +kernel
theorem dX4_leastRest_26 : decode cX4_leastRest 26 = .ok (.getfield 18, 3) := by decide +kernel
theorem dX4_leastRest_29 : decode cX4_leastRest 29 = .ok (.if_icmp .ge 60, 3) := by decide +kernel
theorem dX4_leastRest_32 : decode cX4_leastRest 32 = .ok (.aload_n 0, 1) := by decide +kernel
theorem dX4_leastRest_33 : decode cX4_leastRest 33 = .ok (.iload_n 1, 1) := by decide +kernel
theorem dX4_leastRest_34 : decode cX4_leastRest 34 = .ok (.iload_n 3, 1) := by decide +kernel
theorem dX4_leastRest_35 : decode cX4_leastRest 35 = .ok (.invokevirtual 29, 3) := by decide +kernel
theorem dX4_leastRest_38 : decode cX4_leastRest 38 = .ok (.ifCond .eq 45, 3) := by decide +kernel
theorem dX4_leastRest_41 : decode cX4_leastRest 41 = .ok (.aload_n 0, 1) := by decide +kernel
theorem dX4_leastRest_42 : decode cX4_leastRest 42 = .ok (.getfield 15, 3) := by decide +kernel
theorem dX4_leastRest_45 : decode cX4_leastRest 45 = .ok (.iload_n 3, 1) := by decide +kernel
theorem dX4_leastRest_46 : decode cX4_leastRest 46 = .ok (.iaload, 1) := by decide +kernel
theorem dX4_leastRest_47 : decode cX4_leastRest 47 = .ok (.iconst (-1), 1) := by decide +kernel
theorem dX4_leastRest_48 : decode cX4_leastRest 48 = .ok (.if_icmp .eq 35, 3) := by decide +kernel
theorem dX4_leastRest_51 : decode cX4_leastRest 51 = .ok (.aload_n 0, 1) := by decide +kernel
theorem dX4_leastRest_52 : decode cX4_leastRest 52 = .ok (.iload_n 1, 1) := by decide +kernel
theorem dX4_leastRest_53 : decode cX4_leastRest 53 = .ok (.iload_n 3, 1) := by decide +kernel
theorem dX4_leastRest_54 : decode cX4_leastRest 54 = .ok (.invokevirtual 25, 3) := by decide +kernel
theorem dX4_leastRest_57 : decode cX4_leastRest 57 = .ok (.aload_n 0, 1) := by decide +kernel
theorem dX4_leastRest_58 : decode cX4_leastRest 58 = .ok (.getfield 15, 3) := by decide +kernel
theorem dX4_leastRest_61 : decode cX4_leastRest 61 = .ok (.iload_n 3, 1) := by decide +kernel
theorem dX4_leastRest_62 : decode cX4_leastRest 62 = .ok (.iaload, 1) := by decide +kernel
theorem dX4_leastRest_63 : decode cX4_leastRest 63 = .ok (.iadd, 1) := by decide +kernel
theorem dX4_leastRest_64 : decode cX4_leastRest 64 = .ok (.istore 4, 2) := by decide +kernel
theorem dX4_leastRest_66 : decode cX4_leastRest 66 = .ok (.iload_n 2, 1) := by decide +kernel
theorem dX4_leastRest_67 : decode cX4_leastRest 67 = .ok (.iconst (-1), 1) := by decide +kernel
theorem dX4_leastRest_68 : decode cX4_leastRest 68 = .ok (.if_icmp .ne 8, 3) := by decide +kernel
theorem dX4_leastRest_71 : decode cX4_leastRest 71 = .ok (.iload 4, 2) := by decide +kernel
theorem dX4_leastRest_73 : decode cX4_leastRest 73 = .ok (.goto 9, 3) := by decide +kernel
theorem dX4_leastRest_76 : decode cX4_leastRest 76 = .ok (.iload_n 2, 1) := by decide +kernel
theorem dX4_leastRest_77 : decode cX4_leastRest 77 = .ok (.iload 4, 2) := by decide +kernel
theorem dX4_leastRest_79 : decode cX4_leastRest 79 = .ok (.invokestatic 44, 3) := by decide +kernel
theorem dX4_leastRest_82 : decode cX4_leastRest 82 = .ok (.istore_n 2, 1) := by decide +kernel
theorem dX4_leastRest_83 : decode cX4_leastRest 83 = .ok (.iinc 3 1, 3) := by decide +kernel
theorem dX4_leastRest_86 : decode cX4_leastRest 86 = .ok (.goto (-62), 3) := by decide +kernel
theorem dX4_leastRest_89 : decode cX4_leastRest 89 = .ok (.iload_n 2, 1) := by decide +kernel
theorem dX4_leastRest_90 : decode cX4_leastRest 90 = .ok (.ireturn, 1) := by decide +kernel
set_option maxRecDepth 20000 in
theorem ggX5_init_X4_init : GoodIn wsX5_init wsX4_init := goodIn_r _ [32, 33, 2, 3, 25, 34, 35, 36, 37, 81, 82, 83, 84] (by decide +kernel) (by decide +kernel)
set_option maxRecDepth 20000 in
theorem gX5_init_X4_init : GoodIn wsX5_init (wsX4_init) := ggX5_init_X4_init
set_option maxRecDepth 20000 in
theorem ggX5_init_X3_init : GoodIn wsX5_init wsX3_init := goodIn_r _ [40, 41, 2, 3, 42, 25, 43, 44, 45, 46, 47, 48, 49, 50, 51, 52, 95, 96, 97, 98, 99, 100, 101, 102, 103, 104, 105] (by decide +kernel) (by decide +kernel)
set_option maxRecDepth 20000 in
theorem gX5_init_X3_init : GoodIn wsX5_init (wsX3_init) := ggX5_init_X3_init
set_option maxRecDepth 20000 in
theorem ggX5_init_X2_init : GoodIn wsX5_init wsX2_init := goodIn_r _ [55, 56, 2, 3, 25, 57, 58, 59, 106, 107, 108] (by decide +kernel) (by decide +kernel)
set_option maxRecDepth 20000 in
theorem gX5_init_X2_init : GoodIn wsX5_init (wsX2_init) := ggX5_init_X2_init
set_option maxRecDepth 20000 in
theorem ggX5_init_X1_init : GoodIn wsX5_init wsX1_init := goodIn_r _ [62, 63, 2, 3, 25, 64, 65, 66, 67, 68, 69, 70, 71, 19, 72, 109, 110, 111, 112] (by decide +kernel) (by decide +kernel)
set_option maxRecDepth 20000 in
theorem gX5_init_X1_init : GoodIn wsX5_init (wsX1_init) := ggX5_init_X1_init
set_option maxRecDepth 20000 in
theorem ggX5_init_X0_init : GoodIn wsX5_init wsX0_init := goodIn_r _ [75, 76, 2, 3, 25, 77, 78, 79, 80, 113, 114, 115, 116] (by decide +kernel) (by decide +kernel)
set_option maxRecDepth 20000 in
theorem gX5_init_X0_init : GoodIn wsX5_init (wsX0_init) := ggX5_init_X0_init
theorem dX5_init_0 : decode cX5_init 0 = .ok (.aload_n 0, 1) := by decide +kernel
theorem dX5_init_1 : decode cX5_init 1 = .ok (.invokespecial 1, 3) := by decide +kernel
theorem dX5_init_4 : decode cX5_init 4 = .ok (.aload_n 0, 1) := by decide +kernel
theorem dX5_init_5 : decode cX5_init 5 = .ok (.new 7, 3) := by decide +kernel
theorem dX5_init_8 : decode cX5_init 8 = .ok (.dup, 1) := by decide +kernel
theorem dX5_init_9 : decode cX5_init 9 = .ok (.invokespecial 9, 3) := by decide +kernel
theorem dX5_init_12 : decode cX5_init 12 = .ok (.putfield 10, 3) := by decide +kernel
theorem dX5_init_15 : decode cX5_init 15 = .ok (.aload_n 0, 1) := by decide +kernel
theorem dX5_init_16 : decode cX5_init 16 = .ok (.new 16, 3) := by decide +kernel
theorem dX5_init_19 : decode cX5_init 19 = .ok (.dup, 1) := by decide +kernel
theorem dX5_init_20 : decode cX5_init 20 = .ok (.aload_n 0, 1) := by decide +kernel
theorem dX5_init_21 : decode cX5_init 21 = .ok (.getfield 10, 3) := by decide +kernel
theorem dX5_init_24 : decode cX5_init 24 = .ok (.invokespecial 18, 3) := by decide +kernel
theorem dX5_init_27 : decode cX5_init 27 = .ok (.putfield 21, 3) := by decide +kernel
theorem dX5_init_30 : decode cX5_init 30 = .ok (.aload_n 0, 1) := by decide +kernel
theorem dX5_init_31 : decode cX5_init 31 = .ok (.new 16, 3) := by decide +kernel
theorem dX5_init_34 : decode cX5_init 34 = .ok (.dup, 1) := by decide +kernel
theorem dX5_init_35 : decode cX5_init 35 = .ok (.aload_n 0, 1) := by decide +kernel
theorem dX5_init_36 : decode cX5_init 36 = .ok (.getfield 10, 3) := by decide +kernel
theorem dX5_init_39 : decode cX5_init 39 = .ok (.invokespecial 18, 3) := by decide +kernel
theorem dX5_init_42 : decode cX5_init 42 = .ok (.putfield 25, 3) := by decide +kernel
theorem dX5_init_45 : decode cX5_init 45 = .ok (.aload_n 0, 1) := by decide +kernel
theorem dX5_init_46 : decode cX5_init 46 = .ok (.new 28, 3) := by decide +kernel
theorem dX5_init_49 : decode cX5_init 49 = .ok (.dup, 1) := by decide +kernel
theorem dX5_init_50 : decode cX5_init 50 = .ok (.invokespecial 30, 3) := by decide +kernel
theorem dX5_init_53 : decode cX5_init 53 = .ok (.putfield 31, 3) := by decide +kernel
theorem dX5_init_56 : decode cX5_init 56 = .ok (.aload_n 0, 1) := by decide +kernel
theorem dX5_init_57 : decode cX5_init 57 = .ok (.new 35, 3) := by decide +kernel
theorem dX5_init_60 : decode cX5_init 60 = .ok (.dup, 1) := by decide +kernel
theorem dX5_init_61 : decode cX5_init 61 = .ok (.invokespecial 37, 3) := by decide +kernel
theorem dX5_init_64 : decode cX5_init 64 = .ok (.putfield 38, 3) := by decide +kernel
theorem dX5_init_67 : decode cX5_init 67 = .ok (.aload_n 0, 1) := by decide +kernel
theorem dX5_init_68 : decode cX5_init 68 = .ok (.new 42, 3) := by decide +kernel
theorem dX5_init_71 : decode cX5_init 71 = .ok (.dup, 1) := by decide +kernel
theorem dX5_init_72 : decode cX5_init 72 = .ok (.invokespecial 44, 3) := by decide +kernel
theorem dX5_init_75 : decode cX5_init 75 = .ok (.putfield 45, 3) := by decide +kernel
theorem dX5_init_78 : decode cX5_init 78 = .ok (.aload_n 0, 1) := by decide +kernel
theorem dX5_init_79 : decode cX5_init 79 = .ok (.bipush 6, 2) := by decide +kernel
theorem dX5_init_81 : decode cX5_init 81 = .ok (.newarray .int, 2) := by decide +kernel
theorem dX5_init_83 : decode cX5_init 83 = .ok (.putfield 49, 3) := by decide +kernel
theorem dX5_init_86 : decode cX5_init 86 = .ok (.aload_n 0, 1) := by decide +kernel
theorem dX5_init_87 : decode cX5_init 87 = .ok (.iconst 0, 1) := by decide +kernel
theorem dX5_init_88 : decode cX5_init 88 = .ok (.putfield 53, 3) := by decide +kernel
theorem dX5_init_91 : decode cX5_init 91 = .ok (.aload_n 0, 1) := by decide +kernel
theorem dX5_init_92 : decode cX5_init 92 = .ok (.iconst 0, 1) := by decide +kernel
theorem dX5_init_93 : decode cX5_init 93 = .ok (.putfield 57, 3) := by decide +kernel
theorem dX5_init_96 : decode cX5_init 96 = .ok (.aload_n 0, 1) := by decide +kernel
theorem dX5_init_97 : decode cX5_init 97 = .ok (.iconst 0, 1) := by decide +kernel
theorem dX5_init_98 : decode cX5_init 98 = .ok (.putfield 61, 3) := by decide +kernel
theorem dX5_init_101 : decode cX5_init 101 = .ok (.return_, 1) := by decide +kernel
set_option maxRecDepth 20000 in
theorem ggX5_addGate_X5_checkNeverStarted : GoodIn wsX5_addGate wsX5_checkNeverStarted := goodIn_ca (goodIn_r _ [8, 1, 2, 9, 10, 11, 12, 13, 14, 15, 16, 29, 30, 31, 32, 33, 34, 35, 36, 37, 38, 39, 40, 41, 42] (by decide +kernel) (by decide +kernel)) (goodIn_sub (fun _ h => List.mem_cons_of_mem _ (List.mem_append_right _ h)) (by decide +kernel))
set_option maxRecDepth 20000 in
theorem gX5_addGate_X5_checkNeverStarted : GoodIn wsX5_addGate (wsV RX5 64 RX5 yX5_checkNeverStarted wsX5_checkNeverStarted) := goodIn_app (goodIn_of _ (by decide +kernel)) ggX5_addGate_X5_checkNeverStarted
set_option maxRecDepth 20000 in
theorem ggX5_addGate_X4_isFull : GoodIn wsX5_addGate wsX4_isFull := goodIn_r _ [21, 22, 43, 44, 45, 46] (by decide +kernel) (by decide +kernel)
set_option maxRecDepth 20000 in
theorem gX5_addGate_X4_isFull : GoodIn wsX5_addGate (wsV RX5 67 RX4 yX4_isFull wsX4_isFull) := goodIn_app (goodIn_of _ (by decide +kernel)) ggX5_addGate_X4_isFull
set_option maxRecDepth 20000 in
theorem ggX5_addGate_X4_appendGate : GoodIn wsX5_addGate wsX4_appendGate := goodIn_r _ [26, 22, 27, 28, 43, 44, 45, 46] (by decide +kernel) (by decide +kernel)
set_option maxRecDepth 20000 in
theorem gX5_addGate_X4_appendGate : GoodIn wsX5_addGate (wsV RX5 78 RX4 yX4_appendGate wsX4_appendGate) := goodIn_app (goodIn_of _ (by decide +kernel)) ggX5_addGate_X4_appendGate
theorem dX5_addGate_0 : decode cX5_addGate 0 = .ok (.aload_n 0, 1) := by decide +kernel
theorem dX5_addGate_1 : decode cX5_addGate 1 = .ok (.invokevirtual 64, 3) := by decide +kernel
theorem dX5_addGate_4 : decode cX5_addGate 4 = .ok (.aload_n 0, 1) := by decide +kernel
theorem dX5_addGate_5 : decode cX5_addGate 5 = .ok (.getfield 10, 3) := by decide +kernel
theorem dX5_addGate_8 : decode cX5_addGate 8 = .ok (.invokevirtual 67, 3) := by decide +kernel
theorem dX5_addGate_11 : decode cX5_addGate 11 = .ok (.ifCond .eq 13, 3) := by decide +kernel
theorem dX5_addGate_14 : decode cX5_addGate 14 = .ok (.new 71, 3) := by decide +kernel
theorem dX5_addGate_17 : decode cX5_addGate 17 = .ok (.dup, 1) := by decide +kernel
theorem dX5_addGate_18 : decode cX5_addGate 18 = .ok (.ldc 73, 2) := by decide +kernel
theorem dX5_addGate_20 : decode cX5_addGate 20 = .ok (.invokespecial 75, 3) := by decide +kernel
theorem dX5_addGate_23 : decode cX5_addGate 23 = .ok (.athrow, 1) := by decide +kernel
theorem dX5_addGate_24 : decode cX5_addGate 24 = .ok (.aload_n 0, 1) := by decide +kernel
theorem dX5_addGate_25 : decode cX5_addGate 25 = .ok (.getfield 10, 3) := by decide +kernel
theorem dX5_addGate_28 : decode cX5_addGate 28 = .ok (.iload_n 1, 1) := by decide +kernel
theorem dX5_addGate_29 : decode cX5_addGate 29 = .ok (.invokevirtual 78, 3) := by decide +kernel
theorem dX5_addGate_32 : decode cX5_addGate 32 = .ok (.ireturn, 1) := by decide +kernel
set_option maxRecDepth 20000 in
theorem ggX5_addWay_X5_checkGate : GoodIn wsX5_addWay wsX5_checkGate := goodIn_ca (goodIn_r _ [8, 9, 10, 3, 11, 12, 13, 14, 15, 16, 58, 59, 60, 61, 62, 63, 64, 65, 66, 67, 68, 69, 70, 71] (by decide +kernel) (by decide +kernel)) (goodIn_sub (fun _ h => List.mem_cons_of_mem _ (List.mem_append_left _ (List.mem_append_right _ h))) (by decide +kernel))
set_option maxRecDepth 20000 in
theorem gX5_addWay_X5_checkGate : GoodIn wsX5_addWay (wsV RX5 82 RX5 yX5_checkGate wsX5_checkGate) := goodIn_app (goodIn_of _ (by decide +kernel)) ggX5_addWay_X5_checkGate
set_option maxRecDepth 20000 in
theorem ggX5_addWay_X5_checkNeverStarted : GoodIn wsX5_addWay wsX5_checkNeverStarted := goodIn_ca (goodIn_r _ [20, 21, 22, 23, 24, 25, 26, 27, 28, 29, 30, 58, 59, 60, 61, 62, 63, 64, 65, 66, 67, 72, 73, 74, 75] (by decide +kernel) (by decide +kernel)) (goodIn_sub (fun _ h => List.mem_cons_of_mem _ (List.mem_append_right _ h)) (by decide +kernel))
set_option maxRecDepth 20000 in
theorem gX5_addWay_X5_checkNeverStarted : GoodIn wsX5_addWay (wsV RX5 64 RX5 yX5_checkNeverStarted wsX5_checkNeverStarted) := goodIn_app (goodIn_of _ (by decide +kernel)) ggX5_addWay_X5_checkNeverStarted
set_option maxRecDepth 20000 in
theorem ggX5_addWay_X4_wayLength : GoodIn wsX5_addWay wsX4_wayLength := goodIn_r _ [34, 35, 68, 69, 70, 71] (by decide +kernel) (by decide +kernel)
set_option maxRecDepth 20000 in
theorem gX5_addWay_X4_wayLength : GoodIn wsX5_addWay (wsV RX5 95 RX4 yX4_wayLength wsX4_wayLength) := goodIn_app (goodIn_of _ (by decide +kernel)) ggX5_addWay_X4_wayLength
set_option maxRecDepth 20000 in
theorem ggX5_addWay_X4_layWay : GoodIn wsX5_addWay wsX4_layWay := goodIn_r _ [39, 35, 40, 41, 42, 14, 43, 16, 44, 45, 46, 47, 48, 49, 50, 51, 52, 53, 54, 55, 56, 57, 32, 33, 34, 68, 69, 70, 71] (by decide +kernel) (by decide +kernel)
set_option maxRecDepth 20000 in
theorem gX5_addWay_X4_layWay : GoodIn wsX5_addWay (wsV RX5 99 RX4 yX4_layWay wsX4_layWay) := goodIn_app (goodIn_of _ (by decide +kernel)) ggX5_addWay_X4_layWay
theorem dX5_addWay_0 : decode cX5_addWay 0 = .ok (.aload_n 0, 1) := by decide +kernel
theorem dX5_addWay_1 : decode cX5_addWay 1 = .ok (.iload_n 1, 1) := by decide +kernel
theorem dX5_addWay_2 : decode cX5_addWay 2 = .ok (.invokevirtual 82, 3) := by decide +kernel
theorem dX5_addWay_5 : decode cX5_addWay 5 = .ok (.aload_n 0, 1) := by decide +kernel
theorem dX5_addWay_6 : decode cX5_addWay 6 = .ok (.iload_n 2, 1) := by decide +kernel
theorem dX5_addWay_7 : decode cX5_addWay 7 = .ok (.invokevirtual 82, 3) := by decide +kernel
theorem dX5_addWay_10 : decode cX5_addWay 10 = .ok (.iload_n 2, 1) := by decide +kernel
theorem dX5_addWay_11 : decode cX5_addWay 11 = .ok (.iload_n 1, 1) := by decide +kernel
theorem dX5_addWay_12 : decode cX5_addWay 12 = .ok (.if_icmp .gt 17, 3) := by decide +kernel
theorem dX5_addWay_15 : decode cX5_addWay 15 = .ok (.iload_n 2, 1) := by decide +kernel
theorem dX5_addWay_16 : decode cX5_addWay 16 = .ok (.ifCond .eq 13, 3) := by decide +kernel
theorem dX5_addWay_19 : decode cX5_addWay 19 = .ok (.new 86, 3) := by decide +kernel
theorem dX5_addWay_22 : decode cX5_addWay 22 = .ok (.dup, 1) := by decide +kernel
theorem dX5_addWay_23 : decode cX5_addWay 23 = .ok (.ldc 88, 2) := by decide +kernel
theorem dX5_addWay_25 : decode cX5_addWay 25 = .ok (.invokespecial 90, 3) := by decide +kernel
theorem dX5_addWay_28 : decode cX5_addWay 28 = .ok (.athrow, 1) := by decide +kernel
theorem dX5_addWay_29 : decode cX5_addWay 29 = .ok (.iload_n 1, 1) := by decide +kernel
theorem dX5_addWay_30 : decode cX5_addWay 30 = .ok (.ifCond .ne 17, 3) := by decide +kernel
theorem dX5_addWay_33 : decode cX5_addWay 33 = .ok (.iload_n 2, 1) := by decide +kernel
theorem dX5_addWay_34 : decode cX5_addWay 34 = .ok (.ifCond .ne 13, 3) := by decide +kernel
theorem dX5_addWay_37 : decode cX5_addWay 37 = .ok (.new 86, 3) := by decide +kernel
theorem dX5_addWay_40 : decode cX5_addWay 40 = .ok (.dup, 1) := by decide +kernel
theorem dX5_addWay_41 : decode cX5_addWay 41 = .ok (.ldc 91, 2) := by decide +kernel
theorem dX5_addWay_43 : decode cX5_addWay 43 = .ok (.invokespecial 90, 3) := by decide +kernel
theorem dX5_addWay_46 : decode cX5_addWay 46 = .ok (.athrow, 1) := by decide +kernel
theorem dX5_addWay_47 : decode cX5_addWay 47 = .ok (.iload_n 3, 1) := by decide +kernel
theorem dX5_addWay_48 : decode cX5_addWay 48 = .ok (.iconst 1, 1) := by decide +kernel
theorem dX5_addWay_49 : decode cX5_addWay 49 = .ok (.if_icmp .lt 9, 3) := by decide +kernel
theorem dX5_addWay_52 : decode cX5_addWay 52 = .ok (.iload_n 3, 1) := by decide +kernel
theorem dX5_addWay_53 : decode cX5_addWay 53 = .ok (.bipush 100, 2) := by decide +kernel
theorem dX5_addWay_55 : decode cX5_addWay 55 = .ok (.if_icmp .le 13, 3) := by decide +kernel
theorem dX5_addWay_58 : decode cX5_addWay 58 = .ok (.new 86, 3) := by decide +kernel
theorem dX5_addWay_61 : decode cX5_addWay 61 = .ok (.dup, 1) := by decide +kernel
theorem dX5_addWay_62 : decode cX5_addWay 62 = .ok (.ldc 93, 2) := by decide +kernel
theorem dX5_addWay_64 : decode cX5_addWay 64 = .ok (.invokespecial 90, 3) := by decide +kernel
theorem dX5_addWay_67 : decode cX5_addWay 67 = .ok (.athrow, 1) := by decide +kernel
theorem dX5_addWay_68 : decode cX5_addWay 68 = .ok (.aload_n 0, 1) := by decide +kernel
theorem dX5_addWay_69 : decode cX5_addWay 69 = .ok (.invokevirtual 64, 3) := by decide +kernel
theorem dX5_addWay_72 : decode cX5_addWay 72 = .ok (.aload_n 0, 1) := by decide +kernel
theorem dX5_addWay_73 : decode cX5_addWay 73 = .ok (.getfield 10, 3) := by decide +kernel
theorem dX5_addWay_76 : decode cX5_addWay 76 = .ok (.iload_n 1, 1) := by decide +kernel
theorem dX5_addWay_77 : decode cX5_addWay 77 = .ok (.iload_n 2, 1) := by decide +kernel
theorem dX5_addWay_78 : decode cX5_addWay 78 = .ok (.invokevirtual 95, 3) := by decide +kernel
theorem dX5_addWay_81 : decode cX5_addWay 81 = .ok (.istore 4, 2) := by decide +kernel
theorem dX5_addWay_83 : decode cX5_addWay 83 = .ok (.aload_n 0, 1) := by decide +kernel
theorem dX5_addWay_84 : decode cX5_addWay 84 = .ok (.getfield 10, 3) := by decide +kernel
theorem dX5_addWay_87 : decode cX5_addWay 87 = .ok (.iload_n 1, 1) := by decide +kernel
theorem dX5_addWay_88 : decode cX5_addWay 88 = .ok (.iload_n 2, 1) := by decide +kernel
theorem dX5_addWay_89 : decode cX5_addWay 89 = .ok (.iload_n 3, 1) := by decide +kernel
theorem dX5_addWay_90 : decode cX5_addWay 90 = .ok (.invokevirtual 99, 3) := by decide +kernel
theorem dX5_addWay_93 : decode cX5_addWay 93 = .ok (.iload 4, 2) := by decide +kernel
theorem dX5_addWay_95 : decode cX5_addWay 95 = .ok (.ifCond .ne 7, 3) := by decide +kernel
theorem dX5_addWay_98 : decode cX5_addWay 98 = .ok (.iconst (-1), 1) := by decide +kernel
theorem dX5_addWay_99 : decode cX5_addWay 99 = .ok (.goto 5, 3) := by decide +kernel
theorem dX5_addWay_102 : decode cX5_addWay 102 = .ok (.iload 4, 2) := by decide +kernel
theorem dX5_addWay_104 : decode cX5_addWay 104 = .ok (.ireturn, 1) := by decide +kernel
set_option maxRecDepth 20000 in
theorem ggX5_addKart_X5_checkTeam : GoodIn wsX5_addKart wsX5_checkTeam := goodIn_ca (goodIn_r _ [9, 10, 11] (by decide +kernel) (by decide +kernel)) (goodIn_sub (fun _ h => List.mem_cons_of_mem _ (List.mem_append_right _ h)) (by decide +kernel))
set_option maxRecDepth 20000 in
theorem gX5_addKart_X5_checkTeam : GoodIn wsX5_addKart (wsV RX5 103 RX5 yX5_checkTeam wsX5_checkTeam) := goodIn_app (goodIn_of _ (by decide +kernel)) ggX5_addKart_X5_checkTeam
set_option maxRecDepth 20000 in
theorem ggX5_addKart_X5_checkNeverStarted : GoodIn wsX5_addKart wsX5_checkNeverStarted := goodIn_ca (goodIn_r _ [15, 1, 2, 16, 17, 18, 19, 20, 21, 22, 23, 24, 25, 26, 27, 28, 29, 30, 31, 32, 33, 34, 35, 36, 37] (by decide +kernel) (by decide +kernel)) (goodIn_sub (fun _ h => List.mem_cons_of_mem _ (List.mem_append_left _ (List.mem_append_right _ h))) (by decide +kernel))
set_option maxRecDepth 20000 in
theorem gX5_addKart_X5_checkNeverStarted : GoodIn wsX5_addKart (wsV RX5 64 RX5 yX5_checkNeverStarted wsX5_checkNeverStarted) := goodIn_app (goodIn_of _ (by decide +kernel)) ggX5_addKart_X5_checkNeverStarted
theorem dX5_addKart_0 : decode cX5_addKart 0 = .ok (.aload_n 0, 1) := by decide +kernel
theorem dX5_addKart_1 : decode cX5_addKart 1 = .ok (.iload_n 1, 1) := by decide +kernel
theorem dX5_addKart_2 : decode cX5_addKart 2 = .ok (.invokevirtual 103, 3) := by decide +kernel
theorem dX5_addKart_5 : decode cX5_addKart 5 = .ok (.aload_n 0, 1) := by decide +kernel
theorem dX5_addKart_6 : decode cX5_addKart 6 = .ok (.invokevirtual 64, 3) := by decide +kernel
theorem dX5_addKart_9 : decode cX5_addKart 9 = .ok (.aload_n 0, 1) := by decide +kernel
theorem dX5_addKart_10 : decode cX5_addKart 10 = .ok (.getfield 53, 3) := by decide +kernel
theorem dX5_addKart_13 : decode cX5_addKart 13 = .ok (.bipush 6, 2) := by decide +kernel
theorem dX5_addKart_15 : decode cX5_addKart 15 = .ok (.if_icmp .lt 13, 3) := by decide +kernel
theorem dX5_addKart_18 : decode cX5_addKart 18 = .ok (.new 71, 3) := by decide +kernel
theorem dX5_addKart_21 : decode cX5_addKart 21 = .ok (.dup, 1) := by decide +kernel
theorem dX5_addKart_22 : decode cX5_addKart 22 = .ok (.ldc 106, 2) := by decide +kernel
theorem dX5_addKart_24 : decode cX5_addKart 24 = .ok (.invokespecial 75, 3) := by decide +kernel
theorem dX5_addKart_27 : decode cX5_addKart 27 = .ok (.athrow, 1) := by decide +kernel
theorem dX5_addKart_28 : decode cX5_addKart 28 = .ok (.aload_n 0, 1) := by decide +kernel
theorem dX5_addKart_29 : decode cX5_addKart 29 = .ok (.getfield 53, 3) := by decide +kernel
theorem dX5_addKart_32 : decode cX5_addKart 32 = .ok (.istore_n 2, 1) := by decide +kernel
theorem dX5_addKart_33 : decode cX5_addKart 33 = .ok (.aload_n 0, 1) := by decide +kernel
theorem dX5_addKart_34 : decode cX5_addKart 34 = .ok (.getfield 49, 3) := by decide +kernel
theorem dX5_addKart_37 : decode cX5_addKart 37 = .ok (.iload_n 2, 1) := by decide +kernel
theorem dX5_addKart_38 : decode cX5_addKart 38 = .ok (.iload_n 1, 1) := by decide +kernel
theorem dX5_addKart_39 : decode cX5_addKart 39 = .ok (.iastore, 1) := by decide +kernel
theorem dX5_addKart_40 : decode cX5_addKart 40 = .ok (.aload_n 0, 1) := by decide +kernel
theorem dX5_addKart_41 : decode cX5_addKart 41 = .ok (.dup, 1) := by decide +kernel
theorem dX5_addKart_42 : decode cX5_addKart 42 = .ok (.getfield 53, 3) := by decide +kernel
theorem dX5_addKart_45 : decode cX5_addKart 45 = .ok (.iconst 1, 1) := by decide +kernel
theorem dX5_addKart_46 : decode cX5_addKart 46 = .ok (.iadd, 1) := by decide +kernel
theorem dX5_addKart_47 : decode cX5_addKart 47 = .ok (.putfield 53, 3) := by decide +kernel
theorem dX5_addKart_50 : decode cX5_addKart 50 = .ok (.iload_n 2, 1) := by decide +kernel
theorem dX5_addKart_51 : decode cX5_addKart 51 = .ok (.ireturn, 1) := by decide +kernel
set_option maxRecDepth 20000 in
theorem ggX5_gates_X4_gateCount : GoodIn wsX5_gates wsX4_gateCount := goodIn_r _ [6, 7, 18, 19, 20, 21] (by decide +kernel) (by decide +kernel)
set_option maxRecDepth 20000 in
theorem gX5_gates_X4_gateCount : GoodIn wsX5_gates (wsV RX5 108 RX4 yX4_gateCount wsX4_gateCount) := goodIn_app (goodIn_of _ (by decide +kernel)) ggX5_gates_X4_gateCount
theorem dX5_gates_0 : decode cX5_gates 0 = .ok (.aload_n 0, 1) := by decide +kernel
theorem dX5_gates_1 : decode cX5_gates 1 = .ok (.getfield 10, 3) := by decide +kernel
theorem dX5_gates_4 : decode cX5_gates 4 = .ok (.invokevirtual 108, 3) := by decide +kernel
theorem dX5_gates_7 : decode cX5_gates 7 = .ok (.ireturn, 1) := by decide +kernel
theorem dX5_karts_0 : decode cX5_karts 0 = .ok (.aload_n 0, 1) := by decide +kernel
theorem dX5_karts_1 : decode cX5_karts 1 = .ok (.getfield 53, 3) := by decide +kernel
theorem dX5_karts_4 : decode cX5_karts 4 = .ok (.ireturn, 1) := by decide +kernel
set_option maxRecDepth 20000 in
theorem ggX5_rest_X5_checkGate : GoodIn wsX5_rest wsX5_checkGate := goodIn_ca (goodIn_r _ [6, 7, 8, 1, 9, 10, 11, 12, 13, 14, 20, 21, 22, 23, 24, 25, 26, 27, 28, 29, 30, 31, 32, 33] (by decide +kernel) (by decide +kernel)) (goodIn_sub (fun _ h => List.mem_cons_of_mem _ (List.mem_append_right _ h)) (by decide +kernel))
set_option maxRecDepth 20000 in
theorem gX5_rest_X5_checkGate : GoodIn wsX5_rest (wsV RX5 82 RX5 yX5_checkGate wsX5_checkGate) := goodIn_app (goodIn_of _ (by decide +kernel)) ggX5_rest_X5_checkGate
set_option maxRecDepth 20000 in
theorem ggX5_rest_X4_restOf : GoodIn wsX5_rest wsX4_restOf := goodIn_r _ [18, 19, 30, 31, 32, 33] (by decide +kernel) (by decide +kernel)
set_option maxRecDepth 20000 in
theorem gX5_rest_X4_restOf : GoodIn wsX5_rest (wsV RX5 112 RX4 yX4_restOf wsX4_restOf) := goodIn_app (goodIn_of _ (by decide +kernel)) ggX5_rest_X4_restOf
theorem dX5_rest_0 : decode cX5_rest 0 = .ok (.aload_n 0, 1) := by decide +kernel
theorem dX5_rest_1 : decode cX5_rest 1 = .ok (.iload_n 1, 1) := by decide +kernel
theorem dX5_rest_2 : decode cX5_rest 2 = .ok (.invokevirtual 82, 3) := by decide +kernel
theorem dX5_rest_5 : decode cX5_rest 5 = .ok (.aload_n 0, 1) := by decide +kernel
theorem dX5_rest_6 : decode cX5_rest 6 = .ok (.getfield 10, 3) := by decide +kernel
theorem dX5_rest_9 : decode cX5_rest 9 = .ok (.iload_n 1, 1) := by decide +kernel
theorem dX5_rest_10 : decode cX5_rest 10 = .ok (.invokevirtual 112, 3) := by decide +kernel
theorem dX5_rest_13 : decode cX5_rest 13 = .ok (.ireturn, 1) := by decide +kernel
set_option maxRecDepth 20000 in
theorem ggX5_start_X0_endedRaces : GoodIn wsX5_start wsX0_endedRaces := goodIn_r _ [16, 17, 74, 75, 76, 77] (by decide +kernel) (by decide +kernel)
set_option maxRecDepth 20000 in
theorem gX5_start_X0_endedRaces : GoodIn wsX5_start (wsV RX5 120 RX0 yX0_endedRaces wsX0_endedRaces) := goodIn_app (goodIn_of _ (by decide +kernel)) ggX5_start_X0_endedRaces
set_option maxRecDepth 20000 in
theorem ggX5_start_X4_hasDeadEnd : GoodIn wsX5_start wsX4_hasDeadEnd := goodIn_r _ [22, 23, 24, 25, 26, 21, 27, 28, 29, 30, 31, 32, 33, 34, 35, 36, 78, 79, 80, 81] (by decide +kernel) (by decide +kernel)
set_option maxRecDepth 20000 in
theorem gX5_start_X4_hasDeadEnd : GoodIn wsX5_start (wsV RX5 127 RX4 yX4_hasDeadEnd wsX4_hasDeadEnd) := goodIn_app (goodIn_of _ (by decide +kernel)) ggX5_start_X4_hasDeadEnd
set_option maxRecDepth 20000 in
theorem ggX5_start_X3_begin : GoodIn wsX5_start wsX3_begin := goodIn_r _ [41, 42, 43, 44, 45, 46, 47, 48, 49, 82, 83, 84, 85, 86, 87, 88, 89, 90, 91, 92] (by decide +kernel) (by decide +kernel)
set_option maxRecDepth 20000 in
theorem gX5_start_X3_begin : GoodIn wsX5_start (wsV RX5 132 RX3 yX3_begin wsX3_begin) := goodIn_app (goodIn_of _ (by decide +kernel)) ggX5_start_X3_begin
set_option maxRecDepth 20000 in
theorem ggX5_start_X2_clear : GoodIn wsX5_start wsX2_clear := goodIn_r _ [54, 55, 93, 94, 95] (by decide +kernel) (by decide +kernel)
set_option maxRecDepth 20000 in
theorem gX5_start_X2_clear : GoodIn wsX5_start (wsV RX5 136 RX2 yX2_clear wsX2_clear) := goodIn_app (goodIn_of _ (by decide +kernel)) ggX5_start_X2_clear
set_option maxRecDepth 20000 in
theorem ggX5_start_X1_clear : GoodIn wsX5_start wsX1_clear := goodIn_r _ [60, 61, 62, 63, 96, 97, 98, 99] (by decide +kernel) (by decide +kernel)
set_option maxRecDepth 20000 in
theorem gX5_start_X1_clear : GoodIn wsX5_start (wsV RX5 139 RX1 yX1_clear wsX1_clear) := goodIn_app (goodIn_of _ (by decide +kernel)) ggX5_start_X1_clear
theorem dX5_start_0 : decode cX5_start 0 = .ok (.iload_n 1, 1) := by decide +kernel
theorem dX5_start_1 : decode cX5_start 1 = .ok (.iconst 1, 1) := by decide +kernel
theorem dX5_start_2 : decode cX5_start 2 = .ok (.if_icmp .lt 9, 3) := by decide +kernel
theorem dX5_start_5 : decode cX5_start 5 = .ok (.iload_n 1, 1) := by decide +kernel
theorem dX5_start_6 : decode cX5_start 6 = .ok (.bipush 9, 2) := by decide +kernel
theorem dX5_start_8 : decode cX5_start 8 = .ok (.if_icmp .le 13, 3) := by decide +kernel
theorem dX5_start_11 : decode cX5_start 11 = .ok (.new 86, 3) := by decide +kernel
theorem dX5_start_14 : decode cX5_start 14 = .ok (.dup, 1) := by decide +kernel
theorem dX5_start_15 : decode cX5_start 15 = .ok (.ldc 116, 2) := by decide +kernel
theorem dX5_start_17 : decode cX5_start 17 = .ok (.invokespecial 90, 3) := by decide +kernel
theorem dX5_start_20 : decode cX5_start 20 = .ok (.athrow, 1) := by decide +kernel
theorem dX5_start_21 : decode cX5_start 21 = .ok (.aload_n 0, 1) := by decide +kernel
theorem dX5_start_22 : decode cX5_start 22 = .ok (.getfield 57, 3) := by decide +kernel
theorem dX5_start_25 : decode cX5_start 25 = .ok (.ifCond .eq 13, 3) := by decide +kernel
theorem dX5_start_28 : decode cX5_start 28 = .ok (.new 71, 3) := by decide +kernel
theorem dX5_start_31 : decode cX5_start 31 = .ok (.dup, 1) := by decide +kernel
theorem dX5_start_32 : decode cX5_start 32 = .ok (.ldc 118, 2) := by decide +kernel
theorem dX5_start_34 : decode cX5_start 34 = .ok (.invokespecial 75, 3) := by decide +kernel
theorem dX5_start_37 : decode cX5_start 37 = .ok (.athrow, 1) := by decide +kernel
theorem dX5_start_38 : decode cX5_start 38 = .ok (.aload_n 0, 1) := by decide +kernel
theorem dX5_start_39 : decode cX5_start 39 = .ok (.getfield 45, 3) := by decide +kernel
theorem dX5_start_42 : decode cX5_start 42 = .ok (.invokevirtual 120, 3) := by decide +kernel
theorem dX5_start_45 : decode cX5_start 45 = .ok (.bipush 8, 2) := by decide +kernel
theorem dX5_start_47 : decode cX5_start 47 = .ok (.if_icmp .lt 13, 3) := by decide +kernel
theorem dX5_start_50 : decode cX5_start 50 = .ok (.new 71, 3) := by decide +kernel
theorem dX5_start_53 : decode cX5_start 53 = .ok (.dup, 1) := by decide +kernel
theorem dX5_start_54 : decode cX5_start 54 = .ok (.ldc 123, 2) := by decide +kernel
theorem dX5_start_56 : decode cX5_start 56 = .ok (.invokespecial 75, 3) := by decide +kernel
theorem dX5_start_59 : decode cX5_start 59 = .ok (.athrow, 1) := by decide +kernel
theorem dX5_start_60 : decode cX5_start 60 = .ok (.aload_n 0, 1) := by decide +kernel
theorem dX5_start_61 : decode cX5_start 61 = .ok (.getfield 53, 3) := by decide +kernel
theorem dX5_start_64 : decode cX5_start 64 = .ok (.ifCond .ne 13, 3) := by decide +kernel
theorem dX5_start_67 : decode cX5_start 67 = .ok (.new 71, 3) := by decide +kernel
theorem dX5_start_70 : decode cX5_start 70 = .ok (.dup, 1) := by decide +kernel
theorem dX5_start_71 : decode cX5_start 71 = .ok (.ldc 125, 2) := by decide +kernel
theorem dX5_start_73 : decode cX5_start 73 = .ok (.invokespecial 75, 3) := by decide +kernel
theorem dX5_start_76 : decode cX5_start 76 = .ok (.athrow, 1) := by decide +kernel
theorem dX5_start_77 : decode cX5_start 77 = .ok (.aload_n 0, 1) := by decide +kernel
theorem dX5_start_78 : decode cX5_start 78 = .ok (.getfield 10, 3) := by decide +kernel
theorem dX5_start_81 : decode cX5_start 81 = .ok (.invokevirtual 127, 3) := by decide +kernel
theorem dX5_start_84 : decode cX5_start 84 = .ok (.ifCond .eq 13, 3) := by decide +kernel
theorem dX5_start_87 : decode cX5_start 87 = .ok (.new 71, 3) := by decide +kernel
theorem dX5_start_90 : decode cX5_start 90 = .ok (.dup, 1) := by decide +kernel
theorem dX5_start_91 : decode cX5_start 91 = .ok (.ldc 130, 2) := by decide +kernel
theorem dX5_start_93 : decode cX5_start 93 = .ok (.invokespecial 75, 3) := by decide +kernel
theorem dX5_start_96 : decode cX5_start 96 = .ok (.athrow, 1) := by decide +kernel
theorem dX5_start_97 : decode cX5_start 97 = .ok (.aload_n 0, 1) := by decide +kernel
theorem dX5_start_98 : decode cX5_start 98 = .ok (.getfield 21, 3) := by decide +kernel
theorem dX5_start_101 : decode cX5_start 101 = .ok (.aload_n 0, 1) := by decide +kernel
theorem dX5_start_102 : decode cX5_start 102 = .ok (.getfield 53, 3) := by decide +kernel
theorem dX5_start_105 : decode cX5_start 105 = .ok (.iload_n 1, 1) := by decide +kernel
theorem dX5_start_106 : decode cX5_start 106 = .ok (.invokevirtual 132, 3) := by decide +kernel
theorem dX5_start_109 : decode cX5_start 109 = .ok (.aload_n 0, 1) := by decide +kernel
theorem dX5_start_110 : decode cX5_start 110 = .ok (.getfield 31, 3) := by decide +kernel
theorem dX5_start_113 : decode cX5_start 113 = .ok (.invokevirtual 136, 3) := by decide +kernel
theorem dX5_start_116 : decode cX5_start 116 = .ok (.aload_n 0, 1) := by decide +kernel
theorem dX5_start_117 : decode cX5_start 117 = .ok (.getfield 38, 3) := by decide +kernel
theorem dX5_start_120 : decode cX5_start 120 = .ok (.invokevirtual 139, 3) := by decide +kernel
theorem dX5_start_123 : decode cX5_start 123 = .ok (.aload_n 0, 1) := by decide +kernel
theorem dX5_start_124 : decode cX5_start 124 = .ok (.iconst 1, 1) := by decide +kernel
theorem dX5_start_125 : decode cX5_start 125 = .ok (.putfield 57, 3) := by decide +kernel
theorem dX5_start_128 : decode cX5_start 128 = .ok (.aload_n 0, 1) := by decide +kernel
theorem dX5_start_129 : decode cX5_start 129 = .ok (.getfield 45, 3) := by decide +kernel
theorem dX5_start_132 : decode cX5_start 132 = .ok (.invokevirtual 120, 3) := by decide +kernel
theorem dX5_start_135 : decode cX5_start 135 = .ok (.ireturn, 1) := by decide +kernel
theorem dX5_isOn_0 : decode cX5_isOn 0 = .ok (.aload_n 0, 1) := by decide +kernel
theorem dX5_isOn_1 : decode cX5_isOn 1 = .ok (.getfield 57, 3) := by decide +kernel
theorem dX5_isOn_4 : decode cX5_isOn 4 = .ok (.ireturn, 1) := by decide +kernel
set_option maxRecDepth 20000 in
theorem ggX5_pass_X5_checkKart : GoodIn wsX5_pass wsX5_checkKart := goodIn_ca (goodIn_r _ [12, 13, 14, 15, 118, 119, 120, 121, 122, 123, 124, 125, 126, 127] (by decide +kernel) (by decide +kernel)) (goodIn_sub (fun _ h => List.mem_cons_of_mem _ (List.mem_append_right _ h)) (by decide +kernel))
set_option maxRecDepth 20000 in
theorem gX5_pass_X5_checkKart : GoodIn wsX5_pass (wsV RX5 140 RX5 yX5_checkKart wsX5_checkKart) := goodIn_app (goodIn_of _ (by decide +kernel)) ggX5_pass_X5_checkKart
set_option maxRecDepth 20000 in
theorem ggX5_pass_X5_checkGate : GoodIn wsX5_pass wsX5_checkGate := goodIn_ca (goodIn_r _ [19, 13, 14, 5, 20, 21, 22, 23, 24, 25, 118, 119, 120, 121, 122, 123, 124, 125, 126, 127, 128, 129, 130, 131] (by decide +kernel) (by decide +kernel)) (goodIn_sub (fun _ h => List.mem_cons_of_mem _ (List.mem_append_right _ h)) (by decide +kernel))
set_option maxRecDepth 20000 in
theorem gX5_pass_X5_checkGate : GoodIn wsX5_pass (wsV RX5 82 RX5 yX5_checkGate wsX5_checkGate) := goodIn_app (goodIn_of _ (by decide +kernel)) ggX5_pass_X5_checkGate
set_option maxRecDepth 20000 in
theorem ggX5_pass_X5_checkStillRacing : GoodIn wsX5_pass wsX5_checkStillRacing := goodIn_ca (goodIn_r _ [29, 1, 2, 6, 30, 31, 32, 11, 33, 34, 35, 36, 37, 38, 39, 40, 41, 118, 119, 120, 121, 122, 123, 124, 125, 126, 127, 132, 133, 134, 135, 136, 137, 138, 139, 140, 141, 142] (by decide +kernel) (by decide +kernel)) (goodIn_sub (fun _ h => List.mem_cons_of_mem _ (List.mem_append_left _ (List.mem_append_right _ h))) (by decide +kernel))
set_option maxRecDepth 20000 in
theorem gX5_pass_X5_checkStillRacing : GoodIn wsX5_pass (wsV RX5 143 RX5 yX5_checkStillRacing wsX5_checkStillRacing) := goodIn_app (goodIn_of _ (by decide +kernel)) ggX5_pass_X5_checkStillRacing
set_option maxRecDepth 20000 in
theorem ggX5_pass_X1_ticksStunned : GoodIn wsX5_pass wsX1_ticksStunned := goodIn_r _ [46, 47, 48, 49, 50, 51, 143, 144, 145, 146] (by decide +kernel) (by decide +kernel)
set_option maxRecDepth 20000 in
theorem gX5_pass_X1_ticksStunned : GoodIn wsX5_pass (wsV RX5 146 RX1 yX1_ticksStunned wsX1_ticksStunned) := goodIn_app (goodIn_of _ (by decide +kernel)) ggX5_pass_X1_ticksStunned
set_option maxRecDepth 20000 in
theorem ggX5_pass_X3_gateAt : GoodIn wsX5_pass wsX3_gateAt := goodIn_r _ [55, 56, 132, 133, 134, 135, 136, 137, 138, 139, 140, 141, 142] (by decide +kernel) (by decide +kernel)
set_option maxRecDepth 20000 in
theorem gX5_pass_X3_gateAt : GoodIn wsX5_pass (wsV RX5 151 RX3 yX3_gateAt wsX3_gateAt) := goodIn_app (goodIn_of _ (by decide +kernel)) ggX5_pass_X3_gateAt
set_option maxRecDepth 20000 in
theorem ggX5_pass_X4_joins : GoodIn wsX5_pass wsX4_joins := goodIn_r _ [60, 61, 62, 63, 23, 64, 65, 66, 67, 68, 69, 128, 129, 130, 131] (by decide +kernel) (by decide +kernel)
set_option maxRecDepth 20000 in
theorem gX5_pass_X4_joins : GoodIn wsX5_pass (wsV RX5 154 RX4 yX4_joins wsX4_joins) := goodIn_app (goodIn_of _ (by decide +kernel)) ggX5_pass_X4_joins
set_option maxRecDepth 20000 in
theorem ggX5_pass_X2_isFull : GoodIn wsX5_pass wsX2_isFull := goodIn_r _ [74, 75, 147, 148, 149] (by decide +kernel) (by decide +kernel)
set_option maxRecDepth 20000 in
theorem gX5_pass_X2_isFull : GoodIn wsX5_pass (wsV RX5 160 RX2 yX2_isFull wsX2_isFull) := goodIn_app (goodIn_of _ (by decide +kernel)) ggX5_pass_X2_isFull
set_option maxRecDepth 20000 in
theorem ggX5_pass_X2_note : GoodIn wsX5_pass wsX2_note := goodIn_r _ [79, 80, 75, 81, 147, 148, 149] (by decide +kernel) (by decide +kernel)
set_option maxRecDepth 20000 in
theorem gX5_pass_X2_note : GoodIn wsX5_pass (wsV RX5 163 RX2 yX2_note wsX2_note) := goodIn_app (goodIn_of _ (by decide +kernel)) ggX5_pass_X2_note
set_option maxRecDepth 20000 in
theorem ggX5_pass_X3_move : GoodIn wsX5_pass wsX3_move := goodIn_r _ [85, 56, 86, 87, 88, 89, 62, 63, 23, 64, 65, 66, 67, 68, 69, 90, 91, 92, 38, 93, 94, 95, 96, 97, 98, 99, 40, 100, 101, 102, 103, 104, 105, 106, 107, 108, 109, 36, 37, 39, 41, 110, 111, 112, 113, 114, 115, 116, 117, 132, 133, 134, 135, 136, 137, 138, 139, 140, 141, 142, 128, 129, 130, 131] (by decide +kernel) (by decide +kernel)
set_option maxRecDepth 20000 in
theorem gX5_pass_X3_move : GoodIn wsX5_pass (wsV RX5 166 RX3 yX3_move wsX3_move) := goodIn_app (goodIn_of _ (by decide +kernel)) ggX5_pass_X3_move
theorem dX5_pass_0 : decode cX5_pass 0 = .ok (.aload_n 0, 1) := by decide +kernel
theorem dX5_pass_1 : decode cX5_pass 1 = .ok (.iload_n 1, 1) := by decide +kernel
theorem dX5_pass_2 : decode cX5_pass 2 = .ok (.invokevirtual 140, 3) := by decide +kernel
theorem dX5_pass_5 : decode cX5_pass 5 = .ok (.aload_n 0, 1) := by decide +kernel
theorem dX5_pass_6 : decode cX5_pass 6 = .ok (.iload_n 2, 1) := by decide +kernel
theorem dX5_pass_7 : decode cX5_pass 7 = .ok (.invokevirtual 82, 3) := by decide +kernel
theorem dX5_pass_10 : decode cX5_pass 10 = .ok (.aload_n 0, 1) := by decide +kernel
theorem dX5_pass_11 : decode cX5_pass 11 = .ok (.iload_n 1, 1) := by decide +kernel
theorem dX5_pass_12 : decode cX5_pass 12 = .ok (.invokevirtual 143, 3) := by decide +kernel
theorem dX5_pass_15 : decode cX5_pass 15 = .ok (.aload_n 0, 1) := by decide +kernel
theorem dX5_pass_16 : decode cX5_pass 16 = .ok (.getfield 38, 3) := by decide +kernel
theorem dX5_pass_19 : decode cX5_pass 19 = .ok (.iload_n 1, 1) := by decide +kernel
theorem dX5_pass_20 : decode cX5_pass 20 = .ok (.aload_n 0, 1) := by decide +kernel
theorem dX5_pass_21 : decode cX5_pass 21 = .ok (.getfield 61, 3) := by decide +kernel
theorem dX5_pass_24 : decode cX5_pass 24 = .ok (.invokevirtual 146, 3) := by decide +kernel
theorem dX5_pass_27 : decode cX5_pass 27 = .ok (.ifCond .le 13, 3) := by decide +kernel
theorem dX5_pass_30 : decode cX5_pass 30 = .ok (.new 71, 3) := by decide +kernel
theorem dX5_pass_33 : decode cX5_pass 33 = .ok (.dup, 1) := by decide +kernel
theorem dX5_pass_34 : decode cX5_pass 34 = .ok (.ldc 149, 2) := by decide +kernel
theorem dX5_pass_36 : decode cX5_pass 36 = .ok (.invokespecial 75, 3) := by decide +kernel
theorem dX5_pass_39 : decode cX5_pass 39 = .ok (.athrow, 1) := by decide +kernel
theorem dX5_pass_40 : decode cX5_pass 40 = .ok (.aload_n 0, 1) := by decide +kernel
theorem dX5_pass_41 : decode cX5_pass 41 = .ok (.getfield 10, 3) := by decide +kernel
theorem dX5_pass_44 : decode cX5_pass 44 = .ok (.aload_n 0, 1) := by decide +kernel
theorem dX5_pass_45 : decode cX5_pass 45 = .ok (.getfield 21, 3) := by decide +kernel
theorem dX5_pass_48 : decode cX5_pass 48 = .ok (.iload_n 1, 1) := by decide +kernel
theorem dX5_pass_49 : decode cX5_pass 49 = .ok (.invokevirtual 151, 3) := by decide +kernel
theorem dX5_pass_52 : decode cX5_pass 52 = .ok (.iload_n 2, 1) := by decide +kernel
theorem dX5_pass_53 : decode cX5_pass 53 = .ok (.invokevirtual 154, 3) := by decide +kernel
theorem dX5_pass_56 : decode cX5_pass 56 = .ok (.ifCond .ne 13, 3) := by decide +kernel
theorem dX5_pass_59 : decode cX5_pass 59 = .ok (.new 71, 3) := by decide +kernel
theorem dX5_pass_62 : decode cX5_pass 62 = .ok (.dup, 1) := by decide +kernel
theorem dX5_pass_63 : decode cX5_pass 63 = .ok (.ldc 158, 2) := by decide +kernel
theorem dX5_pass_65 : decode cX5_pass 65 = .ok (.invokespecial 75, 3) := by decide +kernel
theorem dX5_pass_68 : decode cX5_pass 68 = .ok (.athrow, 1) := by decide +kernel
theorem dX5_pass_69 : decode cX5_pass 69 = .ok (.aload_n 0, 1) := by decide +kernel
theorem dX5_pass_70 : decode cX5_pass 70 = .ok (.getfield 31, 3) := by decide +kernel
theorem dX5_pass_73 : decode cX5_pass 73 = .ok (.invokevirtual 160, 3) := by decide +kernel
theorem dX5_pass_76 : decode cX5_pass 76 = .ok (.ifCond .eq 13, 3) := by decide +kernel
theorem dX5_pass_79 : decode cX5_pass 79 = .ok (.new 71, 3) := by decide +kernel
theorem dX5_pass_82 : decode cX5_pass 82 = .ok (.dup, 1) := by decide +kernel
theorem dX5_pass_83 : decode cX5_pass 83 = .ok (.ldc 161, 2) := by decide +kernel
theorem dX5_pass_85 : decode cX5_pass 85 = .ok (.invokespecial 75, 3) := by decide +kernel
theorem dX5_pass_88 : decode cX5_pass 88 = .ok (.athrow, 1) := by decide +kernel
theorem dX5_pass_89 : decode cX5_pass 89 = .ok (.aload_n 0, 1) := by decide +kernel
theorem dX5_pass_90 : decode cX5_pass 90 = .ok (.getfield 31, 3) := by decide +kernel
theorem dX5_pass_93 : decode cX5_pass 93 = .ok (.iload_n 1, 1) := by decide +kernel
theorem dX5_pass_94 : decode cX5_pass 94 = .ok (.iload_n 2, 1) := by decide +kernel
theorem dX5_pass_95 : decode cX5_pass 95 = .ok (.invokevirtual 163, 3) := by decide +kernel
theorem dX5_pass_98 : decode cX5_pass 98 = .ok (.aload_n 0, 1) := by decide +kernel
theorem dX5_pass_99 : decode cX5_pass 99 = .ok (.getfield 21, 3) := by decide +kernel
theorem dX5_pass_102 : decode cX5_pass 102 = .ok (.iload_n 1, 1) := by decide +kernel
theorem dX5_pass_103 : decode cX5_pass 103 = .ok (.iload_n 2, 1) := by decide +kernel
theorem dX5_pass_104 : decode cX5_pass 104 = .ok (.invokevirtual 166, 3) := by decide +kernel
theorem dX5_pass_107 : decode cX5_pass 107 = .ok (.ireturn, 1) := by decide +kernel
theorem dX5_idle_0 : decode cX5_idle 0 = .ok (.iload_n 1, 1) := by decide +kernel
theorem dX5_idle_1 : decode cX5_idle 1 = .ok (.iconst 1, 1) := by decide +kernel
theorem dX5_idle_2 : decode cX5_idle 2 = .ok (.if_icmp .lt 9, 3) := by decide +kernel
theorem dX5_idle_5 : decode cX5_idle 5 = .ok (.iload_n 1, 1) := by decide +kernel
theorem dX5_idle_6 : decode cX5_idle 6 = .ok (.bipush 100, 2) := by decide +kernel
theorem dX5_idle_8 : decode cX5_idle 8 = .ok (.if_icmp .le 13, 3) := by decide +kernel
theorem dX5_idle_11 : decode cX5_idle 11 = .ok (.new 86, 3) := by decide +kernel
theorem dX5_idle_14 : decode cX5_idle 14 = .ok (.dup, 1) := by decide +kernel
theorem dX5_idle_15 : decode cX5_idle 15 = .ok (.ldc 169, 2) := by decide +kernel
theorem dX5_idle_17 : decode cX5_idle 17 = .ok (.invokespecial 90, 3) := by decide +kernel
theorem dX5_idle_20 : decode cX5_idle 20 = .ok (.athrow, 1) := by decide +kernel
theorem dX5_idle_21 : decode cX5_idle 21 = .ok (.aload_n 0, 1) := by decide +kernel
theorem dX5_idle_22 : decode cX5_idle 22 = .ok (.dup, 1) := by decide +kernel
theorem dX5_idle_23 : decode cX5_idle 23 = .ok (.getfield 61, 3) := by decide +kernel
theorem dX5_idle_26 : decode cX5_idle 26 = .ok (.iload_n 1, 1) := by decide +kernel
theorem dX5_idle_27 : decode cX5_idle 27 = .ok (.iadd, 1) := by decide +kernel
theorem dX5_idle_28 : decode cX5_idle 28 = .ok (.putfield 61, 3) := by decide +kernel
theorem dX5_idle_31 : decode cX5_idle 31 = .ok (.aload_n 0, 1) := by decide +kernel
theorem dX5_idle_32 : decode cX5_idle 32 = .ok (.getfield 61, 3) := by decide +kernel
theorem dX5_idle_35 : decode cX5_idle 35 = .ok (.ireturn, 1) := by decide +kernel
set_option maxRecDepth 20000 in
theorem ggX5_gateOf_X5_checkKart : GoodIn wsX5_gateOf wsX5_checkKart := goodIn_ca (goodIn_r _ [6, 7, 8, 9, 23, 24, 25, 26, 27, 28, 29, 30, 31, 32] (by decide +kernel) (by decide +kernel)) (goodIn_sub (fun _ h => List.mem_cons_of_mem _ (List.mem_append_left _ (List.mem_append_right _ h))) (by decide +kernel))
set_option maxRecDepth 20000 in
theorem gX5_gateOf_X5_checkKart : GoodIn wsX5_gateOf (wsV RX5 140 RX5 yX5_checkKart wsX5_checkKart) := goodIn_app (goodIn_of _ (by decide +kernel)) ggX5_gateOf_X5_checkKart
set_option maxRecDepth 20000 in
theorem ggX5_gateOf_X5_checkRaceIsOn : GoodIn wsX5_gateOf wsX5_checkRaceIsOn := goodIn_ca (goodIn_r _ [13, 14, 15, 16, 23, 24, 25, 26, 27, 28, 29, 30, 31, 32] (by decide +kernel) (by decide +kernel)) (goodIn_sub (fun _ h => List.mem_cons_of_mem _ (List.mem_append_right _ h)) (by decide +kernel))
set_option maxRecDepth 20000 in
theorem gX5_gateOf_X5_checkRaceIsOn : GoodIn wsX5_gateOf (wsV RX5 171 RX5 yX5_checkRaceIsOn wsX5_checkRaceIsOn) := goodIn_app (goodIn_of _ (by decide +kernel)) ggX5_gateOf_X5_checkRaceIsOn
set_option maxRecDepth 20000 in
theorem ggX5_gateOf_X3_gateAt : GoodIn wsX5_gateOf wsX3_gateAt := goodIn_r _ [21, 22, 33, 34, 35, 36, 37, 38, 39, 40, 41, 42, 43] (by decide +kernel) (by decide +kernel)
set_option maxRecDepth 20000 in
theorem gX5_gateOf_X3_gateAt : GoodIn wsX5_gateOf (wsV RX5 151 RX3 yX3_gateAt wsX3_gateAt) := goodIn_app (goodIn_of _ (by decide +kernel)) ggX5_gateOf_X3_gateAt
theorem dX5_gateOf_0 : decode cX5_gateOf 0 = .ok (.aload_n 0, 1) := by decide +kernel
theorem dX5_gateOf_1 : decode cX5_gateOf 1 = .ok (.iload_n 1, 1) := by decide +kernel
theorem dX5_gateOf_2 : decode cX5_gateOf 2 = .ok (.invokevirtual 140, 3) := by decide +kernel
theorem dX5_gateOf_5 : decode cX5_gateOf 5 = .ok (.aload_n 0, 1) := by decide +kernel
theorem dX5_gateOf_6 : decode cX5_gateOf 6 = .ok (.invokevirtual 171, 3) := by decide +kernel
theorem dX5_gateOf_9 : decode cX5_gateOf 9 = .ok (.aload_n 0, 1) := by decide +kernel
theorem dX5_gateOf_10 : decode cX5_gateOf 10 = .ok (.getfield 21, 3) := by decide +kernel
theorem dX5_gateOf_13 : decode cX5_gateOf 13 = .ok (.iload_n 1, 1) := by decide +kernel
theorem dX5_gateOf_14 : decode cX5_gateOf 14 = .ok (.invokevirtual 151, 3) := by decide +kernel
theorem dX5_gateOf_17 : decode cX5_gateOf 17 = .ok (.ireturn, 1) := by decide +kernel
set_option maxRecDepth 20000 in
theorem ggX5_lapsOf_X5_checkKart : GoodIn wsX5_lapsOf wsX5_checkKart := goodIn_ca (goodIn_r _ [6, 7, 8, 9, 24, 25, 26, 27, 28, 29, 30, 31, 32, 33] (by decide +kernel) (by decide +kernel)) (goodIn_sub (fun _ h => List.mem_cons_of_mem _ (List.mem_append_left _ (List.mem_append_right _ h))) (by decide +kernel))
set_option maxRecDepth 20000 in
theorem gX5_lapsOf_X5_checkKart : GoodIn wsX5_lapsOf (wsV RX5 140 RX5 yX5_checkKart wsX5_checkKart) := goodIn_app (goodIn_of _ (by decide +kernel)) ggX5_lapsOf_X5_checkKart
set_option maxRecDepth 20000 in
theorem ggX5_lapsOf_X5_checkRaceIsOn : GoodIn wsX5_lapsOf wsX5_checkRaceIsOn := goodIn_ca (goodIn_r _ [13, 14, 15, 16, 24, 25, 26, 27, 28, 29, 30, 31, 32, 33] (by decide +kernel) (by decide +kernel)) (goodIn_sub (fun _ h => List.mem_cons_of_mem _ (List.mem_append_right _ h)) (by decide +kernel))
set_option maxRecDepth 20000 in
theorem gX5_lapsOf_X5_checkRaceIsOn : GoodIn wsX5_lapsOf (wsV RX5 171 RX5 yX5_checkRaceIsOn wsX5_checkRaceIsOn) := goodIn_app (goodIn_of _ (by decide +kernel)) ggX5_lapsOf_X5_checkRaceIsOn
set_option maxRecDepth 20000 in
theorem ggX5_lapsOf_X3_netLaps : GoodIn wsX5_lapsOf wsX3_netLaps := goodIn_r _ [21, 22, 23, 34, 35, 36, 37, 38, 39, 40, 41, 42, 43, 44] (by decide +kernel) (by decide +kernel)
set_option maxRecDepth 20000 in
theorem gX5_lapsOf_X3_netLaps : GoodIn wsX5_lapsOf (wsV RX5 174 RX3 yX3_netLaps wsX3_netLaps) := goodIn_app (goodIn_of _ (by decide +kernel)) ggX5_lapsOf_X3_netLaps
theorem dX5_lapsOf_0 : decode cX5_lapsOf 0 = .ok (.aload_n 0, 1) := by decide +kernel
theorem dX5_lapsOf_1 : decode cX5_lapsOf 1 = .ok (.iload_n 1, 1) := by decide +kernel
theorem dX5_lapsOf_2 : decode cX5_lapsOf 2 = .ok (.invokevirtual 140, 3) := by decide +kernel
theorem dX5_lapsOf_5 : decode cX5_lapsOf 5 = .ok (.aload_n 0, 1) := by decide +kernel
theorem dX5_lapsOf_6 : decode cX5_lapsOf 6 = .ok (.invokevirtual 171, 3) := by decide +kernel
theorem dX5_lapsOf_9 : decode cX5_lapsOf 9 = .ok (.aload_n 0, 1) := by decide +kernel
theorem dX5_lapsOf_10 : decode cX5_lapsOf 10 = .ok (.getfield 21, 3) := by decide +kernel
theorem dX5_lapsOf_13 : decode cX5_lapsOf 13 = .ok (.iload_n 1, 1) := by decide +kernel
theorem dX5_lapsOf_14 : decode cX5_lapsOf 14 = .ok (.invokevirtual 174, 3) := by decide +kernel
theorem dX5_lapsOf_17 : decode cX5_lapsOf 17 = .ok (.ireturn, 1) := by decide +kernel
set_option maxRecDepth 20000 in
theorem ggX5_missing_X5_checkKart : GoodIn wsX5_missing wsX5_checkKart := goodIn_ca (goodIn_r _ [6, 7, 8, 9, 30, 31, 32, 33, 34, 35, 36, 37, 38, 39] (by decide +kernel) (by decide +kernel)) (goodIn_sub (fun _ h => List.mem_cons_of_mem _ (List.mem_append_left _ (List.mem_append_right _ h))) (by decide +kernel))
set_option maxRecDepth 20000 in
theorem gX5_missing_X5_checkKart : GoodIn wsX5_missing (wsV RX5 140 RX5 yX5_checkKart wsX5_checkKart) := goodIn_app (goodIn_of _ (by decide +kernel)) ggX5_missing_X5_checkKart
set_option maxRecDepth 20000 in
theorem ggX5_missing_X5_checkRaceIsOn : GoodIn wsX5_missing wsX5_checkRaceIsOn := goodIn_ca (goodIn_r _ [13, 14, 15, 16, 30, 31, 32, 33, 34, 35, 36, 37, 38, 39] (by decide +kernel) (by decide +kernel)) (goodIn_sub (fun _ h => List.mem_cons_of_mem _ (List.mem_append_right _ h)) (by decide +kernel))
set_option maxRecDepth 20000 in
theorem gX5_missing_X5_checkRaceIsOn : GoodIn wsX5_missing (wsV RX5 171 RX5 yX5_checkRaceIsOn wsX5_checkRaceIsOn) := goodIn_app (goodIn_of _ (by decide +kernel)) ggX5_missing_X5_checkRaceIsOn
set_option maxRecDepth 20000 in
theorem ggX5_missing_X3_missingGates : GoodIn wsX5_missing wsX3_missingGates := goodIn_r _ [21, 22, 23, 24, 25, 26, 27, 28, 29, 40, 41, 42, 43, 44, 45, 46, 47, 48, 49, 50, 51, 52, 53, 54] (by decide +kernel) (by decide +kernel)
set_option maxRecDepth 20000 in
theorem gX5_missing_X3_missingGates : GoodIn wsX5_missing (wsV RX5 177 RX3 yX3_missingGates wsX3_missingGates) := goodIn_app (goodIn_of _ (by decide +kernel)) ggX5_missing_X3_missingGates
theorem dX5_missing_0 : decode cX5_missing 0 = .ok (.aload_n 0, 1) := by decide +kernel
theorem dX5_missing_1 : decode cX5_missing 1 = .ok (.iload_n 1, 1) := by decide +kernel
theorem dX5_missing_2 : decode cX5_missing 2 = .ok (.invokevirtual 140, 3) := by decide +kernel
theorem dX5_missing_5 : decode cX5_missing 5 = .ok (.aload_n 0, 1) := by decide +kernel
theorem dX5_missing_6 : decode cX5_missing 6 = .ok (.invokevirtual 171, 3) := by decide +kernel
theorem dX5_missing_9 : decode cX5_missing 9 = .ok (.aload_n 0, 1) := by decide +kernel
theorem dX5_missing_10 : decode cX5_missing 10 = .ok (.getfield 21, 3) := by decide +kernel
theorem dX5_missing_13 : decode cX5_missing 13 = .ok (.iload_n 1, 1) := by decide +kernel
theorem dX5_missing_14 : decode cX5_missing 14 = .ok (.invokevirtual 177, 3) := by decide +kernel
theorem dX5_missing_17 : decode cX5_missing 17 = .ok (.ireturn, 1) := by decide +kernel
set_option maxRecDepth 20000 in
theorem ggX5_rank_X5_checkKart : GoodIn wsX5_rank wsX5_checkKart := goodIn_ca (goodIn_r _ [6, 7, 8, 9, 47, 48, 49, 50, 51, 52, 53, 54, 55, 56] (by decide +kernel) (by decide +kernel)) (goodIn_sub (fun _ h => List.mem_cons_of_mem _ (List.mem_append_left _ (List.mem_append_right _ h))) (by decide +kernel))
set_option maxRecDepth 20000 in
theorem gX5_rank_X5_checkKart : GoodIn wsX5_rank (wsV RX5 140 RX5 yX5_checkKart wsX5_checkKart) := goodIn_app (goodIn_of _ (by decide +kernel)) ggX5_rank_X5_checkKart
set_option maxRecDepth 20000 in
theorem ggX5_rank_X5_checkRaceIsOn : GoodIn wsX5_rank wsX5_checkRaceIsOn := goodIn_ca (goodIn_r _ [13, 14, 15, 16, 47, 48, 49, 50, 51, 52, 53, 54, 55, 56] (by decide +kernel) (by decide +kernel)) (goodIn_sub (fun _ h => List.mem_cons_of_mem _ (List.mem_append_right _ h)) (by decide +kernel))
set_option maxRecDepth 20000 in
theorem gX5_rank_X5_checkRaceIsOn : GoodIn wsX5_rank (wsV RX5 171 RX5 yX5_checkRaceIsOn wsX5_checkRaceIsOn) := goodIn_app (goodIn_of _ (by decide +kernel)) ggX5_rank_X5_checkRaceIsOn
set_option maxRecDepth 20000 in
theorem ggX5_rank_X3_countAhead : GoodIn wsX5_rank wsX3_countAhead := goodIn_r _ [21, 22, 23, 24, 25, 20, 26, 27, 28, 29, 30, 31, 32, 33, 34, 35, 36, 37, 38, 39, 40, 41, 42, 43, 44, 45, 46, 57, 58, 59, 60, 61, 62, 63, 64, 65, 66, 67, 68, 69, 70, 71] (by decide +kernel) (by decide +kernel)
set_option maxRecDepth 20000 in
theorem gX5_rank_X3_countAhead : GoodIn wsX5_rank (wsV RX5 180 RX3 yX3_countAhead wsX3_countAhead) := goodIn_app (goodIn_of _ (by decide +kernel)) ggX5_rank_X3_countAhead
theorem dX5_rank_0 : decode cX5_rank 0 = .ok (.aload_n 0, 1) := by decide +kernel
theorem dX5_rank_1 : decode cX5_rank 1 = .ok (.iload_n 1, 1) := by decide +kernel
theorem dX5_rank_2 : decode cX5_rank 2 = .ok (.invokevirtual 140, 3) := by decide +kernel
theorem dX5_rank_5 : decode cX5_rank 5 = .ok (.aload_n 0, 1) := by decide +kernel
theorem dX5_rank_6 : decode cX5_rank 6 = .ok (.invokevirtual 171, 3) := by decide +kernel
theorem dX5_rank_9 : decode cX5_rank 9 = .ok (.aload_n 0, 1) := by decide +kernel
theorem dX5_rank_10 : decode cX5_rank 10 = .ok (.getfield 21, 3) := by decide +kernel
theorem dX5_rank_13 : decode cX5_rank 13 = .ok (.iload_n 1, 1) := by decide +kernel
theorem dX5_rank_14 : decode cX5_rank 14 = .ok (.invokevirtual 180, 3) := by decide +kernel
theorem dX5_rank_17 : decode cX5_rank 17 = .ok (.ireturn, 1) := by decide +kernel
set_option maxRecDepth 20000 in
theorem ggX5_rankByRecord_X5_checkKart : GoodIn wsX5_rankByRecord wsX5_checkKart := goodIn_ca (goodIn_r _ [9, 10, 11, 2, 119, 120, 121, 122, 123, 124, 125, 126, 127, 128] (by decide +kernel) (by decide +kernel)) (goodIn_sub (fun _ h => List.mem_cons_of_mem _ (List.mem_append_left _ (List.mem_append_right _ h))) (by decide +kernel))
set_option maxRecDepth 20000 in
theorem gX5_rankByRecord_X5_checkKart : GoodIn wsX5_rankByRecord (wsV RX5 140 RX5 yX5_checkKart wsX5_checkKart) := goodIn_app (goodIn_of _ (by decide +kernel)) ggX5_rankByRecord_X5_checkKart
set_option maxRecDepth 20000 in
theorem ggX5_rankByRecord_X5_checkRaceIsOn : GoodIn wsX5_rankByRecord wsX5_checkRaceIsOn := goodIn_ca (goodIn_r _ [15, 16, 17, 18, 119, 120, 121, 122, 123, 124, 125, 126, 127, 128] (by decide +kernel) (by decide +kernel)) (goodIn_sub (fun _ h => List.mem_cons_of_mem _ (List.mem_append_right _ h)) (by decide +kernel))
set_option maxRecDepth 20000 in
theorem gX5_rankByRecord_X5_checkRaceIsOn : GoodIn wsX5_rankByRecord (wsV RX5 171 RX5 yX5_checkRaceIsOn wsX5_checkRaceIsOn) := goodIn_app (goodIn_of _ (by decide +kernel)) ggX5_rankByRecord_X5_checkRaceIsOn
set_option maxRecDepth 20000 in
theorem ggX5_rankByRecord_X3_lapGoal : GoodIn wsX5_rankByRecord wsX3_lapGoal := goodIn_r _ [23, 24, 129, 130, 131, 132, 133, 134, 135, 136, 137, 138, 139] (by decide +kernel) (by decide +kernel)
set_option maxRecDepth 20000 in
theorem gX5_rankByRecord_X3_lapGoal : GoodIn wsX5_rankByRecord (wsV RX5 183 RX3 yX3_lapGoal wsX3_lapGoal) := goodIn_app (goodIn_of _ (by decide +kernel)) ggX5_rankByRecord_X3_lapGoal
set_option maxRecDepth 20000 in
theorem ggX5_rankByRecord_X3_begin : GoodIn wsX5_rankByRecord wsX3_begin := goodIn_r _ [28, 29, 24, 30, 31, 32, 33, 34, 35, 129, 130, 131, 132, 133, 134, 135, 136, 137, 138, 139] (by decide +kernel) (by decide +kernel)
set_option maxRecDepth 20000 in
theorem gX5_rankByRecord_X3_begin : GoodIn wsX5_rankByRecord (wsV RX5 132 RX3 yX3_begin wsX3_begin) := goodIn_app (goodIn_of _ (by decide +kernel)) ggX5_rankByRecord_X3_begin
set_option maxRecDepth 20000 in
theorem ggX5_rankByRecord_X2_count : GoodIn wsX5_rankByRecord wsX2_count := goodIn_r _ [40, 41, 140, 141, 142] (by decide +kernel) (by decide +kernel)
set_option maxRecDepth 20000 in
theorem gX5_rankByRecord_X2_count : GoodIn wsX5_rankByRecord (wsV RX5 186 RX2 yX2_count wsX2_count) := goodIn_app (goodIn_of _ (by decide +kernel)) ggX5_rankByRecord_X2_count
set_option maxRecDepth 20000 in
theorem ggX5_rankByRecord_X2_kartAt : GoodIn wsX5_rankByRecord wsX2_kartAt := goodIn_r _ [45, 46, 140, 141, 142] (by decide +kernel) (by decide +kernel)
set_option maxRecDepth 20000 in
theorem gX5_rankByRecord_X2_kartAt : GoodIn wsX5_rankByRecord (wsV RX5 189 RX2 yX2_kartAt wsX2_kartAt) := goodIn_app (goodIn_of _ (by decide +kernel)) ggX5_rankByRecord_X2_kartAt
set_option maxRecDepth 20000 in
theorem ggX5_rankByRecord_X2_gateAt : GoodIn wsX5_rankByRecord wsX2_gateAt := goodIn_r _ [50, 51, 140, 141, 142] (by decide +kernel) (by decide +kernel)
set_option maxRecDepth 20000 in
theorem gX5_rankByRecord_X2_gateAt : GoodIn wsX5_rankByRecord (wsV RX5 192 RX2 yX2_gateAt wsX2_gateAt) := goodIn_app (goodIn_of _ (by decide +kernel)) ggX5_rankByRecord_X2_gateAt
set_option maxRecDepth 20000 in
theorem ggX5_rankByRecord_X3_move : GoodIn wsX5_rankByRecord wsX3_move := goodIn_r _ [55, 31, 30, 35, 56, 57, 58, 59, 60, 61, 62, 63, 64, 65, 66, 67, 68, 69, 22, 70, 33, 34, 71, 72, 73, 74, 32, 75, 76, 77, 78, 79, 80, 81, 82, 83, 84, 85, 86, 87, 24, 88, 89, 90, 91, 92, 93, 94, 95, 129, 130, 131, 132, 133, 134, 135, 136, 137, 138, 139, 143, 144, 145, 146] (by decide +kernel) (by decide +kernel)
set_option maxRecDepth 20000 in
theorem gX5_rankByRecord_X3_move : GoodIn wsX5_rankByRecord (wsV RX5 166 RX3 yX3_move wsX3_move) := goodIn_app (goodIn_of _ (by decide +kernel)) ggX5_rankByRecord_X3_move
set_option maxRecDepth 20000 in
theorem ggX5_rankByRecord_X3_sortedRank : GoodIn wsX5_rankByRecord wsX3_sortedRank := goodIn_r _ [99, 29, 100, 101, 102, 103, 104, 22, 105, 106, 107, 108, 109, 35, 56, 31, 84, 85, 86, 87, 32, 24, 110, 111, 112, 113, 33, 114, 115, 116, 60, 117, 118, 129, 130, 131, 132, 133, 134, 135, 136, 137, 138, 139, 143, 144, 145, 146] (by decide +kernel) (by decide +kernel)
set_option maxRecDepth 20000 in
theorem gX5_rankByRecord_X3_sortedRank : GoodIn wsX5_rankByRecord (wsV RX5 193 RX3 yX3_sortedRank wsX3_sortedRank) := goodIn_app (goodIn_of _ (by decide +kernel)) ggX5_rankByRecord_X3_sortedRank
theorem dX5_rankByRecord_0 : decode cX5_rankByRecord 0 = .ok (.aload_n 0, 1) := by decide +kernel
theorem dX5_rankByRecord_1 : decode cX5_rankByRecord 1 = .ok (.iload_n 1, 1) := by decide +kernel
theorem dX5_rankByRecord_2 : decode cX5_rankByRecord 2 = .ok (.invokevirtual 140, 3) := by decide +kernel
theorem dX5_rankByRecord_5 : decode cX5_rankByRecord 5 = .ok (.aload_n 0, 1) := by decide +kernel
theorem dX5_rankByRecord_6 : decode cX5_rankByRecord 6 = .ok (.invokevirtual 171, 3) := by decide +kernel
theorem dX5_rankByRecord_9 : decode cX5_rankByRecord 9 = .ok (.aload_n 0, 1) := by decide +kernel
theorem dX5_rankByRecord_10 : decode cX5_rankByRecord 10 = .ok (.getfield 25, 3) := by decide +kernel
theorem dX5_rankByRecord_13 : decode cX5_rankByRecord 13 = .ok (.aload_n 0, 1) := by decide +kernel
theorem dX5_rankByRecord_14 : decode cX5_rankByRecord 14 = .ok (.getfield 53, 3) := by decide +kernel
theorem dX5_rankByRecord_17 : decode cX5_rankByRecord 17 = .ok (.aload_n 0, 1) := by decide +kernel
theorem dX5_rankByRecord_18 : decode cX5_rankByRecord 18 = .ok (.getfield 21, 3) := by decide +kernel
theorem dX5_rankByRecord_21 : decode cX5_rankByRecord 21 = .ok (.invokevirtual 183, 3) := by decide +kernel
theorem dX5_rankByRecord_24 : decode cX5_rankByRecord 24 = .ok (.invokevirtual 132, 3) := by decide +kernel
theorem dX5_rankByRecord_27 : decode cX5_rankByRecord 27 = .ok (.iconst 0, 1) := by decide +kernel
theorem dX5_rankByRecord_28 : decode cX5_rankByRecord 28 = .ok (.istore_n 2, 1) := by decide +kernel
theorem dX5_rankByRecord_29 : decode cX5_rankByRecord 29 = .ok (.iload_n 2, 1) := by decide +kernel
theorem dX5_rankByRecord_30 : decode cX5_rankByRecord 30 = .ok (.aload_n 0, 1) := by decide +kernel
theorem dX5_rankByRecord_31 : decode cX5_rankByRecord 31 = .ok (.getfield 31, 3) := by decide +kernel
theorem dX5_rankByRecord_34 : decode cX5_rankByRecord 34 = .ok (.invokevirtual 186, 3) := by decide +kernel
theorem dX5_rankByRecord_37 : decode cX5_rankByRecord 37 = .ok (.if_icmp .ge 33, 3) := by decide +kernel
theorem dX5_rankByRecord_40 : decode cX5_rankByRecord 40 = .ok (.aload_n 0, 1) := by decide +kernel
theorem dX5_rankByRecord_41 : decode cX5_rankByRecord 41 = .ok (.getfield 25, 3) := by decide +kernel
theorem dX5_rankByRecord_44 : decode cX5_rankByRecord 44 = .ok (.aload_n 0, 1) := by decide +kernel
theorem dX5_rankByRecord_45 : decode cX5_rankByRecord 45 = .ok (.getfield 31, 3) := by decide +kernel
theorem dX5_rankByRecord_48 : decode cX5_rankByRecord 48 = .ok (.iload_n 2, 1) := by decide +kernel
theorem dX5_rankByRecord_49 : decode cX5_rankByRecord 49 = .ok (.invokevirtual 189, 3) := by decide +kernel
theorem dX5_rankByRecord_52 : decode cX5_rankByRecord 52 = .ok (.aload_n 0, 1) := by decide +kernel
theorem dX5_rankByRecord_53 : decode cX5_rankByRecord 53 = .ok (.getfield 31, 3) := by decide +kernel
theorem dX5_rankByRecord_56 : decode cX5_rankByRecord 56 = .ok (.iload_n 2, 1) := by decide +kernel
theorem dX5_rankByRecord_57 : decode cX5_rankByRecord 57 = .ok (.invokevirtual 192, 3) := by decide +kernel
theorem dX5_rankByRecord_60 : decode cX5_rankByRecord 60 = .ok (.invokevirtual 166, 3) := by decide +kernel
theorem dX5_rankByRecord_63 : decode cX5_rankByRecord 63 = .ok (.pop, 1) := by decide +kernel
theorem dX5_rankByRecord_64 : decode cX5_rankByRecord 64 = .ok (.iinc 2 1, 3) := by decide +kernel
theorem dX5_rankByRecord_67 : decode cX5_rankByRecord 67 = .ok (.goto (-38), 3) := by decide +kernel
theorem dX5_rankByRecord_70 : decode cX5_rankByRecord 70 = .ok (.aload_n 0, 1) := by decide +kernel
theorem dX5_rankByRecord_71 : decode cX5_rankByRecord 71 = .ok (.getfield 25, 3) := by decide +kernel
theorem dX5_rankByRecord_74 : decode cX5_rankByRecord 74 = .ok (.iload_n 1, 1) := by decide +kernel
theorem dX5_rankByRecord_75 : decode cX5_rankByRecord 75 = .ok (.invokevirtual 193, 3) := by decide +kernel
theorem dX5_rankByRecord_78 : decode cX5_rankByRecord 78 = .ok (.ireturn, 1) := by decide +kernel
set_option maxRecDepth 20000 in
theorem ggX5_catchUp_X5_checkKart : GoodIn wsX5_catchUp wsX5_checkKart := goodIn_ca (goodIn_r _ [10, 11, 12, 13, 62, 63, 64, 65, 66, 67, 68, 69, 70, 71] (by decide +kernel) (by decide +kernel)) (goodIn_sub (fun _ h => List.mem_cons_of_mem _ (List.mem_append_left _ (List.mem_append_right _ h))) (by decide +kernel))
set_option maxRecDepth 20000 in
theorem gX5_catchUp_X5_checkKart : GoodIn wsX5_catchUp (wsV RX5 140 RX5 yX5_checkKart wsX5_checkKart) := goodIn_app (goodIn_of _ (by decide +kernel)) ggX5_catchUp_X5_checkKart
set_option maxRecDepth 20000 in
theorem ggX5_catchUp_X5_checkRaceIsOn : GoodIn wsX5_catchUp wsX5_checkRaceIsOn := goodIn_ca (goodIn_r _ [17, 18, 19, 20, 62, 63, 64, 65, 66, 67, 68, 69, 70, 71] (by decide +kernel) (by decide +kernel)) (goodIn_sub (fun _ h => List.mem_cons_of_mem _ (List.mem_append_right _ h)) (by decide +kernel))
set_option maxRecDepth 20000 in
theorem gX5_catchUp_X5_checkRaceIsOn : GoodIn wsX5_catchUp (wsV RX5 171 RX5 yX5_checkRaceIsOn wsX5_checkRaceIsOn) := goodIn_app (goodIn_of _ (by decide +kernel)) ggX5_catchUp_X5_checkRaceIsOn
set_option maxRecDepth 20000 in
theorem ggX5_catchUp_X3_leadOver : GoodIn wsX5_catchUp wsX3_leadOver := goodIn_r _ [25, 26, 27, 28, 4, 29, 30, 31, 32, 24, 33, 34, 35, 36, 37, 38, 39, 40, 41, 42, 43, 44, 45, 46, 47, 48, 49, 50, 51, 52, 53, 54, 55, 56, 57, 58, 59, 60, 61, 72, 73, 74, 75, 76, 77, 78, 79, 80, 81, 82, 83, 84, 85, 86] (by decide +kernel) (by decide +kernel)
set_option maxRecDepth 20000 in
theorem gX5_catchUp_X3_leadOver : GoodIn wsX5_catchUp (wsV RX5 196 RX3 yX3_leadOver wsX3_leadOver) := goodIn_app (goodIn_of _ (by decide +kernel)) ggX5_catchUp_X3_leadOver
theorem dX5_catchUp_0 : decode cX5_catchUp 0 = .ok (.aload_n 0, 1) := by decide +kernel
theorem dX5_catchUp_1 : decode cX5_catchUp 1 = .ok (.iload_n 1, 1) := by decide +kernel
theorem dX5_catchUp_2 : decode cX5_catchUp 2 = .ok (.invokevirtual 140, 3) := by decide +kernel
theorem dX5_catchUp_5 : decode cX5_catchUp 5 = .ok (.aload_n 0, 1) := by decide +kernel
theorem dX5_catchUp_6 : decode cX5_catchUp 6 = .ok (.invokevirtual 171, 3) := by decide +kernel
theorem dX5_catchUp_9 : decode cX5_catchUp 9 = .ok (.aload_n 0, 1) := by decide +kernel
theorem dX5_catchUp_10 : decode cX5_catchUp 10 = .ok (.getfield 21, 3) := by decide +kernel
theorem dX5_catchUp_13 : decode cX5_catchUp 13 = .ok (.iload_n 1, 1) := by decide +kernel
theorem dX5_catchUp_14 : decode cX5_catchUp 14 = .ok (.invokevirtual 196, 3) := by decide +kernel
theorem dX5_catchUp_17 : decode cX5_catchUp 17 = .ok (.bipush 10, 2) := by decide +kernel
theorem dX5_catchUp_19 : decode cX5_catchUp 19 = .ok (.idiv, 1) := by decide +kernel
theorem dX5_catchUp_20 : decode cX5_catchUp 20 = .ok (.bipush 25, 2) := by decide +kernel
theorem dX5_catchUp_22 : decode cX5_catchUp 22 = .ok (.invokestatic 199, 3) := by decide +kernel
theorem dX5_catchUp_25 : decode cX5_catchUp 25 = .ok (.ireturn, 1) := by decide +kernel
set_option maxRecDepth 20000 in
theorem ggX5_setDraw_X1_setNumber : GoodIn wsX5_setDraw wsX1_setNumber := goodIn_r _ [6, 7, 18, 19, 20, 21] (by decide +kernel) (by decide +kernel)
set_option maxRecDepth 20000 in
theorem gX5_setDraw_X1_setNumber : GoodIn wsX5_setDraw (wsV RX5 204 RX1 yX1_setNumber wsX1_setNumber) := goodIn_app (goodIn_of _ (by decide +kernel)) ggX5_setDraw_X1_setNumber
theorem dX5_setDraw_0 : decode cX5_setDraw 0 = .ok (.aload_n 0, 1) := by decide +kernel
theorem dX5_setDraw_1 : decode cX5_setDraw 1 = .ok (.getfield 38, 3) := by decide +kernel
theorem dX5_setDraw_4 : decode cX5_setDraw 4 = .ok (.iload_n 1, 1) := by decide +kernel
theorem dX5_setDraw_5 : decode cX5_setDraw 5 = .ok (.invokevirtual 204, 3) := by decide +kernel
theorem dX5_setDraw_8 : decode cX5_setDraw 8 = .ok (.return_, 1) := by decide +kernel
set_option maxRecDepth 20000 in
theorem ggX5_draw_X5_checkKart : GoodIn wsX5_draw wsX5_checkKart := goodIn_ca (goodIn_r _ [9, 10, 11, 12, 71, 72, 73, 74, 75, 76, 77, 78, 79, 80] (by decide +kernel) (by decide +kernel)) (goodIn_sub (fun _ h => List.mem_cons_of_mem _ (List.mem_append_right _ h)) (by decide +kernel))
set_option maxRecDepth 20000 in
theorem gX5_draw_X5_checkKart : GoodIn wsX5_draw (wsV RX5 140 RX5 yX5_checkKart wsX5_checkKart) := goodIn_app (goodIn_of _ (by decide +kernel)) ggX5_draw_X5_checkKart
set_option maxRecDepth 20000 in
theorem ggX5_draw_X5_checkStillRacing : GoodIn wsX5_draw wsX5_checkStillRacing := goodIn_ca (goodIn_r _ [16, 1, 2, 4, 17, 18, 19, 8, 20, 21, 22, 23, 24, 25, 26, 27, 28, 71, 72, 73, 74, 75, 76, 77, 78, 79, 80, 81, 82, 83, 84, 85, 86, 87, 88, 89, 90, 91] (by decide +kernel) (by decide +kernel)) (goodIn_sub (fun _ h => List.mem_cons_of_mem _ (List.mem_append_left _ (List.mem_append_right _ h))) (by decide +kernel))
set_option maxRecDepth 20000 in
theorem gX5_draw_X5_checkStillRacing : GoodIn wsX5_draw (wsV RX5 143 RX5 yX5_checkStillRacing wsX5_checkStillRacing) := goodIn_app (goodIn_of _ (by decide +kernel)) ggX5_draw_X5_checkStillRacing
set_option maxRecDepth 20000 in
theorem ggX5_draw_X1_heldBy : GoodIn wsX5_draw wsX1_heldBy := goodIn_r _ [33, 34, 92, 93, 94, 95] (by decide +kernel) (by decide +kernel)
set_option maxRecDepth 20000 in
theorem gX5_draw_X1_heldBy : GoodIn wsX5_draw (wsV RX5 207 RX1 yX1_heldBy wsX1_heldBy) := goodIn_app (goodIn_of _ (by decide +kernel)) ggX5_draw_X1_heldBy
set_option maxRecDepth 20000 in
theorem ggX5_draw_X3_countAhead : GoodIn wsX5_draw wsX3_countAhead := goodIn_r _ [38, 39, 40, 41, 42, 25, 43, 44, 45, 46, 47, 23, 24, 26, 27, 28, 48, 49, 50, 51, 52, 53, 54, 55, 56, 57, 58, 81, 82, 83, 84, 85, 86, 87, 88, 89, 90, 91, 96, 97, 98, 99] (by decide +kernel) (by decide +kernel)
set_option maxRecDepth 20000 in
theorem gX5_draw_X3_countAhead : GoodIn wsX5_draw (wsV RX5 180 RX3 yX3_countAhead wsX3_countAhead) := goodIn_app (goodIn_of _ (by decide +kernel)) ggX5_draw_X3_countAhead
set_option maxRecDepth 20000 in
theorem ggX5_draw_X1_drawFor : GoodIn wsX5_draw wsX1_drawFor := goodIn_r _ [62, 63, 64, 34, 65, 66, 32, 67, 68, 69, 70, 92, 93, 94, 95] (by decide +kernel) (by decide +kernel)
set_option maxRecDepth 20000 in
theorem gX5_draw_X1_drawFor : GoodIn wsX5_draw (wsV RX5 212 RX1 yX1_drawFor wsX1_drawFor) := goodIn_app (goodIn_of _ (by decide +kernel)) ggX5_draw_X1_drawFor
theorem dX5_draw_0 : decode cX5_draw 0 = .ok (.aload_n 0, 1) := by decide +kernel
theorem dX5_draw_1 : decode cX5_draw 1 = .ok (.iload_n 1, 1) := by decide +kernel
theorem dX5_draw_2 : decode cX5_draw 2 = .ok (.invokevirtual 140, 3) := by decide +kernel
theorem dX5_draw_5 : decode cX5_draw 5 = .ok (.aload_n 0, 1) := by decide +kernel
theorem dX5_draw_6 : decode cX5_draw 6 = .ok (.iload_n 1, 1) := by decide +kernel
theorem dX5_draw_7 : decode cX5_draw 7 = .ok (.invokevirtual 143, 3) := by decide +kernel
theorem dX5_draw_10 : decode cX5_draw 10 = .ok (.aload_n 0, 1) := by decide +kernel
theorem dX5_draw_11 : decode cX5_draw 11 = .ok (.getfield 38, 3) := by decide +kernel
theorem dX5_draw_14 : decode cX5_draw 14 = .ok (.iload_n 1, 1) := by decide +kernel
theorem dX5_draw_15 : decode cX5_draw 15 = .ok (.invokevirtual 207, 3) := by decide +kernel
theorem dX5_draw_18 : decode cX5_draw 18 = .ok (.iconst (-1), 1) := by decide +kernel
theorem dX5_draw_19 : decode cX5_draw 19 = .ok (.if_icmp .eq 13, 3) := by decide +kernel
theorem dX5_draw_22 : decode cX5_draw 22 = .ok (.new 71, 3) := by decide +kernel
theorem dX5_draw_25 : decode cX5_draw 25 = .ok (.dup, 1) := by decide +kernel
theorem dX5_draw_26 : decode cX5_draw 26 = .ok (.ldc 210, 2) := by decide +kernel
theorem dX5_draw_28 : decode cX5_draw 28 = .ok (.invokespecial 75, 3) := by decide +kernel
theorem dX5_draw_31 : decode cX5_draw 31 = .ok (.athrow, 1) := by decide +kernel
theorem dX5_draw_32 : decode cX5_draw 32 = .ok (.aload_n 0, 1) := by decide +kernel
theorem dX5_draw_33 : decode cX5_draw 33 = .ok (.getfield 38, 3) := by decide +kernel
theorem dX5_draw_36 : decode cX5_draw 36 = .ok (.iload_n 1, 1) := by decide +kernel
theorem dX5_draw_37 : decode cX5_draw 37 = .ok (.aload_n 0, 1) := by decide +kernel
theorem dX5_draw_38 : decode cX5_draw 38 = .ok (.getfield 21, 3) := by decide +kernel
theorem dX5_draw_41 : decode cX5_draw 41 = .ok (.iload_n 1, 1) := by decide +kernel
theorem dX5_draw_42 : decode cX5_draw 42 = .ok (.invokevirtual 180, 3) := by decide +kernel
theorem dX5_draw_45 : decode cX5_draw 45 = .ok (.invokevirtual 212, 3) := by decide +kernel
theorem dX5_draw_48 : decode cX5_draw 48 = .ok (.ireturn, 1) := by decide +kernel
set_option maxRecDepth 20000 in
theorem ggX5_use_X5_checkKart : GoodIn wsX5_use wsX5_checkKart := goodIn_ca (goodIn_r _ [10, 11, 12, 13, 86, 87, 88, 89, 90, 91, 92, 93, 94, 95] (by decide +kernel) (by decide +kernel)) (goodIn_sub (fun _ h => List.mem_cons_of_mem _ (List.mem_append_right _ h)) (by decide +kernel))
set_option maxRecDepth 20000 in
theorem gX5_use_X5_checkKart : GoodIn wsX5_use (wsV RX5 140 RX5 yX5_checkKart wsX5_checkKart) := goodIn_app (goodIn_of _ (by decide +kernel)) ggX5_use_X5_checkKart
set_option maxRecDepth 20000 in
theorem ggX5_use_X5_checkStillRacing : GoodIn wsX5_use wsX5_checkStillRacing := goodIn_ca (goodIn_r _ [17, 1, 2, 4, 18, 19, 20, 9, 21, 22, 23, 24, 25, 26, 27, 28, 29, 86, 87, 88, 89, 90, 91, 92, 93, 94, 95, 96, 97, 98, 99, 100, 101, 102, 103, 104, 105, 106] (by decide +kernel) (by decide +kernel)) (goodIn_sub (fun _ h => List.mem_cons_of_mem _ (List.mem_append_left _ (List.mem_append_right _ h))) (by decide +kernel))
set_option maxRecDepth 20000 in
theorem gX5_use_X5_checkStillRacing : GoodIn wsX5_use (wsV RX5 143 RX5 yX5_checkStillRacing wsX5_checkStillRacing) := goodIn_app (goodIn_of _ (by decide +kernel)) ggX5_use_X5_checkStillRacing
set_option maxRecDepth 20000 in
theorem ggX5_use_X1_heldBy : GoodIn wsX5_use wsX1_heldBy := goodIn_r _ [34, 35, 107, 108, 109, 110] (by decide +kernel) (by decide +kernel)
set_option maxRecDepth 20000 in
theorem gX5_use_X1_heldBy : GoodIn wsX5_use (wsV RX5 207 RX1 yX1_heldBy wsX1_heldBy) := goodIn_app (goodIn_of _ (by decide +kernel)) ggX5_use_X1_heldBy
set_option maxRecDepth 20000 in
theorem ggX5_use_X1_takeFrom : GoodIn wsX5_use wsX1_takeFrom := goodIn_r _ [39, 35, 107, 108, 109, 110] (by decide +kernel) (by decide +kernel)
set_option maxRecDepth 20000 in
theorem gX5_use_X1_takeFrom : GoodIn wsX5_use (wsV RX5 217 RX1 yX1_takeFrom wsX1_takeFrom) := goodIn_app (goodIn_of _ (by decide +kernel)) ggX5_use_X1_takeFrom
set_option maxRecDepth 20000 in
theorem ggX5_use_X3_countAhead : GoodIn wsX5_use wsX3_countAhead := goodIn_r _ [43, 44, 45, 46, 47, 26, 48, 49, 50, 51, 52, 24, 25, 27, 28, 29, 53, 54, 55, 56, 57, 58, 59, 60, 61, 62, 63, 96, 97, 98, 99, 100, 101, 102, 103, 104, 105, 106, 111, 112, 113, 114] (by decide +kernel) (by decide +kernel)
set_option maxRecDepth 20000 in
theorem gX5_use_X3_countAhead : GoodIn wsX5_use (wsV RX5 180 RX3 yX3_countAhead wsX3_countAhead) := goodIn_app (goodIn_of _ (by decide +kernel)) ggX5_use_X3_countAhead
set_option maxRecDepth 20000 in
theorem ggX5_use_X1_wake : GoodIn wsX5_use wsX1_wake := goodIn_r _ [67, 68, 107, 108, 109, 110] (by decide +kernel) (by decide +kernel)
set_option maxRecDepth 20000 in
theorem gX5_use_X1_wake : GoodIn wsX5_use (wsV RX5 220 RX1 yX1_wake wsX1_wake) := goodIn_app (goodIn_of _ (by decide +kernel)) ggX5_use_X1_wake
set_option maxRecDepth 20000 in
theorem ggX5_use_X1_shield : GoodIn wsX5_use wsX1_shield := goodIn_r _ [72, 73, 107, 108, 109, 110] (by decide +kernel) (by decide +kernel)
set_option maxRecDepth 20000 in
theorem gX5_use_X1_shield : GoodIn wsX5_use (wsV RX5 223 RX1 yX1_shield wsX1_shield) := goodIn_app (goodIn_of _ (by decide +kernel)) ggX5_use_X1_shield
set_option maxRecDepth 20000 in
theorem ggX5_use_X5_hitRanks : GoodIn wsX5_use wsX5_hitRanks := goodIn_r _ [77, 13, 4, 3, 40, 41, 42, 26, 43, 44, 45, 46, 47, 48, 49, 50, 51, 52, 24, 25, 27, 28, 29, 53, 54, 55, 56, 57, 58, 59, 60, 61, 62, 63, 23, 78, 79, 80, 33, 81, 73, 68, 82, 83, 84, 85, 86, 87, 88, 89, 90, 91, 92, 93, 94, 95, 96, 97, 98, 99, 100, 101, 102, 103, 104, 105, 106, 111, 112, 113, 114, 107, 108, 109, 110] (by decide +kernel) (by decide +kernel)
set_option maxRecDepth 20000 in
theorem gX5_use_X5_hitRanks : GoodIn wsX5_use (wsV RX5 226 RX5 yX5_hitRanks wsX5_hitRanks) := goodIn_app (goodIn_of _ (by decide +kernel)) ggX5_use_X5_hitRanks
theorem dX5_use_0 : decode cX5_use 0 = .ok (.aload_n 0, 1) := by decide +kernel
theorem dX5_use_1 : decode cX5_use 1 = .ok (.iload_n 1, 1) := by decide +kernel
theorem dX5_use_2 : decode cX5_use 2 = .ok (.invokevirtual 140, 3) := by decide +kernel
theorem dX5_use_5 : decode cX5_use 5 = .ok (.aload_n 0, 1) := by decide +kernel
theorem dX5_use_6 : decode cX5_use 6 = .ok (.iload_n 1, 1) := by decide +kernel
theorem dX5_use_7 : decode cX5_use 7 = .ok (.invokevirtual 143, 3) := by decide +kernel
theorem dX5_use_10 : decode cX5_use 10 = .ok (.aload_n 0, 1) := by decide +kernel
theorem dX5_use_11 : decode cX5_use 11 = .ok (.getfield 38, 3) := by decide +kernel
theorem dX5_use_14 : decode cX5_use 14 = .ok (.iload_n 1, 1) := by decide +kernel
theorem dX5_use_15 : decode cX5_use 15 = .ok (.invokevirtual 207, 3) := by decide +kernel
theorem dX5_use_18 : decode cX5_use 18 = .ok (.istore_n 2, 1) := by decide +kernel
theorem dX5_use_19 : decode cX5_use 19 = .ok (.iload_n 2, 1) := by decide +kernel
theorem dX5_use_20 : decode cX5_use 20 = .ok (.iconst (-1), 1) := by decide +kernel
theorem dX5_use_21 : decode cX5_use 21 = .ok (.if_icmp .ne 13, 3) := by decide +kernel
theorem dX5_use_24 : decode cX5_use 24 = .ok (.new 71, 3) := by decide +kernel
theorem dX5_use_27 : decode cX5_use 27 = .ok (.dup, 1) := by decide +kernel
theorem dX5_use_28 : decode cX5_use 28 = .ok (.ldc 215, 2) := by decide +kernel
theorem dX5_use_30 : decode cX5_use 30 = .ok (.invokespecial 75, 3) := by decide +kernel
theorem dX5_use_33 : decode cX5_use 33 = .ok (.athrow, 1) := by decide +kernel
theorem dX5_use_34 : decode cX5_use 34 = .ok (.aload_n 0, 1) := by decide +kernel
theorem dX5_use_35 : decode cX5_use 35 = .ok (.getfield 38, 3) := by decide +kernel
theorem dX5_use_38 : decode cX5_use 38 = .ok (.iload_n 1, 1) := by decide +kernel
theorem dX5_use_39 : decode cX5_use 39 = .ok (.invokevirtual 217, 3) := by decide +kernel
theorem dX5_use_42 : decode cX5_use 42 = .ok (.aload_n 0, 1) := by decide +kernel
theorem dX5_use_43 : decode cX5_use 43 = .ok (.getfield 21, 3) := by decide +kernel
theorem dX5_use_46 : decode cX5_use 46 = .ok (.iload_n 1, 1) := by decide +kernel
theorem dX5_use_47 : decode cX5_use 47 = .ok (.invokevirtual 180, 3) := by decide +kernel
theorem dX5_use_50 : decode cX5_use 50 = .ok (.istore_n 3, 1) := by decide +kernel
theorem dX5_use_51 : decode cX5_use 51 = .ok (.iload_n 2, 1) := by decide +kernel
theorem dX5_use_52 : decode cX5_use 52 = .ok (.tableswitch 63 0 2 #[28, 48, 38], 28) := by decide +kernel
theorem dX5_use_80 : decode cX5_use 80 = .ok (.aload_n 0, 1) := by decide +kernel
theorem dX5_use_81 : decode cX5_use 81 = .ok (.getfield 38, 3) := by decide +kernel
theorem dX5_use_84 : decode cX5_use 84 = .ok (.iload_n 1, 1) := by decide +kernel
theorem dX5_use_85 : decode cX5_use 85 = .ok (.invokevirtual 220, 3) := by decide +kernel
theorem dX5_use_88 : decode cX5_use 88 = .ok (.iconst 0, 1) := by decide +kernel
theorem dX5_use_89 : decode cX5_use 89 = .ok (.ireturn, 1) := by decide +kernel
theorem dX5_use_90 : decode cX5_use 90 = .ok (.aload_n 0, 1) := by decide +kernel
theorem dX5_use_91 : decode cX5_use 91 = .ok (.getfield 38, 3) := by decide +kernel
theorem dX5_use_94 : decode cX5_use 94 = .ok (.iload_n 1, 1) := by decide +kernel
theorem dX5_use_95 : decode cX5_use 95 = .ok (.invokevirtual 223, 3) := by decide +kernel
theorem dX5_use_98 : decode cX5_use 98 = .ok (.iconst 0, 1) := by decide +kernel
theorem dX5_use_99 : decode cX5_use 99 = .ok (.ireturn, 1) := by decide +kernel
theorem dX5_use_100 : decode cX5_use 100 = .ok (.aload_n 0, 1) := by decide +kernel
theorem dX5_use_101 : decode cX5_use 101 = .ok (.iload_n 3, 1) := by decide +kernel
theorem dX5_use_102 : decode cX5_use 102 = .ok (.iconst 1, 1) := by decide +kernel
theorem dX5_use_103 : decode cX5_use 103 = .ok (.isub, 1) := by decide +kernel
theorem dX5_use_104 : decode cX5_use 104 = .ok (.iload_n 3, 1) := by decide +kernel
theorem dX5_use_105 : decode cX5_use 105 = .ok (.aload_n 0, 1) := by decide +kernel
theorem dX5_use_106 : decode cX5_use 106 = .ok (.getfield 61, 3) := by decide +kernel
theorem dX5_use_109 : decode cX5_use 109 = .ok (.iconst 5, 1) := by decide +kernel
theorem dX5_use_110 : decode cX5_use 110 = .ok (.iadd, 1) := by decide +kernel
theorem dX5_use_111 : decode cX5_use 111 = .ok (.invokevirtual 226, 3) := by decide +kernel
theorem dX5_use_114 : decode cX5_use 114 = .ok (.ireturn, 1) := by decide +kernel
theorem dX5_use_115 : decode cX5_use 115 = .ok (.aload_n 0, 1) := by decide +kernel
theorem dX5_use_116 : decode cX5_use 116 = .ok (.iconst 0, 1) := by decide +kernel
theorem dX5_use_117 : decode cX5_use 117 = .ok (.iload_n 3, 1) := by decide +kernel
theorem dX5_use_118 : decode cX5_use 118 = .ok (.aload_n 0, 1) := by decide +kernel
theorem dX5_use_119 : decode cX5_use 119 = .ok (.getfield 61, 3) := by decide +kernel
theorem dX5_use_122 : decode cX5_use 122 = .ok (.iconst 2, 1) := by decide +kernel
theorem dX5_use_123 : decode cX5_use 123 = .ok (.iadd, 1) := by decide +kernel
theorem dX5_use_124 : decode cX5_use 124 = .ok (.invokevirtual 226, 3) := by decide +kernel
theorem dX5_use_127 : decode cX5_use 127 = .ok (.ireturn, 1) := by decide +kernel
set_option maxRecDepth 20000 in
theorem ggX5_itemOf_X5_checkKart : GoodIn wsX5_itemOf wsX5_checkKart := goodIn_ca (goodIn_r _ [7, 8, 9, 10, 17, 18, 19, 20, 21, 22, 23, 24, 25, 26] (by decide +kernel) (by decide +kernel)) (goodIn_sub (fun _ h => List.mem_cons_of_mem _ (List.mem_append_right _ h)) (by decide +kernel))
set_option maxRecDepth 20000 in
theorem gX5_itemOf_X5_checkKart : GoodIn wsX5_itemOf (wsV RX5 140 RX5 yX5_checkKart wsX5_checkKart) := goodIn_app (goodIn_of _ (by decide +kernel)) ggX5_itemOf_X5_checkKart
set_option maxRecDepth 20000 in
theorem ggX5_itemOf_X1_heldBy : GoodIn wsX5_itemOf wsX1_heldBy := goodIn_r _ [15, 16, 27, 28, 29, 30] (by decide +kernel) (by decide +kernel)
set_option maxRecDepth 20000 in
theorem gX5_itemOf_X1_heldBy : GoodIn wsX5_itemOf (wsV RX5 207 RX1 yX1_heldBy wsX1_heldBy) := goodIn_app (goodIn_of _ (by decide +kernel)) ggX5_itemOf_X1_heldBy
theorem dX5_itemOf_0 : decode cX5_itemOf 0 = .ok (.aload_n 0, 1) := by decide +kernel
theorem dX5_itemOf_1 : decode cX5_itemOf 1 = .ok (.iload_n 1, 1) := by decide +kernel
theorem dX5_itemOf_2 : decode cX5_itemOf 2 = .ok (.invokevirtual 140, 3) := by decide +kernel
theorem dX5_itemOf_5 : decode cX5_itemOf 5 = .ok (.aload_n 0, 1) := by decide +kernel
theorem dX5_itemOf_6 : decode cX5_itemOf 6 = .ok (.getfield 57, 3) := by decide +kernel
theorem dX5_itemOf_9 : decode cX5_itemOf 9 = .ok (.ifCond .eq 14, 3) := by decide +kernel
theorem dX5_itemOf_12 : decode cX5_itemOf 12 = .ok (.aload_n 0, 1) := by decide +kernel
theorem dX5_itemOf_13 : decode cX5_itemOf 13 = .ok (.getfield 38, 3) := by decide +kernel
theorem dX5_itemOf_16 : decode cX5_itemOf 16 = .ok (.iload_n 1, 1) := by decide +kernel
theorem dX5_itemOf_17 : decode cX5_itemOf 17 = .ok (.invokevirtual 207, 3) := by decide +kernel
theorem dX5_itemOf_20 : decode cX5_itemOf 20 = .ok (.goto 4, 3) := by decide +kernel
theorem dX5_itemOf_23 : decode cX5_itemOf 23 = .ok (.iconst (-1), 1) := by decide +kernel
theorem dX5_itemOf_24 : decode cX5_itemOf 24 = .ok (.ireturn, 1) := by decide +kernel
set_option maxRecDepth 20000 in
theorem ggX5_stunned_X5_checkKart : GoodIn wsX5_stunned wsX5_checkKart := goodIn_ca (goodIn_r _ [8, 9, 10, 11, 22, 23, 24, 25, 26, 27, 28, 29, 30, 31] (by decide +kernel) (by decide +kernel)) (goodIn_sub (fun _ h => List.mem_cons_of_mem _ (List.mem_append_right _ h)) (by decide +kernel))
set_option maxRecDepth 20000 in
theorem gX5_stunned_X5_checkKart : GoodIn wsX5_stunned (wsV RX5 140 RX5 yX5_checkKart wsX5_checkKart) := goodIn_app (goodIn_of _ (by decide +kernel)) ggX5_stunned_X5_checkKart
set_option maxRecDepth 20000 in
theorem ggX5_stunned_X1_ticksStunned : GoodIn wsX5_stunned wsX1_ticksStunned := goodIn_r _ [16, 17, 18, 19, 20, 21, 32, 33, 34, 35] (by decide +kernel) (by decide +kernel)
set_option maxRecDepth 20000 in
theorem gX5_stunned_X1_ticksStunned : GoodIn wsX5_stunned (wsV RX5 146 RX1 yX1_ticksStunned wsX1_ticksStunned) := goodIn_app (goodIn_of _ (by decide +kernel)) ggX5_stunned_X1_ticksStunned
theorem dX5_stunned_0 : decode cX5_stunned 0 = .ok (.aload_n 0, 1) := by decide +kernel
theorem dX5_stunned_1 : decode cX5_stunned 1 = .ok (.iload_n 1, 1) := by decide +kernel
theorem dX5_stunned_2 : decode cX5_stunned 2 = .ok (.invokevirtual 140, 3) := by decide +kernel
theorem dX5_stunned_5 : decode cX5_stunned 5 = .ok (.aload_n 0, 1) := by decide +kernel
theorem dX5_stunned_6 : decode cX5_stunned 6 = .ok (.getfield 57, 3) := by decide +kernel
theorem dX5_stunned_9 : decode cX5_stunned 9 = .ok (.ifCond .eq 18, 3) := by decide +kernel
theorem dX5_stunned_12 : decode cX5_stunned 12 = .ok (.aload_n 0, 1) := by decide +kernel
theorem dX5_stunned_13 : decode cX5_stunned 13 = .ok (.getfield 38, 3) := by decide +kernel
theorem dX5_stunned_16 : decode cX5_stunned 16 = .ok (.iload_n 1, 1) := by decide +kernel
theorem dX5_stunned_17 : decode cX5_stunned 17 = .ok (.aload_n 0, 1) := by decide +kernel
theorem dX5_stunned_18 : decode cX5_stunned 18 = .ok (.getfield 61, 3) := by decide +kernel
theorem dX5_stunned_21 : decode cX5_stunned 21 = .ok (.invokevirtual 146, 3) := by decide +kernel
theorem dX5_stunned_24 : decode cX5_stunned 24 = .ok (.goto 4, 3) := by decide +kernel
theorem dX5_stunned_27 : decode cX5_stunned 27 = .ok (.iconst 0, 1) := by decide +kernel
theorem dX5_stunned_28 : decode cX5_stunned 28 = .ok (.ireturn, 1) := by decide +kernel
set_option maxRecDepth 20000 in
theorem ggX5_end_X5_checkRaceIsOn : GoodIn wsX5_end wsX5_checkRaceIsOn := goodIn_ca (goodIn_r _ [9, 10, 11, 4, 59, 60, 61, 62, 63, 64, 65, 66, 67, 68] (by decide +kernel) (by decide +kernel)) (goodIn_sub (fun _ h => List.mem_cons_of_mem _ (List.mem_append_right _ h)) (by decide +kernel))
set_option maxRecDepth 20000 in
theorem gX5_end_X5_checkRaceIsOn : GoodIn wsX5_end (wsV RX5 171 RX5 yX5_checkRaceIsOn wsX5_checkRaceIsOn) := goodIn_app (goodIn_of _ (by decide +kernel)) ggX5_end_X5_checkRaceIsOn
set_option maxRecDepth 20000 in
theorem ggX5_end_X3_countAhead : GoodIn wsX5_end wsX3_countAhead := goodIn_r _ [16, 17, 18, 19, 20, 15, 21, 22, 23, 24, 25, 26, 27, 28, 29, 30, 31, 32, 33, 34, 35, 36, 37, 38, 39, 40, 41, 69, 70, 71, 72, 73, 74, 75, 76, 77, 78, 79, 80, 81, 82, 83] (by decide +kernel) (by decide +kernel)
set_option maxRecDepth 20000 in
theorem gX5_end_X3_countAhead : GoodIn wsX5_end (wsV RX5 180 RX3 yX3_countAhead wsX3_countAhead) := goodIn_app (goodIn_of _ (by decide +kernel)) ggX5_end_X3_countAhead
set_option maxRecDepth 20000 in
theorem ggX5_end_X3_isWorthPoints : GoodIn wsX5_end wsX3_isWorthPoints := goodIn_r _ [45, 25, 26, 27, 15, 28, 29, 30, 31, 32, 33, 34, 35, 69, 70, 71, 72, 73, 74, 75, 76, 77, 78, 79] (by decide +kernel) (by decide +kernel)
set_option maxRecDepth 20000 in
theorem gX5_end_X3_isWorthPoints : GoodIn wsX5_end (wsV RX5 230 RX3 yX3_isWorthPoints wsX3_isWorthPoints) := goodIn_app (goodIn_of _ (by decide +kernel)) ggX5_end_X3_isWorthPoints
set_option maxRecDepth 20000 in
theorem ggX5_end_X0_noteResult : GoodIn wsX5_end wsX0_noteResult := goodIn_r _ [50, 51, 52, 53, 54, 84, 85, 86, 87] (by decide +kernel) (by decide +kernel)
set_option maxRecDepth 20000 in
theorem gX5_end_X0_noteResult : GoodIn wsX5_end (wsV RX5 234 RX0 yX0_noteResult wsX0_noteResult) := goodIn_app (goodIn_of _ (by decide +kernel)) ggX5_end_X0_noteResult
set_option maxRecDepth 20000 in
theorem ggX5_end_X0_closeRace : GoodIn wsX5_end wsX0_closeRace := goodIn_r _ [58, 52, 84, 85, 86, 87] (by decide +kernel) (by decide +kernel)
set_option maxRecDepth 20000 in
theorem gX5_end_X0_closeRace : GoodIn wsX5_end (wsV RX5 238 RX0 yX0_closeRace wsX0_closeRace) := goodIn_app (goodIn_of _ (by decide +kernel)) ggX5_end_X0_closeRace
theorem dX5_end_0 : decode cX5_end 0 = .ok (.aload_n 0, 1) := by decide +kernel
theorem dX5_end_1 : decode cX5_end 1 = .ok (.invokevirtual 171, 3) := by decide +kernel
theorem dX5_end_4 : decode cX5_end 4 = .ok (.iconst 0, 1) := by decide +kernel
theorem dX5_end_5 : decode cX5_end 5 = .ok (.istore_n 1, 1) := by decide +kernel
theorem dX5_end_6 : decode cX5_end 6 = .ok (.iconst 0, 1) := by decide +kernel
theorem dX5_end_7 : decode cX5_end 7 = .ok (.istore_n 2, 1) := by decide +kernel
theorem dX5_end_8 : decode cX5_end 8 = .ok (.iload_n 2, 1) := by decide +kernel
theorem dX5_end_9 : decode cX5_end 9 = .ok (.aload_n 0, 1) := by decide +kernel
theorem dX5_end_10 : decode cX5_end 10 = .ok (.getfield 53, 3) := by decide +kernel
theorem dX5_end_13 : decode cX5_end 13 = .ok (.if_icmp .ge 41, 3) := by decide +kernel
theorem dX5_end_16 : decode cX5_end 16 = .ok (.aload_n 0, 1) := by decide +kernel
theorem dX5_end_17 : decode cX5_end 17 = .ok (.getfield 21, 3) := by decide +kernel
theorem dX5_end_20 : decode cX5_end 20 = .ok (.iload_n 2, 1) := by decide +kernel
theorem dX5_end_21 : decode cX5_end 21 = .ok (.invokevirtual 180, 3) := by decide +kernel
theorem dX5_end_24 : decode cX5_end 24 = .ok (.istore_n 3, 1) := by decide +kernel
theorem dX5_end_25 : decode cX5_end 25 = .ok (.aload_n 0, 1) := by decide +kernel
theorem dX5_end_26 : decode cX5_end 26 = .ok (.getfield 45, 3) := by decide +kernel
theorem dX5_end_29 : decode cX5_end 29 = .ok (.iload_n 2, 1) := by decide +kernel
theorem dX5_end_30 : decode cX5_end 30 = .ok (.iload_n 3, 1) := by decide +kernel
theorem dX5_end_31 : decode cX5_end 31 = .ok (.aload_n 0, 1) := by decide +kernel
theorem dX5_end_32 : decode cX5_end 32 = .ok (.getfield 21, 3) := by decide +kernel
theorem dX5_end_35 : decode cX5_end 35 = .ok (.iload_n 2, 1) := by decide +kernel
theorem dX5_end_36 : decode cX5_end 36 = .ok (.invokevirtual 230, 3) := by decide +kernel
theorem dX5_end_39 : decode cX5_end 39 = .ok (.invokevirtual 234, 3) := by decide +kernel
theorem dX5_end_42 : decode cX5_end 42 = .ok (.iload_n 3, 1) := by decide +kernel
theorem dX5_end_43 : decode cX5_end 43 = .ok (.ifCond .ne 5, 3) := by decide +kernel
theorem dX5_end_46 : decode cX5_end 46 = .ok (.iload_n 2, 1) := by decide +kernel
theorem dX5_end_47 : decode cX5_end 47 = .ok (.istore_n 1, 1) := by decide +kernel
theorem dX5_end_48 : decode cX5_end 48 = .ok (.iinc 2 1, 3) := by decide +kernel
theorem dX5_end_51 : decode cX5_end 51 = .ok (.goto (-43), 3) := by decide +kernel
theorem dX5_end_54 : decode cX5_end 54 = .ok (.aload_n 0, 1) := by decide +kernel
theorem dX5_end_55 : decode cX5_end 55 = .ok (.getfield 45, 3) := by decide +kernel
theorem dX5_end_58 : decode cX5_end 58 = .ok (.invokevirtual 238, 3) := by decide +kernel
theorem dX5_end_61 : decode cX5_end 61 = .ok (.aload_n 0, 1) := by decide +kernel
theorem dX5_end_62 : decode cX5_end 62 = .ok (.iconst 0, 1) := by decide +kernel
theorem dX5_end_63 : decode cX5_end 63 = .ok (.putfield 57, 3) := by decide +kernel
theorem dX5_end_66 : decode cX5_end 66 = .ok (.iload_n 1, 1) := by decide +kernel
theorem dX5_end_67 : decode cX5_end 67 = .ok (.ireturn, 1) := by decide +kernel
set_option maxRecDepth 20000 in
theorem ggX5_races_X0_endedRaces : GoodIn wsX5_races wsX0_endedRaces := goodIn_r _ [6, 7, 18, 19, 20, 21] (by decide +kernel) (by decide +kernel)
set_option maxRecDepth 20000 in
theorem gX5_races_X0_endedRaces : GoodIn wsX5_races (wsV RX5 120 RX0 yX0_endedRaces wsX0_endedRaces) := goodIn_app (goodIn_of _ (by decide +kernel)) ggX5_races_X0_endedRaces
theorem dX5_races_0 : decode cX5_races 0 = .ok (.aload_n 0, 1) := by decide +kernel
theorem dX5_races_1 : decode cX5_races 1 = .ok (.getfield 45, 3) := by decide +kernel
theorem dX5_races_4 : decode cX5_races 4 = .ok (.invokevirtual 120, 3) := by decide +kernel
theorem dX5_races_7 : decode cX5_races 7 = .ok (.ireturn, 1) := by decide +kernel
set_option maxRecDepth 20000 in
theorem ggX5_place_X0_endedRaces : GoodIn wsX5_place wsX0_endedRaces := goodIn_r _ [8, 9, 31, 32, 33, 34] (by decide +kernel) (by decide +kernel)
set_option maxRecDepth 20000 in
theorem gX5_place_X0_endedRaces : GoodIn wsX5_place (wsV RX5 120 RX0 yX0_endedRaces wsX0_endedRaces) := goodIn_app (goodIn_of _ (by decide +kernel)) ggX5_place_X0_endedRaces
set_option maxRecDepth 20000 in
theorem ggX5_place_X5_checkKart : GoodIn wsX5_place wsX5_checkKart := goodIn_ca (goodIn_r _ [14, 1, 2, 15, 21, 22, 23, 24, 25, 26, 27, 28, 29, 30] (by decide +kernel) (by decide +kernel)) (goodIn_sub (fun _ h => List.mem_cons_of_mem _ (List.mem_append_right _ h)) (by decide +kernel))
set_option maxRecDepth 20000 in
theorem gX5_place_X5_checkKart : GoodIn wsX5_place (wsV RX5 140 RX5 yX5_checkKart wsX5_checkKart) := goodIn_app (goodIn_of _ (by decide +kernel)) ggX5_place_X5_checkKart
set_option maxRecDepth 20000 in
theorem ggX5_place_X0_placeIn : GoodIn wsX5_place wsX0_placeIn := goodIn_r _ [19, 20, 31, 32, 33, 34] (by decide +kernel) (by decide +kernel)
set_option maxRecDepth 20000 in
theorem gX5_place_X0_placeIn : GoodIn wsX5_place (wsV RX5 246 RX0 yX0_placeIn wsX0_placeIn) := goodIn_app (goodIn_of _ (by decide +kernel)) ggX5_place_X0_placeIn
theorem dX5_place_0 : decode cX5_place 0 = .ok (.iload_n 1, 1) := by decide +kernel
theorem dX5_place_1 : decode cX5_place 1 = .ok (.ifCond .lt 14, 3) := by decide +kernel
theorem dX5_place_4 : decode cX5_place 4 = .ok (.iload_n 1, 1) := by decide +kernel
theorem dX5_place_5 : decode cX5_place 5 = .ok (.aload_n 0, 1) := by decide +kernel
theorem dX5_place_6 : decode cX5_place 6 = .ok (.getfield 45, 3) := by decide +kernel
theorem dX5_place_9 : decode cX5_place 9 = .ok (.invokevirtual 120, 3) := by decide +kernel
theorem dX5_place_12 : decode cX5_place 12 = .ok (.if_icmp .lt 13, 3) := by decide +kernel
theorem dX5_place_15 : decode cX5_place 15 = .ok (.new 241, 3) := by decide +kernel
theorem dX5_place_18 : decode cX5_place 18 = .ok (.dup, 1) := by decide +kernel
theorem dX5_place_19 : decode cX5_place 19 = .ok (.ldc 243, 2) := by decide +kernel
theorem dX5_place_21 : decode cX5_place 21 = .ok (.invokespecial 245, 3) := by decide +kernel
theorem dX5_place_24 : decode cX5_place 24 = .ok (.athrow, 1) := by decide +kernel
theorem dX5_place_25 : decode cX5_place 25 = .ok (.aload_n 0, 1) := by decide +kernel
end
section
theorem dX5_place_26 : decode cX5_place 26 = .ok (.iload_n 2, 1) := by decide +kernel
theorem dX5_place_27 : decode cX5_place 27 = .ok (.invokevirtual 140, 3) := by decide +kernel
theorem dX5_place_30 : decode cX5_place 30 = .ok (.aload_n 0, 1) := by decide +kernel
theorem dX5_place_31 : decode cX5_place 31 = .ok (.getfield 45, 3) := by decide +kernel
theorem dX5_place_34 : decode cX5_place 34 = .ok (.iload_n 1, 1) := by decide +kernel
theorem dX5_place_35 : decode cX5_place 35 = .ok (.iload_n 2, 1) := by decide +kernel
theorem dX5_place_36 : decode cX5_place 36 = .ok (.invokevirtual 246, 3) := by decide +kernel
theorem dX5_place_39 : decode cX5_place 39 = .ok (.ireturn, 1) := by decide +kernel
set_option maxRecDepth 20000 in
theorem ggX5_setDropped_X0_changeDropped : GoodIn wsX5_setDropped wsX0_changeDropped := goodIn_r _ [8, 9, 20, 21, 22, 23] (by decide +kernel) (by decide +kernel)
set_option maxRecDepth 20000 in
theorem gX5_setDropped_X0_changeDropped : GoodIn wsX5_setDropped (wsV RX5 251 RX0 yX0_changeDropped wsX0_changeDropped) := goodIn_app (goodIn_of _ (by decide +kernel)) ggX5_setDropped_X0_changeDropped
theorem dX5_setDropped_0 : decode cX5_setDropped 0 = .ok (.iload_n 1, 1) := by decide +kernel
theorem dX5_setDropped_1 : decode cX5_setDropped 1 = .ok (.ifCond .lt 8, 3) := by decide +kernel
theorem dX5_setDropped_4 : decode cX5_setDropped 4 = .ok (.iload_n 1, 1) := by decide +kernel
theorem dX5_setDropped_5 : decode cX5_setDropped 5 = .ok (.iconst 3, 1) := by decide +kernel
theorem dX5_setDropped_6 : decode cX5_setDropped 6 = .ok (.if_icmp .le 13, 3) := by decide +kernel
theorem dX5_setDropped_9 : decode cX5_setDropped 9 = .ok (.new 86, 3) := by decide +kernel
theorem dX5_setDropped_12 : decode cX5_setDropped 12 = .ok (.dup, 1) := by decide +kernel
theorem dX5_setDropped_13 : decode cX5_setDropped 13 = .ok (.ldc 249, 2) := by decide +kernel
theorem dX5_setDropped_15 : decode cX5_setDropped 15 = .ok (.invokespecial 90, 3) := by decide +kernel
theorem dX5_setDropped_18 : decode cX5_setDropped 18 = .ok (.athrow, 1) := by decide +kernel
theorem dX5_setDropped_19 : decode cX5_setDropped 19 = .ok (.aload_n 0, 1) := by decide +kernel
theorem dX5_setDropped_20 : decode cX5_setDropped 20 = .ok (.getfield 45, 3) := by decide +kernel
theorem dX5_setDropped_23 : decode cX5_setDropped 23 = .ok (.iload_n 1, 1) := by decide +kernel
theorem dX5_setDropped_24 : decode cX5_setDropped 24 = .ok (.invokevirtual 251, 3) := by decide +kernel
theorem dX5_setDropped_27 : decode cX5_setDropped 27 = .ok (.ireturn, 1) := by decide +kernel
set_option maxRecDepth 20000 in
theorem ggX5_points_X5_checkKart : GoodIn wsX5_points wsX5_checkKart := goodIn_ca (goodIn_r _ [6, 7, 8, 9, 22, 23, 24, 25, 26, 27, 28, 29, 30, 31] (by decide +kernel) (by decide +kernel)) (goodIn_sub (fun _ h => List.mem_cons_of_mem _ (List.mem_append_right _ h)) (by decide +kernel))
set_option maxRecDepth 20000 in
theorem gX5_points_X5_checkKart : GoodIn wsX5_points (wsV RX5 140 RX5 yX5_checkKart wsX5_checkKart) := goodIn_app (goodIn_of _ (by decide +kernel)) ggX5_points_X5_checkKart
set_option maxRecDepth 20000 in
theorem ggX5_points_X0_pointsOf : GoodIn wsX5_points wsX0_pointsOf := goodIn_r _ [14, 15, 16, 17, 18, 19, 20, 13, 21, 32, 33, 34, 35] (by decide +kernel) (by decide +kernel)
set_option maxRecDepth 20000 in
theorem gX5_points_X0_pointsOf : GoodIn wsX5_points (wsV RX5 254 RX0 yX0_pointsOf wsX0_pointsOf) := goodIn_app (goodIn_of _ (by decide +kernel)) ggX5_points_X0_pointsOf
theorem dX5_points_0 : decode cX5_points 0 = .ok (.aload_n 0, 1) := by decide +kernel
theorem dX5_points_1 : decode cX5_points 1 = .ok (.iload_n 1, 1) := by decide +kernel
theorem dX5_points_2 : decode cX5_points 2 = .ok (.invokevirtual 140, 3) := by decide +kernel
theorem dX5_points_5 : decode cX5_points 5 = .ok (.aload_n 0, 1) := by decide +kernel
theorem dX5_points_6 : decode cX5_points 6 = .ok (.getfield 45, 3) := by decide +kernel
theorem dX5_points_9 : decode cX5_points 9 = .ok (.iload_n 1, 1) := by decide +kernel
theorem dX5_points_10 : decode cX5_points 10 = .ok (.invokevirtual 254, 3) := by decide +kernel
theorem dX5_points_13 : decode cX5_points 13 = .ok (.ireturn, 1) := by decide +kernel
set_option maxRecDepth 20000 in
theorem ggX5_teamPoints_X5_checkTeam : GoodIn wsX5_teamPoints wsX5_checkTeam := goodIn_ca (goodIn_r _ [8, 9, 10] (by decide +kernel) (by decide +kernel)) (goodIn_sub (fun _ h => List.mem_cons_of_mem _ (List.mem_append_right _ h)) (by decide +kernel))
set_option maxRecDepth 20000 in
theorem gX5_teamPoints_X5_checkTeam : GoodIn wsX5_teamPoints (wsV RX5 103 RX5 yX5_checkTeam wsX5_checkTeam) := goodIn_app (goodIn_of _ (by decide +kernel)) ggX5_teamPoints_X5_checkTeam
set_option maxRecDepth 20000 in
theorem ggX5_teamPoints_X0_pointsOf : GoodIn wsX5_teamPoints wsX0_pointsOf := goodIn_r _ [15, 16, 17, 18, 19, 20, 21, 14, 22, 33, 34, 35, 36] (by decide +kernel) (by decide +kernel)
set_option maxRecDepth 20000 in
theorem gX5_teamPoints_X0_pointsOf : GoodIn wsX5_teamPoints (wsV RX5 254 RX0 yX0_pointsOf wsX0_pointsOf) := goodIn_app (goodIn_of _ (by decide +kernel)) ggX5_teamPoints_X0_pointsOf
theorem dX5_teamPoints_0 : decode cX5_teamPoints 0 = .ok (.aload_n 0, 1) := by decide +kernel
theorem dX5_teamPoints_1 : decode cX5_teamPoints 1 = .ok (.iload_n 1, 1) := by decide +kernel
theorem dX5_teamPoints_2 : decode cX5_teamPoints 2 = .ok (.invokevirtual 103, 3) := by decide +kernel
theorem dX5_teamPoints_5 : decode cX5_teamPoints 5 = .ok (.iconst 0, 1) := by decide +kernel
theorem dX5_teamPoints_6 : decode cX5_teamPoints 6 = .ok (.istore_n 2, 1) := by decide +kernel
theorem dX5_teamPoints_7 : decode cX5_teamPoints 7 = .ok (.iconst 0, 1) := by decide +kernel
theorem dX5_teamPoints_8 : decode cX5_teamPoints 8 = .ok (.istore_n 3, 1) := by decide +kernel
theorem dX5_teamPoints_9 : decode cX5_teamPoints 9 = .ok (.iload_n 3, 1) := by decide +kernel
theorem dX5_teamPoints_10 : decode cX5_teamPoints 10 = .ok (.aload_n 0, 1) := by decide +kernel
theorem dX5_teamPoints_11 : decode cX5_teamPoints 11 = .ok (.getfield 53, 3) := by decide +kernel
theorem dX5_teamPoints_14 : decode cX5_teamPoints 14 = .ok (.if_icmp .ge 30, 3) := by decide +kernel
theorem dX5_teamPoints_17 : decode cX5_teamPoints 17 = .ok (.aload_n 0, 1) := by decide +kernel
theorem dX5_teamPoints_18 : decode cX5_teamPoints 18 = .ok (.getfield 49, 3) := by decide +kernel
theorem dX5_teamPoints_21 : decode cX5_teamPoints 21 = .ok (.iload_n 3, 1) := by decide +kernel
theorem dX5_teamPoints_22 : decode cX5_teamPoints 22 = .ok (.iaload, 1) := by decide +kernel
theorem dX5_teamPoints_23 : decode cX5_teamPoints 23 = .ok (.iload_n 1, 1) := by decide +kernel
theorem dX5_teamPoints_24 : decode cX5_teamPoints 24 = .ok (.if_icmp .ne 14, 3) := by decide +kernel
theorem dX5_teamPoints_27 : decode cX5_teamPoints 27 = .ok (.iload_n 2, 1) := by decide +kernel
theorem dX5_teamPoints_28 : decode cX5_teamPoints 28 = .ok (.aload_n 0, 1) := by decide +kernel
theorem dX5_teamPoints_29 : decode cX5_teamPoints 29 = .ok (.getfield 45, 3) := by decide +kernel
theorem dX5_teamPoints_32 : decode cX5_teamPoints 32 = .ok (.iload_n 3, 1) := by decide +kernel
theorem dX5_teamPoints_33 : decode cX5_teamPoints 33 = .ok (.invokevirtual 254, 3) := by decide +kernel
theorem dX5_teamPoints_36 : decode cX5_teamPoints 36 = .ok (.iadd, 1) := by decide +kernel
theorem dX5_teamPoints_37 : decode cX5_teamPoints 37 = .ok (.istore_n 2, 1) := by decide +kernel
theorem dX5_teamPoints_38 : decode cX5_teamPoints 38 = .ok (.iinc 3 1, 3) := by decide +kernel
theorem dX5_teamPoints_41 : decode cX5_teamPoints 41 = .ok (.goto (-32), 3) := by decide +kernel
theorem dX5_teamPoints_44 : decode cX5_teamPoints 44 = .ok (.iload_n 2, 1) := by decide +kernel
theorem dX5_teamPoints_45 : decode cX5_teamPoints 45 = .ok (.ireturn, 1) := by decide +kernel
set_option maxRecDepth 20000 in
theorem ggX5_standing_X5_checkKart : GoodIn wsX5_standing wsX5_checkKart := goodIn_ca (goodIn_r _ [7, 8, 9, 2, 35, 36, 37, 38, 39, 40, 41, 42, 43, 44] (by decide +kernel) (by decide +kernel)) (goodIn_sub (fun _ h => List.mem_cons_of_mem _ (List.mem_append_right _ h)) (by decide +kernel))
set_option maxRecDepth 20000 in
theorem gX5_standing_X5_checkKart : GoodIn wsX5_standing (wsV RX5 140 RX5 yX5_checkKart wsX5_checkKart) := goodIn_app (goodIn_of _ (by decide +kernel)) ggX5_standing_X5_checkKart
set_option maxRecDepth 20000 in
theorem ggX5_standing_X0_countBefore : GoodIn wsX5_standing wsX0_countBefore := goodIn_r _ [14, 15, 16, 17, 13, 18, 19, 20, 21, 22, 23, 24, 25, 26, 27, 28, 29, 30, 31, 32, 33, 34, 45, 46, 47, 48] (by decide +kernel) (by decide +kernel)
set_option maxRecDepth 20000 in
theorem gX5_standing_X0_countBefore : GoodIn wsX5_standing (wsV RX5 257 RX0 yX0_countBefore wsX0_countBefore) := goodIn_app (goodIn_of _ (by decide +kernel)) ggX5_standing_X0_countBefore
theorem dX5_standing_0 : decode cX5_standing 0 = .ok (.aload_n 0, 1) := by decide +kernel
theorem dX5_standing_1 : decode cX5_standing 1 = .ok (.iload_n 1, 1) := by decide +kernel
theorem dX5_standing_2 : decode cX5_standing 2 = .ok (.invokevirtual 140, 3) := by decide +kernel
theorem dX5_standing_5 : decode cX5_standing 5 = .ok (.aload_n 0, 1) := by decide +kernel
theorem dX5_standing_6 : decode cX5_standing 6 = .ok (.getfield 45, 3) := by decide +kernel
theorem dX5_standing_9 : decode cX5_standing 9 = .ok (.iload_n 1, 1) := by decide +kernel
theorem dX5_standing_10 : decode cX5_standing 10 = .ok (.aload_n 0, 1) := by decide +kernel
theorem dX5_standing_11 : decode cX5_standing 11 = .ok (.getfield 53, 3) := by decide +kernel
theorem dX5_standing_14 : decode cX5_standing 14 = .ok (.invokevirtual 257, 3) := by decide +kernel
theorem dX5_standing_17 : decode cX5_standing 17 = .ok (.ireturn, 1) := by decide +kernel
theorem dX5_textLength_0 : decode cX5_textLength 0 = .ok (.aload_n 0, 1) := by decide +kernel
theorem dX5_textLength_1 : decode cX5_textLength 1 = .ok (.getfield 53, 3) := by decide +kernel
theorem dX5_textLength_4 : decode cX5_textLength 4 = .ok (.ifCond .ne 7, 3) := by decide +kernel
theorem dX5_textLength_7 : decode cX5_textLength 7 = .ok (.iconst 0, 1) := by decide +kernel
theorem dX5_textLength_8 : decode cX5_textLength 8 = .ok (.goto 11, 3) := by decide +kernel
theorem dX5_textLength_11 : decode cX5_textLength 11 = .ok (.iconst 2, 1) := by decide +kernel
theorem dX5_textLength_12 : decode cX5_textLength 12 = .ok (.aload_n 0, 1) := by decide +kernel
theorem dX5_textLength_13 : decode cX5_textLength 13 = .ok (.getfield 53, 3) := by decide +kernel
theorem dX5_textLength_16 : decode cX5_textLength 16 = .ok (.imul, 1) := by decide +kernel
theorem dX5_textLength_17 : decode cX5_textLength 17 = .ok (.iconst 1, 1) := by decide +kernel
theorem dX5_textLength_18 : decode cX5_textLength 18 = .ok (.isub, 1) := by decide +kernel
theorem dX5_textLength_19 : decode cX5_textLength 19 = .ok (.ireturn, 1) := by decide +kernel
set_option maxRecDepth 20000 in
theorem ggX5_textAt_X0_kartStandingAt : GoodIn wsX5_textAt wsX0_kartStandingAt := goodIn_r _ [9, 10, 11, 12, 8, 13, 14, 15, 16, 17, 18, 19, 20, 21, 22, 23, 24, 25, 26, 27, 28, 29, 30, 31, 32, 33, 44, 45, 46, 47] (by decide +kernel) (by decide +kernel)
set_option maxRecDepth 20000 in
theorem gX5_textAt_X0_kartStandingAt : GoodIn wsX5_textAt (wsV RX5 262 RX0 yX0_kartStandingAt wsX0_kartStandingAt) := goodIn_app (goodIn_of _ (by decide +kernel)) ggX5_textAt_X0_kartStandingAt
theorem dX5_textAt_0 : decode cX5_textAt 0 = .ok (.iload_n 1, 1) := by decide +kernel
theorem dX5_textAt_1 : decode cX5_textAt 1 = .ok (.ifCond .lt 15, 3) := by decide +kernel
theorem dX5_textAt_4 : decode cX5_textAt 4 = .ok (.iload_n 1, 1) := by decide +kernel
theorem dX5_textAt_5 : decode cX5_textAt 5 = .ok (.iconst 2, 1) := by decide +kernel
theorem dX5_textAt_6 : decode cX5_textAt 6 = .ok (.aload_n 0, 1) := by decide +kernel
theorem dX5_textAt_7 : decode cX5_textAt 7 = .ok (.getfield 53, 3) := by decide +kernel
theorem dX5_textAt_10 : decode cX5_textAt 10 = .ok (.imul, 1) := by decide +kernel
theorem dX5_textAt_11 : decode cX5_textAt 11 = .ok (.iconst 1, 1) := by decide +kernel
theorem dX5_textAt_12 : decode cX5_textAt 12 = .ok (.isub, 1) := by decide +kernel
theorem dX5_textAt_13 : decode cX5_textAt 13 = .ok (.if_icmp .lt 14, 3) := by decide +kernel
theorem dX5_textAt_16 : decode cX5_textAt 16 = .ok (.new 241, 3) := by decide +kernel
theorem dX5_textAt_19 : decode cX5_textAt 19 = .ok (.dup, 1) := by decide +kernel
theorem dX5_textAt_20 : decode cX5_textAt 20 = .ok (.ldc_w 260, 3) := by decide +kernel
theorem dX5_textAt_23 : decode cX5_textAt 23 = .ok (.invokespecial 245, 3) := by decide +kernel
theorem dX5_textAt_26 : decode cX5_textAt 26 = .ok (.athrow, 1) := by decide +kernel
theorem dX5_textAt_27 : decode cX5_textAt 27 = .ok (.iload_n 1, 1) := by decide +kernel
theorem dX5_textAt_28 : decode cX5_textAt 28 = .ok (.iconst 2, 1) := by decide +kernel
theorem dX5_textAt_29 : decode cX5_textAt 29 = .ok (.irem, 1) := by decide +kernel
theorem dX5_textAt_30 : decode cX5_textAt 30 = .ok (.iconst 1, 1) := by decide +kernel
theorem dX5_textAt_31 : decode cX5_textAt 31 = .ok (.if_icmp .ne 6, 3) := by decide +kernel
theorem dX5_textAt_34 : decode cX5_textAt 34 = .ok (.bipush 62, 2) := by decide +kernel
theorem dX5_textAt_36 : decode cX5_textAt 36 = .ok (.ireturn, 1) := by decide +kernel
theorem dX5_textAt_37 : decode cX5_textAt 37 = .ok (.bipush 48, 2) := by decide +kernel
theorem dX5_textAt_39 : decode cX5_textAt 39 = .ok (.aload_n 0, 1) := by decide +kernel
theorem dX5_textAt_40 : decode cX5_textAt 40 = .ok (.getfield 45, 3) := by decide +kernel
theorem dX5_textAt_43 : decode cX5_textAt 43 = .ok (.iload_n 1, 1) := by decide +kernel
theorem dX5_textAt_44 : decode cX5_textAt 44 = .ok (.iconst 2, 1) := by decide +kernel
theorem dX5_textAt_45 : decode cX5_textAt 45 = .ok (.idiv, 1) := by decide +kernel
theorem dX5_textAt_46 : decode cX5_textAt 46 = .ok (.aload_n 0, 1) := by decide +kernel
theorem dX5_textAt_47 : decode cX5_textAt 47 = .ok (.getfield 53, 3) := by decide +kernel
theorem dX5_textAt_50 : decode cX5_textAt 50 = .ok (.invokevirtual 262, 3) := by decide +kernel
theorem dX5_textAt_53 : decode cX5_textAt 53 = .ok (.iadd, 1) := by decide +kernel
theorem dX5_textAt_54 : decode cX5_textAt 54 = .ok (.i2c, 1) := by decide +kernel
theorem dX5_textAt_55 : decode cX5_textAt 55 = .ok (.ireturn, 1) := by decide +kernel
set_option maxRecDepth 20000 in
theorem ggX5_hitRanks_X3_countAhead : GoodIn wsX5_hitRanks wsX3_countAhead := goodIn_r _ [8, 9, 10, 11, 12, 7, 13, 14, 15, 16, 17, 18, 19, 20, 21, 22, 23, 24, 25, 26, 27, 28, 29, 30, 31, 32, 33, 56, 57, 58, 59, 60, 61, 62, 63, 64, 65, 66, 67, 68, 69, 70] (by decide +kernel) (by decide +kernel)
set_option maxRecDepth 20000 in
theorem gX5_hitRanks_X3_countAhead : GoodIn wsX5_hitRanks (wsV RX5 180 RX3 yX3_countAhead wsX3_countAhead) := goodIn_app (goodIn_of _ (by decide +kernel)) ggX5_hitRanks_X3_countAhead
set_option maxRecDepth 20000 in
theorem ggX5_hitRanks_X3_isFinished : GoodIn wsX5_hitRanks wsX3_isFinished := goodIn_r _ [20, 21, 22, 56, 57, 58, 59, 60, 61, 62, 63, 64, 65, 66] (by decide +kernel) (by decide +kernel)
set_option maxRecDepth 20000 in
theorem gX5_hitRanks_X3_isFinished : GoodIn wsX5_hitRanks (wsV RX5 265 RX3 yX3_isFinished wsX3_isFinished) := goodIn_app (goodIn_of _ (by decide +kernel)) ggX5_hitRanks_X3_isFinished
set_option maxRecDepth 20000 in
theorem ggX5_hitRanks_X1_hit : GoodIn wsX5_hitRanks wsX1_hit := goodIn_r _ [39, 40, 41, 42, 43, 44, 45, 71, 72, 73, 74] (by decide +kernel) (by decide +kernel)
set_option maxRecDepth 20000 in
theorem gX5_hitRanks_X1_hit : GoodIn wsX5_hitRanks (wsV RX5 268 RX1 yX1_hit wsX1_hit) := goodIn_app (goodIn_of _ (by decide +kernel)) ggX5_hitRanks_X1_hit
theorem dX5_hitRanks_0 : decode cX5_hitRanks 0 = .ok (.iconst 0, 1) := by decide +kernel
theorem dX5_hitRanks_1 : decode cX5_hitRanks 1 = .ok (.istore 4, 2) := by decide +kernel
theorem dX5_hitRanks_3 : decode cX5_hitRanks 3 = .ok (.iconst 0, 1) := by decide +kernel
theorem dX5_hitRanks_4 : decode cX5_hitRanks 4 = .ok (.istore 5, 2) := by decide +kernel
theorem dX5_hitRanks_6 : decode cX5_hitRanks 6 = .ok (.iload 5, 2) := by decide +kernel
theorem dX5_hitRanks_8 : decode cX5_hitRanks 8 = .ok (.aload_n 0, 1) := by decide +kernel
theorem dX5_hitRanks_9 : decode cX5_hitRanks 9 = .ok (.getfield 53, 3) := by decide +kernel
theorem dX5_hitRanks_12 : decode cX5_hitRanks 12 = .ok (.if_icmp .ge 60, 3) := by decide +kernel
theorem dX5_hitRanks_15 : decode cX5_hitRanks 15 = .ok (.aload_n 0, 1) := by decide +kernel
theorem dX5_hitRanks_16 : decode cX5_hitRanks 16 = .ok (.getfield 21, 3) := by decide +kernel
theorem dX5_hitRanks_19 : decode cX5_hitRanks 19 = .ok (.iload 5, 2) := by decide +kernel
theorem dX5_hitRanks_21 : decode cX5_hitRanks 21 = .ok (.invokevirtual 180, 3) := by decide +kernel
theorem dX5_hitRanks_24 : decode cX5_hitRanks 24 = .ok (.istore 6, 2) := by decide +kernel
theorem dX5_hitRanks_26 : decode cX5_hitRanks 26 = .ok (.iload 6, 2) := by decide +kernel
theorem dX5_hitRanks_28 : decode cX5_hitRanks 28 = .ok (.iload_n 1, 1) := by decide +kernel
theorem dX5_hitRanks_29 : decode cX5_hitRanks 29 = .ok (.if_icmp .lt 37, 3) := by decide +kernel
theorem dX5_hitRanks_32 : decode cX5_hitRanks 32 = .ok (.iload 6, 2) := by decide +kernel
theorem dX5_hitRanks_34 : decode cX5_hitRanks 34 = .ok (.iload_n 2, 1) := by decide +kernel
theorem dX5_hitRanks_35 : decode cX5_hitRanks 35 = .ok (.if_icmp .ge 31, 3) := by decide +kernel
theorem dX5_hitRanks_38 : decode cX5_hitRanks 38 = .ok (.aload_n 0, 1) := by decide +kernel
theorem dX5_hitRanks_39 : decode cX5_hitRanks 39 = .ok (.getfield 21, 3) := by decide +kernel
theorem dX5_hitRanks_42 : decode cX5_hitRanks 42 = .ok (.iload 5, 2) := by decide +kernel
theorem dX5_hitRanks_44 : decode cX5_hitRanks 44 = .ok (.invokevirtual 265, 3) := by decide +kernel
theorem dX5_hitRanks_47 : decode cX5_hitRanks 47 = .ok (.ifCond .ne 19, 3) := by decide +kernel
theorem dX5_hitRanks_50 : decode cX5_hitRanks 50 = .ok (.aload_n 0, 1) := by decide +kernel
theorem dX5_hitRanks_51 : decode cX5_hitRanks 51 = .ok (.getfield 38, 3) := by decide +kernel
theorem dX5_hitRanks_54 : decode cX5_hitRanks 54 = .ok (.iload 5, 2) := by decide +kernel
theorem dX5_hitRanks_56 : decode cX5_hitRanks 56 = .ok (.iload_n 3, 1) := by decide +kernel
theorem dX5_hitRanks_57 : decode cX5_hitRanks 57 = .ok (.invokevirtual 268, 3) := by decide +kernel
theorem dX5_hitRanks_60 : decode cX5_hitRanks 60 = .ok (.ifCond .eq 6, 3) := by decide +kernel
theorem dX5_hitRanks_63 : decode cX5_hitRanks 63 = .ok (.iinc 4 1, 3) := by decide +kernel
theorem dX5_hitRanks_66 : decode cX5_hitRanks 66 = .ok (.iinc 5 1, 3) := by decide +kernel
theorem dX5_hitRanks_69 : decode cX5_hitRanks 69 = .ok (.goto (-63), 3) := by decide +kernel
theorem dX5_hitRanks_72 : decode cX5_hitRanks 72 = .ok (.iload 4, 2) := by decide +kernel
theorem dX5_hitRanks_74 : decode cX5_hitRanks 74 = .ok (.ireturn, 1) := by decide +kernel
set_option maxRecDepth 20000 in
theorem ggX5_checkGate_X4_gateCount : GoodIn wsX5_checkGate wsX4_gateCount := goodIn_r _ [8, 9, 20, 21, 22, 23] (by decide +kernel) (by decide +kernel)
set_option maxRecDepth 20000 in
theorem gX5_checkGate_X4_gateCount : GoodIn wsX5_checkGate (wsV RX5 108 RX4 yX4_gateCount wsX4_gateCount) := goodIn_app (goodIn_of _ (by decide +kernel)) ggX5_checkGate_X4_gateCount
theorem dX5_checkGate_0 : decode cX5_checkGate 0 = .ok (.iload_n 1, 1) := by decide +kernel
theorem dX5_checkGate_1 : decode cX5_checkGate 1 = .ok (.ifCond .lt 14, 3) := by decide +kernel
theorem dX5_checkGate_4 : decode cX5_checkGate 4 = .ok (.iload_n 1, 1) := by decide +kernel
theorem dX5_checkGate_5 : decode cX5_checkGate 5 = .ok (.aload_n 0, 1) := by decide +kernel
theorem dX5_checkGate_6 : decode cX5_checkGate 6 = .ok (.getfield 10, 3) := by decide +kernel
theorem dX5_checkGate_9 : decode cX5_checkGate 9 = .ok (.invokevirtual 108, 3) := by decide +kernel
theorem dX5_checkGate_12 : decode cX5_checkGate 12 = .ok (.if_icmp .lt 14, 3) := by decide +kernel
theorem dX5_checkGate_15 : decode cX5_checkGate 15 = .ok (.new 241, 3) := by decide +kernel
theorem dX5_checkGate_18 : decode cX5_checkGate 18 = .ok (.dup, 1) := by decide +kernel
theorem dX5_checkGate_19 : decode cX5_checkGate 19 = .ok (.ldc_w 271, 3) := by decide +kernel
theorem dX5_checkGate_22 : decode cX5_checkGate 22 = .ok (.invokespecial 245, 3) := by decide +kernel
theorem dX5_checkGate_25 : decode cX5_checkGate 25 = .ok (.athrow, 1) := by decide +kernel
theorem dX5_checkGate_26 : decode cX5_checkGate 26 = .ok (.return_, 1) := by decide +kernel
theorem dX5_checkKart_0 : decode cX5_checkKart 0 = .ok (.iload_n 1, 1) := by decide +kernel
theorem dX5_checkKart_1 : decode cX5_checkKart 1 = .ok (.ifCond .lt 11, 3) := by decide +kernel
theorem dX5_checkKart_4 : decode cX5_checkKart 4 = .ok (.iload_n 1, 1) := by decide +kernel
theorem dX5_checkKart_5 : decode cX5_checkKart 5 = .ok (.aload_n 0, 1) := by decide +kernel
theorem dX5_checkKart_6 : decode cX5_checkKart 6 = .ok (.getfield 53, 3) := by decide +kernel
theorem dX5_checkKart_9 : decode cX5_checkKart 9 = .ok (.if_icmp .lt 14, 3) := by decide +kernel
theorem dX5_checkKart_12 : decode cX5_checkKart 12 = .ok (.new 241, 3) := by decide +kernel
theorem dX5_checkKart_15 : decode cX5_checkKart 15 = .ok (.dup, 1) := by decide +kernel
theorem dX5_checkKart_16 : decode cX5_checkKart 16 = .ok (.ldc_w 273, 3) := by decide +kernel
theorem dX5_checkKart_19 : decode cX5_checkKart 19 = .ok (.invokespecial 245, 3) := by decide +kernel
theorem dX5_checkKart_22 : decode cX5_checkKart 22 = .ok (.athrow, 1) := by decide +kernel
theorem dX5_checkKart_23 : decode cX5_checkKart 23 = .ok (.return_, 1) := by decide +kernel
theorem dX5_checkTeam_0 : decode cX5_checkTeam 0 = .ok (.iload_n 1, 1) := by decide +kernel
theorem dX5_checkTeam_1 : decode cX5_checkTeam 1 = .ok (.ifCond .lt 8, 3) := by decide +kernel
theorem dX5_checkTeam_4 : decode cX5_checkTeam 4 = .ok (.iload_n 1, 1) := by decide +kernel
theorem dX5_checkTeam_5 : decode cX5_checkTeam 5 = .ok (.iconst 4, 1) := by decide +kernel
theorem dX5_checkTeam_6 : decode cX5_checkTeam 6 = .ok (.if_icmp .lt 14, 3) := by decide +kernel
theorem dX5_checkTeam_9 : decode cX5_checkTeam 9 = .ok (.new 241, 3) := by decide +kernel
theorem dX5_checkTeam_12 : decode cX5_checkTeam 12 = .ok (.dup, 1) := by decide +kernel
theorem dX5_checkTeam_13 : decode cX5_checkTeam 13 = .ok (.ldc_w 275, 3) := by decide +kernel
theorem dX5_checkTeam_16 : decode cX5_checkTeam 16 = .ok (.invokespecial 245, 3) := by decide +kernel
theorem dX5_checkTeam_19 : decode cX5_checkTeam 19 = .ok (.athrow, 1) := by decide +kernel
theorem dX5_checkTeam_20 : decode cX5_checkTeam 20 = .ok (.return_, 1) := by decide +kernel
set_option maxRecDepth 20000 in
theorem ggX5_checkNeverStarted_X0_endedRaces : GoodIn wsX5_checkNeverStarted wsX0_endedRaces := goodIn_r _ [9, 10, 21, 22, 23, 24] (by decide +kernel) (by decide +kernel)
set_option maxRecDepth 20000 in
theorem gX5_checkNeverStarted_X0_endedRaces : GoodIn wsX5_checkNeverStarted (wsV RX5 120 RX0 yX0_endedRaces wsX0_endedRaces) := goodIn_app (goodIn_of _ (by decide +kernel)) ggX5_checkNeverStarted_X0_endedRaces
theorem dX5_checkNeverStarted_0 : decode cX5_checkNeverStarted 0 = .ok (.aload_n 0, 1) := by decide +kernel
theorem dX5_checkNeverStarted_1 : decode cX5_checkNeverStarted 1 = .ok (.getfield 57, 3) := by decide +kernel
theorem dX5_checkNeverStarted_4 : decode cX5_checkNeverStarted 4 = .ok (.ifCond .ne 13, 3) := by decide +kernel
theorem dX5_checkNeverStarted_7 : decode cX5_checkNeverStarted 7 = .ok (.aload_n 0, 1) := by decide +kernel
theorem dX5_checkNeverStarted_8 : decode cX5_checkNeverStarted 8 = .ok (.getfield 45, 3) := by decide +kernel
theorem dX5_checkNeverStarted_11 : decode cX5_checkNeverStarted 11 = .ok (.invokevirtual 120, 3) := by decide +kernel
theorem dX5_checkNeverStarted_14 : decode cX5_checkNeverStarted 14 = .ok (.ifCond .le 14, 3) := by decide +kernel
theorem dX5_checkNeverStarted_17 : decode cX5_checkNeverStarted 17 = .ok (.new 71, 3) := by decide +kernel
theorem dX5_checkNeverStarted_20 : decode cX5_checkNeverStarted 20 = .ok (.dup, 1) := by decide +kernel
theorem dX5_checkNeverStarted_21 : decode cX5_checkNeverStarted 21 = .ok (.ldc_w 277, 3) := by decide +kernel
theorem dX5_checkNeverStarted_24 : decode cX5_checkNeverStarted 24 = .ok (.invokespecial 75, 3) := by decide +kernel
theorem dX5_checkNeverStarted_27 : decode cX5_checkNeverStarted 27 = .ok (.athrow, 1) := by decide +kernel
theorem dX5_checkNeverStarted_28 : decode cX5_checkNeverStarted 28 = .ok (.return_, 1) := by decide +kernel
theorem dX5_checkRaceIsOn_0 : decode cX5_checkRaceIsOn 0 = .ok (.aload_n 0, 1) := by decide +kernel
theorem dX5_checkRaceIsOn_1 : decode cX5_checkRaceIsOn 1 = .ok (.getfield 57, 3) := by decide +kernel
theorem dX5_checkRaceIsOn_4 : decode cX5_checkRaceIsOn 4 = .ok (.ifCond .ne 14, 3) := by decide +kernel
theorem dX5_checkRaceIsOn_7 : decode cX5_checkRaceIsOn 7 = .ok (.new 71, 3) := by decide +kernel
theorem dX5_checkRaceIsOn_10 : decode cX5_checkRaceIsOn 10 = .ok (.dup, 1) := by decide +kernel
theorem dX5_checkRaceIsOn_11 : decode cX5_checkRaceIsOn 11 = .ok (.ldc_w 279, 3) := by decide +kernel
theorem dX5_checkRaceIsOn_14 : decode cX5_checkRaceIsOn 14 = .ok (.invokespecial 75, 3) := by decide +kernel
theorem dX5_checkRaceIsOn_17 : decode cX5_checkRaceIsOn 17 = .ok (.athrow, 1) := by decide +kernel
theorem dX5_checkRaceIsOn_18 : decode cX5_checkRaceIsOn 18 = .ok (.return_, 1) := by decide +kernel
set_option maxRecDepth 20000 in
theorem ggX5_checkStillRacing_X5_checkRaceIsOn : GoodIn wsX5_checkStillRacing wsX5_checkRaceIsOn := goodIn_ca (goodIn_r _ [8, 1, 2, 9, 17, 18, 19, 20, 21, 22, 23, 24, 25, 26] (by decide +kernel) (by decide +kernel)) (goodIn_sub (fun _ h => List.mem_cons_of_mem _ (List.mem_append_right _ h)) (by decide +kernel))
set_option maxRecDepth 20000 in
theorem gX5_checkStillRacing_X5_checkRaceIsOn : GoodIn wsX5_checkStillRacing (wsV RX5 171 RX5 yX5_checkRaceIsOn wsX5_checkRaceIsOn) := goodIn_app (goodIn_of _ (by decide +kernel)) ggX5_checkStillRacing_X5_checkRaceIsOn
set_option maxRecDepth 20000 in
theorem ggX5_checkStillRacing_X3_isFinished : GoodIn wsX5_checkStillRacing wsX3_isFinished := goodIn_r _ [14, 15, 16, 27, 28, 29, 30, 31, 32, 33, 34, 35, 36, 37] (by decide +kernel) (by decide +kernel)
set_option maxRecDepth 20000 in
theorem gX5_checkStillRacing_X3_isFinished : GoodIn wsX5_checkStillRacing (wsV RX5 265 RX3 yX3_isFinished wsX3_isFinished) := goodIn_app (goodIn_of _ (by decide +kernel)) ggX5_checkStillRacing_X3_isFinished
theorem dX5_checkStillRacing_0 : decode cX5_checkStillRacing 0 = .ok (.aload_n 0, 1) := by decide +kernel
theorem dX5_checkStillRacing_1 : decode cX5_checkStillRacing 1 = .ok (.invokevirtual 171, 3) := by decide +kernel
theorem dX5_checkStillRacing_4 : decode cX5_checkStillRacing 4 = .ok (.aload_n 0, 1) := by decide +kernel
theorem dX5_checkStillRacing_5 : decode cX5_checkStillRacing 5 = .ok (.getfield 21, 3) := by decide +kernel
theorem dX5_checkStillRacing_8 : decode cX5_checkStillRacing 8 = .ok (.iload_n 1, 1) := by decide +kernel
theorem dX5_checkStillRacing_9 : decode cX5_checkStillRacing 9 = .ok (.invokevirtual 265, 3) := by decide +kernel
theorem dX5_checkStillRacing_12 : decode cX5_checkStillRacing 12 = .ok (.ifCond .eq 14, 3) := by decide +kernel
theorem dX5_checkStillRacing_15 : decode cX5_checkStillRacing 15 = .ok (.new 71, 3) := by decide +kernel
theorem dX5_checkStillRacing_18 : decode cX5_checkStillRacing 18 = .ok (.dup, 1) := by decide +kernel
theorem dX5_checkStillRacing_19 : decode cX5_checkStillRacing 19 = .ok (.ldc_w 281, 3) := by decide +kernel
theorem dX5_checkStillRacing_22 : decode cX5_checkStillRacing 22 = .ok (.invokespecial 75, 3) := by decide +kernel
theorem dX5_checkStillRacing_25 : decode cX5_checkStillRacing 25 = .ok (.athrow, 1) := by decide +kernel
theorem dX5_checkStillRacing_26 : decode cX5_checkStillRacing 26 = .ok (.return_, 1) := by decide +kernel
theorem dX6_init_0 : decode cX6_init 0 = .ok (.aload_n 0, 1) := by decide +kernel
theorem dX6_init_1 : decode cX6_init 1 = .ok (.invokespecial 1, 3) := by decide +kernel
theorem dX6_init_4 : decode cX6_init 4 = .ok (.aload_n 0, 1) := by decide +kernel
theorem dX6_init_5 : decode cX6_init 5 = .ok (.iconst 1, 1) := by decide +kernel
theorem dX6_init_6 : decode cX6_init 6 = .ok (.putfield 7, 3) := by decide +kernel
theorem dX6_init_9 : decode cX6_init 9 = .ok (.aload_n 0, 1) := by decide +kernel
theorem dX6_init_10 : decode cX6_init 10 = .ok (.sipush 144, 3) := by decide +kernel
theorem dX6_init_13 : decode cX6_init 13 = .ok (.newarray .int, 2) := by decide +kernel
theorem dX6_init_15 : decode cX6_init 15 = .ok (.putfield 13, 3) := by decide +kernel
theorem dX6_init_18 : decode cX6_init 18 = .ok (.aload_n 0, 1) := by decide +kernel
theorem dX6_init_19 : decode cX6_init 19 = .ok (.bipush 12, 2) := by decide +kernel
theorem dX6_init_21 : decode cX6_init 21 = .ok (.newarray .int, 2) := by decide +kernel
theorem dX6_init_23 : decode cX6_init 23 = .ok (.putfield 17, 3) := by decide +kernel
theorem dX6_init_26 : decode cX6_init 26 = .ok (.aload_n 0, 1) := by decide +kernel
theorem dX6_init_27 : decode cX6_init 27 = .ok (.bipush 6, 2) := by decide +kernel
theorem dX6_init_29 : decode cX6_init 29 = .ok (.newarray .int, 2) := by decide +kernel
theorem dX6_init_31 : decode cX6_init 31 = .ok (.putfield 20, 3) := by decide +kernel
theorem dX6_init_34 : decode cX6_init 34 = .ok (.aload_n 0, 1) := by decide +kernel
theorem dX6_init_35 : decode cX6_init 35 = .ok (.bipush 6, 2) := by decide +kernel
theorem dX6_init_37 : decode cX6_init 37 = .ok (.newarray .int, 2) := by decide +kernel
theorem dX6_init_39 : decode cX6_init 39 = .ok (.putfield 23, 3) := by decide +kernel
theorem dX6_init_42 : decode cX6_init 42 = .ok (.aload_n 0, 1) := by decide +kernel
theorem dX6_init_43 : decode cX6_init 43 = .ok (.bipush 6, 2) := by decide +kernel
theorem dX6_init_45 : decode cX6_init 45 = .ok (.newarray .int, 2) := by decide +kernel
theorem dX6_init_47 : decode cX6_init 47 = .ok (.putfield 26, 3) := by decide +kernel
theorem dX6_init_50 : decode cX6_init 50 = .ok (.aload_n 0, 1) := by decide +kernel
theorem dX6_init_51 : decode cX6_init 51 = .ok (.bipush 6, 2) := by decide +kernel
theorem dX6_init_53 : decode cX6_init 53 = .ok (.newarray .int, 2) := by decide +kernel
theorem dX6_init_55 : decode cX6_init 55 = .ok (.putfield 29, 3) := by decide +kernel
theorem dX6_init_58 : decode cX6_init 58 = .ok (.aload_n 0, 1) := by decide +kernel
theorem dX6_init_59 : decode cX6_init 59 = .ok (.bipush 6, 2) := by decide +kernel
theorem dX6_init_61 : decode cX6_init 61 = .ok (.newarray .int, 2) := by decide +kernel
theorem dX6_init_63 : decode cX6_init 63 = .ok (.putfield 32, 3) := by decide +kernel
theorem dX6_init_66 : decode cX6_init 66 = .ok (.aload_n 0, 1) := by decide +kernel
theorem dX6_init_67 : decode cX6_init 67 = .ok (.bipush 6, 2) := by decide +kernel
theorem dX6_init_69 : decode cX6_init 69 = .ok (.newarray .int, 2) := by decide +kernel
theorem dX6_init_71 : decode cX6_init 71 = .ok (.putfield 35, 3) := by decide +kernel
theorem dX6_init_74 : decode cX6_init 74 = .ok (.aload_n 0, 1) := by decide +kernel
theorem dX6_init_75 : decode cX6_init 75 = .ok (.bipush 6, 2) := by decide +kernel
theorem dX6_init_77 : decode cX6_init 77 = .ok (.newarray .int, 2) := by decide +kernel
theorem dX6_init_79 : decode cX6_init 79 = .ok (.putfield 38, 3) := by decide +kernel
theorem dX6_init_82 : decode cX6_init 82 = .ok (.aload_n 0, 1) := by decide +kernel
theorem dX6_init_83 : decode cX6_init 83 = .ok (.bipush 6, 2) := by decide +kernel
theorem dX6_init_85 : decode cX6_init 85 = .ok (.newarray .int, 2) := by decide +kernel
theorem dX6_init_87 : decode cX6_init 87 = .ok (.putfield 41, 3) := by decide +kernel
theorem dX6_init_90 : decode cX6_init 90 = .ok (.aload_n 0, 1) := by decide +kernel
theorem dX6_init_91 : decode cX6_init 91 = .ok (.bipush 6, 2) := by decide +kernel
theorem dX6_init_93 : decode cX6_init 93 = .ok (.newarray .boolean, 2) := by decide +kernel
theorem dX6_init_95 : decode cX6_init 95 = .ok (.putfield 44, 3) := by decide +kernel
theorem dX6_init_98 : decode cX6_init 98 = .ok (.aload_n 0, 1) := by decide +kernel
theorem dX6_init_99 : decode cX6_init 99 = .ok (.bipush 6, 2) := by decide +kernel
theorem dX6_init_101 : decode cX6_init 101 = .ok (.newarray .int, 2) := by decide +kernel
theorem dX6_init_103 : decode cX6_init 103 = .ok (.putfield 48, 3) := by decide +kernel
theorem dX6_init_106 : decode cX6_init 106 = .ok (.aload_n 0, 1) := by decide +kernel
theorem dX6_init_107 : decode cX6_init 107 = .ok (.bipush 48, 2) := by decide +kernel
theorem dX6_init_109 : decode cX6_init 109 = .ok (.newarray .int, 2) := by decide +kernel
theorem dX6_init_111 : decode cX6_init 111 = .ok (.putfield 51, 3) := by decide +kernel
theorem dX6_init_114 : decode cX6_init 114 = .ok (.aload_n 0, 1) := by decide +kernel
theorem dX6_init_115 : decode cX6_init 115 = .ok (.bipush 48, 2) := by decide +kernel
theorem dX6_init_117 : decode cX6_init 117 = .ok (.newarray .int, 2) := by decide +kernel
theorem dX6_init_119 : decode cX6_init 119 = .ok (.putfield 54, 3) := by decide +kernel
theorem dX6_init_122 : decode cX6_init 122 = .ok (.return_, 1) := by decide +kernel
theorem dX6_thrown_0 : decode cX6_thrown 0 = .ok (.aload_n 0, 1) := by decide +kernel
theorem dX6_thrown_1 : decode cX6_thrown 1 = .ok (.getfield 57, 3) := by decide +kernel
theorem dX6_thrown_4 : decode cX6_thrown 4 = .ok (.ireturn, 1) := by decide +kernel
theorem dX6_fails_0 : decode cX6_fails 0 = .ok (.aload_n 0, 1) := by decide +kernel
theorem dX6_fails_1 : decode cX6_fails 1 = .ok (.iload_n 1, 1) := by decide +kernel
theorem dX6_fails_2 : decode cX6_fails 2 = .ok (.putfield 57, 3) := by decide +kernel
theorem dX6_fails_5 : decode cX6_fails 5 = .ok (.iload_n 1, 1) := by decide +kernel
theorem dX6_fails_6 : decode cX6_fails 6 = .ok (.ifCond .le 7, 3) := by decide +kernel
theorem dX6_fails_9 : decode cX6_fails 9 = .ok (.iconst 1, 1) := by decide +kernel
theorem dX6_fails_10 : decode cX6_fails 10 = .ok (.goto 4, 3) := by decide +kernel
theorem dX6_fails_13 : decode cX6_fails 13 = .ok (.iconst 0, 1) := by decide +kernel
theorem dX6_fails_14 : decode cX6_fails 14 = .ok (.ireturn, 1) := by decide +kernel
theorem dX6_tells_0 : decode cX6_tells 0 = .ok (.aload_n 0, 1) := by decide +kernel
theorem dX6_tells_1 : decode cX6_tells 1 = .ok (.iconst 0, 1) := by decide +kernel
theorem dX6_tells_2 : decode cX6_tells 2 = .ok (.putfield 57, 3) := by decide +kernel
theorem dX6_tells_5 : decode cX6_tells 5 = .ok (.iload_n 1, 1) := by decide +kernel
theorem dX6_tells_6 : decode cX6_tells 6 = .ok (.ireturn, 1) := by decide +kernel
theorem dX6_isIn_0 : decode cX6_isIn 0 = .ok (.iload_n 0, 1) := by decide +kernel
theorem dX6_isIn_1 : decode cX6_isIn 1 = .ok (.iload_n 1, 1) := by decide +kernel
theorem dX6_isIn_2 : decode cX6_isIn 2 = .ok (.if_icmp .lt 12, 3) := by decide +kernel
theorem dX6_isIn_5 : decode cX6_isIn 5 = .ok (.iload_n 0, 1) := by decide +kernel
theorem dX6_isIn_6 : decode cX6_isIn 6 = .ok (.iload_n 2, 1) := by decide +kernel
theorem dX6_isIn_7 : decode cX6_isIn 7 = .ok (.if_icmp .gt 7, 3) := by decide +kernel
theorem dX6_isIn_10 : decode cX6_isIn 10 = .ok (.iconst 1, 1) := by decide +kernel
theorem dX6_isIn_11 : decode cX6_isIn 11 = .ok (.goto 4, 3) := by decide +kernel
theorem dX6_isIn_14 : decode cX6_isIn 14 = .ok (.iconst 0, 1) := by decide +kernel
theorem dX6_isIn_15 : decode cX6_isIn 15 = .ok (.ireturn, 1) := by decide +kernel
set_option maxRecDepth 20000 in
theorem ggX6_isGate_X6_isIn : GoodIn wsX6_isGate wsX6_isIn := goodIn_r _ [5] (by decide +kernel) (by decide +kernel)
set_option maxRecDepth 20000 in
theorem gX6_isGate_X6_isIn : GoodIn wsX6_isGate (va_wsS RX6 60 yX6_isIn wsX6_isIn) := goodIn_app (goodIn_of _ (by decide +kernel)) ggX6_isGate_X6_isIn
theorem dX6_isGate_0 : decode cX6_isGate 0 = .ok (.iload_n 1, 1) := by decide +kernel
theorem dX6_isGate_1 : decode cX6_isGate 1 = .ok (.iconst 0, 1) := by decide +kernel
theorem dX6_isGate_2 : decode cX6_isGate 2 = .ok (.aload_n 0, 1) := by decide +kernel
theorem dX6_isGate_3 : decode cX6_isGate 3 = .ok (.getfield 7, 3) := by decide +kernel
theorem dX6_isGate_6 : decode cX6_isGate 6 = .ok (.iconst 1, 1) := by decide +kernel
theorem dX6_isGate_7 : decode cX6_isGate 7 = .ok (.isub, 1) := by decide +kernel
theorem dX6_isGate_8 : decode cX6_isGate 8 = .ok (.invokestatic 60, 3) := by decide +kernel
theorem dX6_isGate_11 : decode cX6_isGate 11 = .ok (.ireturn, 1) := by decide +kernel
set_option maxRecDepth 20000 in
theorem ggX6_isKart_X6_isIn : GoodIn wsX6_isKart wsX6_isIn := goodIn_r _ [5] (by decide +kernel) (by decide +kernel)
set_option maxRecDepth 20000 in
theorem gX6_isKart_X6_isIn : GoodIn wsX6_isKart (va_wsS RX6 60 yX6_isIn wsX6_isIn) := goodIn_app (goodIn_of _ (by decide +kernel)) ggX6_isKart_X6_isIn
theorem dX6_isKart_0 : decode cX6_isKart 0 = .ok (.iload_n 1, 1) := by decide +kernel
theorem dX6_isKart_1 : decode cX6_isKart 1 = .ok (.iconst 0, 1) := by decide +kernel
theorem dX6_isKart_2 : decode cX6_isKart 2 = .ok (.aload_n 0, 1) := by decide +kernel
theorem dX6_isKart_3 : decode cX6_isKart 3 = .ok (.getfield 64, 3) := by decide +kernel
theorem dX6_isKart_6 : decode cX6_isKart 6 = .ok (.iconst 1, 1) := by decide +kernel
theorem dX6_isKart_7 : decode cX6_isKart 7 = .ok (.isub, 1) := by decide +kernel
theorem dX6_isKart_8 : decode cX6_isKart 8 = .ok (.invokestatic 60, 3) := by decide +kernel
theorem dX6_isKart_11 : decode cX6_isKart 11 = .ok (.ireturn, 1) := by decide +kernel
set_option maxRecDepth 20000 in
theorem ggX6_addGate_X6_fails : GoodIn wsX6_addGate wsX6_fails := goodIn_r _ [8, 9, 10, 11, 12, 13, 14, 15, 16, 17, 18, 19, 20, 21, 22, 23, 24, 25, 26, 27, 28, 29, 30, 31, 32, 33, 34, 35] (by decide +kernel) (by decide +kernel)
set_option maxRecDepth 20000 in
theorem gX6_addGate_X6_fails : GoodIn wsX6_addGate (wsV RX6 70 RX6 yX6_fails wsX6_fails) := goodIn_app (goodIn_of _ (by decide +kernel)) ggX6_addGate_X6_fails
theorem dX6_addGate_0 : decode cX6_addGate 0 = .ok (.aload_n 0, 1) := by decide +kernel
theorem dX6_addGate_1 : decode cX6_addGate 1 = .ok (.aload_n 0, 1) := by decide +kernel
theorem dX6_addGate_2 : decode cX6_addGate 2 = .ok (.getfield 67, 3) := by decide +kernel
theorem dX6_addGate_5 : decode cX6_addGate 5 = .ok (.ifCond .gt 12, 3) := by decide +kernel
theorem dX6_addGate_8 : decode cX6_addGate 8 = .ok (.aload_n 0, 1) := by decide +kernel
theorem dX6_addGate_9 : decode cX6_addGate 9 = .ok (.getfield 7, 3) := by decide +kernel
theorem dX6_addGate_12 : decode cX6_addGate 12 = .ok (.bipush 12, 2) := by decide +kernel
theorem dX6_addGate_14 : decode cX6_addGate 14 = .ok (.if_icmp .ne 7, 3) := by decide +kernel
theorem dX6_addGate_17 : decode cX6_addGate 17 = .ok (.iconst 1, 1) := by decide +kernel
theorem dX6_addGate_18 : decode cX6_addGate 18 = .ok (.goto 4, 3) := by decide +kernel
theorem dX6_addGate_21 : decode cX6_addGate 21 = .ok (.iconst 0, 1) := by decide +kernel
theorem dX6_addGate_22 : decode cX6_addGate 22 = .ok (.invokevirtual 70, 3) := by decide +kernel
theorem dX6_addGate_25 : decode cX6_addGate 25 = .ok (.ifCond .eq 5, 3) := by decide +kernel
theorem dX6_addGate_28 : decode cX6_addGate 28 = .ok (.iconst 0, 1) := by decide +kernel
theorem dX6_addGate_29 : decode cX6_addGate 29 = .ok (.ireturn, 1) := by decide +kernel
theorem dX6_addGate_30 : decode cX6_addGate 30 = .ok (.aload_n 0, 1) := by decide +kernel
theorem dX6_addGate_31 : decode cX6_addGate 31 = .ok (.dup, 1) := by decide +kernel
theorem dX6_addGate_32 : decode cX6_addGate 32 = .ok (.getfield 74, 3) := by decide +kernel
theorem dX6_addGate_35 : decode cX6_addGate 35 = .ok (.iload_n 1, 1) := by decide +kernel
theorem dX6_addGate_36 : decode cX6_addGate 36 = .ok (.ifCond .eq 12, 3) := by decide +kernel
theorem dX6_addGate_39 : decode cX6_addGate 39 = .ok (.iconst 1, 1) := by decide +kernel
theorem dX6_addGate_40 : decode cX6_addGate 40 = .ok (.aload_n 0, 1) := by decide +kernel
theorem dX6_addGate_41 : decode cX6_addGate 41 = .ok (.getfield 7, 3) := by decide +kernel
theorem dX6_addGate_44 : decode cX6_addGate 44 = .ok (.ishl, 1) := by decide +kernel
theorem dX6_addGate_45 : decode cX6_addGate 45 = .ok (.goto 4, 3) := by decide +kernel
theorem dX6_addGate_48 : decode cX6_addGate 48 = .ok (.iconst 0, 1) := by decide +kernel
theorem dX6_addGate_49 : decode cX6_addGate 49 = .ok (.ior, 1) := by decide +kernel
theorem dX6_addGate_50 : decode cX6_addGate 50 = .ok (.putfield 74, 3) := by decide +kernel
theorem dX6_addGate_53 : decode cX6_addGate 53 = .ok (.aload_n 0, 1) := by decide +kernel
theorem dX6_addGate_54 : decode cX6_addGate 54 = .ok (.dup, 1) := by decide +kernel
theorem dX6_addGate_55 : decode cX6_addGate 55 = .ok (.getfield 7, 3) := by decide +kernel
theorem dX6_addGate_58 : decode cX6_addGate 58 = .ok (.iconst 1, 1) := by decide +kernel
theorem dX6_addGate_59 : decode cX6_addGate 59 = .ok (.iadd, 1) := by decide +kernel
theorem dX6_addGate_60 : decode cX6_addGate 60 = .ok (.putfield 7, 3) := by decide +kernel
theorem dX6_addGate_63 : decode cX6_addGate 63 = .ok (.aload_n 0, 1) := by decide +kernel
theorem dX6_addGate_64 : decode cX6_addGate 64 = .ok (.getfield 7, 3) := by decide +kernel
theorem dX6_addGate_67 : decode cX6_addGate 67 = .ok (.iconst 1, 1) := by decide +kernel
theorem dX6_addGate_68 : decode cX6_addGate 68 = .ok (.isub, 1) := by decide +kernel
theorem dX6_addGate_69 : decode cX6_addGate 69 = .ok (.ireturn, 1) := by decide +kernel
set_option maxRecDepth 20000 in
theorem ggX6_addWay_X6_isGate : GoodIn wsX6_addWay wsX6_isGate := goodIn_r _ [7, 8, 9, 10, 6, 11, 17, 18, 19, 20, 21, 22, 23, 24, 25, 26, 27, 28, 29, 30, 31, 32, 33, 34, 35, 36, 37, 38, 39, 40, 41, 42] (by decide +kernel) (by decide +kernel)
set_option maxRecDepth 20000 in
theorem gX6_addWay_X6_isGate : GoodIn wsX6_addWay (wsV RX6 77 RX6 yX6_isGate wsX6_isGate) := goodIn_app (goodIn_of _ (by decide +kernel)) ggX6_addWay_X6_isGate
set_option maxRecDepth 20000 in
theorem ggX6_addWay_X6_isIn : GoodIn wsX6_addWay wsX6_isIn := goodIn_r _ [11] (by decide +kernel) (by decide +kernel)
set_option maxRecDepth 20000 in
theorem gX6_addWay_X6_isIn : GoodIn wsX6_addWay (va_wsS RX6 60 yX6_isIn wsX6_isIn) := goodIn_app (goodIn_of _ (by decide +kernel)) ggX6_addWay_X6_isIn
set_option maxRecDepth 20000 in
theorem ggX6_addWay_X6_fails : GoodIn wsX6_addWay wsX6_fails := goodIn_r _ [15, 16, 17, 18, 19, 20, 21, 22, 23, 24, 25, 26, 27, 28, 29, 30, 31, 32, 33, 34, 35, 36, 37, 38, 39, 40, 41, 42] (by decide +kernel) (by decide +kernel)
set_option maxRecDepth 20000 in
theorem gX6_addWay_X6_fails : GoodIn wsX6_addWay (wsV RX6 70 RX6 yX6_fails wsX6_fails) := goodIn_app (goodIn_of _ (by decide +kernel)) ggX6_addWay_X6_fails
theorem dX6_addWay_0 : decode cX6_addWay 0 = .ok (.aload_n 0, 1) := by decide +kernel
theorem dX6_addWay_1 : decode cX6_addWay 1 = .ok (.iload_n 1, 1) := by decide +kernel
theorem dX6_addWay_2 : decode cX6_addWay 2 = .ok (.invokevirtual 77, 3) := by decide +kernel
theorem dX6_addWay_5 : decode cX6_addWay 5 = .ok (.ifCond .eq 15, 3) := by decide +kernel
theorem dX6_addWay_8 : decode cX6_addWay 8 = .ok (.aload_n 0, 1) := by decide +kernel
theorem dX6_addWay_9 : decode cX6_addWay 9 = .ok (.iload_n 2, 1) := by decide +kernel
theorem dX6_addWay_10 : decode cX6_addWay 10 = .ok (.invokevirtual 77, 3) := by decide +kernel
theorem dX6_addWay_13 : decode cX6_addWay 13 = .ok (.ifCond .eq 7, 3) := by decide +kernel
theorem dX6_addWay_16 : decode cX6_addWay 16 = .ok (.iconst 1, 1) := by decide +kernel
theorem dX6_addWay_17 : decode cX6_addWay 17 = .ok (.goto 4, 3) := by decide +kernel
theorem dX6_addWay_20 : decode cX6_addWay 20 = .ok (.iconst 0, 1) := by decide +kernel
theorem dX6_addWay_21 : decode cX6_addWay 21 = .ok (.istore 4, 2) := by decide +kernel
theorem dX6_addWay_23 : decode cX6_addWay 23 = .ok (.iload_n 2, 1) := by decide +kernel
theorem dX6_addWay_24 : decode cX6_addWay 24 = .ok (.iload_n 1, 1) := by decide +kernel
theorem dX6_addWay_25 : decode cX6_addWay 25 = .ok (.if_icmp .gt 11, 3) := by decide +kernel
theorem dX6_addWay_28 : decode cX6_addWay 28 = .ok (.iload_n 2, 1) := by decide +kernel
theorem dX6_addWay_29 : decode cX6_addWay 29 = .ok (.ifCond .ne 21, 3) := by decide +kernel
theorem dX6_addWay_32 : decode cX6_addWay 32 = .ok (.iload_n 1, 1) := by decide +kernel
theorem dX6_addWay_33 : decode cX6_addWay 33 = .ok (.ifCond .le 17, 3) := by decide +kernel
theorem dX6_addWay_36 : decode cX6_addWay 36 = .ok (.iload_n 3, 1) := by decide +kernel
theorem dX6_addWay_37 : decode cX6_addWay 37 = .ok (.iconst 1, 1) := by decide +kernel
theorem dX6_addWay_38 : decode cX6_addWay 38 = .ok (.bipush 100, 2) := by decide +kernel
theorem dX6_addWay_40 : decode cX6_addWay 40 = .ok (.invokestatic 60, 3) := by decide +kernel
theorem dX6_addWay_43 : decode cX6_addWay 43 = .ok (.ifCond .eq 7, 3) := by decide +kernel
theorem dX6_addWay_46 : decode cX6_addWay 46 = .ok (.iconst 1, 1) := by decide +kernel
theorem dX6_addWay_47 : decode cX6_addWay 47 = .ok (.goto 4, 3) := by decide +kernel
theorem dX6_addWay_50 : decode cX6_addWay 50 = .ok (.iconst 0, 1) := by decide +kernel
theorem dX6_addWay_51 : decode cX6_addWay 51 = .ok (.istore 5, 2) := by decide +kernel
theorem dX6_addWay_53 : decode cX6_addWay 53 = .ok (.aload_n 0, 1) := by decide +kernel
theorem dX6_addWay_54 : decode cX6_addWay 54 = .ok (.iload 4, 2) := by decide +kernel
theorem dX6_addWay_56 : decode cX6_addWay 56 = .ok (.ifCond .ne 7, 3) := by decide +kernel
theorem dX6_addWay_59 : decode cX6_addWay 59 = .ok (.iconst 1, 1) := by decide +kernel
theorem dX6_addWay_60 : decode cX6_addWay 60 = .ok (.goto 24, 3) := by decide +kernel
theorem dX6_addWay_63 : decode cX6_addWay 63 = .ok (.iload 5, 2) := by decide +kernel
theorem dX6_addWay_65 : decode cX6_addWay 65 = .ok (.ifCond .ne 7, 3) := by decide +kernel
theorem dX6_addWay_68 : decode cX6_addWay 68 = .ok (.iconst 2, 1) := by decide +kernel
theorem dX6_addWay_69 : decode cX6_addWay 69 = .ok (.goto 15, 3) := by decide +kernel
theorem dX6_addWay_72 : decode cX6_addWay 72 = .ok (.aload_n 0, 1) := by decide +kernel
theorem dX6_addWay_73 : decode cX6_addWay 73 = .ok (.getfield 67, 3) := by decide +kernel
theorem dX6_addWay_76 : decode cX6_addWay 76 = .ok (.ifCond .le 7, 3) := by decide +kernel
theorem dX6_addWay_79 : decode cX6_addWay 79 = .ok (.iconst 3, 1) := by decide +kernel
theorem dX6_addWay_80 : decode cX6_addWay 80 = .ok (.goto 4, 3) := by decide +kernel
theorem dX6_addWay_83 : decode cX6_addWay 83 = .ok (.iconst 0, 1) := by decide +kernel
theorem dX6_addWay_84 : decode cX6_addWay 84 = .ok (.invokevirtual 70, 3) := by decide +kernel
theorem dX6_addWay_87 : decode cX6_addWay 87 = .ok (.ifCond .eq 5, 3) := by decide +kernel
theorem dX6_addWay_90 : decode cX6_addWay 90 = .ok (.iconst 0, 1) := by decide +kernel
theorem dX6_addWay_91 : decode cX6_addWay 91 = .ok (.ireturn, 1) := by decide +kernel
theorem dX6_addWay_92 : decode cX6_addWay 92 = .ok (.aload_n 0, 1) := by decide +kernel
theorem dX6_addWay_93 : decode cX6_addWay 93 = .ok (.getfield 13, 3) := by decide +kernel
theorem dX6_addWay_96 : decode cX6_addWay 96 = .ok (.bipush 12, 2) := by decide +kernel
theorem dX6_addWay_98 : decode cX6_addWay 98 = .ok (.iload_n 1, 1) := by decide +kernel
theorem dX6_addWay_99 : decode cX6_addWay 99 = .ok (.imul, 1) := by decide +kernel
theorem dX6_addWay_100 : decode cX6_addWay 100 = .ok (.iload_n 2, 1) := by decide +kernel
theorem dX6_addWay_101 : decode cX6_addWay 101 = .ok (.iadd, 1) := by decide +kernel
theorem dX6_addWay_102 : decode cX6_addWay 102 = .ok (.iaload, 1) := by decide +kernel
theorem dX6_addWay_103 : decode cX6_addWay 103 = .ok (.istore 6, 2) := by decide +kernel
theorem dX6_addWay_105 : decode cX6_addWay 105 = .ok (.aload_n 0, 1) := by decide +kernel
theorem dX6_addWay_106 : decode cX6_addWay 106 = .ok (.getfield 13, 3) := by decide +kernel
theorem dX6_addWay_109 : decode cX6_addWay 109 = .ok (.bipush 12, 2) := by decide +kernel
theorem dX6_addWay_111 : decode cX6_addWay 111 = .ok (.iload_n 1, 1) := by decide +kernel
theorem dX6_addWay_112 : decode cX6_addWay 112 = .ok (.imul, 1) := by decide +kernel
theorem dX6_addWay_113 : decode cX6_addWay 113 = .ok (.iload_n 2, 1) := by decide +kernel
theorem dX6_addWay_114 : decode cX6_addWay 114 = .ok (.iadd, 1) := by decide +kernel
theorem dX6_addWay_115 : decode cX6_addWay 115 = .ok (.iload_n 3, 1) := by decide +kernel
theorem dX6_addWay_116 : decode cX6_addWay 116 = .ok (.iastore, 1) := by decide +kernel
theorem dX6_addWay_117 : decode cX6_addWay 117 = .ok (.iload 6, 2) := by decide +kernel
theorem dX6_addWay_119 : decode cX6_addWay 119 = .ok (.ifCond .ne 7, 3) := by decide +kernel
theorem dX6_addWay_122 : decode cX6_addWay 122 = .ok (.iconst (-1), 1) := by decide +kernel
theorem dX6_addWay_123 : decode cX6_addWay 123 = .ok (.goto 5, 3) := by decide +kernel
theorem dX6_addWay_126 : decode cX6_addWay 126 = .ok (.iload 6, 2) := by decide +kernel
theorem dX6_addWay_128 : decode cX6_addWay 128 = .ok (.ireturn, 1) := by decide +kernel
set_option maxRecDepth 20000 in
theorem ggX6_addKart_X6_isIn : GoodIn wsX6_addKart wsX6_isIn := goodIn_r _ [7] (by decide +kernel) (by decide +kernel)
set_option maxRecDepth 20000 in
theorem gX6_addKart_X6_isIn : GoodIn wsX6_addKart (va_wsS RX6 60 yX6_isIn wsX6_isIn) := goodIn_app (goodIn_of _ (by decide +kernel)) ggX6_addKart_X6_isIn
set_option maxRecDepth 20000 in
theorem ggX6_addKart_X6_fails : GoodIn wsX6_addKart wsX6_fails := goodIn_r _ [11, 12, 13, 14, 15, 16, 17, 18, 19, 20, 21, 22, 23, 24, 25, 26, 27, 28, 29, 30, 31, 32, 33, 34, 35, 36, 37, 38] (by decide +kernel) (by decide +kernel)
set_option maxRecDepth 20000 in
theorem gX6_addKart_X6_fails : GoodIn wsX6_addKart (wsV RX6 70 RX6 yX6_fails wsX6_fails) := goodIn_app (goodIn_of _ (by decide +kernel)) ggX6_addKart_X6_fails
theorem dX6_addKart_0 : decode cX6_addKart 0 = .ok (.aload_n 0, 1) := by decide +kernel
theorem dX6_addKart_1 : decode cX6_addKart 1 = .ok (.iload_n 1, 1) := by decide +kernel
theorem dX6_addKart_2 : decode cX6_addKart 2 = .ok (.iconst 0, 1) := by decide +kernel
theorem dX6_addKart_3 : decode cX6_addKart 3 = .ok (.iconst 3, 1) := by decide +kernel
theorem dX6_addKart_4 : decode cX6_addKart 4 = .ok (.invokestatic 60, 3) := by decide +kernel
theorem dX6_addKart_7 : decode cX6_addKart 7 = .ok (.ifCond .ne 7, 3) := by decide +kernel
theorem dX6_addKart_10 : decode cX6_addKart 10 = .ok (.iconst 1, 1) := by decide +kernel
theorem dX6_addKart_11 : decode cX6_addKart 11 = .ok (.goto 24, 3) := by decide +kernel
theorem dX6_addKart_14 : decode cX6_addKart 14 = .ok (.aload_n 0, 1) := by decide +kernel
theorem dX6_addKart_15 : decode cX6_addKart 15 = .ok (.getfield 67, 3) := by decide +kernel
theorem dX6_addKart_18 : decode cX6_addKart 18 = .ok (.ifCond .gt 12, 3) := by decide +kernel
theorem dX6_addKart_21 : decode cX6_addKart 21 = .ok (.aload_n 0, 1) := by decide +kernel
theorem dX6_addKart_22 : decode cX6_addKart 22 = .ok (.getfield 64, 3) := by decide +kernel
theorem dX6_addKart_25 : decode cX6_addKart 25 = .ok (.bipush 6, 2) := by decide +kernel
theorem dX6_addKart_27 : decode cX6_addKart 27 = .ok (.if_icmp .ne 7, 3) := by decide +kernel
theorem dX6_addKart_30 : decode cX6_addKart 30 = .ok (.iconst 2, 1) := by decide +kernel
theorem dX6_addKart_31 : decode cX6_addKart 31 = .ok (.goto 4, 3) := by decide +kernel
theorem dX6_addKart_34 : decode cX6_addKart 34 = .ok (.iconst 0, 1) := by decide +kernel
theorem dX6_addKart_35 : decode cX6_addKart 35 = .ok (.invokevirtual 70, 3) := by decide +kernel
theorem dX6_addKart_38 : decode cX6_addKart 38 = .ok (.ifCond .eq 5, 3) := by decide +kernel
theorem dX6_addKart_41 : decode cX6_addKart 41 = .ok (.iconst 0, 1) := by decide +kernel
theorem dX6_addKart_42 : decode cX6_addKart 42 = .ok (.ireturn, 1) := by decide +kernel
theorem dX6_addKart_43 : decode cX6_addKart 43 = .ok (.aload_n 0, 1) := by decide +kernel
theorem dX6_addKart_44 : decode cX6_addKart 44 = .ok (.getfield 20, 3) := by decide +kernel
theorem dX6_addKart_47 : decode cX6_addKart 47 = .ok (.aload_n 0, 1) := by decide +kernel
theorem dX6_addKart_48 : decode cX6_addKart 48 = .ok (.getfield 64, 3) := by decide +kernel
theorem dX6_addKart_51 : decode cX6_addKart 51 = .ok (.iload_n 1, 1) := by decide +kernel
theorem dX6_addKart_52 : decode cX6_addKart 52 = .ok (.iastore, 1) := by decide +kernel
theorem dX6_addKart_53 : decode cX6_addKart 53 = .ok (.aload_n 0, 1) := by decide +kernel
theorem dX6_addKart_54 : decode cX6_addKart 54 = .ok (.dup, 1) := by decide +kernel
theorem dX6_addKart_55 : decode cX6_addKart 55 = .ok (.getfield 64, 3) := by decide +kernel
theorem dX6_addKart_58 : decode cX6_addKart 58 = .ok (.iconst 1, 1) := by decide +kernel
theorem dX6_addKart_59 : decode cX6_addKart 59 = .ok (.iadd, 1) := by decide +kernel
theorem dX6_addKart_60 : decode cX6_addKart 60 = .ok (.putfield 64, 3) := by decide +kernel
theorem dX6_addKart_63 : decode cX6_addKart 63 = .ok (.aload_n 0, 1) := by decide +kernel
theorem dX6_addKart_64 : decode cX6_addKart 64 = .ok (.getfield 64, 3) := by decide +kernel
theorem dX6_addKart_67 : decode cX6_addKart 67 = .ok (.iconst 1, 1) := by decide +kernel
theorem dX6_addKart_68 : decode cX6_addKart 68 = .ok (.isub, 1) := by decide +kernel
theorem dX6_addKart_69 : decode cX6_addKart 69 = .ok (.ireturn, 1) := by decide +kernel
set_option maxRecDepth 20000 in
theorem ggX6_gates_X6_tells : GoodIn wsX6_gates wsX6_tells := goodIn_r _ [6, 7, 8, 9, 10, 11, 12, 13, 14, 15, 16, 17, 18, 19, 20, 21, 22, 23, 24, 25, 26, 27, 28, 29, 30, 31, 32, 33] (by decide +kernel) (by decide +kernel)
set_option maxRecDepth 20000 in
theorem gX6_gates_X6_tells : GoodIn wsX6_gates (wsV RX6 80 RX6 yX6_tells wsX6_tells) := goodIn_app (goodIn_of _ (by decide +kernel)) ggX6_gates_X6_tells
theorem dX6_gates_0 : decode cX6_gates 0 = .ok (.aload_n 0, 1) := by decide +kernel
theorem dX6_gates_1 : decode cX6_gates 1 = .ok (.aload_n 0, 1) := by decide +kernel
theorem dX6_gates_2 : decode cX6_gates 2 = .ok (.getfield 7, 3) := by decide +kernel
theorem dX6_gates_5 : decode cX6_gates 5 = .ok (.invokevirtual 80, 3) := by decide +kernel
theorem dX6_gates_8 : decode cX6_gates 8 = .ok (.ireturn, 1) := by decide +kernel
set_option maxRecDepth 20000 in
theorem ggX6_karts_X6_tells : GoodIn wsX6_karts wsX6_tells := goodIn_r _ [6, 7, 8, 9, 10, 11, 12, 13, 14, 15, 16, 17, 18, 19, 20, 21, 22, 23, 24, 25, 26, 27, 28, 29, 30, 31, 32, 33] (by decide +kernel) (by decide +kernel)
set_option maxRecDepth 20000 in
theorem gX6_karts_X6_tells : GoodIn wsX6_karts (wsV RX6 80 RX6 yX6_tells wsX6_tells) := goodIn_app (goodIn_of _ (by decide +kernel)) ggX6_karts_X6_tells
theorem dX6_karts_0 : decode cX6_karts 0 = .ok (.aload_n 0, 1) := by decide +kernel
theorem dX6_karts_1 : decode cX6_karts 1 = .ok (.aload_n 0, 1) := by decide +kernel
theorem dX6_karts_2 : decode cX6_karts 2 = .ok (.getfield 64, 3) := by decide +kernel
theorem dX6_karts_5 : decode cX6_karts 5 = .ok (.invokevirtual 80, 3) := by decide +kernel
theorem dX6_karts_8 : decode cX6_karts 8 = .ok (.ireturn, 1) := by decide +kernel
theorem dX6_finds_0 : decode cX6_finds 0 = .ok (.aload_n 0, 1) := by decide +kernel
theorem dX6_finds_1 : decode cX6_finds 1 = .ok (.getfield 7, 3) := by decide +kernel
theorem dX6_finds_4 : decode cX6_finds 4 = .ok (.iconst 1, 1) := by decide +kernel
theorem dX6_finds_5 : decode cX6_finds 5 = .ok (.isub, 1) := by decide +kernel
theorem dX6_finds_6 : decode cX6_finds 6 = .ok (.istore_n 1, 1) := by decide +kernel
theorem dX6_finds_7 : decode cX6_finds 7 = .ok (.iload_n 1, 1) := by decide +kernel
theorem dX6_finds_8 : decode cX6_finds 8 = .ok (.ifCond .lt 113, 3) := by decide +kernel
theorem dX6_finds_11 : decode cX6_finds 11 = .ok (.iconst (-1), 1) := by decide +kernel
theorem dX6_finds_12 : decode cX6_finds 12 = .ok (.istore_n 2, 1) := by decide +kernel
theorem dX6_finds_13 : decode cX6_finds 13 = .ok (.iconst 0, 1) := by decide +kernel
theorem dX6_finds_14 : decode cX6_finds 14 = .ok (.istore_n 3, 1) := by decide +kernel
theorem dX6_finds_15 : decode cX6_finds 15 = .ok (.iload_n 3, 1) := by decide +kernel
theorem dX6_finds_16 : decode cX6_finds 16 = .ok (.aload_n 0, 1) := by decide +kernel
theorem dX6_finds_17 : decode cX6_finds 17 = .ok (.getfield 7, 3) := by decide +kernel
theorem dX6_finds_20 : decode cX6_finds 20 = .ok (.if_icmp .ge 88, 3) := by decide +kernel
theorem dX6_finds_23 : decode cX6_finds 23 = .ok (.aload_n 0, 1) := by decide +kernel
theorem dX6_finds_24 : decode cX6_finds 24 = .ok (.getfield 13, 3) := by decide +kernel
theorem dX6_finds_27 : decode cX6_finds 27 = .ok (.bipush 12, 2) := by decide +kernel
theorem dX6_finds_29 : decode cX6_finds 29 = .ok (.iload_n 1, 1) := by decide +kernel
theorem dX6_finds_30 : decode cX6_finds 30 = .ok (.imul, 1) := by decide +kernel
theorem dX6_finds_31 : decode cX6_finds 31 = .ok (.iload_n 3, 1) := by decide +kernel
theorem dX6_finds_32 : decode cX6_finds 32 = .ok (.iadd, 1) := by decide +kernel
theorem dX6_finds_33 : decode cX6_finds 33 = .ok (.iaload, 1) := by decide +kernel
theorem dX6_finds_34 : decode cX6_finds 34 = .ok (.istore 4, 2) := by decide +kernel
theorem dX6_finds_36 : decode cX6_finds 36 = .ok (.iload 4, 2) := by decide +kernel
theorem dX6_finds_38 : decode cX6_finds 38 = .ok (.ifCond .eq 17, 3) := by decide +kernel
theorem dX6_finds_41 : decode cX6_finds 41 = .ok (.iload_n 3, 1) := by decide +kernel
theorem dX6_finds_42 : decode cX6_finds 42 = .ok (.ifCond .le 17, 3) := by decide +kernel
theorem dX6_finds_45 : decode cX6_finds 45 = .ok (.aload_n 0, 1) := by decide +kernel
theorem dX6_finds_46 : decode cX6_finds 46 = .ok (.getfield 17, 3) := by decide +kernel
theorem dX6_finds_49 : decode cX6_finds 49 = .ok (.iload_n 3, 1) := by decide +kernel
theorem dX6_finds_50 : decode cX6_finds 50 = .ok (.iaload, 1) := by decide +kernel
theorem dX6_finds_51 : decode cX6_finds 51 = .ok (.iconst (-1), 1) := by decide +kernel
theorem dX6_finds_52 : decode cX6_finds 52 = .ok (.if_icmp .ne 7, 3) := by decide +kernel
theorem dX6_finds_55 : decode cX6_finds 55 = .ok (.iconst (-1), 1) := by decide +kernel
theorem dX6_finds_56 : decode cX6_finds 56 = .ok (.goto 20, 3) := by decide +kernel
theorem dX6_finds_59 : decode cX6_finds 59 = .ok (.iload 4, 2) := by decide +kernel
theorem dX6_finds_61 : decode cX6_finds 61 = .ok (.iload_n 3, 1) := by decide +kernel
theorem dX6_finds_62 : decode cX6_finds 62 = .ok (.ifCond .le 12, 3) := by decide +kernel
theorem dX6_finds_65 : decode cX6_finds 65 = .ok (.aload_n 0, 1) := by decide +kernel
theorem dX6_finds_66 : decode cX6_finds 66 = .ok (.getfield 17, 3) := by decide +kernel
theorem dX6_finds_69 : decode cX6_finds 69 = .ok (.iload_n 3, 1) := by decide +kernel
theorem dX6_finds_70 : decode cX6_finds 70 = .ok (.iaload, 1) := by decide +kernel
theorem dX6_finds_71 : decode cX6_finds 71 = .ok (.goto 4, 3) := by decide +kernel
theorem dX6_finds_74 : decode cX6_finds 74 = .ok (.iconst 0, 1) := by decide +kernel
theorem dX6_finds_75 : decode cX6_finds 75 = .ok (.iadd, 1) := by decide +kernel
theorem dX6_finds_76 : decode cX6_finds 76 = .ok (.istore 5, 2) := by decide +kernel
theorem dX6_finds_78 : decode cX6_finds 78 = .ok (.iload 5, 2) := by decide +kernel
theorem dX6_finds_80 : decode cX6_finds 80 = .ok (.iconst (-1), 1) := by decide +kernel
theorem dX6_finds_81 : decode cX6_finds 81 = .ok (.if_icmp .eq 19, 3) := by decide +kernel
theorem dX6_finds_84 : decode cX6_finds 84 = .ok (.iload_n 2, 1) := by decide +kernel
theorem dX6_finds_85 : decode cX6_finds 85 = .ok (.iconst (-1), 1) := by decide +kernel
theorem dX6_finds_86 : decode cX6_finds 86 = .ok (.if_icmp .eq 9, 3) := by decide +kernel
theorem dX6_finds_89 : decode cX6_finds 89 = .ok (.iload 5, 2) := by decide +kernel
theorem dX6_finds_91 : decode cX6_finds 91 = .ok (.iload_n 2, 1) := by decide +kernel
theorem dX6_finds_92 : decode cX6_finds 92 = .ok (.if_icmp .ge 8, 3) := by decide +kernel
theorem dX6_finds_95 : decode cX6_finds 95 = .ok (.iload 5, 2) := by decide +kernel
theorem dX6_finds_97 : decode cX6_finds 97 = .ok (.goto 4, 3) := by decide +kernel
theorem dX6_finds_100 : decode cX6_finds 100 = .ok (.iload_n 2, 1) := by decide +kernel
theorem dX6_finds_101 : decode cX6_finds 101 = .ok (.istore_n 2, 1) := by decide +kernel
theorem dX6_finds_102 : decode cX6_finds 102 = .ok (.iinc 3 1, 3) := by decide +kernel
theorem dX6_finds_105 : decode cX6_finds 105 = .ok (.goto (-90), 3) := by decide +kernel
theorem dX6_finds_108 : decode cX6_finds 108 = .ok (.aload_n 0, 1) := by decide +kernel
theorem dX6_finds_109 : decode cX6_finds 109 = .ok (.getfield 17, 3) := by decide +kernel
theorem dX6_finds_112 : decode cX6_finds 112 = .ok (.iload_n 1, 1) := by decide +kernel
theorem dX6_finds_113 : decode cX6_finds 113 = .ok (.iload_n 2, 1) := by decide +kernel
theorem dX6_finds_114 : decode cX6_finds 114 = .ok (.iastore, 1) := by decide +kernel
theorem dX6_finds_115 : decode cX6_finds 115 = .ok (.iinc 1 (-1), 3) := by decide +kernel
theorem dX6_finds_118 : decode cX6_finds 118 = .ok (.goto (-111), 3) := by decide +kernel
theorem dX6_finds_121 : decode cX6_finds 121 = .ok (.return_, 1) := by decide +kernel
set_option maxRecDepth 20000 in
theorem ggX6_rest_X6_isGate : GoodIn wsX6_rest wsX6_isGate := goodIn_r _ [6, 7, 8, 9, 5, 10, 21, 22, 23, 24, 25, 26, 27, 28, 29, 30, 31, 32, 33, 34, 35, 36, 37, 38, 39, 40, 41, 42, 43, 44, 45, 46] (by decide +kernel) (by decide +kernel)
set_option maxRecDepth 20000 in
theorem gX6_rest_X6_isGate : GoodIn wsX6_rest (wsV RX6 77 RX6 yX6_isGate wsX6_isGate) := goodIn_app (goodIn_of _ (by decide +kernel)) ggX6_rest_X6_isGate
set_option maxRecDepth 20000 in
theorem ggX6_rest_X6_fails : GoodIn wsX6_rest wsX6_fails := goodIn_r _ [14, 15, 21, 22, 23, 24, 25, 26, 27, 28, 29, 30, 31, 32, 33, 34, 35, 36, 37, 38, 39, 40, 41, 42, 43, 44, 45, 46] (by decide +kernel) (by decide +kernel)
set_option maxRecDepth 20000 in
theorem gX6_rest_X6_fails : GoodIn wsX6_rest (wsV RX6 70 RX6 yX6_fails wsX6_fails) := goodIn_app (goodIn_of _ (by decide +kernel)) ggX6_rest_X6_fails
set_option maxRecDepth 20000 in
theorem ggX6_rest_X6_finds : GoodIn wsX6_rest wsX6_finds := goodIn_r _ [19, 7, 20, 1, 21, 22, 23, 24, 25, 26, 27, 28, 29, 30, 31, 32, 33, 34, 35, 36, 37, 38, 39, 40, 41, 42, 43, 44, 45, 46] (by decide +kernel) (by decide +kernel)
set_option maxRecDepth 20000 in
theorem gX6_rest_X6_finds : GoodIn wsX6_rest (wsV RX6 84 RX6 yX6_finds wsX6_finds) := goodIn_app (goodIn_of _ (by decide +kernel)) ggX6_rest_X6_finds
theorem dX6_rest_0 : decode cX6_rest 0 = .ok (.aload_n 0, 1) := by decide +kernel
theorem dX6_rest_1 : decode cX6_rest 1 = .ok (.aload_n 0, 1) := by decide +kernel
theorem dX6_rest_2 : decode cX6_rest 2 = .ok (.iload_n 1, 1) := by decide +kernel
theorem dX6_rest_3 : decode cX6_rest 3 = .ok (.invokevirtual 77, 3) := by decide +kernel
theorem dX6_rest_6 : decode cX6_rest 6 = .ok (.ifCond .eq 7, 3) := by decide +kernel
theorem dX6_rest_9 : decode cX6_rest 9 = .ok (.iconst 0, 1) := by decide +kernel
theorem dX6_rest_10 : decode cX6_rest 10 = .ok (.goto 4, 3) := by decide +kernel
theorem dX6_rest_13 : decode cX6_rest 13 = .ok (.iconst 1, 1) := by decide +kernel
theorem dX6_rest_14 : decode cX6_rest 14 = .ok (.invokevirtual 70, 3) := by decide +kernel
theorem dX6_rest_17 : decode cX6_rest 17 = .ok (.ifCond .eq 5, 3) := by decide +kernel
theorem dX6_rest_20 : decode cX6_rest 20 = .ok (.iconst 0, 1) := by decide +kernel
theorem dX6_rest_21 : decode cX6_rest 21 = .ok (.ireturn, 1) := by decide +kernel
theorem dX6_rest_22 : decode cX6_rest 22 = .ok (.aload_n 0, 1) := by decide +kernel
theorem dX6_rest_23 : decode cX6_rest 23 = .ok (.invokevirtual 84, 3) := by decide +kernel
theorem dX6_rest_26 : decode cX6_rest 26 = .ok (.aload_n 0, 1) := by decide +kernel
theorem dX6_rest_27 : decode cX6_rest 27 = .ok (.getfield 17, 3) := by decide +kernel
theorem dX6_rest_30 : decode cX6_rest 30 = .ok (.iload_n 1, 1) := by decide +kernel
theorem dX6_rest_31 : decode cX6_rest 31 = .ok (.iaload, 1) := by decide +kernel
theorem dX6_rest_32 : decode cX6_rest 32 = .ok (.ireturn, 1) := by decide +kernel
set_option maxRecDepth 20000 in
theorem ggX6_isTrack_X6_finds : GoodIn wsX6_isTrack wsX6_finds := goodIn_r _ [7, 1, 8, 2, 9, 10, 11, 12, 13, 14, 15, 16, 17, 18, 19, 20, 21, 22, 23, 24, 25, 26, 27, 28, 29, 30, 31, 32, 33, 34] (by decide +kernel) (by decide +kernel)
set_option maxRecDepth 20000 in
theorem gX6_isTrack_X6_finds : GoodIn wsX6_isTrack (wsV RX6 84 RX6 yX6_finds wsX6_finds) := goodIn_app (goodIn_of _ (by decide +kernel)) ggX6_isTrack_X6_finds
theorem dX6_isTrack_0 : decode cX6_isTrack 0 = .ok (.aload_n 0, 1) := by decide +kernel
theorem dX6_isTrack_1 : decode cX6_isTrack 1 = .ok (.invokevirtual 84, 3) := by decide +kernel
theorem dX6_isTrack_4 : decode cX6_isTrack 4 = .ok (.iconst 1, 1) := by decide +kernel
theorem dX6_isTrack_5 : decode cX6_isTrack 5 = .ok (.istore_n 1, 1) := by decide +kernel
theorem dX6_isTrack_6 : decode cX6_isTrack 6 = .ok (.iconst 0, 1) := by decide +kernel
theorem dX6_isTrack_7 : decode cX6_isTrack 7 = .ok (.istore_n 2, 1) := by decide +kernel
theorem dX6_isTrack_8 : decode cX6_isTrack 8 = .ok (.iload_n 2, 1) := by decide +kernel
theorem dX6_isTrack_9 : decode cX6_isTrack 9 = .ok (.aload_n 0, 1) := by decide +kernel
theorem dX6_isTrack_10 : decode cX6_isTrack 10 = .ok (.getfield 7, 3) := by decide +kernel
theorem dX6_isTrack_13 : decode cX6_isTrack 13 = .ok (.if_icmp .ge 29, 3) := by decide +kernel
theorem dX6_isTrack_16 : decode cX6_isTrack 16 = .ok (.iload_n 1, 1) := by decide +kernel
theorem dX6_isTrack_17 : decode cX6_isTrack 17 = .ok (.ifCond .eq 17, 3) := by decide +kernel
theorem dX6_isTrack_20 : decode cX6_isTrack 20 = .ok (.aload_n 0, 1) := by decide +kernel
theorem dX6_isTrack_21 : decode cX6_isTrack 21 = .ok (.getfield 17, 3) := by decide +kernel
theorem dX6_isTrack_24 : decode cX6_isTrack 24 = .ok (.iload_n 2, 1) := by decide +kernel
theorem dX6_isTrack_25 : decode cX6_isTrack 25 = .ok (.iaload, 1) := by decide +kernel
theorem dX6_isTrack_26 : decode cX6_isTrack 26 = .ok (.iconst (-1), 1) := by decide +kernel
theorem dX6_isTrack_27 : decode cX6_isTrack 27 = .ok (.if_icmp .eq 7, 3) := by decide +kernel
theorem dX6_isTrack_30 : decode cX6_isTrack 30 = .ok (.iconst 1, 1) := by decide +kernel
theorem dX6_isTrack_31 : decode cX6_isTrack 31 = .ok (.goto 4, 3) := by decide +kernel
theorem dX6_isTrack_34 : decode cX6_isTrack 34 = .ok (.iconst 0, 1) := by decide +kernel
theorem dX6_isTrack_35 : decode cX6_isTrack 35 = .ok (.istore_n 1, 1) := by decide +kernel
theorem dX6_isTrack_36 : decode cX6_isTrack 36 = .ok (.iinc 2 1, 3) := by decide +kernel
theorem dX6_isTrack_39 : decode cX6_isTrack 39 = .ok (.goto (-31), 3) := by decide +kernel
theorem dX6_isTrack_42 : decode cX6_isTrack 42 = .ok (.iload_n 1, 1) := by decide +kernel
theorem dX6_isTrack_43 : decode cX6_isTrack 43 = .ok (.ireturn, 1) := by decide +kernel
set_option maxRecDepth 20000 in
theorem ggX6_start_X6_isTrack : GoodIn wsX6_start wsX6_isTrack := goodIn_r _ [19, 20, 21, 22, 23, 24, 18, 25, 26, 35, 36, 37, 38, 39, 40, 41, 42, 43, 44, 45, 46, 47, 48, 49, 50, 51, 52, 53, 54, 55, 56, 57, 58, 59, 60] (by decide +kernel) (by decide +kernel)
set_option maxRecDepth 20000 in
theorem gX6_start_X6_isTrack : GoodIn wsX6_start (wsV RX6 91 RX6 yX6_isTrack wsX6_isTrack) := goodIn_app (goodIn_of _ (by decide +kernel)) ggX6_start_X6_isTrack
set_option maxRecDepth 20000 in
theorem ggX6_start_X6_isIn : GoodIn wsX6_start wsX6_isIn := goodIn_r _ [29] (by decide +kernel) (by decide +kernel)
set_option maxRecDepth 20000 in
theorem gX6_start_X6_isIn : GoodIn wsX6_start (va_wsS RX6 60 yX6_isIn wsX6_isIn) := goodIn_app (goodIn_of _ (by decide +kernel)) ggX6_start_X6_isIn
set_option maxRecDepth 20000 in
theorem ggX6_start_X6_fails : GoodIn wsX6_start wsX6_fails := goodIn_r _ [33, 34, 35, 36, 37, 38, 39, 40, 41, 42, 43, 44, 45, 46, 47, 48, 49, 50, 51, 52, 53, 54, 55, 56, 57, 58, 59, 60] (by decide +kernel) (by decide +kernel)
set_option maxRecDepth 20000 in
theorem gX6_start_X6_fails : GoodIn wsX6_start (wsV RX6 70 RX6 yX6_fails wsX6_fails) := goodIn_app (goodIn_of _ (by decide +kernel)) ggX6_start_X6_fails
theorem dX6_start_0 : decode cX6_start 0 = .ok (.aload_n 0, 1) := by decide +kernel
theorem dX6_start_1 : decode cX6_start 1 = .ok (.getfield 87, 3) := by decide +kernel
theorem dX6_start_4 : decode cX6_start 4 = .ok (.ifCond .ne 30, 3) := by decide +kernel
theorem dX6_start_7 : decode cX6_start 7 = .ok (.aload_n 0, 1) := by decide +kernel
theorem dX6_start_8 : decode cX6_start 8 = .ok (.getfield 67, 3) := by decide +kernel
theorem dX6_start_11 : decode cX6_start 11 = .ok (.bipush 8, 2) := by decide +kernel
theorem dX6_start_13 : decode cX6_start 13 = .ok (.if_icmp .ge 21, 3) := by decide +kernel
theorem dX6_start_16 : decode cX6_start 16 = .ok (.aload_n 0, 1) := by decide +kernel
theorem dX6_start_17 : decode cX6_start 17 = .ok (.getfield 64, 3) := by decide +kernel
theorem dX6_start_20 : decode cX6_start 20 = .ok (.ifCond .le 14, 3) := by decide +kernel
theorem dX6_start_23 : decode cX6_start 23 = .ok (.aload_n 0, 1) := by decide +kernel
theorem dX6_start_24 : decode cX6_start 24 = .ok (.invokevirtual 91, 3) := by decide +kernel
theorem dX6_start_27 : decode cX6_start 27 = .ok (.ifCond .eq 7, 3) := by decide +kernel
theorem dX6_start_30 : decode cX6_start 30 = .ok (.iconst 1, 1) := by decide +kernel
theorem dX6_start_31 : decode cX6_start 31 = .ok (.goto 4, 3) := by decide +kernel
theorem dX6_start_34 : decode cX6_start 34 = .ok (.iconst 0, 1) := by decide +kernel
theorem dX6_start_35 : decode cX6_start 35 = .ok (.istore_n 2, 1) := by decide +kernel
theorem dX6_start_36 : decode cX6_start 36 = .ok (.aload_n 0, 1) := by decide +kernel
theorem dX6_start_37 : decode cX6_start 37 = .ok (.iload_n 1, 1) := by decide +kernel
theorem dX6_start_38 : decode cX6_start 38 = .ok (.iconst 1, 1) := by decide +kernel
theorem dX6_start_39 : decode cX6_start 39 = .ok (.bipush 9, 2) := by decide +kernel
theorem dX6_start_41 : decode cX6_start 41 = .ok (.invokestatic 60, 3) := by decide +kernel
theorem dX6_start_44 : decode cX6_start 44 = .ok (.ifCond .ne 7, 3) := by decide +kernel
theorem dX6_start_47 : decode cX6_start 47 = .ok (.iconst 1, 1) := by decide +kernel
theorem dX6_start_48 : decode cX6_start 48 = .ok (.goto 12, 3) := by decide +kernel
theorem dX6_start_51 : decode cX6_start 51 = .ok (.iload_n 2, 1) := by decide +kernel
theorem dX6_start_52 : decode cX6_start 52 = .ok (.ifCond .eq 7, 3) := by decide +kernel
theorem dX6_start_55 : decode cX6_start 55 = .ok (.iconst 0, 1) := by decide +kernel
theorem dX6_start_56 : decode cX6_start 56 = .ok (.goto 4, 3) := by decide +kernel
theorem dX6_start_59 : decode cX6_start 59 = .ok (.iconst 2, 1) := by decide +kernel
theorem dX6_start_60 : decode cX6_start 60 = .ok (.invokevirtual 70, 3) := by decide +kernel
theorem dX6_start_63 : decode cX6_start 63 = .ok (.ifCond .eq 5, 3) := by decide +kernel
theorem dX6_start_66 : decode cX6_start 66 = .ok (.iconst 0, 1) := by decide +kernel
theorem dX6_start_67 : decode cX6_start 67 = .ok (.ireturn, 1) := by decide +kernel
theorem dX6_start_68 : decode cX6_start 68 = .ok (.aload_n 0, 1) := by decide +kernel
theorem dX6_start_69 : decode cX6_start 69 = .ok (.iload_n 1, 1) := by decide +kernel
theorem dX6_start_70 : decode cX6_start 70 = .ok (.putfield 95, 3) := by decide +kernel
theorem dX6_start_73 : decode cX6_start 73 = .ok (.aload_n 0, 1) := by decide +kernel
theorem dX6_start_74 : decode cX6_start 74 = .ok (.iconst 1, 1) := by decide +kernel
theorem dX6_start_75 : decode cX6_start 75 = .ok (.putfield 87, 3) := by decide +kernel
theorem dX6_start_78 : decode cX6_start 78 = .ok (.aload_n 0, 1) := by decide +kernel
theorem dX6_start_79 : decode cX6_start 79 = .ok (.dup, 1) := by decide +kernel
theorem dX6_start_80 : decode cX6_start 80 = .ok (.getfield 67, 3) := by decide +kernel
theorem dX6_start_83 : decode cX6_start 83 = .ok (.iconst 1, 1) := by decide +kernel
theorem dX6_start_84 : decode cX6_start 84 = .ok (.iadd, 1) := by decide +kernel
theorem dX6_start_85 : decode cX6_start 85 = .ok (.putfield 67, 3) := by decide +kernel
theorem dX6_start_88 : decode cX6_start 88 = .ok (.aload_n 0, 1) := by decide +kernel
theorem dX6_start_89 : decode cX6_start 89 = .ok (.iconst 0, 1) := by decide +kernel
theorem dX6_start_90 : decode cX6_start 90 = .ok (.putfield 98, 3) := by decide +kernel
theorem dX6_start_93 : decode cX6_start 93 = .ok (.iconst 0, 1) := by decide +kernel
theorem dX6_start_94 : decode cX6_start 94 = .ok (.istore_n 3, 1) := by decide +kernel
theorem dX6_start_95 : decode cX6_start 95 = .ok (.iload_n 3, 1) := by decide +kernel
theorem dX6_start_96 : decode cX6_start 96 = .ok (.bipush 6, 2) := by decide +kernel
theorem dX6_start_98 : decode cX6_start 98 = .ok (.if_icmp .ge 72, 3) := by decide +kernel
theorem dX6_start_101 : decode cX6_start 101 = .ok (.aload_n 0, 1) := by decide +kernel
theorem dX6_start_102 : decode cX6_start 102 = .ok (.getfield 23, 3) := by decide +kernel
theorem dX6_start_105 : decode cX6_start 105 = .ok (.iload_n 3, 1) := by decide +kernel
theorem dX6_start_106 : decode cX6_start 106 = .ok (.iconst 0, 1) := by decide +kernel
theorem dX6_start_107 : decode cX6_start 107 = .ok (.iastore, 1) := by decide +kernel
theorem dX6_start_108 : decode cX6_start 108 = .ok (.aload_n 0, 1) := by decide +kernel
theorem dX6_start_109 : decode cX6_start 109 = .ok (.getfield 26, 3) := by decide +kernel
theorem dX6_start_112 : decode cX6_start 112 = .ok (.iload_n 3, 1) := by decide +kernel
theorem dX6_start_113 : decode cX6_start 113 = .ok (.iconst 0, 1) := by decide +kernel
theorem dX6_start_114 : decode cX6_start 114 = .ok (.iastore, 1) := by decide +kernel
theorem dX6_start_115 : decode cX6_start 115 = .ok (.aload_n 0, 1) := by decide +kernel
theorem dX6_start_116 : decode cX6_start 116 = .ok (.getfield 29, 3) := by decide +kernel
theorem dX6_start_119 : decode cX6_start 119 = .ok (.iload_n 3, 1) := by decide +kernel
theorem dX6_start_120 : decode cX6_start 120 = .ok (.iconst 0, 1) := by decide +kernel
theorem dX6_start_121 : decode cX6_start 121 = .ok (.iastore, 1) := by decide +kernel
theorem dX6_start_122 : decode cX6_start 122 = .ok (.aload_n 0, 1) := by decide +kernel
theorem dX6_start_123 : decode cX6_start 123 = .ok (.getfield 32, 3) := by decide +kernel
theorem dX6_start_126 : decode cX6_start 126 = .ok (.iload_n 3, 1) := by decide +kernel
theorem dX6_start_127 : decode cX6_start 127 = .ok (.iconst 0, 1) := by decide +kernel
theorem dX6_start_128 : decode cX6_start 128 = .ok (.iastore, 1) := by decide +kernel
theorem dX6_start_129 : decode cX6_start 129 = .ok (.aload_n 0, 1) := by decide +kernel
theorem dX6_start_130 : decode cX6_start 130 = .ok (.getfield 35, 3) := by decide +kernel
theorem dX6_start_133 : decode cX6_start 133 = .ok (.iload_n 3, 1) := by decide +kernel
theorem dX6_start_134 : decode cX6_start 134 = .ok (.iconst 0, 1) := by decide +kernel
theorem dX6_start_135 : decode cX6_start 135 = .ok (.iastore, 1) := by decide +kernel
theorem dX6_start_136 : decode cX6_start 136 = .ok (.aload_n 0, 1) := by decide +kernel
theorem dX6_start_137 : decode cX6_start 137 = .ok (.getfield 38, 3) := by decide +kernel
theorem dX6_start_140 : decode cX6_start 140 = .ok (.iload_n 3, 1) := by decide +kernel
theorem dX6_start_141 : decode cX6_start 141 = .ok (.iconst 0, 1) := by decide +kernel
theorem dX6_start_142 : decode cX6_start 142 = .ok (.iastore, 1) := by decide +kernel
theorem dX6_start_143 : decode cX6_start 143 = .ok (.aload_n 0, 1) := by decide +kernel
theorem dX6_start_144 : decode cX6_start 144 = .ok (.getfield 41, 3) := by decide +kernel
theorem dX6_start_147 : decode cX6_start 147 = .ok (.iload_n 3, 1) := by decide +kernel
theorem dX6_start_148 : decode cX6_start 148 = .ok (.iconst (-1), 1) := by decide +kernel
theorem dX6_start_149 : decode cX6_start 149 = .ok (.iastore, 1) := by decide +kernel
theorem dX6_start_150 : decode cX6_start 150 = .ok (.aload_n 0, 1) := by decide +kernel
theorem dX6_start_151 : decode cX6_start 151 = .ok (.getfield 44, 3) := by decide +kernel
theorem dX6_start_154 : decode cX6_start 154 = .ok (.iload_n 3, 1) := by decide +kernel
theorem dX6_start_155 : decode cX6_start 155 = .ok (.iconst 0, 1) := by decide +kernel
theorem dX6_start_156 : decode cX6_start 156 = .ok (.bastore, 1) := by decide +kernel
theorem dX6_start_157 : decode cX6_start 157 = .ok (.aload_n 0, 1) := by decide +kernel
theorem dX6_start_158 : decode cX6_start 158 = .ok (.getfield 48, 3) := by decide +kernel
theorem dX6_start_161 : decode cX6_start 161 = .ok (.iload_n 3, 1) := by decide +kernel
theorem dX6_start_162 : decode cX6_start 162 = .ok (.iconst 0, 1) := by decide +kernel
theorem dX6_start_163 : decode cX6_start 163 = .ok (.iastore, 1) := by decide +kernel
theorem dX6_start_164 : decode cX6_start 164 = .ok (.iinc 3 1, 3) := by decide +kernel
theorem dX6_start_167 : decode cX6_start 167 = .ok (.goto (-72), 3) := by decide +kernel
theorem dX6_start_170 : decode cX6_start 170 = .ok (.aload_n 0, 1) := by decide +kernel
theorem dX6_start_171 : decode cX6_start 171 = .ok (.getfield 67, 3) := by decide +kernel
theorem dX6_start_174 : decode cX6_start 174 = .ok (.iconst 1, 1) := by decide +kernel
theorem dX6_start_175 : decode cX6_start 175 = .ok (.isub, 1) := by decide +kernel
theorem dX6_start_176 : decode cX6_start 176 = .ok (.ireturn, 1) := by decide +kernel
theorem dX6_isOn_0 : decode cX6_isOn 0 = .ok (.aload_n 0, 1) := by decide +kernel
theorem dX6_isOn_1 : decode cX6_isOn 1 = .ok (.iconst 0, 1) := by decide +kernel
theorem dX6_isOn_2 : decode cX6_isOn 2 = .ok (.putfield 57, 3) := by decide +kernel
theorem dX6_isOn_5 : decode cX6_isOn 5 = .ok (.aload_n 0, 1) := by decide +kernel
theorem dX6_isOn_6 : decode cX6_isOn 6 = .ok (.getfield 87, 3) := by decide +kernel
theorem dX6_isOn_9 : decode cX6_isOn 9 = .ok (.ireturn, 1) := by decide +kernel
theorem dX6_crosses_0 : decode cX6_crosses 0 = .ok (.aload_n 0, 1) := by decide +kernel
theorem dX6_crosses_1 : decode cX6_crosses 1 = .ok (.getfield 32, 3) := by decide +kernel
theorem dX6_crosses_4 : decode cX6_crosses 4 = .ok (.iload_n 1, 1) := by decide +kernel
theorem dX6_crosses_5 : decode cX6_crosses 5 = .ok (.iaload, 1) := by decide +kernel
theorem dX6_crosses_6 : decode cX6_crosses 6 = .ok (.aload_n 0, 1) := by decide +kernel
theorem dX6_crosses_7 : decode cX6_crosses 7 = .ok (.getfield 74, 3) := by decide +kernel
theorem dX6_crosses_10 : decode cX6_crosses 10 = .ok (.iand, 1) := by decide +kernel
theorem dX6_crosses_11 : decode cX6_crosses 11 = .ok (.aload_n 0, 1) := by decide +kernel
theorem dX6_crosses_12 : decode cX6_crosses 12 = .ok (.getfield 74, 3) := by decide +kernel
theorem dX6_crosses_15 : decode cX6_crosses 15 = .ok (.if_icmp .ne 7, 3) := by decide +kernel
theorem dX6_crosses_18 : decode cX6_crosses 18 = .ok (.iconst 1, 1) := by decide +kernel
theorem dX6_crosses_19 : decode cX6_crosses 19 = .ok (.goto 4, 3) := by decide +kernel
theorem dX6_crosses_22 : decode cX6_crosses 22 = .ok (.iconst 0, 1) := by decide +kernel
theorem dX6_crosses_23 : decode cX6_crosses 23 = .ok (.istore_n 2, 1) := by decide +kernel
theorem dX6_crosses_24 : decode cX6_crosses 24 = .ok (.aload_n 0, 1) := by decide +kernel
theorem dX6_crosses_25 : decode cX6_crosses 25 = .ok (.getfield 32, 3) := by decide +kernel
theorem dX6_crosses_28 : decode cX6_crosses 28 = .ok (.iload_n 1, 1) := by decide +kernel
theorem dX6_crosses_29 : decode cX6_crosses 29 = .ok (.iconst 0, 1) := by decide +kernel
theorem dX6_crosses_30 : decode cX6_crosses 30 = .ok (.iastore, 1) := by decide +kernel
theorem dX6_crosses_31 : decode cX6_crosses 31 = .ok (.aload_n 0, 1) := by decide +kernel
theorem dX6_crosses_32 : decode cX6_crosses 32 = .ok (.getfield 29, 3) := by decide +kernel
theorem dX6_crosses_35 : decode cX6_crosses 35 = .ok (.iload_n 1, 1) := by decide +kernel
theorem dX6_crosses_36 : decode cX6_crosses 36 = .ok (.iaload, 1) := by decide +kernel
theorem dX6_crosses_37 : decode cX6_crosses 37 = .ok (.ifCond .le 15, 3) := by decide +kernel
theorem dX6_crosses_40 : decode cX6_crosses 40 = .ok (.aload_n 0, 1) := by decide +kernel
theorem dX6_crosses_41 : decode cX6_crosses 41 = .ok (.getfield 29, 3) := by decide +kernel
theorem dX6_crosses_44 : decode cX6_crosses 44 = .ok (.iload_n 1, 1) := by decide +kernel
theorem dX6_crosses_45 : decode cX6_crosses 45 = .ok (.dup2, 1) := by decide +kernel
theorem dX6_crosses_46 : decode cX6_crosses 46 = .ok (.iaload, 1) := by decide +kernel
theorem dX6_crosses_47 : decode cX6_crosses 47 = .ok (.iconst 1, 1) := by decide +kernel
theorem dX6_crosses_48 : decode cX6_crosses 48 = .ok (.isub, 1) := by decide +kernel
theorem dX6_crosses_49 : decode cX6_crosses 49 = .ok (.iastore, 1) := by decide +kernel
theorem dX6_crosses_50 : decode cX6_crosses 50 = .ok (.iconst 4, 1) := by decide +kernel
theorem dX6_crosses_51 : decode cX6_crosses 51 = .ok (.ireturn, 1) := by decide +kernel
theorem dX6_crosses_52 : decode cX6_crosses 52 = .ok (.iload_n 2, 1) := by decide +kernel
theorem dX6_crosses_53 : decode cX6_crosses 53 = .ok (.ifCond .ne 5, 3) := by decide +kernel
theorem dX6_crosses_56 : decode cX6_crosses 56 = .ok (.iconst 2, 1) := by decide +kernel
theorem dX6_crosses_57 : decode cX6_crosses 57 = .ok (.ireturn, 1) := by decide +kernel
theorem dX6_crosses_58 : decode cX6_crosses 58 = .ok (.aload_n 0, 1) := by decide +kernel
theorem dX6_crosses_59 : decode cX6_crosses 59 = .ok (.getfield 26, 3) := by decide +kernel
theorem dX6_crosses_62 : decode cX6_crosses 62 = .ok (.iload_n 1, 1) := by decide +kernel
theorem dX6_crosses_63 : decode cX6_crosses 63 = .ok (.dup2, 1) := by decide +kernel
theorem dX6_crosses_64 : decode cX6_crosses 64 = .ok (.iaload, 1) := by decide +kernel
theorem dX6_crosses_65 : decode cX6_crosses 65 = .ok (.iconst 1, 1) := by decide +kernel
theorem dX6_crosses_66 : decode cX6_crosses 66 = .ok (.iadd, 1) := by decide +kernel
theorem dX6_crosses_67 : decode cX6_crosses 67 = .ok (.iastore, 1) := by decide +kernel
theorem dX6_crosses_68 : decode cX6_crosses 68 = .ok (.aload_n 0, 1) := by decide +kernel
theorem dX6_crosses_69 : decode cX6_crosses 69 = .ok (.getfield 26, 3) := by decide +kernel
theorem dX6_crosses_72 : decode cX6_crosses 72 = .ok (.iload_n 1, 1) := by decide +kernel
theorem dX6_crosses_73 : decode cX6_crosses 73 = .ok (.iaload, 1) := by decide +kernel
theorem dX6_crosses_74 : decode cX6_crosses 74 = .ok (.aload_n 0, 1) := by decide +kernel
theorem dX6_crosses_75 : decode cX6_crosses 75 = .ok (.getfield 95, 3) := by decide +kernel
theorem dX6_crosses_78 : decode cX6_crosses 78 = .ok (.if_icmp .ne 15, 3) := by decide +kernel
theorem dX6_crosses_81 : decode cX6_crosses 81 = .ok (.aload_n 0, 1) := by decide +kernel
theorem dX6_crosses_82 : decode cX6_crosses 82 = .ok (.getfield 38, 3) := by decide +kernel
theorem dX6_crosses_85 : decode cX6_crosses 85 = .ok (.iload_n 1, 1) := by decide +kernel
theorem dX6_crosses_86 : decode cX6_crosses 86 = .ok (.aload_n 0, 1) := by decide +kernel
theorem dX6_crosses_87 : decode cX6_crosses 87 = .ok (.getfield 98, 3) := by decide +kernel
theorem dX6_crosses_90 : decode cX6_crosses 90 = .ok (.iastore, 1) := by decide +kernel
theorem dX6_crosses_91 : decode cX6_crosses 91 = .ok (.iconst 5, 1) := by decide +kernel
theorem dX6_crosses_92 : decode cX6_crosses 92 = .ok (.ireturn, 1) := by decide +kernel
theorem dX6_crosses_93 : decode cX6_crosses 93 = .ok (.iconst 1, 1) := by decide +kernel
theorem dX6_crosses_94 : decode cX6_crosses 94 = .ok (.ireturn, 1) := by decide +kernel
set_option maxRecDepth 20000 in
theorem ggX6_pass_X6_isKart : GoodIn wsX6_pass wsX6_isKart := goodIn_r _ [16, 17, 18, 19, 15, 20, 37, 38, 39, 40, 41, 42, 43, 44, 45, 46, 47, 48, 49, 50, 51, 52, 53, 54, 55, 56, 57, 58, 59, 60, 61, 62] (by decide +kernel) (by decide +kernel)
set_option maxRecDepth 20000 in
theorem gX6_pass_X6_isKart : GoodIn wsX6_pass (wsV RX6 101 RX6 yX6_isKart wsX6_isKart) := goodIn_app (goodIn_of _ (by decide +kernel)) ggX6_pass_X6_isKart
set_option maxRecDepth 20000 in
theorem ggX6_pass_X6_isGate : GoodIn wsX6_pass wsX6_isGate := goodIn_r _ [24, 25, 18, 19, 15, 20, 37, 38, 39, 40, 41, 42, 43, 44, 45, 46, 47, 48, 49, 50, 51, 52, 53, 54, 55, 56, 57, 58, 59, 60, 61, 62] (by decide +kernel) (by decide +kernel)
set_option maxRecDepth 20000 in
theorem gX6_pass_X6_isGate : GoodIn wsX6_pass (wsV RX6 77 RX6 yX6_isGate wsX6_isGate) := goodIn_app (goodIn_of _ (by decide +kernel)) ggX6_pass_X6_isGate
set_option maxRecDepth 20000 in
theorem ggX6_pass_X6_fails : GoodIn wsX6_pass wsX6_fails := goodIn_r _ [29, 30, 37, 38, 39, 40, 41, 42, 43, 44, 45, 46, 47, 48, 49, 50, 51, 52, 53, 54, 55, 56, 57, 58, 59, 60, 61, 62] (by decide +kernel) (by decide +kernel)
set_option maxRecDepth 20000 in
theorem gX6_pass_X6_fails : GoodIn wsX6_pass (wsV RX6 70 RX6 yX6_fails wsX6_fails) := goodIn_app (goodIn_of _ (by decide +kernel)) ggX6_pass_X6_fails
set_option maxRecDepth 20000 in
theorem ggX6_pass_X6_crosses : GoodIn wsX6_pass wsX6_crosses := goodIn_r _ [34, 10, 11, 9, 35, 36, 4, 7, 37, 38, 39, 40, 41, 42, 43, 44, 45, 46, 47, 48, 49, 50, 51, 52, 53, 54, 55, 56, 57, 58, 59, 60, 61, 62] (by decide +kernel) (by decide +kernel)
set_option maxRecDepth 20000 in
theorem gX6_pass_X6_crosses : GoodIn wsX6_pass (wsV RX6 107 RX6 yX6_crosses wsX6_crosses) := goodIn_app (goodIn_of _ (by decide +kernel)) ggX6_pass_X6_crosses
theorem dX6_pass_0 : decode cX6_pass 0 = .ok (.aload_n 0, 1) := by decide +kernel
theorem dX6_pass_1 : decode cX6_pass 1 = .ok (.iload_n 1, 1) := by decide +kernel
theorem dX6_pass_2 : decode cX6_pass 2 = .ok (.invokevirtual 101, 3) := by decide +kernel
theorem dX6_pass_5 : decode cX6_pass 5 = .ok (.ifCond .eq 15, 3) := by decide +kernel
theorem dX6_pass_8 : decode cX6_pass 8 = .ok (.aload_n 0, 1) := by decide +kernel
theorem dX6_pass_9 : decode cX6_pass 9 = .ok (.iload_n 2, 1) := by decide +kernel
theorem dX6_pass_10 : decode cX6_pass 10 = .ok (.invokevirtual 77, 3) := by decide +kernel
theorem dX6_pass_13 : decode cX6_pass 13 = .ok (.ifCond .eq 7, 3) := by decide +kernel
theorem dX6_pass_16 : decode cX6_pass 16 = .ok (.iconst 1, 1) := by decide +kernel
theorem dX6_pass_17 : decode cX6_pass 17 = .ok (.goto 4, 3) := by decide +kernel
theorem dX6_pass_20 : decode cX6_pass 20 = .ok (.iconst 0, 1) := by decide +kernel
theorem dX6_pass_21 : decode cX6_pass 21 = .ok (.istore_n 3, 1) := by decide +kernel
theorem dX6_pass_22 : decode cX6_pass 22 = .ok (.iload_n 3, 1) := by decide +kernel
theorem dX6_pass_23 : decode cX6_pass 23 = .ok (.ifCond .eq 12, 3) := by decide +kernel
theorem dX6_pass_26 : decode cX6_pass 26 = .ok (.aload_n 0, 1) := by decide +kernel
theorem dX6_pass_27 : decode cX6_pass 27 = .ok (.getfield 23, 3) := by decide +kernel
theorem dX6_pass_30 : decode cX6_pass 30 = .ok (.iload_n 1, 1) := by decide +kernel
theorem dX6_pass_31 : decode cX6_pass 31 = .ok (.iaload, 1) := by decide +kernel
end
section
theorem dX6_pass_32 : decode cX6_pass 32 = .ok (.goto 4, 3) := by decide +kernel
theorem dX6_pass_35 : decode cX6_pass 35 = .ok (.iconst 0, 1) := by decide +kernel
theorem dX6_pass_36 : decode cX6_pass 36 = .ok (.istore 4, 2) := by decide +kernel
theorem dX6_pass_38 : decode cX6_pass 38 = .ok (.iload_n 3, 1) := by decide +kernel
theorem dX6_pass_39 : decode cX6_pass 39 = .ok (.ifCond .eq 22, 3) := by decide +kernel
theorem dX6_pass_42 : decode cX6_pass 42 = .ok (.aload_n 0, 1) := by decide +kernel
theorem dX6_pass_43 : decode cX6_pass 43 = .ok (.getfield 13, 3) := by decide +kernel
theorem dX6_pass_46 : decode cX6_pass 46 = .ok (.bipush 12, 2) := by decide +kernel
theorem dX6_pass_48 : decode cX6_pass 48 = .ok (.iload 4, 2) := by decide +kernel
theorem dX6_pass_50 : decode cX6_pass 50 = .ok (.imul, 1) := by decide +kernel
theorem dX6_pass_51 : decode cX6_pass 51 = .ok (.iload_n 2, 1) := by decide +kernel
theorem dX6_pass_52 : decode cX6_pass 52 = .ok (.iadd, 1) := by decide +kernel
theorem dX6_pass_53 : decode cX6_pass 53 = .ok (.iaload, 1) := by decide +kernel
theorem dX6_pass_54 : decode cX6_pass 54 = .ok (.ifCond .le 7, 3) := by decide +kernel
theorem dX6_pass_57 : decode cX6_pass 57 = .ok (.iconst 1, 1) := by decide +kernel
theorem dX6_pass_58 : decode cX6_pass 58 = .ok (.goto 4, 3) := by decide +kernel
theorem dX6_pass_61 : decode cX6_pass 61 = .ok (.iconst 0, 1) := by decide +kernel
theorem dX6_pass_62 : decode cX6_pass 62 = .ok (.istore 5, 2) := by decide +kernel
theorem dX6_pass_64 : decode cX6_pass 64 = .ok (.iload_n 3, 1) := by decide +kernel
theorem dX6_pass_65 : decode cX6_pass 65 = .ok (.ifCond .eq 56, 3) := by decide +kernel
theorem dX6_pass_68 : decode cX6_pass 68 = .ok (.aload_n 0, 1) := by decide +kernel
theorem dX6_pass_69 : decode cX6_pass 69 = .ok (.getfield 87, 3) := by decide +kernel
theorem dX6_pass_72 : decode cX6_pass 72 = .ok (.ifCond .eq 49, 3) := by decide +kernel
theorem dX6_pass_75 : decode cX6_pass 75 = .ok (.aload_n 0, 1) := by decide +kernel
theorem dX6_pass_76 : decode cX6_pass 76 = .ok (.getfield 38, 3) := by decide +kernel
theorem dX6_pass_79 : decode cX6_pass 79 = .ok (.iload_n 1, 1) := by decide +kernel
theorem dX6_pass_80 : decode cX6_pass 80 = .ok (.iaload, 1) := by decide +kernel
theorem dX6_pass_81 : decode cX6_pass 81 = .ok (.ifCond .ne 40, 3) := by decide +kernel
theorem dX6_pass_84 : decode cX6_pass 84 = .ok (.aload_n 0, 1) := by decide +kernel
theorem dX6_pass_85 : decode cX6_pass 85 = .ok (.getfield 48, 3) := by decide +kernel
theorem dX6_pass_88 : decode cX6_pass 88 = .ok (.iload_n 1, 1) := by decide +kernel
theorem dX6_pass_89 : decode cX6_pass 89 = .ok (.iaload, 1) := by decide +kernel
theorem dX6_pass_90 : decode cX6_pass 90 = .ok (.aload_n 0, 1) := by decide +kernel
theorem dX6_pass_91 : decode cX6_pass 91 = .ok (.getfield 104, 3) := by decide +kernel
theorem dX6_pass_94 : decode cX6_pass 94 = .ok (.if_icmp .gt 27, 3) := by decide +kernel
theorem dX6_pass_97 : decode cX6_pass 97 = .ok (.iload 5, 2) := by decide +kernel
theorem dX6_pass_99 : decode cX6_pass 99 = .ok (.ifCond .ne 18, 3) := by decide +kernel
theorem dX6_pass_102 : decode cX6_pass 102 = .ok (.aload_n 0, 1) := by decide +kernel
theorem dX6_pass_103 : decode cX6_pass 103 = .ok (.getfield 13, 3) := by decide +kernel
theorem dX6_pass_106 : decode cX6_pass 106 = .ok (.bipush 12, 2) := by decide +kernel
theorem dX6_pass_108 : decode cX6_pass 108 = .ok (.iload_n 2, 1) := by decide +kernel
theorem dX6_pass_109 : decode cX6_pass 109 = .ok (.imul, 1) := by decide +kernel
theorem dX6_pass_110 : decode cX6_pass 110 = .ok (.iload 4, 2) := by decide +kernel
theorem dX6_pass_112 : decode cX6_pass 112 = .ok (.iadd, 1) := by decide +kernel
theorem dX6_pass_113 : decode cX6_pass 113 = .ok (.iaload, 1) := by decide +kernel
theorem dX6_pass_114 : decode cX6_pass 114 = .ok (.ifCond .le 7, 3) := by decide +kernel
theorem dX6_pass_117 : decode cX6_pass 117 = .ok (.iconst 1, 1) := by decide +kernel
theorem dX6_pass_118 : decode cX6_pass 118 = .ok (.goto 4, 3) := by decide +kernel
theorem dX6_pass_121 : decode cX6_pass 121 = .ok (.iconst 0, 1) := by decide +kernel
theorem dX6_pass_122 : decode cX6_pass 122 = .ok (.istore 6, 2) := by decide +kernel
theorem dX6_pass_124 : decode cX6_pass 124 = .ok (.aload_n 0, 1) := by decide +kernel
theorem dX6_pass_125 : decode cX6_pass 125 = .ok (.iload_n 3, 1) := by decide +kernel
theorem dX6_pass_126 : decode cX6_pass 126 = .ok (.ifCond .ne 7, 3) := by decide +kernel
theorem dX6_pass_129 : decode cX6_pass 129 = .ok (.iconst 1, 1) := by decide +kernel
theorem dX6_pass_130 : decode cX6_pass 130 = .ok (.goto 13, 3) := by decide +kernel
theorem dX6_pass_133 : decode cX6_pass 133 = .ok (.iload 6, 2) := by decide +kernel
theorem dX6_pass_135 : decode cX6_pass 135 = .ok (.ifCond .eq 7, 3) := by decide +kernel
theorem dX6_pass_138 : decode cX6_pass 138 = .ok (.iconst 0, 1) := by decide +kernel
theorem dX6_pass_139 : decode cX6_pass 139 = .ok (.goto 4, 3) := by decide +kernel
theorem dX6_pass_142 : decode cX6_pass 142 = .ok (.iconst 2, 1) := by decide +kernel
theorem dX6_pass_143 : decode cX6_pass 143 = .ok (.invokevirtual 70, 3) := by decide +kernel
theorem dX6_pass_146 : decode cX6_pass 146 = .ok (.ifCond .eq 5, 3) := by decide +kernel
theorem dX6_pass_149 : decode cX6_pass 149 = .ok (.iconst 0, 1) := by decide +kernel
theorem dX6_pass_150 : decode cX6_pass 150 = .ok (.ireturn, 1) := by decide +kernel
theorem dX6_pass_151 : decode cX6_pass 151 = .ok (.aload_n 0, 1) := by decide +kernel
theorem dX6_pass_152 : decode cX6_pass 152 = .ok (.dup, 1) := by decide +kernel
theorem dX6_pass_153 : decode cX6_pass 153 = .ok (.getfield 98, 3) := by decide +kernel
theorem dX6_pass_156 : decode cX6_pass 156 = .ok (.iconst 1, 1) := by decide +kernel
theorem dX6_pass_157 : decode cX6_pass 157 = .ok (.iadd, 1) := by decide +kernel
theorem dX6_pass_158 : decode cX6_pass 158 = .ok (.putfield 98, 3) := by decide +kernel
theorem dX6_pass_161 : decode cX6_pass 161 = .ok (.aload_n 0, 1) := by decide +kernel
theorem dX6_pass_162 : decode cX6_pass 162 = .ok (.getfield 35, 3) := by decide +kernel
theorem dX6_pass_165 : decode cX6_pass 165 = .ok (.iload_n 1, 1) := by decide +kernel
theorem dX6_pass_166 : decode cX6_pass 166 = .ok (.aload_n 0, 1) := by decide +kernel
theorem dX6_pass_167 : decode cX6_pass 167 = .ok (.getfield 98, 3) := by decide +kernel
theorem dX6_pass_170 : decode cX6_pass 170 = .ok (.iastore, 1) := by decide +kernel
theorem dX6_pass_171 : decode cX6_pass 171 = .ok (.aload_n 0, 1) := by decide +kernel
theorem dX6_pass_172 : decode cX6_pass 172 = .ok (.getfield 23, 3) := by decide +kernel
theorem dX6_pass_175 : decode cX6_pass 175 = .ok (.iload_n 1, 1) := by decide +kernel
theorem dX6_pass_176 : decode cX6_pass 176 = .ok (.iload_n 2, 1) := by decide +kernel
theorem dX6_pass_177 : decode cX6_pass 177 = .ok (.iastore, 1) := by decide +kernel
theorem dX6_pass_178 : decode cX6_pass 178 = .ok (.iload 5, 2) := by decide +kernel
theorem dX6_pass_180 : decode cX6_pass 180 = .ok (.ifCond .ne 39, 3) := by decide +kernel
theorem dX6_pass_183 : decode cX6_pass 183 = .ok (.aload_n 0, 1) := by decide +kernel
theorem dX6_pass_184 : decode cX6_pass 184 = .ok (.getfield 29, 3) := by decide +kernel
theorem dX6_pass_187 : decode cX6_pass 187 = .ok (.iload_n 1, 1) := by decide +kernel
theorem dX6_pass_188 : decode cX6_pass 188 = .ok (.dup2, 1) := by decide +kernel
theorem dX6_pass_189 : decode cX6_pass 189 = .ok (.iaload, 1) := by decide +kernel
theorem dX6_pass_190 : decode cX6_pass 190 = .ok (.iload 4, 2) := by decide +kernel
theorem dX6_pass_192 : decode cX6_pass 192 = .ok (.ifCond .ne 7, 3) := by decide +kernel
theorem dX6_pass_195 : decode cX6_pass 195 = .ok (.iconst 1, 1) := by decide +kernel
theorem dX6_pass_196 : decode cX6_pass 196 = .ok (.goto 4, 3) := by decide +kernel
theorem dX6_pass_199 : decode cX6_pass 199 = .ok (.iconst 0, 1) := by decide +kernel
theorem dX6_pass_200 : decode cX6_pass 200 = .ok (.iadd, 1) := by decide +kernel
theorem dX6_pass_201 : decode cX6_pass 201 = .ok (.iastore, 1) := by decide +kernel
theorem dX6_pass_202 : decode cX6_pass 202 = .ok (.aload_n 0, 1) := by decide +kernel
theorem dX6_pass_203 : decode cX6_pass 203 = .ok (.getfield 32, 3) := by decide +kernel
theorem dX6_pass_206 : decode cX6_pass 206 = .ok (.iload_n 1, 1) := by decide +kernel
theorem dX6_pass_207 : decode cX6_pass 207 = .ok (.dup2, 1) := by decide +kernel
theorem dX6_pass_208 : decode cX6_pass 208 = .ok (.iaload, 1) := by decide +kernel
theorem dX6_pass_209 : decode cX6_pass 209 = .ok (.iconst 1, 1) := by decide +kernel
theorem dX6_pass_210 : decode cX6_pass 210 = .ok (.iload 4, 2) := by decide +kernel
theorem dX6_pass_212 : decode cX6_pass 212 = .ok (.ishl, 1) := by decide +kernel
theorem dX6_pass_213 : decode cX6_pass 213 = .ok (.iconst (-1), 1) := by decide +kernel
theorem dX6_pass_214 : decode cX6_pass 214 = .ok (.ixor, 1) := by decide +kernel
theorem dX6_pass_215 : decode cX6_pass 215 = .ok (.iand, 1) := by decide +kernel
theorem dX6_pass_216 : decode cX6_pass 216 = .ok (.iastore, 1) := by decide +kernel
theorem dX6_pass_217 : decode cX6_pass 217 = .ok (.iconst 3, 1) := by decide +kernel
theorem dX6_pass_218 : decode cX6_pass 218 = .ok (.ireturn, 1) := by decide +kernel
theorem dX6_pass_219 : decode cX6_pass 219 = .ok (.iload_n 2, 1) := by decide +kernel
theorem dX6_pass_220 : decode cX6_pass 220 = .ok (.ifCond .ne 9, 3) := by decide +kernel
theorem dX6_pass_223 : decode cX6_pass 223 = .ok (.aload_n 0, 1) := by decide +kernel
theorem dX6_pass_224 : decode cX6_pass 224 = .ok (.iload_n 1, 1) := by decide +kernel
theorem dX6_pass_225 : decode cX6_pass 225 = .ok (.invokevirtual 107, 3) := by decide +kernel
theorem dX6_pass_228 : decode cX6_pass 228 = .ok (.ireturn, 1) := by decide +kernel
theorem dX6_pass_229 : decode cX6_pass 229 = .ok (.aload_n 0, 1) := by decide +kernel
theorem dX6_pass_230 : decode cX6_pass 230 = .ok (.getfield 32, 3) := by decide +kernel
theorem dX6_pass_233 : decode cX6_pass 233 = .ok (.iload_n 1, 1) := by decide +kernel
theorem dX6_pass_234 : decode cX6_pass 234 = .ok (.dup2, 1) := by decide +kernel
theorem dX6_pass_235 : decode cX6_pass 235 = .ok (.iaload, 1) := by decide +kernel
theorem dX6_pass_236 : decode cX6_pass 236 = .ok (.aload_n 0, 1) := by decide +kernel
theorem dX6_pass_237 : decode cX6_pass 237 = .ok (.getfield 29, 3) := by decide +kernel
theorem dX6_pass_240 : decode cX6_pass 240 = .ok (.iload_n 1, 1) := by decide +kernel
theorem dX6_pass_241 : decode cX6_pass 241 = .ok (.iaload, 1) := by decide +kernel
theorem dX6_pass_242 : decode cX6_pass 242 = .ok (.ifCond .ne 21, 3) := by decide +kernel
theorem dX6_pass_245 : decode cX6_pass 245 = .ok (.aload_n 0, 1) := by decide +kernel
theorem dX6_pass_246 : decode cX6_pass 246 = .ok (.getfield 74, 3) := by decide +kernel
theorem dX6_pass_249 : decode cX6_pass 249 = .ok (.iload_n 2, 1) := by decide +kernel
theorem dX6_pass_250 : decode cX6_pass 250 = .ok (.ishr, 1) := by decide +kernel
theorem dX6_pass_251 : decode cX6_pass 251 = .ok (.iconst 1, 1) := by decide +kernel
theorem dX6_pass_252 : decode cX6_pass 252 = .ok (.iand, 1) := by decide +kernel
theorem dX6_pass_253 : decode cX6_pass 253 = .ok (.iconst 1, 1) := by decide +kernel
theorem dX6_pass_254 : decode cX6_pass 254 = .ok (.if_icmp .ne 9, 3) := by decide +kernel
theorem dX6_pass_257 : decode cX6_pass 257 = .ok (.iconst 1, 1) := by decide +kernel
theorem dX6_pass_258 : decode cX6_pass 258 = .ok (.iload_n 2, 1) := by decide +kernel
theorem dX6_pass_259 : decode cX6_pass 259 = .ok (.ishl, 1) := by decide +kernel
theorem dX6_pass_260 : decode cX6_pass 260 = .ok (.goto 4, 3) := by decide +kernel
theorem dX6_pass_263 : decode cX6_pass 263 = .ok (.iconst 0, 1) := by decide +kernel
theorem dX6_pass_264 : decode cX6_pass 264 = .ok (.ior, 1) := by decide +kernel
theorem dX6_pass_265 : decode cX6_pass 265 = .ok (.iastore, 1) := by decide +kernel
theorem dX6_pass_266 : decode cX6_pass 266 = .ok (.iconst 0, 1) := by decide +kernel
theorem dX6_pass_267 : decode cX6_pass 267 = .ok (.ireturn, 1) := by decide +kernel
set_option maxRecDepth 20000 in
theorem ggX6_idle_X6_isIn : GoodIn wsX6_idle wsX6_isIn := goodIn_r _ [5] (by decide +kernel) (by decide +kernel)
set_option maxRecDepth 20000 in
theorem gX6_idle_X6_isIn : GoodIn wsX6_idle (va_wsS RX6 60 yX6_isIn wsX6_isIn) := goodIn_app (goodIn_of _ (by decide +kernel)) ggX6_idle_X6_isIn
set_option maxRecDepth 20000 in
theorem ggX6_idle_X6_fails : GoodIn wsX6_idle wsX6_fails := goodIn_r _ [9, 10, 11, 12, 13, 14, 15, 16, 17, 18, 19, 20, 21, 22, 23, 24, 25, 26, 27, 28, 29, 30, 31, 32, 33, 34, 35, 36] (by decide +kernel) (by decide +kernel)
set_option maxRecDepth 20000 in
theorem gX6_idle_X6_fails : GoodIn wsX6_idle (wsV RX6 70 RX6 yX6_fails wsX6_fails) := goodIn_app (goodIn_of _ (by decide +kernel)) ggX6_idle_X6_fails
theorem dX6_idle_0 : decode cX6_idle 0 = .ok (.aload_n 0, 1) := by decide +kernel
theorem dX6_idle_1 : decode cX6_idle 1 = .ok (.iload_n 1, 1) := by decide +kernel
theorem dX6_idle_2 : decode cX6_idle 2 = .ok (.iconst 1, 1) := by decide +kernel
theorem dX6_idle_3 : decode cX6_idle 3 = .ok (.bipush 100, 2) := by decide +kernel
theorem dX6_idle_5 : decode cX6_idle 5 = .ok (.invokestatic 60, 3) := by decide +kernel
theorem dX6_idle_8 : decode cX6_idle 8 = .ok (.ifCond .eq 7, 3) := by decide +kernel
theorem dX6_idle_11 : decode cX6_idle 11 = .ok (.iconst 0, 1) := by decide +kernel
theorem dX6_idle_12 : decode cX6_idle 12 = .ok (.goto 4, 3) := by decide +kernel
theorem dX6_idle_15 : decode cX6_idle 15 = .ok (.iconst 1, 1) := by decide +kernel
theorem dX6_idle_16 : decode cX6_idle 16 = .ok (.invokevirtual 70, 3) := by decide +kernel
theorem dX6_idle_19 : decode cX6_idle 19 = .ok (.ifCond .eq 5, 3) := by decide +kernel
theorem dX6_idle_22 : decode cX6_idle 22 = .ok (.iconst 0, 1) := by decide +kernel
theorem dX6_idle_23 : decode cX6_idle 23 = .ok (.ireturn, 1) := by decide +kernel
theorem dX6_idle_24 : decode cX6_idle 24 = .ok (.aload_n 0, 1) := by decide +kernel
theorem dX6_idle_25 : decode cX6_idle 25 = .ok (.dup, 1) := by decide +kernel
theorem dX6_idle_26 : decode cX6_idle 26 = .ok (.getfield 104, 3) := by decide +kernel
theorem dX6_idle_29 : decode cX6_idle 29 = .ok (.iload_n 1, 1) := by decide +kernel
theorem dX6_idle_30 : decode cX6_idle 30 = .ok (.iadd, 1) := by decide +kernel
theorem dX6_idle_31 : decode cX6_idle 31 = .ok (.putfield 104, 3) := by decide +kernel
theorem dX6_idle_34 : decode cX6_idle 34 = .ok (.aload_n 0, 1) := by decide +kernel
theorem dX6_idle_35 : decode cX6_idle 35 = .ok (.getfield 104, 3) := by decide +kernel
theorem dX6_idle_38 : decode cX6_idle 38 = .ok (.ireturn, 1) := by decide +kernel
set_option maxRecDepth 20000 in
theorem ggX6_of_X6_isKart : GoodIn wsX6_of wsX6_isKart := goodIn_r _ [6, 7, 8, 9, 5, 10, 16, 17, 18, 19, 20, 21, 22, 23, 24, 25, 26, 27, 28, 29, 30, 31, 32, 33, 34, 35, 36, 37, 38, 39, 40, 41] (by decide +kernel) (by decide +kernel)
set_option maxRecDepth 20000 in
theorem gX6_of_X6_isKart : GoodIn wsX6_of (wsV RX6 101 RX6 yX6_isKart wsX6_isKart) := goodIn_app (goodIn_of _ (by decide +kernel)) ggX6_of_X6_isKart
set_option maxRecDepth 20000 in
theorem ggX6_of_X6_fails : GoodIn wsX6_of wsX6_fails := goodIn_r _ [14, 15, 16, 17, 18, 19, 20, 21, 22, 23, 24, 25, 26, 27, 28, 29, 30, 31, 32, 33, 34, 35, 36, 37, 38, 39, 40, 41] (by decide +kernel) (by decide +kernel)
set_option maxRecDepth 20000 in
theorem gX6_of_X6_fails : GoodIn wsX6_of (wsV RX6 70 RX6 yX6_fails wsX6_fails) := goodIn_app (goodIn_of _ (by decide +kernel)) ggX6_of_X6_fails
theorem dX6_of_0 : decode cX6_of 0 = .ok (.aload_n 0, 1) := by decide +kernel
theorem dX6_of_1 : decode cX6_of 1 = .ok (.aload_n 0, 1) := by decide +kernel
theorem dX6_of_2 : decode cX6_of 2 = .ok (.iload_n 2, 1) := by decide +kernel
theorem dX6_of_3 : decode cX6_of 3 = .ok (.invokevirtual 101, 3) := by decide +kernel
theorem dX6_of_6 : decode cX6_of 6 = .ok (.ifCond .ne 7, 3) := by decide +kernel
theorem dX6_of_9 : decode cX6_of 9 = .ok (.iconst 1, 1) := by decide +kernel
theorem dX6_of_10 : decode cX6_of 10 = .ok (.goto 15, 3) := by decide +kernel
theorem dX6_of_13 : decode cX6_of 13 = .ok (.aload_n 0, 1) := by decide +kernel
theorem dX6_of_14 : decode cX6_of 14 = .ok (.getfield 87, 3) := by decide +kernel
theorem dX6_of_17 : decode cX6_of 17 = .ok (.ifCond .eq 7, 3) := by decide +kernel
theorem dX6_of_20 : decode cX6_of 20 = .ok (.iconst 0, 1) := by decide +kernel
theorem dX6_of_21 : decode cX6_of 21 = .ok (.goto 4, 3) := by decide +kernel
theorem dX6_of_24 : decode cX6_of 24 = .ok (.iconst 2, 1) := by decide +kernel
theorem dX6_of_25 : decode cX6_of 25 = .ok (.invokevirtual 70, 3) := by decide +kernel
theorem dX6_of_28 : decode cX6_of 28 = .ok (.ifCond .eq 7, 3) := by decide +kernel
theorem dX6_of_31 : decode cX6_of 31 = .ok (.iconst 0, 1) := by decide +kernel
theorem dX6_of_32 : decode cX6_of 32 = .ok (.goto 6, 3) := by decide +kernel
theorem dX6_of_35 : decode cX6_of 35 = .ok (.aload_n 1, 1) := by decide +kernel
theorem dX6_of_36 : decode cX6_of 36 = .ok (.iload_n 2, 1) := by decide +kernel
theorem dX6_of_37 : decode cX6_of 37 = .ok (.iaload, 1) := by decide +kernel
theorem dX6_of_38 : decode cX6_of 38 = .ok (.ireturn, 1) := by decide +kernel
set_option maxRecDepth 20000 in
theorem ggX6_gateOf_X6_of : GoodIn wsX6_gateOf wsX6_of := goodIn_r _ [6, 7, 8, 9, 10, 5, 11, 12, 13, 14, 15, 16, 17, 18, 19, 20, 21, 22, 23, 24, 25, 26, 27, 28, 29, 30, 31, 32, 33, 34, 35, 36, 37, 38, 39, 40, 41, 42, 43, 44, 45, 46] (by decide +kernel) (by decide +kernel)
set_option maxRecDepth 20000 in
theorem gX6_gateOf_X6_of : GoodIn wsX6_gateOf (wsV RX6 110 RX6 yX6_of wsX6_of) := goodIn_app (goodIn_of _ (by decide +kernel)) ggX6_gateOf_X6_of
theorem dX6_gateOf_0 : decode cX6_gateOf 0 = .ok (.aload_n 0, 1) := by decide +kernel
theorem dX6_gateOf_1 : decode cX6_gateOf 1 = .ok (.aload_n 0, 1) := by decide +kernel
theorem dX6_gateOf_2 : decode cX6_gateOf 2 = .ok (.getfield 23, 3) := by decide +kernel
theorem dX6_gateOf_5 : decode cX6_gateOf 5 = .ok (.iload_n 1, 1) := by decide +kernel
theorem dX6_gateOf_6 : decode cX6_gateOf 6 = .ok (.invokevirtual 110, 3) := by decide +kernel
theorem dX6_gateOf_9 : decode cX6_gateOf 9 = .ok (.ireturn, 1) := by decide +kernel
set_option maxRecDepth 20000 in
theorem ggX6_lapsOf_X6_of : GoodIn wsX6_lapsOf wsX6_of := goodIn_r _ [8, 9, 10, 11, 12, 7, 13, 14, 15, 16, 17, 18, 19, 20, 21, 2, 22, 23, 24, 25, 26, 27, 28, 29, 30, 31, 32, 33, 34, 35, 36, 37, 38, 39, 40, 41, 42, 43, 44, 45, 46, 47] (by decide +kernel) (by decide +kernel)
set_option maxRecDepth 20000 in
theorem gX6_lapsOf_X6_of : GoodIn wsX6_lapsOf (wsV RX6 110 RX6 yX6_of wsX6_of) := goodIn_app (goodIn_of _ (by decide +kernel)) ggX6_lapsOf_X6_of
theorem dX6_lapsOf_0 : decode cX6_lapsOf 0 = .ok (.aload_n 0, 1) := by decide +kernel
theorem dX6_lapsOf_1 : decode cX6_lapsOf 1 = .ok (.aload_n 0, 1) := by decide +kernel
theorem dX6_lapsOf_2 : decode cX6_lapsOf 2 = .ok (.getfield 26, 3) := by decide +kernel
theorem dX6_lapsOf_5 : decode cX6_lapsOf 5 = .ok (.iload_n 1, 1) := by decide +kernel
theorem dX6_lapsOf_6 : decode cX6_lapsOf 6 = .ok (.invokevirtual 110, 3) := by decide +kernel
theorem dX6_lapsOf_9 : decode cX6_lapsOf 9 = .ok (.aload_n 0, 1) := by decide +kernel
theorem dX6_lapsOf_10 : decode cX6_lapsOf 10 = .ok (.getfield 57, 3) := by decide +kernel
theorem dX6_lapsOf_13 : decode cX6_lapsOf 13 = .ok (.ifCond .ne 12, 3) := by decide +kernel
theorem dX6_lapsOf_16 : decode cX6_lapsOf 16 = .ok (.aload_n 0, 1) := by decide +kernel
theorem dX6_lapsOf_17 : decode cX6_lapsOf 17 = .ok (.getfield 29, 3) := by decide +kernel
theorem dX6_lapsOf_20 : decode cX6_lapsOf 20 = .ok (.iload_n 1, 1) := by decide +kernel
theorem dX6_lapsOf_21 : decode cX6_lapsOf 21 = .ok (.iaload, 1) := by decide +kernel
theorem dX6_lapsOf_22 : decode cX6_lapsOf 22 = .ok (.goto 4, 3) := by decide +kernel
theorem dX6_lapsOf_25 : decode cX6_lapsOf 25 = .ok (.iconst 0, 1) := by decide +kernel
theorem dX6_lapsOf_26 : decode cX6_lapsOf 26 = .ok (.isub, 1) := by decide +kernel
theorem dX6_lapsOf_27 : decode cX6_lapsOf 27 = .ok (.ireturn, 1) := by decide +kernel
set_option maxRecDepth 20000 in
theorem ggX6_missing_X6_isKart : GoodIn wsX6_missing wsX6_isKart := goodIn_r _ [8, 9, 10, 11, 7, 12, 18, 19, 20, 21, 22, 23, 24, 25, 26, 27, 28, 29, 30, 31, 32, 33, 34, 35, 36, 37, 38, 39, 40, 41, 42, 43] (by decide +kernel) (by decide +kernel)
set_option maxRecDepth 20000 in
theorem gX6_missing_X6_isKart : GoodIn wsX6_missing (wsV RX6 101 RX6 yX6_isKart wsX6_isKart) := goodIn_app (goodIn_of _ (by decide +kernel)) ggX6_missing_X6_isKart
set_option maxRecDepth 20000 in
theorem ggX6_missing_X6_fails : GoodIn wsX6_missing wsX6_fails := goodIn_r _ [16, 17, 18, 19, 20, 21, 22, 23, 24, 25, 26, 27, 28, 29, 30, 31, 32, 33, 34, 35, 36, 37, 38, 39, 40, 41, 42, 43] (by decide +kernel) (by decide +kernel)
set_option maxRecDepth 20000 in
theorem gX6_missing_X6_fails : GoodIn wsX6_missing (wsV RX6 70 RX6 yX6_fails wsX6_fails) := goodIn_app (goodIn_of _ (by decide +kernel)) ggX6_missing_X6_fails
theorem dX6_missing_0 : decode cX6_missing 0 = .ok (.aload_n 0, 1) := by decide +kernel
theorem dX6_missing_1 : decode cX6_missing 1 = .ok (.aload_n 0, 1) := by decide +kernel
theorem dX6_missing_2 : decode cX6_missing 2 = .ok (.iload_n 1, 1) := by decide +kernel
theorem dX6_missing_3 : decode cX6_missing 3 = .ok (.invokevirtual 101, 3) := by decide +kernel
theorem dX6_missing_6 : decode cX6_missing 6 = .ok (.ifCond .ne 7, 3) := by decide +kernel
theorem dX6_missing_9 : decode cX6_missing 9 = .ok (.iconst 1, 1) := by decide +kernel
theorem dX6_missing_10 : decode cX6_missing 10 = .ok (.goto 15, 3) := by decide +kernel
theorem dX6_missing_13 : decode cX6_missing 13 = .ok (.aload_n 0, 1) := by decide +kernel
theorem dX6_missing_14 : decode cX6_missing 14 = .ok (.getfield 87, 3) := by decide +kernel
theorem dX6_missing_17 : decode cX6_missing 17 = .ok (.ifCond .eq 7, 3) := by decide +kernel
theorem dX6_missing_20 : decode cX6_missing 20 = .ok (.iconst 0, 1) := by decide +kernel
theorem dX6_missing_21 : decode cX6_missing 21 = .ok (.goto 4, 3) := by decide +kernel
theorem dX6_missing_24 : decode cX6_missing 24 = .ok (.iconst 2, 1) := by decide +kernel
theorem dX6_missing_25 : decode cX6_missing 25 = .ok (.invokevirtual 70, 3) := by decide +kernel
theorem dX6_missing_28 : decode cX6_missing 28 = .ok (.ifCond .eq 7, 3) := by decide +kernel
theorem dX6_missing_31 : decode cX6_missing 31 = .ok (.iconst 0, 1) := by decide +kernel
theorem dX6_missing_32 : decode cX6_missing 32 = .ok (.goto 16, 3) := by decide +kernel
theorem dX6_missing_35 : decode cX6_missing 35 = .ok (.aload_n 0, 1) := by decide +kernel
theorem dX6_missing_36 : decode cX6_missing 36 = .ok (.getfield 74, 3) := by decide +kernel
theorem dX6_missing_39 : decode cX6_missing 39 = .ok (.aload_n 0, 1) := by decide +kernel
theorem dX6_missing_40 : decode cX6_missing 40 = .ok (.getfield 32, 3) := by decide +kernel
theorem dX6_missing_43 : decode cX6_missing 43 = .ok (.iload_n 1, 1) := by decide +kernel
theorem dX6_missing_44 : decode cX6_missing 44 = .ok (.iaload, 1) := by decide +kernel
theorem dX6_missing_45 : decode cX6_missing 45 = .ok (.iconst (-1), 1) := by decide +kernel
theorem dX6_missing_46 : decode cX6_missing 46 = .ok (.ixor, 1) := by decide +kernel
theorem dX6_missing_47 : decode cX6_missing 47 = .ok (.iand, 1) := by decide +kernel
theorem dX6_missing_48 : decode cX6_missing 48 = .ok (.ireturn, 1) := by decide +kernel
theorem dX6_isAhead_0 : decode cX6_isAhead 0 = .ok (.aload_n 0, 1) := by decide +kernel
theorem dX6_isAhead_1 : decode cX6_isAhead 1 = .ok (.getfield 38, 3) := by decide +kernel
theorem dX6_isAhead_4 : decode cX6_isAhead 4 = .ok (.iload_n 1, 1) := by decide +kernel
theorem dX6_isAhead_5 : decode cX6_isAhead 5 = .ok (.iaload, 1) := by decide +kernel
theorem dX6_isAhead_6 : decode cX6_isAhead 6 = .ok (.ifCond .gt 12, 3) := by decide +kernel
theorem dX6_isAhead_9 : decode cX6_isAhead 9 = .ok (.aload_n 0, 1) := by decide +kernel
theorem dX6_isAhead_10 : decode cX6_isAhead 10 = .ok (.getfield 38, 3) := by decide +kernel
theorem dX6_isAhead_13 : decode cX6_isAhead 13 = .ok (.iload_n 2, 1) := by decide +kernel
theorem dX6_isAhead_14 : decode cX6_isAhead 14 = .ok (.iaload, 1) := by decide +kernel
theorem dX6_isAhead_15 : decode cX6_isAhead 15 = .ok (.ifCond .le 42, 3) := by decide +kernel
theorem dX6_isAhead_18 : decode cX6_isAhead 18 = .ok (.aload_n 0, 1) := by decide +kernel
theorem dX6_isAhead_19 : decode cX6_isAhead 19 = .ok (.getfield 38, 3) := by decide +kernel
theorem dX6_isAhead_22 : decode cX6_isAhead 22 = .ok (.iload_n 1, 1) := by decide +kernel
theorem dX6_isAhead_23 : decode cX6_isAhead 23 = .ok (.iaload, 1) := by decide +kernel
theorem dX6_isAhead_24 : decode cX6_isAhead 24 = .ok (.ifCond .le 31, 3) := by decide +kernel
theorem dX6_isAhead_27 : decode cX6_isAhead 27 = .ok (.aload_n 0, 1) := by decide +kernel
theorem dX6_isAhead_28 : decode cX6_isAhead 28 = .ok (.getfield 38, 3) := by decide +kernel
theorem dX6_isAhead_31 : decode cX6_isAhead 31 = .ok (.iload_n 2, 1) := by decide +kernel
theorem dX6_isAhead_32 : decode cX6_isAhead 32 = .ok (.iaload, 1) := by decide +kernel
theorem dX6_isAhead_33 : decode cX6_isAhead 33 = .ok (.ifCond .eq 18, 3) := by decide +kernel
theorem dX6_isAhead_36 : decode cX6_isAhead 36 = .ok (.aload_n 0, 1) := by decide +kernel
theorem dX6_isAhead_37 : decode cX6_isAhead 37 = .ok (.getfield 38, 3) := by decide +kernel
theorem dX6_isAhead_40 : decode cX6_isAhead 40 = .ok (.iload_n 1, 1) := by decide +kernel
theorem dX6_isAhead_41 : decode cX6_isAhead 41 = .ok (.iaload, 1) := by decide +kernel
theorem dX6_isAhead_42 : decode cX6_isAhead 42 = .ok (.aload_n 0, 1) := by decide +kernel
theorem dX6_isAhead_43 : decode cX6_isAhead 43 = .ok (.getfield 38, 3) := by decide +kernel
theorem dX6_isAhead_46 : decode cX6_isAhead 46 = .ok (.iload_n 2, 1) := by decide +kernel
theorem dX6_isAhead_47 : decode cX6_isAhead 47 = .ok (.iaload, 1) := by decide +kernel
theorem dX6_isAhead_48 : decode cX6_isAhead 48 = .ok (.if_icmp .ge 7, 3) := by decide +kernel
theorem dX6_isAhead_51 : decode cX6_isAhead 51 = .ok (.iconst 1, 1) := by decide +kernel
theorem dX6_isAhead_52 : decode cX6_isAhead 52 = .ok (.goto 4, 3) := by decide +kernel
theorem dX6_isAhead_55 : decode cX6_isAhead 55 = .ok (.iconst 0, 1) := by decide +kernel
theorem dX6_isAhead_56 : decode cX6_isAhead 56 = .ok (.ireturn, 1) := by decide +kernel
theorem dX6_isAhead_57 : decode cX6_isAhead 57 = .ok (.aload_n 0, 1) := by decide +kernel
theorem dX6_isAhead_58 : decode cX6_isAhead 58 = .ok (.getfield 26, 3) := by decide +kernel
theorem dX6_isAhead_61 : decode cX6_isAhead 61 = .ok (.iload_n 1, 1) := by decide +kernel
theorem dX6_isAhead_62 : decode cX6_isAhead 62 = .ok (.iaload, 1) := by decide +kernel
theorem dX6_isAhead_63 : decode cX6_isAhead 63 = .ok (.aload_n 0, 1) := by decide +kernel
theorem dX6_isAhead_64 : decode cX6_isAhead 64 = .ok (.getfield 29, 3) := by decide +kernel
theorem dX6_isAhead_67 : decode cX6_isAhead 67 = .ok (.iload_n 1, 1) := by decide +kernel
theorem dX6_isAhead_68 : decode cX6_isAhead 68 = .ok (.iaload, 1) := by decide +kernel
theorem dX6_isAhead_69 : decode cX6_isAhead 69 = .ok (.isub, 1) := by decide +kernel
theorem dX6_isAhead_70 : decode cX6_isAhead 70 = .ok (.istore_n 3, 1) := by decide +kernel
theorem dX6_isAhead_71 : decode cX6_isAhead 71 = .ok (.aload_n 0, 1) := by decide +kernel
theorem dX6_isAhead_72 : decode cX6_isAhead 72 = .ok (.getfield 26, 3) := by decide +kernel
theorem dX6_isAhead_75 : decode cX6_isAhead 75 = .ok (.iload_n 2, 1) := by decide +kernel
theorem dX6_isAhead_76 : decode cX6_isAhead 76 = .ok (.iaload, 1) := by decide +kernel
theorem dX6_isAhead_77 : decode cX6_isAhead 77 = .ok (.aload_n 0, 1) := by decide +kernel
theorem dX6_isAhead_78 : decode cX6_isAhead 78 = .ok (.getfield 29, 3) := by decide +kernel
theorem dX6_isAhead_81 : decode cX6_isAhead 81 = .ok (.iload_n 2, 1) := by decide +kernel
theorem dX6_isAhead_82 : decode cX6_isAhead 82 = .ok (.iaload, 1) := by decide +kernel
theorem dX6_isAhead_83 : decode cX6_isAhead 83 = .ok (.isub, 1) := by decide +kernel
theorem dX6_isAhead_84 : decode cX6_isAhead 84 = .ok (.istore 4, 2) := by decide +kernel
theorem dX6_isAhead_86 : decode cX6_isAhead 86 = .ok (.iload_n 3, 1) := by decide +kernel
theorem dX6_isAhead_87 : decode cX6_isAhead 87 = .ok (.iload 4, 2) := by decide +kernel
theorem dX6_isAhead_89 : decode cX6_isAhead 89 = .ok (.if_icmp .eq 15, 3) := by decide +kernel
theorem dX6_isAhead_92 : decode cX6_isAhead 92 = .ok (.iload_n 3, 1) := by decide +kernel
theorem dX6_isAhead_93 : decode cX6_isAhead 93 = .ok (.iload 4, 2) := by decide +kernel
theorem dX6_isAhead_95 : decode cX6_isAhead 95 = .ok (.if_icmp .le 7, 3) := by decide +kernel
theorem dX6_isAhead_98 : decode cX6_isAhead 98 = .ok (.iconst 1, 1) := by decide +kernel
theorem dX6_isAhead_99 : decode cX6_isAhead 99 = .ok (.goto 4, 3) := by decide +kernel
theorem dX6_isAhead_102 : decode cX6_isAhead 102 = .ok (.iconst 0, 1) := by decide +kernel
theorem dX6_isAhead_103 : decode cX6_isAhead 103 = .ok (.ireturn, 1) := by decide +kernel
theorem dX6_isAhead_104 : decode cX6_isAhead 104 = .ok (.aload_n 0, 1) := by decide +kernel
theorem dX6_isAhead_105 : decode cX6_isAhead 105 = .ok (.getfield 17, 3) := by decide +kernel
theorem dX6_isAhead_108 : decode cX6_isAhead 108 = .ok (.aload_n 0, 1) := by decide +kernel
theorem dX6_isAhead_109 : decode cX6_isAhead 109 = .ok (.getfield 23, 3) := by decide +kernel
theorem dX6_isAhead_112 : decode cX6_isAhead 112 = .ok (.iload_n 1, 1) := by decide +kernel
theorem dX6_isAhead_113 : decode cX6_isAhead 113 = .ok (.iaload, 1) := by decide +kernel
theorem dX6_isAhead_114 : decode cX6_isAhead 114 = .ok (.iaload, 1) := by decide +kernel
theorem dX6_isAhead_115 : decode cX6_isAhead 115 = .ok (.istore 5, 2) := by decide +kernel
theorem dX6_isAhead_117 : decode cX6_isAhead 117 = .ok (.aload_n 0, 1) := by decide +kernel
theorem dX6_isAhead_118 : decode cX6_isAhead 118 = .ok (.getfield 17, 3) := by decide +kernel
theorem dX6_isAhead_121 : decode cX6_isAhead 121 = .ok (.aload_n 0, 1) := by decide +kernel
theorem dX6_isAhead_122 : decode cX6_isAhead 122 = .ok (.getfield 23, 3) := by decide +kernel
theorem dX6_isAhead_125 : decode cX6_isAhead 125 = .ok (.iload_n 2, 1) := by decide +kernel
theorem dX6_isAhead_126 : decode cX6_isAhead 126 = .ok (.iaload, 1) := by decide +kernel
theorem dX6_isAhead_127 : decode cX6_isAhead 127 = .ok (.iaload, 1) := by decide +kernel
theorem dX6_isAhead_128 : decode cX6_isAhead 128 = .ok (.istore 6, 2) := by decide +kernel
theorem dX6_isAhead_130 : decode cX6_isAhead 130 = .ok (.iload 5, 2) := by decide +kernel
theorem dX6_isAhead_132 : decode cX6_isAhead 132 = .ok (.iload 6, 2) := by decide +kernel
theorem dX6_isAhead_134 : decode cX6_isAhead 134 = .ok (.if_icmp .eq 16, 3) := by decide +kernel
theorem dX6_isAhead_137 : decode cX6_isAhead 137 = .ok (.iload 5, 2) := by decide +kernel
theorem dX6_isAhead_139 : decode cX6_isAhead 139 = .ok (.iload 6, 2) := by decide +kernel
theorem dX6_isAhead_141 : decode cX6_isAhead 141 = .ok (.if_icmp .ge 7, 3) := by decide +kernel
theorem dX6_isAhead_144 : decode cX6_isAhead 144 = .ok (.iconst 1, 1) := by decide +kernel
theorem dX6_isAhead_145 : decode cX6_isAhead 145 = .ok (.goto 4, 3) := by decide +kernel
theorem dX6_isAhead_148 : decode cX6_isAhead 148 = .ok (.iconst 0, 1) := by decide +kernel
theorem dX6_isAhead_149 : decode cX6_isAhead 149 = .ok (.ireturn, 1) := by decide +kernel
theorem dX6_isAhead_150 : decode cX6_isAhead 150 = .ok (.aload_n 0, 1) := by decide +kernel
theorem dX6_isAhead_151 : decode cX6_isAhead 151 = .ok (.getfield 35, 3) := by decide +kernel
theorem dX6_isAhead_154 : decode cX6_isAhead 154 = .ok (.iload_n 1, 1) := by decide +kernel
theorem dX6_isAhead_155 : decode cX6_isAhead 155 = .ok (.iaload, 1) := by decide +kernel
theorem dX6_isAhead_156 : decode cX6_isAhead 156 = .ok (.aload_n 0, 1) := by decide +kernel
theorem dX6_isAhead_157 : decode cX6_isAhead 157 = .ok (.getfield 35, 3) := by decide +kernel
theorem dX6_isAhead_160 : decode cX6_isAhead 160 = .ok (.iload_n 2, 1) := by decide +kernel
theorem dX6_isAhead_161 : decode cX6_isAhead 161 = .ok (.iaload, 1) := by decide +kernel
theorem dX6_isAhead_162 : decode cX6_isAhead 162 = .ok (.if_icmp .lt 23, 3) := by decide +kernel
theorem dX6_isAhead_165 : decode cX6_isAhead 165 = .ok (.aload_n 0, 1) := by decide +kernel
theorem dX6_isAhead_166 : decode cX6_isAhead 166 = .ok (.getfield 35, 3) := by decide +kernel
theorem dX6_isAhead_169 : decode cX6_isAhead 169 = .ok (.iload_n 1, 1) := by decide +kernel
theorem dX6_isAhead_170 : decode cX6_isAhead 170 = .ok (.iaload, 1) := by decide +kernel
theorem dX6_isAhead_171 : decode cX6_isAhead 171 = .ok (.aload_n 0, 1) := by decide +kernel
theorem dX6_isAhead_172 : decode cX6_isAhead 172 = .ok (.getfield 35, 3) := by decide +kernel
theorem dX6_isAhead_175 : decode cX6_isAhead 175 = .ok (.iload_n 2, 1) := by decide +kernel
theorem dX6_isAhead_176 : decode cX6_isAhead 176 = .ok (.iaload, 1) := by decide +kernel
theorem dX6_isAhead_177 : decode cX6_isAhead 177 = .ok (.if_icmp .ne 12, 3) := by decide +kernel
theorem dX6_isAhead_180 : decode cX6_isAhead 180 = .ok (.iload_n 1, 1) := by decide +kernel
theorem dX6_isAhead_181 : decode cX6_isAhead 181 = .ok (.iload_n 2, 1) := by decide +kernel
theorem dX6_isAhead_182 : decode cX6_isAhead 182 = .ok (.if_icmp .ge 7, 3) := by decide +kernel
theorem dX6_isAhead_185 : decode cX6_isAhead 185 = .ok (.iconst 1, 1) := by decide +kernel
theorem dX6_isAhead_186 : decode cX6_isAhead 186 = .ok (.goto 4, 3) := by decide +kernel
theorem dX6_isAhead_189 : decode cX6_isAhead 189 = .ok (.iconst 0, 1) := by decide +kernel
theorem dX6_isAhead_190 : decode cX6_isAhead 190 = .ok (.ireturn, 1) := by decide +kernel
set_option maxRecDepth 20000 in
theorem ggX6_ranked_X6_isAhead : GoodIn wsX6_ranked wsX6_isAhead := goodIn_r _ [6, 7, 8, 9, 10, 11, 12, 13, 14, 15, 16, 17, 18, 19, 20, 21, 22, 23, 24, 25, 26, 27, 28, 29, 30, 31, 32, 33, 34, 35, 36, 37, 38] (by decide +kernel) (by decide +kernel)
set_option maxRecDepth 20000 in
theorem gX6_ranked_X6_isAhead : GoodIn wsX6_ranked (wsV RX6 114 RX6 yX6_isAhead wsX6_isAhead) := goodIn_app (goodIn_of _ (by decide +kernel)) ggX6_ranked_X6_isAhead
theorem dX6_ranked_0 : decode cX6_ranked 0 = .ok (.iconst 0, 1) := by decide +kernel
theorem dX6_ranked_1 : decode cX6_ranked 1 = .ok (.istore_n 2, 1) := by decide +kernel
theorem dX6_ranked_2 : decode cX6_ranked 2 = .ok (.iconst 0, 1) := by decide +kernel
theorem dX6_ranked_3 : decode cX6_ranked 3 = .ok (.istore_n 3, 1) := by decide +kernel
theorem dX6_ranked_4 : decode cX6_ranked 4 = .ok (.iload_n 3, 1) := by decide +kernel
theorem dX6_ranked_5 : decode cX6_ranked 5 = .ok (.aload_n 0, 1) := by decide +kernel
theorem dX6_ranked_6 : decode cX6_ranked 6 = .ok (.getfield 64, 3) := by decide +kernel
theorem dX6_ranked_9 : decode cX6_ranked 9 = .ok (.if_icmp .ge 31, 3) := by decide +kernel
theorem dX6_ranked_12 : decode cX6_ranked 12 = .ok (.iload_n 2, 1) := by decide +kernel
theorem dX6_ranked_13 : decode cX6_ranked 13 = .ok (.iload_n 3, 1) := by decide +kernel
theorem dX6_ranked_14 : decode cX6_ranked 14 = .ok (.iload_n 1, 1) := by decide +kernel
theorem dX6_ranked_15 : decode cX6_ranked 15 = .ok (.if_icmp .eq 16, 3) := by decide +kernel
theorem dX6_ranked_18 : decode cX6_ranked 18 = .ok (.aload_n 0, 1) := by decide +kernel
theorem dX6_ranked_19 : decode cX6_ranked 19 = .ok (.iload_n 3, 1) := by decide +kernel
theorem dX6_ranked_20 : decode cX6_ranked 20 = .ok (.iload_n 1, 1) := by decide +kernel
theorem dX6_ranked_21 : decode cX6_ranked 21 = .ok (.invokevirtual 114, 3) := by decide +kernel
theorem dX6_ranked_24 : decode cX6_ranked 24 = .ok (.ifCond .eq 7, 3) := by decide +kernel
theorem dX6_ranked_27 : decode cX6_ranked 27 = .ok (.iconst 1, 1) := by decide +kernel
theorem dX6_ranked_28 : decode cX6_ranked 28 = .ok (.goto 4, 3) := by decide +kernel
theorem dX6_ranked_31 : decode cX6_ranked 31 = .ok (.iconst 0, 1) := by decide +kernel
theorem dX6_ranked_32 : decode cX6_ranked 32 = .ok (.iadd, 1) := by decide +kernel
theorem dX6_ranked_33 : decode cX6_ranked 33 = .ok (.istore_n 2, 1) := by decide +kernel
theorem dX6_ranked_34 : decode cX6_ranked 34 = .ok (.iinc 3 1, 3) := by decide +kernel
theorem dX6_ranked_37 : decode cX6_ranked 37 = .ok (.goto (-33), 3) := by decide +kernel
theorem dX6_ranked_40 : decode cX6_ranked 40 = .ok (.iload_n 2, 1) := by decide +kernel
theorem dX6_ranked_41 : decode cX6_ranked 41 = .ok (.ireturn, 1) := by decide +kernel
set_option maxRecDepth 20000 in
theorem ggX6_rank_X6_isKart : GoodIn wsX6_rank wsX6_isKart := goodIn_r _ [6, 7, 8, 9, 5, 10, 30, 31, 32, 33, 34, 35, 36, 37, 38, 39, 40, 41, 42, 43, 44, 45, 46, 47, 48, 49, 50, 51, 52, 53, 54, 55] (by decide +kernel) (by decide +kernel)
set_option maxRecDepth 20000 in
theorem gX6_rank_X6_isKart : GoodIn wsX6_rank (wsV RX6 101 RX6 yX6_isKart wsX6_isKart) := goodIn_app (goodIn_of _ (by decide +kernel)) ggX6_rank_X6_isKart
set_option maxRecDepth 20000 in
theorem ggX6_rank_X6_fails : GoodIn wsX6_rank wsX6_fails := goodIn_r _ [14, 15, 30, 31, 32, 33, 34, 35, 36, 37, 38, 39, 40, 41, 42, 43, 44, 45, 46, 47, 48, 49, 50, 51, 52, 53, 54, 55] (by decide +kernel) (by decide +kernel)
set_option maxRecDepth 20000 in
theorem gX6_rank_X6_fails : GoodIn wsX6_rank (wsV RX6 70 RX6 yX6_fails wsX6_fails) := goodIn_app (goodIn_of _ (by decide +kernel)) ggX6_rank_X6_fails
set_option maxRecDepth 20000 in
theorem ggX6_rank_X6_ranked : GoodIn wsX6_rank wsX6_ranked := goodIn_r _ [19, 7, 20, 21, 22, 5, 23, 24, 25, 26, 27, 28, 29, 30, 31, 32, 33, 34, 35, 36, 37, 38, 39, 40, 41, 42, 43, 44, 45, 46, 47, 48, 49, 50, 51, 52, 53, 54, 55] (by decide +kernel) (by decide +kernel)
set_option maxRecDepth 20000 in
theorem gX6_rank_X6_ranked : GoodIn wsX6_rank (wsV RX6 118 RX6 yX6_ranked wsX6_ranked) := goodIn_app (goodIn_of _ (by decide +kernel)) ggX6_rank_X6_ranked
theorem dX6_rank_0 : decode cX6_rank 0 = .ok (.aload_n 0, 1) := by decide +kernel
theorem dX6_rank_1 : decode cX6_rank 1 = .ok (.aload_n 0, 1) := by decide +kernel
theorem dX6_rank_2 : decode cX6_rank 2 = .ok (.iload_n 1, 1) := by decide +kernel
theorem dX6_rank_3 : decode cX6_rank 3 = .ok (.invokevirtual 101, 3) := by decide +kernel
theorem dX6_rank_6 : decode cX6_rank 6 = .ok (.ifCond .ne 7, 3) := by decide +kernel
theorem dX6_rank_9 : decode cX6_rank 9 = .ok (.iconst 1, 1) := by decide +kernel
theorem dX6_rank_10 : decode cX6_rank 10 = .ok (.goto 15, 3) := by decide +kernel
theorem dX6_rank_13 : decode cX6_rank 13 = .ok (.aload_n 0, 1) := by decide +kernel
theorem dX6_rank_14 : decode cX6_rank 14 = .ok (.getfield 87, 3) := by decide +kernel
theorem dX6_rank_17 : decode cX6_rank 17 = .ok (.ifCond .eq 7, 3) := by decide +kernel
theorem dX6_rank_20 : decode cX6_rank 20 = .ok (.iconst 0, 1) := by decide +kernel
theorem dX6_rank_21 : decode cX6_rank 21 = .ok (.goto 4, 3) := by decide +kernel
theorem dX6_rank_24 : decode cX6_rank 24 = .ok (.iconst 2, 1) := by decide +kernel
theorem dX6_rank_25 : decode cX6_rank 25 = .ok (.invokevirtual 70, 3) := by decide +kernel
theorem dX6_rank_28 : decode cX6_rank 28 = .ok (.ifCond .eq 7, 3) := by decide +kernel
theorem dX6_rank_31 : decode cX6_rank 31 = .ok (.iconst 0, 1) := by decide +kernel
theorem dX6_rank_32 : decode cX6_rank 32 = .ok (.goto 8, 3) := by decide +kernel
theorem dX6_rank_35 : decode cX6_rank 35 = .ok (.aload_n 0, 1) := by decide +kernel
theorem dX6_rank_36 : decode cX6_rank 36 = .ok (.iload_n 1, 1) := by decide +kernel
theorem dX6_rank_37 : decode cX6_rank 37 = .ok (.invokevirtual 118, 3) := by decide +kernel
theorem dX6_rank_40 : decode cX6_rank 40 = .ok (.ireturn, 1) := by decide +kernel
set_option maxRecDepth 20000 in
theorem ggX6_rankByRecord_X6_isKart : GoodIn wsX6_rankByRecord wsX6_isKart := goodIn_r _ [6, 7, 8, 9, 5, 10, 30, 31, 32, 33, 34, 35, 36, 37, 38, 39, 40, 41, 42, 43, 44, 45, 46, 47, 48, 49, 50, 51, 52, 53, 54, 55] (by decide +kernel) (by decide +kernel)
set_option maxRecDepth 20000 in
theorem gX6_rankByRecord_X6_isKart : GoodIn wsX6_rankByRecord (wsV RX6 101 RX6 yX6_isKart wsX6_isKart) := goodIn_app (goodIn_of _ (by decide +kernel)) ggX6_rankByRecord_X6_isKart
set_option maxRecDepth 20000 in
theorem ggX6_rankByRecord_X6_fails : GoodIn wsX6_rankByRecord wsX6_fails := goodIn_r _ [14, 15, 30, 31, 32, 33, 34, 35, 36, 37, 38, 39, 40, 41, 42, 43, 44, 45, 46, 47, 48, 49, 50, 51, 52, 53, 54, 55] (by decide +kernel) (by decide +kernel)
set_option maxRecDepth 20000 in
theorem gX6_rankByRecord_X6_fails : GoodIn wsX6_rankByRecord (wsV RX6 70 RX6 yX6_fails wsX6_fails) := goodIn_app (goodIn_of _ (by decide +kernel)) ggX6_rankByRecord_X6_fails
set_option maxRecDepth 20000 in
theorem ggX6_rankByRecord_X6_ranked : GoodIn wsX6_rankByRecord wsX6_ranked := goodIn_r _ [19, 7, 20, 21, 22, 5, 23, 24, 25, 26, 27, 28, 29, 30, 31, 32, 33, 34, 35, 36, 37, 38, 39, 40, 41, 42, 43, 44, 45, 46, 47, 48, 49, 50, 51, 52, 53, 54, 55] (by decide +kernel) (by decide +kernel)
set_option maxRecDepth 20000 in
theorem gX6_rankByRecord_X6_ranked : GoodIn wsX6_rankByRecord (wsV RX6 118 RX6 yX6_ranked wsX6_ranked) := goodIn_app (goodIn_of _ (by decide +kernel)) ggX6_rankByRecord_X6_ranked
theorem dX6_rankByRecord_0 : decode cX6_rankByRecord 0 = .ok (.aload_n 0, 1) := by decide +kernel
theorem dX6_rankByRecord_1 : decode cX6_rankByRecord 1 = .ok (.aload_n 0, 1) := by decide +kernel
theorem dX6_rankByRecord_2 : decode cX6_rankByRecord 2 = .ok (.iload_n 1, 1) := by decide +kernel
theorem dX6_rankByRecord_3 : decode cX6_rankByRecord 3 = .ok (.invokevirtual 101, 3) := by decide +kernel
theorem dX6_rankByRecord_6 : decode cX6_rankByRecord 6 = .ok (.ifCond .ne 7, 3) := by decide +kernel
theorem dX6_rankByRecord_9 : decode cX6_rankByRecord 9 = .ok (.iconst 1, 1) := by decide +kernel
theorem dX6_rankByRecord_10 : decode cX6_rankByRecord 10 = .ok (.goto 15, 3) := by decide +kernel
theorem dX6_rankByRecord_13 : decode cX6_rankByRecord 13 = .ok (.aload_n 0, 1) := by decide +kernel
theorem dX6_rankByRecord_14 : decode cX6_rankByRecord 14 = .ok (.getfield 87, 3) := by decide +kernel
theorem dX6_rankByRecord_17 : decode cX6_rankByRecord 17 = .ok (.ifCond .eq 7, 3) := by decide +kernel
theorem dX6_rankByRecord_20 : decode cX6_rankByRecord 20 = .ok (.iconst 0, 1) := by decide +kernel
theorem dX6_rankByRecord_21 : decode cX6_rankByRecord 21 = .ok (.goto 4, 3) := by decide +kernel
theorem dX6_rankByRecord_24 : decode cX6_rankByRecord 24 = .ok (.iconst 2, 1) := by decide +kernel
theorem dX6_rankByRecord_25 : decode cX6_rankByRecord 25 = .ok (.invokevirtual 70, 3) := by decide +kernel
theorem dX6_rankByRecord_28 : decode cX6_rankByRecord 28 = .ok (.ifCond .eq 7, 3) := by decide +kernel
theorem dX6_rankByRecord_31 : decode cX6_rankByRecord 31 = .ok (.iconst 0, 1) := by decide +kernel
theorem dX6_rankByRecord_32 : decode cX6_rankByRecord 32 = .ok (.goto 8, 3) := by decide +kernel
theorem dX6_rankByRecord_35 : decode cX6_rankByRecord 35 = .ok (.aload_n 0, 1) := by decide +kernel
theorem dX6_rankByRecord_36 : decode cX6_rankByRecord 36 = .ok (.iload_n 1, 1) := by decide +kernel
theorem dX6_rankByRecord_37 : decode cX6_rankByRecord 37 = .ok (.invokevirtual 118, 3) := by decide +kernel
theorem dX6_rankByRecord_40 : decode cX6_rankByRecord 40 = .ok (.ireturn, 1) := by decide +kernel
theorem dX6_done_0 : decode cX6_done 0 = .ok (.aload_n 0, 1) := by decide +kernel
theorem dX6_done_1 : decode cX6_done 1 = .ok (.getfield 26, 3) := by decide +kernel
theorem dX6_done_4 : decode cX6_done 4 = .ok (.iload_n 1, 1) := by decide +kernel
theorem dX6_done_5 : decode cX6_done 5 = .ok (.iaload, 1) := by decide +kernel
theorem dX6_done_6 : decode cX6_done 6 = .ok (.aload_n 0, 1) := by decide +kernel
theorem dX6_done_7 : decode cX6_done 7 = .ok (.getfield 29, 3) := by decide +kernel
theorem dX6_done_10 : decode cX6_done 10 = .ok (.iload_n 1, 1) := by decide +kernel
theorem dX6_done_11 : decode cX6_done 11 = .ok (.iaload, 1) := by decide +kernel
theorem dX6_done_12 : decode cX6_done 12 = .ok (.isub, 1) := by decide +kernel
theorem dX6_done_13 : decode cX6_done 13 = .ok (.aload_n 0, 1) := by decide +kernel
theorem dX6_done_14 : decode cX6_done 14 = .ok (.getfield 17, 3) := by decide +kernel
theorem dX6_done_17 : decode cX6_done 17 = .ok (.iconst 0, 1) := by decide +kernel
theorem dX6_done_18 : decode cX6_done 18 = .ok (.iaload, 1) := by decide +kernel
theorem dX6_done_19 : decode cX6_done 19 = .ok (.imul, 1) := by decide +kernel
theorem dX6_done_20 : decode cX6_done 20 = .ok (.aload_n 0, 1) := by decide +kernel
theorem dX6_done_21 : decode cX6_done 21 = .ok (.getfield 23, 3) := by decide +kernel
theorem dX6_done_24 : decode cX6_done 24 = .ok (.iload_n 1, 1) := by decide +kernel
theorem dX6_done_25 : decode cX6_done 25 = .ok (.iaload, 1) := by decide +kernel
theorem dX6_done_26 : decode cX6_done 26 = .ok (.ifCond .ne 7, 3) := by decide +kernel
theorem dX6_done_29 : decode cX6_done 29 = .ok (.iconst 0, 1) := by decide +kernel
theorem dX6_done_30 : decode cX6_done 30 = .ok (.goto 21, 3) := by decide +kernel
theorem dX6_done_33 : decode cX6_done 33 = .ok (.aload_n 0, 1) := by decide +kernel
theorem dX6_done_34 : decode cX6_done 34 = .ok (.getfield 17, 3) := by decide +kernel
theorem dX6_done_37 : decode cX6_done 37 = .ok (.iconst 0, 1) := by decide +kernel
theorem dX6_done_38 : decode cX6_done 38 = .ok (.iaload, 1) := by decide +kernel
theorem dX6_done_39 : decode cX6_done 39 = .ok (.aload_n 0, 1) := by decide +kernel
theorem dX6_done_40 : decode cX6_done 40 = .ok (.getfield 17, 3) := by decide +kernel
theorem dX6_done_43 : decode cX6_done 43 = .ok (.aload_n 0, 1) := by decide +kernel
theorem dX6_done_44 : decode cX6_done 44 = .ok (.getfield 23, 3) := by decide +kernel
theorem dX6_done_47 : decode cX6_done 47 = .ok (.iload_n 1, 1) := by decide +kernel
theorem dX6_done_48 : decode cX6_done 48 = .ok (.iaload, 1) := by decide +kernel
theorem dX6_done_49 : decode cX6_done 49 = .ok (.iaload, 1) := by decide +kernel
theorem dX6_done_50 : decode cX6_done 50 = .ok (.isub, 1) := by decide +kernel
theorem dX6_done_51 : decode cX6_done 51 = .ok (.iadd, 1) := by decide +kernel
theorem dX6_done_52 : decode cX6_done 52 = .ok (.ireturn, 1) := by decide +kernel
set_option maxRecDepth 20000 in
theorem ggX6_atRank_X6_ranked : GoodIn wsX6_atRank wsX6_ranked := goodIn_r _ [6, 1, 7, 8, 9, 5, 10, 11, 12, 13, 14, 15, 16, 17, 18, 19, 20, 21, 22, 23, 24, 25, 26, 27, 28, 29, 30, 31, 32, 33, 34, 35, 36, 37, 38, 39, 40, 41, 42] (by decide +kernel) (by decide +kernel)
set_option maxRecDepth 20000 in
theorem gX6_atRank_X6_ranked : GoodIn wsX6_atRank (wsV RX6 118 RX6 yX6_ranked wsX6_ranked) := goodIn_app (goodIn_of _ (by decide +kernel)) ggX6_atRank_X6_ranked
theorem dX6_atRank_0 : decode cX6_atRank 0 = .ok (.iconst (-1), 1) := by decide +kernel
theorem dX6_atRank_1 : decode cX6_atRank 1 = .ok (.istore_n 2, 1) := by decide +kernel
theorem dX6_atRank_2 : decode cX6_atRank 2 = .ok (.iconst 0, 1) := by decide +kernel
theorem dX6_atRank_3 : decode cX6_atRank 3 = .ok (.istore_n 3, 1) := by decide +kernel
theorem dX6_atRank_4 : decode cX6_atRank 4 = .ok (.iload_n 3, 1) := by decide +kernel
theorem dX6_atRank_5 : decode cX6_atRank 5 = .ok (.aload_n 0, 1) := by decide +kernel
theorem dX6_atRank_6 : decode cX6_atRank 6 = .ok (.getfield 64, 3) := by decide +kernel
theorem dX6_atRank_9 : decode cX6_atRank 9 = .ok (.if_icmp .ge 24, 3) := by decide +kernel
theorem dX6_atRank_12 : decode cX6_atRank 12 = .ok (.aload_n 0, 1) := by decide +kernel
theorem dX6_atRank_13 : decode cX6_atRank 13 = .ok (.iload_n 3, 1) := by decide +kernel
theorem dX6_atRank_14 : decode cX6_atRank 14 = .ok (.invokevirtual 118, 3) := by decide +kernel
theorem dX6_atRank_17 : decode cX6_atRank 17 = .ok (.iload_n 1, 1) := by decide +kernel
theorem dX6_atRank_18 : decode cX6_atRank 18 = .ok (.if_icmp .ne 7, 3) := by decide +kernel
theorem dX6_atRank_21 : decode cX6_atRank 21 = .ok (.iload_n 3, 1) := by decide +kernel
theorem dX6_atRank_22 : decode cX6_atRank 22 = .ok (.goto 4, 3) := by decide +kernel
theorem dX6_atRank_25 : decode cX6_atRank 25 = .ok (.iload_n 2, 1) := by decide +kernel
theorem dX6_atRank_26 : decode cX6_atRank 26 = .ok (.istore_n 2, 1) := by decide +kernel
theorem dX6_atRank_27 : decode cX6_atRank 27 = .ok (.iinc 3 1, 3) := by decide +kernel
theorem dX6_atRank_30 : decode cX6_atRank 30 = .ok (.goto (-26), 3) := by decide +kernel
theorem dX6_atRank_33 : decode cX6_atRank 33 = .ok (.iload_n 2, 1) := by decide +kernel
theorem dX6_atRank_34 : decode cX6_atRank 34 = .ok (.ireturn, 1) := by decide +kernel
set_option maxRecDepth 20000 in
theorem ggX6_catchUp_X6_isKart : GoodIn wsX6_catchUp wsX6_isKart := goodIn_r _ [6, 7, 8, 9, 5, 10, 38, 39, 40, 41, 42, 43, 44, 45, 46, 47, 48, 49, 50, 51, 52, 53, 54, 55, 56, 57, 58, 59, 60, 61, 62, 63] (by decide +kernel) (by decide +kernel)
set_option maxRecDepth 20000 in
theorem gX6_catchUp_X6_isKart : GoodIn wsX6_catchUp (wsV RX6 101 RX6 yX6_isKart wsX6_isKart) := goodIn_app (goodIn_of _ (by decide +kernel)) ggX6_catchUp_X6_isKart
set_option maxRecDepth 20000 in
theorem ggX6_catchUp_X6_fails : GoodIn wsX6_catchUp wsX6_fails := goodIn_r _ [14, 15, 38, 39, 40, 41, 42, 43, 44, 45, 46, 47, 48, 49, 50, 51, 52, 53, 54, 55, 56, 57, 58, 59, 60, 61, 62, 63] (by decide +kernel) (by decide +kernel)
set_option maxRecDepth 20000 in
theorem gX6_catchUp_X6_fails : GoodIn wsX6_catchUp (wsV RX6 70 RX6 yX6_fails wsX6_fails) := goodIn_app (goodIn_of _ (by decide +kernel)) ggX6_catchUp_X6_fails
set_option maxRecDepth 20000 in
theorem ggX6_catchUp_X6_atRank : GoodIn wsX6_catchUp wsX6_atRank := goodIn_r _ [19, 7, 20, 21, 22, 5, 23, 24, 25, 26, 27, 28, 29, 30, 31, 32, 33, 38, 39, 40, 41, 42, 43, 44, 45, 46, 47, 48, 49, 50, 51, 52, 53, 54, 55, 56, 57, 58, 59, 60, 61, 62, 63] (by decide +kernel) (by decide +kernel)
set_option maxRecDepth 20000 in
theorem gX6_catchUp_X6_atRank : GoodIn wsX6_catchUp (wsV RX6 121 RX6 yX6_atRank wsX6_atRank) := goodIn_app (goodIn_of _ (by decide +kernel)) ggX6_catchUp_X6_atRank
set_option maxRecDepth 20000 in
theorem ggX6_catchUp_X6_done : GoodIn wsX6_catchUp wsX6_done := goodIn_r _ [37, 29, 30, 31, 32, 38, 39, 40, 41, 42, 43, 44, 45, 46, 47, 48, 49, 50, 51, 52, 53, 54, 55, 56, 57, 58, 59, 60, 61, 62, 63] (by decide +kernel) (by decide +kernel)
set_option maxRecDepth 20000 in
theorem gX6_catchUp_X6_done : GoodIn wsX6_catchUp (wsV RX6 124 RX6 yX6_done wsX6_done) := goodIn_app (goodIn_of _ (by decide +kernel)) ggX6_catchUp_X6_done
theorem dX6_catchUp_0 : decode cX6_catchUp 0 = .ok (.aload_n 0, 1) := by decide +kernel
theorem dX6_catchUp_1 : decode cX6_catchUp 1 = .ok (.aload_n 0, 1) := by decide +kernel
theorem dX6_catchUp_2 : decode cX6_catchUp 2 = .ok (.iload_n 1, 1) := by decide +kernel
theorem dX6_catchUp_3 : decode cX6_catchUp 3 = .ok (.invokevirtual 101, 3) := by decide +kernel
theorem dX6_catchUp_6 : decode cX6_catchUp 6 = .ok (.ifCond .ne 7, 3) := by decide +kernel
theorem dX6_catchUp_9 : decode cX6_catchUp 9 = .ok (.iconst 1, 1) := by decide +kernel
theorem dX6_catchUp_10 : decode cX6_catchUp 10 = .ok (.goto 15, 3) := by decide +kernel
theorem dX6_catchUp_13 : decode cX6_catchUp 13 = .ok (.aload_n 0, 1) := by decide +kernel
theorem dX6_catchUp_14 : decode cX6_catchUp 14 = .ok (.getfield 87, 3) := by decide +kernel
theorem dX6_catchUp_17 : decode cX6_catchUp 17 = .ok (.ifCond .eq 7, 3) := by decide +kernel
theorem dX6_catchUp_20 : decode cX6_catchUp 20 = .ok (.iconst 0, 1) := by decide +kernel
theorem dX6_catchUp_21 : decode cX6_catchUp 21 = .ok (.goto 4, 3) := by decide +kernel
theorem dX6_catchUp_24 : decode cX6_catchUp 24 = .ok (.iconst 2, 1) := by decide +kernel
theorem dX6_catchUp_25 : decode cX6_catchUp 25 = .ok (.invokevirtual 70, 3) := by decide +kernel
theorem dX6_catchUp_28 : decode cX6_catchUp 28 = .ok (.ifCond .eq 5, 3) := by decide +kernel
theorem dX6_catchUp_31 : decode cX6_catchUp 31 = .ok (.iconst 0, 1) := by decide +kernel
theorem dX6_catchUp_32 : decode cX6_catchUp 32 = .ok (.ireturn, 1) := by decide +kernel
theorem dX6_catchUp_33 : decode cX6_catchUp 33 = .ok (.aload_n 0, 1) := by decide +kernel
theorem dX6_catchUp_34 : decode cX6_catchUp 34 = .ok (.aload_n 0, 1) := by decide +kernel
theorem dX6_catchUp_35 : decode cX6_catchUp 35 = .ok (.iconst 0, 1) := by decide +kernel
theorem dX6_catchUp_36 : decode cX6_catchUp 36 = .ok (.invokevirtual 121, 3) := by decide +kernel
theorem dX6_catchUp_39 : decode cX6_catchUp 39 = .ok (.invokevirtual 124, 3) := by decide +kernel
theorem dX6_catchUp_42 : decode cX6_catchUp 42 = .ok (.aload_n 0, 1) := by decide +kernel
theorem dX6_catchUp_43 : decode cX6_catchUp 43 = .ok (.iload_n 1, 1) := by decide +kernel
theorem dX6_catchUp_44 : decode cX6_catchUp 44 = .ok (.invokevirtual 124, 3) := by decide +kernel
theorem dX6_catchUp_47 : decode cX6_catchUp 47 = .ok (.isub, 1) := by decide +kernel
theorem dX6_catchUp_48 : decode cX6_catchUp 48 = .ok (.istore_n 2, 1) := by decide +kernel
theorem dX6_catchUp_49 : decode cX6_catchUp 49 = .ok (.iload_n 2, 1) := by decide +kernel
theorem dX6_catchUp_50 : decode cX6_catchUp 50 = .ok (.ifCond .ge 7, 3) := by decide +kernel
theorem dX6_catchUp_53 : decode cX6_catchUp 53 = .ok (.iconst 0, 1) := by decide +kernel
theorem dX6_catchUp_54 : decode cX6_catchUp 54 = .ok (.goto 21, 3) := by decide +kernel
theorem dX6_catchUp_57 : decode cX6_catchUp 57 = .ok (.iload_n 2, 1) := by decide +kernel
theorem dX6_catchUp_58 : decode cX6_catchUp 58 = .ok (.bipush 10, 2) := by decide +kernel
theorem dX6_catchUp_60 : decode cX6_catchUp 60 = .ok (.idiv, 1) := by decide +kernel
theorem dX6_catchUp_61 : decode cX6_catchUp 61 = .ok (.bipush 25, 2) := by decide +kernel
theorem dX6_catchUp_63 : decode cX6_catchUp 63 = .ok (.if_icmp .le 8, 3) := by decide +kernel
theorem dX6_catchUp_66 : decode cX6_catchUp 66 = .ok (.bipush 25, 2) := by decide +kernel
theorem dX6_catchUp_68 : decode cX6_catchUp 68 = .ok (.goto 7, 3) := by decide +kernel
theorem dX6_catchUp_71 : decode cX6_catchUp 71 = .ok (.iload_n 2, 1) := by decide +kernel
theorem dX6_catchUp_72 : decode cX6_catchUp 72 = .ok (.bipush 10, 2) := by decide +kernel
theorem dX6_catchUp_74 : decode cX6_catchUp 74 = .ok (.idiv, 1) := by decide +kernel
theorem dX6_catchUp_75 : decode cX6_catchUp 75 = .ok (.ireturn, 1) := by decide +kernel
theorem dX6_setDraw_0 : decode cX6_setDraw 0 = .ok (.aload_n 0, 1) := by decide +kernel
theorem dX6_setDraw_1 : decode cX6_setDraw 1 = .ok (.iconst 0, 1) := by decide +kernel
theorem dX6_setDraw_2 : decode cX6_setDraw 2 = .ok (.putfield 57, 3) := by decide +kernel
theorem dX6_setDraw_5 : decode cX6_setDraw 5 = .ok (.aload_n 0, 1) := by decide +kernel
theorem dX6_setDraw_6 : decode cX6_setDraw 6 = .ok (.iload_n 1, 1) := by decide +kernel
theorem dX6_setDraw_7 : decode cX6_setDraw 7 = .ok (.putfield 127, 3) := by decide +kernel
theorem dX6_setDraw_10 : decode cX6_setDraw 10 = .ok (.return_, 1) := by decide +kernel
theorem dX6_drawn_0 : decode cX6_drawn 0 = .ok (.iload_n 0, 1) := by decide +kernel
theorem dX6_drawn_1 : decode cX6_drawn 1 = .ok (.ifCond .ne 23, 3) := by decide +kernel
theorem dX6_drawn_4 : decode cX6_drawn 4 = .ok (.iload_n 1, 1) := by decide +kernel
theorem dX6_drawn_5 : decode cX6_drawn 5 = .ok (.iconst 2, 1) := by decide +kernel
theorem dX6_drawn_6 : decode cX6_drawn 6 = .ok (.if_icmp .ge 7, 3) := by decide +kernel
theorem dX6_drawn_9 : decode cX6_drawn 9 = .ok (.iconst 2, 1) := by decide +kernel
theorem dX6_drawn_10 : decode cX6_drawn 10 = .ok (.goto 13, 3) := by decide +kernel
theorem dX6_drawn_13 : decode cX6_drawn 13 = .ok (.iload_n 1, 1) := by decide +kernel
theorem dX6_drawn_14 : decode cX6_drawn 14 = .ok (.iconst 2, 1) := by decide +kernel
theorem dX6_drawn_15 : decode cX6_drawn 15 = .ok (.if_icmp .ne 7, 3) := by decide +kernel
theorem dX6_drawn_18 : decode cX6_drawn 18 = .ok (.iconst 1, 1) := by decide +kernel
theorem dX6_drawn_19 : decode cX6_drawn 19 = .ok (.goto 4, 3) := by decide +kernel
theorem dX6_drawn_22 : decode cX6_drawn 22 = .ok (.iconst 0, 1) := by decide +kernel
theorem dX6_drawn_23 : decode cX6_drawn 23 = .ok (.ireturn, 1) := by decide +kernel
theorem dX6_drawn_24 : decode cX6_drawn 24 = .ok (.iload_n 0, 1) := by decide +kernel
theorem dX6_drawn_25 : decode cX6_drawn 25 = .ok (.iconst 3, 1) := by decide +kernel
theorem dX6_drawn_26 : decode cX6_drawn 26 = .ok (.if_icmp .ge 23, 3) := by decide +kernel
theorem dX6_drawn_29 : decode cX6_drawn 29 = .ok (.iload_n 1, 1) := by decide +kernel
theorem dX6_drawn_30 : decode cX6_drawn 30 = .ok (.iconst 1, 1) := by decide +kernel
theorem dX6_drawn_31 : decode cX6_drawn 31 = .ok (.if_icmp .ne 7, 3) := by decide +kernel
theorem dX6_drawn_34 : decode cX6_drawn 34 = .ok (.iconst 2, 1) := by decide +kernel
theorem dX6_drawn_35 : decode cX6_drawn 35 = .ok (.goto 13, 3) := by decide +kernel
theorem dX6_drawn_38 : decode cX6_drawn 38 = .ok (.iload_n 1, 1) := by decide +kernel
theorem dX6_drawn_39 : decode cX6_drawn 39 = .ok (.iconst 2, 1) := by decide +kernel
theorem dX6_drawn_40 : decode cX6_drawn 40 = .ok (.if_icmp .ne 7, 3) := by decide +kernel
theorem dX6_drawn_43 : decode cX6_drawn 43 = .ok (.iconst 0, 1) := by decide +kernel
theorem dX6_drawn_44 : decode cX6_drawn 44 = .ok (.goto 4, 3) := by decide +kernel
theorem dX6_drawn_47 : decode cX6_drawn 47 = .ok (.iconst 1, 1) := by decide +kernel
theorem dX6_drawn_48 : decode cX6_drawn 48 = .ok (.ireturn, 1) := by decide +kernel
theorem dX6_drawn_49 : decode cX6_drawn 49 = .ok (.iload_n 1, 1) := by decide +kernel
theorem dX6_drawn_50 : decode cX6_drawn 50 = .ok (.iconst 1, 1) := by decide +kernel
theorem dX6_drawn_51 : decode cX6_drawn 51 = .ok (.if_icmp .ne 7, 3) := by decide +kernel
theorem dX6_drawn_54 : decode cX6_drawn 54 = .ok (.iconst 0, 1) := by decide +kernel
theorem dX6_drawn_55 : decode cX6_drawn 55 = .ok (.goto 13, 3) := by decide +kernel
theorem dX6_drawn_58 : decode cX6_drawn 58 = .ok (.iload_n 1, 1) := by decide +kernel
theorem dX6_drawn_59 : decode cX6_drawn 59 = .ok (.iconst 2, 1) := by decide +kernel
theorem dX6_drawn_60 : decode cX6_drawn 60 = .ok (.if_icmp .ne 7, 3) := by decide +kernel
theorem dX6_drawn_63 : decode cX6_drawn 63 = .ok (.iconst 1, 1) := by decide +kernel
theorem dX6_drawn_64 : decode cX6_drawn 64 = .ok (.goto 4, 3) := by decide +kernel
theorem dX6_drawn_67 : decode cX6_drawn 67 = .ok (.iconst 3, 1) := by decide +kernel
theorem dX6_drawn_68 : decode cX6_drawn 68 = .ok (.ireturn, 1) := by decide +kernel
set_option maxRecDepth 20000 in
theorem ggX6_draw_X6_isKart : GoodIn wsX6_draw wsX6_isKart := goodIn_r _ [10, 11, 12, 13, 9, 14, 36, 37, 38, 39, 40, 41, 42, 43, 44, 45, 46, 47, 48, 49, 50, 51, 52, 53, 54, 55, 56, 57, 58, 59, 60, 61] (by decide +kernel) (by decide +kernel)
set_option maxRecDepth 20000 in
theorem gX6_draw_X6_isKart : GoodIn wsX6_draw (wsV RX6 101 RX6 yX6_isKart wsX6_isKart) := goodIn_app (goodIn_of _ (by decide +kernel)) ggX6_draw_X6_isKart
set_option maxRecDepth 20000 in
theorem ggX6_draw_X6_fails : GoodIn wsX6_draw wsX6_fails := goodIn_r _ [18, 19, 36, 37, 38, 39, 40, 41, 42, 43, 44, 45, 46, 47, 48, 49, 50, 51, 52, 53, 54, 55, 56, 57, 58, 59, 60, 61] (by decide +kernel) (by decide +kernel)
set_option maxRecDepth 20000 in
theorem gX6_draw_X6_fails : GoodIn wsX6_draw (wsV RX6 70 RX6 yX6_fails wsX6_fails) := goodIn_app (goodIn_of _ (by decide +kernel)) ggX6_draw_X6_fails
set_option maxRecDepth 20000 in
theorem ggX6_draw_X6_ranked : GoodIn wsX6_draw wsX6_ranked := goodIn_r _ [23, 11, 24, 25, 26, 9, 27, 2, 28, 29, 30, 31, 32, 36, 37, 38, 39, 40, 41, 42, 43, 44, 45, 46, 47, 48, 49, 50, 51, 52, 53, 54, 55, 56, 57, 58, 59, 60, 61] (by decide +kernel) (by decide +kernel)
set_option maxRecDepth 20000 in
theorem gX6_draw_X6_ranked : GoodIn wsX6_draw (wsV RX6 118 RX6 yX6_ranked wsX6_ranked) := goodIn_app (goodIn_of _ (by decide +kernel)) ggX6_draw_X6_ranked
set_option maxRecDepth 20000 in
theorem ggX6_draw_X6_drawn : GoodIn wsX6_draw wsX6_drawn := goodIn_r _ [35] (by decide +kernel) (by decide +kernel)
set_option maxRecDepth 20000 in
theorem gX6_draw_X6_drawn : GoodIn wsX6_draw (va_wsS RX6 131 yX6_drawn wsX6_drawn) := goodIn_app (goodIn_of _ (by decide +kernel)) ggX6_draw_X6_drawn
theorem dX6_draw_0 : decode cX6_draw 0 = .ok (.aload_n 0, 1) := by decide +kernel
theorem dX6_draw_1 : decode cX6_draw 1 = .ok (.iload_n 1, 1) := by decide +kernel
theorem dX6_draw_2 : decode cX6_draw 2 = .ok (.invokevirtual 101, 3) := by decide +kernel
theorem dX6_draw_5 : decode cX6_draw 5 = .ok (.istore_n 2, 1) := by decide +kernel
theorem dX6_draw_6 : decode cX6_draw 6 = .ok (.aload_n 0, 1) := by decide +kernel
theorem dX6_draw_7 : decode cX6_draw 7 = .ok (.iload_n 2, 1) := by decide +kernel
theorem dX6_draw_8 : decode cX6_draw 8 = .ok (.ifCond .ne 7, 3) := by decide +kernel
theorem dX6_draw_11 : decode cX6_draw 11 = .ok (.iconst 1, 1) := by decide +kernel
theorem dX6_draw_12 : decode cX6_draw 12 = .ok (.goto 34, 3) := by decide +kernel
theorem dX6_draw_15 : decode cX6_draw 15 = .ok (.aload_n 0, 1) := by decide +kernel
theorem dX6_draw_16 : decode cX6_draw 16 = .ok (.getfield 87, 3) := by decide +kernel
theorem dX6_draw_19 : decode cX6_draw 19 = .ok (.ifCond .eq 22, 3) := by decide +kernel
theorem dX6_draw_22 : decode cX6_draw 22 = .ok (.aload_n 0, 1) := by decide +kernel
theorem dX6_draw_23 : decode cX6_draw 23 = .ok (.getfield 38, 3) := by decide +kernel
theorem dX6_draw_26 : decode cX6_draw 26 = .ok (.iload_n 1, 1) := by decide +kernel
theorem dX6_draw_27 : decode cX6_draw 27 = .ok (.iaload, 1) := by decide +kernel
theorem dX6_draw_28 : decode cX6_draw 28 = .ok (.ifCond .gt 13, 3) := by decide +kernel
theorem dX6_draw_31 : decode cX6_draw 31 = .ok (.aload_n 0, 1) := by decide +kernel
theorem dX6_draw_32 : decode cX6_draw 32 = .ok (.getfield 41, 3) := by decide +kernel
theorem dX6_draw_35 : decode cX6_draw 35 = .ok (.iload_n 1, 1) := by decide +kernel
theorem dX6_draw_36 : decode cX6_draw 36 = .ok (.iaload, 1) := by decide +kernel
theorem dX6_draw_37 : decode cX6_draw 37 = .ok (.iconst (-1), 1) := by decide +kernel
theorem dX6_draw_38 : decode cX6_draw 38 = .ok (.if_icmp .eq 7, 3) := by decide +kernel
theorem dX6_draw_41 : decode cX6_draw 41 = .ok (.iconst 2, 1) := by decide +kernel
theorem dX6_draw_42 : decode cX6_draw 42 = .ok (.goto 4, 3) := by decide +kernel
theorem dX6_draw_45 : decode cX6_draw 45 = .ok (.iconst 0, 1) := by decide +kernel
theorem dX6_draw_46 : decode cX6_draw 46 = .ok (.invokevirtual 70, 3) := by decide +kernel
theorem dX6_draw_49 : decode cX6_draw 49 = .ok (.ifCond .eq 5, 3) := by decide +kernel
theorem dX6_draw_52 : decode cX6_draw 52 = .ok (.iconst 0, 1) := by decide +kernel
theorem dX6_draw_53 : decode cX6_draw 53 = .ok (.ireturn, 1) := by decide +kernel
theorem dX6_draw_54 : decode cX6_draw 54 = .ok (.aload_n 0, 1) := by decide +kernel
theorem dX6_draw_55 : decode cX6_draw 55 = .ok (.aload_n 0, 1) := by decide +kernel
theorem dX6_draw_56 : decode cX6_draw 56 = .ok (.getfield 127, 3) := by decide +kernel
theorem dX6_draw_59 : decode cX6_draw 59 = .ok (.ldc 130, 2) := by decide +kernel
theorem dX6_draw_61 : decode cX6_draw 61 = .ok (.imul, 1) := by decide +kernel
theorem dX6_draw_62 : decode cX6_draw 62 = .ok (.sipush 12345, 3) := by decide +kernel
theorem dX6_draw_65 : decode cX6_draw 65 = .ok (.iadd, 1) := by decide +kernel
theorem dX6_draw_66 : decode cX6_draw 66 = .ok (.putfield 127, 3) := by decide +kernel
theorem dX6_draw_69 : decode cX6_draw 69 = .ok (.aload_n 0, 1) := by decide +kernel
theorem dX6_draw_70 : decode cX6_draw 70 = .ok (.getfield 41, 3) := by decide +kernel
theorem dX6_draw_73 : decode cX6_draw 73 = .ok (.iload_n 1, 1) := by decide +kernel
theorem dX6_draw_74 : decode cX6_draw 74 = .ok (.aload_n 0, 1) := by decide +kernel
theorem dX6_draw_75 : decode cX6_draw 75 = .ok (.iload_n 1, 1) := by decide +kernel
theorem dX6_draw_76 : decode cX6_draw 76 = .ok (.invokevirtual 118, 3) := by decide +kernel
theorem dX6_draw_79 : decode cX6_draw 79 = .ok (.aload_n 0, 1) := by decide +kernel
theorem dX6_draw_80 : decode cX6_draw 80 = .ok (.getfield 127, 3) := by decide +kernel
theorem dX6_draw_83 : decode cX6_draw 83 = .ok (.bipush 16, 2) := by decide +kernel
theorem dX6_draw_85 : decode cX6_draw 85 = .ok (.iushr, 1) := by decide +kernel
theorem dX6_draw_86 : decode cX6_draw 86 = .ok (.iconst 4, 1) := by decide +kernel
theorem dX6_draw_87 : decode cX6_draw 87 = .ok (.irem, 1) := by decide +kernel
theorem dX6_draw_88 : decode cX6_draw 88 = .ok (.invokestatic 131, 3) := by decide +kernel
theorem dX6_draw_91 : decode cX6_draw 91 = .ok (.iastore, 1) := by decide +kernel
theorem dX6_draw_92 : decode cX6_draw 92 = .ok (.aload_n 0, 1) := by decide +kernel
theorem dX6_draw_93 : decode cX6_draw 93 = .ok (.getfield 41, 3) := by decide +kernel
theorem dX6_draw_96 : decode cX6_draw 96 = .ok (.iload_n 1, 1) := by decide +kernel
theorem dX6_draw_97 : decode cX6_draw 97 = .ok (.iaload, 1) := by decide +kernel
theorem dX6_draw_98 : decode cX6_draw 98 = .ok (.ireturn, 1) := by decide +kernel
theorem dX6_hits_0 : decode cX6_hits 0 = .ok (.aload_n 0, 1) := by decide +kernel
theorem dX6_hits_1 : decode cX6_hits 1 = .ok (.getfield 38, 3) := by decide +kernel
theorem dX6_hits_4 : decode cX6_hits 4 = .ok (.iload_n 1, 1) := by decide +kernel
theorem dX6_hits_5 : decode cX6_hits 5 = .ok (.iaload, 1) := by decide +kernel
theorem dX6_hits_6 : decode cX6_hits 6 = .ok (.ifCond .le 5, 3) := by decide +kernel
theorem dX6_hits_9 : decode cX6_hits 9 = .ok (.iconst 0, 1) := by decide +kernel
theorem dX6_hits_10 : decode cX6_hits 10 = .ok (.ireturn, 1) := by decide +kernel
theorem dX6_hits_11 : decode cX6_hits 11 = .ok (.aload_n 0, 1) := by decide +kernel
theorem dX6_hits_12 : decode cX6_hits 12 = .ok (.getfield 44, 3) := by decide +kernel
theorem dX6_hits_15 : decode cX6_hits 15 = .ok (.iload_n 1, 1) := by decide +kernel
theorem dX6_hits_16 : decode cX6_hits 16 = .ok (.baload, 1) := by decide +kernel
theorem dX6_hits_17 : decode cX6_hits 17 = .ok (.ifCond .eq 12, 3) := by decide +kernel
theorem dX6_hits_20 : decode cX6_hits 20 = .ok (.aload_n 0, 1) := by decide +kernel
theorem dX6_hits_21 : decode cX6_hits 21 = .ok (.getfield 44, 3) := by decide +kernel
theorem dX6_hits_24 : decode cX6_hits 24 = .ok (.iload_n 1, 1) := by decide +kernel
theorem dX6_hits_25 : decode cX6_hits 25 = .ok (.iconst 0, 1) := by decide +kernel
theorem dX6_hits_26 : decode cX6_hits 26 = .ok (.bastore, 1) := by decide +kernel
theorem dX6_hits_27 : decode cX6_hits 27 = .ok (.iconst 0, 1) := by decide +kernel
theorem dX6_hits_28 : decode cX6_hits 28 = .ok (.ireturn, 1) := by decide +kernel
theorem dX6_hits_29 : decode cX6_hits 29 = .ok (.aload_n 0, 1) := by decide +kernel
theorem dX6_hits_30 : decode cX6_hits 30 = .ok (.getfield 48, 3) := by decide +kernel
theorem dX6_hits_33 : decode cX6_hits 33 = .ok (.iload_n 1, 1) := by decide +kernel
theorem dX6_hits_34 : decode cX6_hits 34 = .ok (.aload_n 0, 1) := by decide +kernel
theorem dX6_hits_35 : decode cX6_hits 35 = .ok (.getfield 48, 3) := by decide +kernel
theorem dX6_hits_38 : decode cX6_hits 38 = .ok (.iload_n 1, 1) := by decide +kernel
theorem dX6_hits_39 : decode cX6_hits 39 = .ok (.iaload, 1) := by decide +kernel
theorem dX6_hits_40 : decode cX6_hits 40 = .ok (.aload_n 0, 1) := by decide +kernel
theorem dX6_hits_41 : decode cX6_hits 41 = .ok (.getfield 104, 3) := by decide +kernel
theorem dX6_hits_44 : decode cX6_hits 44 = .ok (.iload_n 2, 1) := by decide +kernel
theorem dX6_hits_45 : decode cX6_hits 45 = .ok (.iadd, 1) := by decide +kernel
theorem dX6_hits_46 : decode cX6_hits 46 = .ok (.if_icmp .le 12, 3) := by decide +kernel
theorem dX6_hits_49 : decode cX6_hits 49 = .ok (.aload_n 0, 1) := by decide +kernel
theorem dX6_hits_50 : decode cX6_hits 50 = .ok (.getfield 48, 3) := by decide +kernel
theorem dX6_hits_53 : decode cX6_hits 53 = .ok (.iload_n 1, 1) := by decide +kernel
theorem dX6_hits_54 : decode cX6_hits 54 = .ok (.iaload, 1) := by decide +kernel
theorem dX6_hits_55 : decode cX6_hits 55 = .ok (.goto 9, 3) := by decide +kernel
end
section
theorem dX6_hits_58 : decode cX6_hits 58 = .ok (.aload_n 0, 1) := by decide +kernel
theorem dX6_hits_59 : decode cX6_hits 59 = .ok (.getfield 104, 3) := by decide +kernel
theorem dX6_hits_62 : decode cX6_hits 62 = .ok (.iload_n 2, 1) := by decide +kernel
theorem dX6_hits_63 : decode cX6_hits 63 = .ok (.iadd, 1) := by decide +kernel
theorem dX6_hits_64 : decode cX6_hits 64 = .ok (.iastore, 1) := by decide +kernel
theorem dX6_hits_65 : decode cX6_hits 65 = .ok (.iconst 1, 1) := by decide +kernel
theorem dX6_hits_66 : decode cX6_hits 66 = .ok (.ireturn, 1) := by decide +kernel
set_option maxRecDepth 20000 in
theorem ggX6_use_X6_isKart : GoodIn wsX6_use wsX6_isKart := goodIn_r _ [11, 6, 12, 13, 10, 14, 38, 39, 40, 41, 42, 43, 44, 45, 46, 47, 48, 49, 50, 51, 52, 53, 54, 55, 56, 57, 58, 59, 60, 61, 62, 63] (by decide +kernel) (by decide +kernel)
set_option maxRecDepth 20000 in
theorem gX6_use_X6_isKart : GoodIn wsX6_use (wsV RX6 101 RX6 yX6_isKart wsX6_isKart) := goodIn_app (goodIn_of _ (by decide +kernel)) ggX6_use_X6_isKart
set_option maxRecDepth 20000 in
theorem ggX6_use_X6_fails : GoodIn wsX6_use wsX6_fails := goodIn_r _ [18, 19, 38, 39, 40, 41, 42, 43, 44, 45, 46, 47, 48, 49, 50, 51, 52, 53, 54, 55, 56, 57, 58, 59, 60, 61, 62, 63] (by decide +kernel) (by decide +kernel)
set_option maxRecDepth 20000 in
theorem gX6_use_X6_fails : GoodIn wsX6_use (wsV RX6 70 RX6 yX6_fails wsX6_fails) := goodIn_app (goodIn_of _ (by decide +kernel)) ggX6_use_X6_fails
set_option maxRecDepth 20000 in
theorem ggX6_use_X6_ranked : GoodIn wsX6_use wsX6_ranked := goodIn_r _ [23, 6, 24, 25, 26, 10, 27, 2, 28, 29, 30, 31, 32, 38, 39, 40, 41, 42, 43, 44, 45, 46, 47, 48, 49, 50, 51, 52, 53, 54, 55, 56, 57, 58, 59, 60, 61, 62, 63] (by decide +kernel) (by decide +kernel)
set_option maxRecDepth 20000 in
theorem gX6_use_X6_ranked : GoodIn wsX6_use (wsV RX6 118 RX6 yX6_ranked wsX6_ranked) := goodIn_app (goodIn_of _ (by decide +kernel)) ggX6_use_X6_ranked
set_option maxRecDepth 20000 in
theorem ggX6_use_X6_hits : GoodIn wsX6_use wsX6_hits := goodIn_r _ [36, 2, 5, 4, 37, 38, 39, 40, 41, 42, 43, 44, 45, 46, 47, 48, 49, 50, 51, 52, 53, 54, 55, 56, 57, 58, 59, 60, 61, 62, 63] (by decide +kernel) (by decide +kernel)
set_option maxRecDepth 20000 in
theorem gX6_use_X6_hits : GoodIn wsX6_use (wsV RX6 135 RX6 yX6_hits wsX6_hits) := goodIn_app (goodIn_of _ (by decide +kernel)) ggX6_use_X6_hits
theorem dX6_use_0 : decode cX6_use 0 = .ok (.aload_n 0, 1) := by decide +kernel
theorem dX6_use_1 : decode cX6_use 1 = .ok (.iload_n 1, 1) := by decide +kernel
theorem dX6_use_2 : decode cX6_use 2 = .ok (.invokevirtual 101, 3) := by decide +kernel
theorem dX6_use_5 : decode cX6_use 5 = .ok (.istore_n 2, 1) := by decide +kernel
theorem dX6_use_6 : decode cX6_use 6 = .ok (.aload_n 0, 1) := by decide +kernel
theorem dX6_use_7 : decode cX6_use 7 = .ok (.iload_n 2, 1) := by decide +kernel
theorem dX6_use_8 : decode cX6_use 8 = .ok (.ifCond .ne 7, 3) := by decide +kernel
theorem dX6_use_11 : decode cX6_use 11 = .ok (.iconst 1, 1) := by decide +kernel
theorem dX6_use_12 : decode cX6_use 12 = .ok (.goto 34, 3) := by decide +kernel
theorem dX6_use_15 : decode cX6_use 15 = .ok (.aload_n 0, 1) := by decide +kernel
theorem dX6_use_16 : decode cX6_use 16 = .ok (.getfield 87, 3) := by decide +kernel
theorem dX6_use_19 : decode cX6_use 19 = .ok (.ifCond .eq 22, 3) := by decide +kernel
theorem dX6_use_22 : decode cX6_use 22 = .ok (.aload_n 0, 1) := by decide +kernel
theorem dX6_use_23 : decode cX6_use 23 = .ok (.getfield 38, 3) := by decide +kernel
theorem dX6_use_26 : decode cX6_use 26 = .ok (.iload_n 1, 1) := by decide +kernel
theorem dX6_use_27 : decode cX6_use 27 = .ok (.iaload, 1) := by decide +kernel
theorem dX6_use_28 : decode cX6_use 28 = .ok (.ifCond .gt 13, 3) := by decide +kernel
theorem dX6_use_31 : decode cX6_use 31 = .ok (.aload_n 0, 1) := by decide +kernel
theorem dX6_use_32 : decode cX6_use 32 = .ok (.getfield 41, 3) := by decide +kernel
theorem dX6_use_35 : decode cX6_use 35 = .ok (.iload_n 1, 1) := by decide +kernel
theorem dX6_use_36 : decode cX6_use 36 = .ok (.iaload, 1) := by decide +kernel
theorem dX6_use_37 : decode cX6_use 37 = .ok (.iconst (-1), 1) := by decide +kernel
theorem dX6_use_38 : decode cX6_use 38 = .ok (.if_icmp .ne 7, 3) := by decide +kernel
theorem dX6_use_41 : decode cX6_use 41 = .ok (.iconst 2, 1) := by decide +kernel
theorem dX6_use_42 : decode cX6_use 42 = .ok (.goto 4, 3) := by decide +kernel
theorem dX6_use_45 : decode cX6_use 45 = .ok (.iconst 0, 1) := by decide +kernel
theorem dX6_use_46 : decode cX6_use 46 = .ok (.invokevirtual 70, 3) := by decide +kernel
theorem dX6_use_49 : decode cX6_use 49 = .ok (.ifCond .eq 5, 3) := by decide +kernel
theorem dX6_use_52 : decode cX6_use 52 = .ok (.iconst 0, 1) := by decide +kernel
theorem dX6_use_53 : decode cX6_use 53 = .ok (.ireturn, 1) := by decide +kernel
theorem dX6_use_54 : decode cX6_use 54 = .ok (.aload_n 0, 1) := by decide +kernel
theorem dX6_use_55 : decode cX6_use 55 = .ok (.getfield 41, 3) := by decide +kernel
theorem dX6_use_58 : decode cX6_use 58 = .ok (.iload_n 1, 1) := by decide +kernel
theorem dX6_use_59 : decode cX6_use 59 = .ok (.iaload, 1) := by decide +kernel
theorem dX6_use_60 : decode cX6_use 60 = .ok (.istore_n 3, 1) := by decide +kernel
theorem dX6_use_61 : decode cX6_use 61 = .ok (.aload_n 0, 1) := by decide +kernel
theorem dX6_use_62 : decode cX6_use 62 = .ok (.getfield 41, 3) := by decide +kernel
theorem dX6_use_65 : decode cX6_use 65 = .ok (.iload_n 1, 1) := by decide +kernel
theorem dX6_use_66 : decode cX6_use 66 = .ok (.iconst (-1), 1) := by decide +kernel
theorem dX6_use_67 : decode cX6_use 67 = .ok (.iastore, 1) := by decide +kernel
theorem dX6_use_68 : decode cX6_use 68 = .ok (.aload_n 0, 1) := by decide +kernel
theorem dX6_use_69 : decode cX6_use 69 = .ok (.iload_n 1, 1) := by decide +kernel
theorem dX6_use_70 : decode cX6_use 70 = .ok (.invokevirtual 118, 3) := by decide +kernel
theorem dX6_use_73 : decode cX6_use 73 = .ok (.istore 4, 2) := by decide +kernel
theorem dX6_use_75 : decode cX6_use 75 = .ok (.iconst 0, 1) := by decide +kernel
theorem dX6_use_76 : decode cX6_use 76 = .ok (.istore 5, 2) := by decide +kernel
theorem dX6_use_78 : decode cX6_use 78 = .ok (.iload_n 3, 1) := by decide +kernel
theorem dX6_use_79 : decode cX6_use 79 = .ok (.ifCond .ne 13, 3) := by decide +kernel
theorem dX6_use_82 : decode cX6_use 82 = .ok (.aload_n 0, 1) := by decide +kernel
theorem dX6_use_83 : decode cX6_use 83 = .ok (.getfield 48, 3) := by decide +kernel
theorem dX6_use_86 : decode cX6_use 86 = .ok (.iload_n 1, 1) := by decide +kernel
theorem dX6_use_87 : decode cX6_use 87 = .ok (.iconst 0, 1) := by decide +kernel
theorem dX6_use_88 : decode cX6_use 88 = .ok (.iastore, 1) := by decide +kernel
theorem dX6_use_89 : decode cX6_use 89 = .ok (.goto 110, 3) := by decide +kernel
theorem dX6_use_92 : decode cX6_use 92 = .ok (.iload_n 3, 1) := by decide +kernel
theorem dX6_use_93 : decode cX6_use 93 = .ok (.iconst 2, 1) := by decide +kernel
theorem dX6_use_94 : decode cX6_use 94 = .ok (.if_icmp .ne 13, 3) := by decide +kernel
theorem dX6_use_97 : decode cX6_use 97 = .ok (.aload_n 0, 1) := by decide +kernel
theorem dX6_use_98 : decode cX6_use 98 = .ok (.getfield 44, 3) := by decide +kernel
theorem dX6_use_101 : decode cX6_use 101 = .ok (.iload_n 1, 1) := by decide +kernel
theorem dX6_use_102 : decode cX6_use 102 = .ok (.iconst 1, 1) := by decide +kernel
theorem dX6_use_103 : decode cX6_use 103 = .ok (.bastore, 1) := by decide +kernel
theorem dX6_use_104 : decode cX6_use 104 = .ok (.goto 95, 3) := by decide +kernel
theorem dX6_use_107 : decode cX6_use 107 = .ok (.iconst 0, 1) := by decide +kernel
theorem dX6_use_108 : decode cX6_use 108 = .ok (.istore 6, 2) := by decide +kernel
theorem dX6_use_110 : decode cX6_use 110 = .ok (.iload 6, 2) := by decide +kernel
theorem dX6_use_112 : decode cX6_use 112 = .ok (.aload_n 0, 1) := by decide +kernel
theorem dX6_use_113 : decode cX6_use 113 = .ok (.getfield 64, 3) := by decide +kernel
theorem dX6_use_116 : decode cX6_use 116 = .ok (.if_icmp .ge 83, 3) := by decide +kernel
theorem dX6_use_119 : decode cX6_use 119 = .ok (.aload_n 0, 1) := by decide +kernel
theorem dX6_use_120 : decode cX6_use 120 = .ok (.iload 6, 2) := by decide +kernel
theorem dX6_use_122 : decode cX6_use 122 = .ok (.invokevirtual 118, 3) := by decide +kernel
theorem dX6_use_125 : decode cX6_use 125 = .ok (.istore 7, 2) := by decide +kernel
theorem dX6_use_127 : decode cX6_use 127 = .ok (.iload_n 3, 1) := by decide +kernel
theorem dX6_use_128 : decode cX6_use 128 = .ok (.iconst 1, 1) := by decide +kernel
theorem dX6_use_129 : decode cX6_use 129 = .ok (.if_icmp .ne 20, 3) := by decide +kernel
theorem dX6_use_132 : decode cX6_use 132 = .ok (.iload 7, 2) := by decide +kernel
theorem dX6_use_134 : decode cX6_use 134 = .ok (.iload 4, 2) := by decide +kernel
theorem dX6_use_136 : decode cX6_use 136 = .ok (.iconst 1, 1) := by decide +kernel
theorem dX6_use_137 : decode cX6_use 137 = .ok (.isub, 1) := by decide +kernel
theorem dX6_use_138 : decode cX6_use 138 = .ok (.if_icmp .ne 7, 3) := by decide +kernel
theorem dX6_use_141 : decode cX6_use 141 = .ok (.iconst 1, 1) := by decide +kernel
theorem dX6_use_142 : decode cX6_use 142 = .ok (.goto 19, 3) := by decide +kernel
theorem dX6_use_145 : decode cX6_use 145 = .ok (.iconst 0, 1) := by decide +kernel
theorem dX6_use_146 : decode cX6_use 146 = .ok (.goto 15, 3) := by decide +kernel
theorem dX6_use_149 : decode cX6_use 149 = .ok (.iload 7, 2) := by decide +kernel
theorem dX6_use_151 : decode cX6_use 151 = .ok (.iload 4, 2) := by decide +kernel
theorem dX6_use_153 : decode cX6_use 153 = .ok (.if_icmp .ge 7, 3) := by decide +kernel
theorem dX6_use_156 : decode cX6_use 156 = .ok (.iconst 1, 1) := by decide +kernel
theorem dX6_use_157 : decode cX6_use 157 = .ok (.goto 4, 3) := by decide +kernel
theorem dX6_use_160 : decode cX6_use 160 = .ok (.iconst 0, 1) := by decide +kernel
theorem dX6_use_161 : decode cX6_use 161 = .ok (.istore 8, 2) := by decide +kernel
theorem dX6_use_163 : decode cX6_use 163 = .ok (.iload 5, 2) := by decide +kernel
theorem dX6_use_165 : decode cX6_use 165 = .ok (.iload 8, 2) := by decide +kernel
theorem dX6_use_167 : decode cX6_use 167 = .ok (.ifCond .eq 22, 3) := by decide +kernel
theorem dX6_use_170 : decode cX6_use 170 = .ok (.aload_n 0, 1) := by decide +kernel
theorem dX6_use_171 : decode cX6_use 171 = .ok (.iload 6, 2) := by decide +kernel
theorem dX6_use_173 : decode cX6_use 173 = .ok (.iload_n 3, 1) := by decide +kernel
theorem dX6_use_174 : decode cX6_use 174 = .ok (.iconst 1, 1) := by decide +kernel
theorem dX6_use_175 : decode cX6_use 175 = .ok (.if_icmp .ne 7, 3) := by decide +kernel
theorem dX6_use_178 : decode cX6_use 178 = .ok (.iconst 5, 1) := by decide +kernel
theorem dX6_use_179 : decode cX6_use 179 = .ok (.goto 4, 3) := by decide +kernel
theorem dX6_use_182 : decode cX6_use 182 = .ok (.iconst 2, 1) := by decide +kernel
theorem dX6_use_183 : decode cX6_use 183 = .ok (.invokevirtual 135, 3) := by decide +kernel
theorem dX6_use_186 : decode cX6_use 186 = .ok (.goto 4, 3) := by decide +kernel
theorem dX6_use_189 : decode cX6_use 189 = .ok (.iconst 0, 1) := by decide +kernel
theorem dX6_use_190 : decode cX6_use 190 = .ok (.iadd, 1) := by decide +kernel
theorem dX6_use_191 : decode cX6_use 191 = .ok (.istore 5, 2) := by decide +kernel
theorem dX6_use_193 : decode cX6_use 193 = .ok (.iinc 6 1, 3) := by decide +kernel
theorem dX6_use_196 : decode cX6_use 196 = .ok (.goto (-86), 3) := by decide +kernel
theorem dX6_use_199 : decode cX6_use 199 = .ok (.iload 5, 2) := by decide +kernel
theorem dX6_use_201 : decode cX6_use 201 = .ok (.ireturn, 1) := by decide +kernel
set_option maxRecDepth 20000 in
theorem ggX6_itemOf_X6_isKart : GoodIn wsX6_itemOf wsX6_isKart := goodIn_r _ [7, 8, 9, 10, 6, 11, 17, 18, 19, 20, 21, 22, 23, 24, 25, 26, 27, 28, 29, 30, 31, 32, 33, 34, 35, 36, 37, 38, 39, 40, 41, 42] (by decide +kernel) (by decide +kernel)
set_option maxRecDepth 20000 in
theorem gX6_itemOf_X6_isKart : GoodIn wsX6_itemOf (wsV RX6 101 RX6 yX6_isKart wsX6_isKart) := goodIn_app (goodIn_of _ (by decide +kernel)) ggX6_itemOf_X6_isKart
set_option maxRecDepth 20000 in
theorem ggX6_itemOf_X6_fails : GoodIn wsX6_itemOf wsX6_fails := goodIn_r _ [15, 16, 17, 18, 19, 20, 21, 22, 23, 24, 25, 26, 27, 28, 29, 30, 31, 32, 33, 34, 35, 36, 37, 38, 39, 40, 41, 42] (by decide +kernel) (by decide +kernel)
set_option maxRecDepth 20000 in
theorem gX6_itemOf_X6_fails : GoodIn wsX6_itemOf (wsV RX6 70 RX6 yX6_fails wsX6_fails) := goodIn_app (goodIn_of _ (by decide +kernel)) ggX6_itemOf_X6_fails
theorem dX6_itemOf_0 : decode cX6_itemOf 0 = .ok (.aload_n 0, 1) := by decide +kernel
theorem dX6_itemOf_1 : decode cX6_itemOf 1 = .ok (.aload_n 0, 1) := by decide +kernel
theorem dX6_itemOf_2 : decode cX6_itemOf 2 = .ok (.iload_n 1, 1) := by decide +kernel
theorem dX6_itemOf_3 : decode cX6_itemOf 3 = .ok (.invokevirtual 101, 3) := by decide +kernel
theorem dX6_itemOf_6 : decode cX6_itemOf 6 = .ok (.ifCond .eq 7, 3) := by decide +kernel
theorem dX6_itemOf_9 : decode cX6_itemOf 9 = .ok (.iconst 0, 1) := by decide +kernel
theorem dX6_itemOf_10 : decode cX6_itemOf 10 = .ok (.goto 4, 3) := by decide +kernel
theorem dX6_itemOf_13 : decode cX6_itemOf 13 = .ok (.iconst 1, 1) := by decide +kernel
theorem dX6_itemOf_14 : decode cX6_itemOf 14 = .ok (.invokevirtual 70, 3) := by decide +kernel
theorem dX6_itemOf_17 : decode cX6_itemOf 17 = .ok (.ifCond .eq 7, 3) := by decide +kernel
theorem dX6_itemOf_20 : decode cX6_itemOf 20 = .ok (.iconst 0, 1) := by decide +kernel
theorem dX6_itemOf_21 : decode cX6_itemOf 21 = .ok (.goto 20, 3) := by decide +kernel
theorem dX6_itemOf_24 : decode cX6_itemOf 24 = .ok (.aload_n 0, 1) := by decide +kernel
theorem dX6_itemOf_25 : decode cX6_itemOf 25 = .ok (.getfield 87, 3) := by decide +kernel
theorem dX6_itemOf_28 : decode cX6_itemOf 28 = .ok (.ifCond .eq 12, 3) := by decide +kernel
theorem dX6_itemOf_31 : decode cX6_itemOf 31 = .ok (.aload_n 0, 1) := by decide +kernel
theorem dX6_itemOf_32 : decode cX6_itemOf 32 = .ok (.getfield 41, 3) := by decide +kernel
theorem dX6_itemOf_35 : decode cX6_itemOf 35 = .ok (.iload_n 1, 1) := by decide +kernel
theorem dX6_itemOf_36 : decode cX6_itemOf 36 = .ok (.iaload, 1) := by decide +kernel
theorem dX6_itemOf_37 : decode cX6_itemOf 37 = .ok (.goto 4, 3) := by decide +kernel
theorem dX6_itemOf_40 : decode cX6_itemOf 40 = .ok (.iconst (-1), 1) := by decide +kernel
theorem dX6_itemOf_41 : decode cX6_itemOf 41 = .ok (.ireturn, 1) := by decide +kernel
set_option maxRecDepth 20000 in
theorem ggX6_stunned_X6_isKart : GoodIn wsX6_stunned wsX6_isKart := goodIn_r _ [8, 9, 10, 11, 7, 12, 18, 19, 20, 21, 22, 23, 24, 25, 26, 27, 28, 29, 30, 31, 32, 33, 34, 35, 36, 37, 38, 39, 40, 41, 42, 43] (by decide +kernel) (by decide +kernel)
set_option maxRecDepth 20000 in
theorem gX6_stunned_X6_isKart : GoodIn wsX6_stunned (wsV RX6 101 RX6 yX6_isKart wsX6_isKart) := goodIn_app (goodIn_of _ (by decide +kernel)) ggX6_stunned_X6_isKart
set_option maxRecDepth 20000 in
theorem ggX6_stunned_X6_fails : GoodIn wsX6_stunned wsX6_fails := goodIn_r _ [16, 17, 18, 19, 20, 21, 22, 23, 24, 25, 26, 27, 28, 29, 30, 31, 32, 33, 34, 35, 36, 37, 38, 39, 40, 41, 42, 43] (by decide +kernel) (by decide +kernel)
set_option maxRecDepth 20000 in
theorem gX6_stunned_X6_fails : GoodIn wsX6_stunned (wsV RX6 70 RX6 yX6_fails wsX6_fails) := goodIn_app (goodIn_of _ (by decide +kernel)) ggX6_stunned_X6_fails
theorem dX6_stunned_0 : decode cX6_stunned 0 = .ok (.aload_n 0, 1) := by decide +kernel
theorem dX6_stunned_1 : decode cX6_stunned 1 = .ok (.aload_n 0, 1) := by decide +kernel
theorem dX6_stunned_2 : decode cX6_stunned 2 = .ok (.iload_n 1, 1) := by decide +kernel
theorem dX6_stunned_3 : decode cX6_stunned 3 = .ok (.invokevirtual 101, 3) := by decide +kernel
theorem dX6_stunned_6 : decode cX6_stunned 6 = .ok (.ifCond .eq 7, 3) := by decide +kernel
theorem dX6_stunned_9 : decode cX6_stunned 9 = .ok (.iconst 0, 1) := by decide +kernel
theorem dX6_stunned_10 : decode cX6_stunned 10 = .ok (.goto 4, 3) := by decide +kernel
theorem dX6_stunned_13 : decode cX6_stunned 13 = .ok (.iconst 1, 1) := by decide +kernel
theorem dX6_stunned_14 : decode cX6_stunned 14 = .ok (.invokevirtual 70, 3) := by decide +kernel
theorem dX6_stunned_17 : decode cX6_stunned 17 = .ok (.ifCond .eq 7, 3) := by decide +kernel
theorem dX6_stunned_20 : decode cX6_stunned 20 = .ok (.iconst 0, 1) := by decide +kernel
theorem dX6_stunned_21 : decode cX6_stunned 21 = .ok (.goto 38, 3) := by decide +kernel
theorem dX6_stunned_24 : decode cX6_stunned 24 = .ok (.aload_n 0, 1) := by decide +kernel
theorem dX6_stunned_25 : decode cX6_stunned 25 = .ok (.getfield 87, 3) := by decide +kernel
theorem dX6_stunned_28 : decode cX6_stunned 28 = .ok (.ifCond .eq 30, 3) := by decide +kernel
theorem dX6_stunned_31 : decode cX6_stunned 31 = .ok (.aload_n 0, 1) := by decide +kernel
theorem dX6_stunned_32 : decode cX6_stunned 32 = .ok (.getfield 48, 3) := by decide +kernel
theorem dX6_stunned_35 : decode cX6_stunned 35 = .ok (.iload_n 1, 1) := by decide +kernel
theorem dX6_stunned_36 : decode cX6_stunned 36 = .ok (.iaload, 1) := by decide +kernel
theorem dX6_stunned_37 : decode cX6_stunned 37 = .ok (.aload_n 0, 1) := by decide +kernel
theorem dX6_stunned_38 : decode cX6_stunned 38 = .ok (.getfield 104, 3) := by decide +kernel
theorem dX6_stunned_41 : decode cX6_stunned 41 = .ok (.if_icmp .le 17, 3) := by decide +kernel
theorem dX6_stunned_44 : decode cX6_stunned 44 = .ok (.aload_n 0, 1) := by decide +kernel
theorem dX6_stunned_45 : decode cX6_stunned 45 = .ok (.getfield 48, 3) := by decide +kernel
theorem dX6_stunned_48 : decode cX6_stunned 48 = .ok (.iload_n 1, 1) := by decide +kernel
theorem dX6_stunned_49 : decode cX6_stunned 49 = .ok (.iaload, 1) := by decide +kernel
theorem dX6_stunned_50 : decode cX6_stunned 50 = .ok (.aload_n 0, 1) := by decide +kernel
theorem dX6_stunned_51 : decode cX6_stunned 51 = .ok (.getfield 104, 3) := by decide +kernel
theorem dX6_stunned_54 : decode cX6_stunned 54 = .ok (.isub, 1) := by decide +kernel
theorem dX6_stunned_55 : decode cX6_stunned 55 = .ok (.goto 4, 3) := by decide +kernel
theorem dX6_stunned_58 : decode cX6_stunned 58 = .ok (.iconst 0, 1) := by decide +kernel
theorem dX6_stunned_59 : decode cX6_stunned 59 = .ok (.ireturn, 1) := by decide +kernel
theorem dX6_worth_0 : decode cX6_worth 0 = .ok (.iload_n 0, 1) := by decide +kernel
theorem dX6_worth_1 : decode cX6_worth 1 = .ok (.ifCond .ne 8, 3) := by decide +kernel
theorem dX6_worth_4 : decode cX6_worth 4 = .ok (.bipush 10, 2) := by decide +kernel
theorem dX6_worth_6 : decode cX6_worth 6 = .ok (.goto 27, 3) := by decide +kernel
theorem dX6_worth_9 : decode cX6_worth 9 = .ok (.iload_n 0, 1) := by decide +kernel
theorem dX6_worth_10 : decode cX6_worth 10 = .ok (.iconst 1, 1) := by decide +kernel
theorem dX6_worth_11 : decode cX6_worth 11 = .ok (.if_icmp .ne 8, 3) := by decide +kernel
theorem dX6_worth_14 : decode cX6_worth 14 = .ok (.bipush 8, 2) := by decide +kernel
theorem dX6_worth_16 : decode cX6_worth 16 = .ok (.goto 17, 3) := by decide +kernel
theorem dX6_worth_19 : decode cX6_worth 19 = .ok (.iload_n 0, 1) := by decide +kernel
theorem dX6_worth_20 : decode cX6_worth 20 = .ok (.iconst 2, 1) := by decide +kernel
theorem dX6_worth_21 : decode cX6_worth 21 = .ok (.if_icmp .ne 8, 3) := by decide +kernel
theorem dX6_worth_24 : decode cX6_worth 24 = .ok (.bipush 6, 2) := by decide +kernel
theorem dX6_worth_26 : decode cX6_worth 26 = .ok (.goto 7, 3) := by decide +kernel
theorem dX6_worth_29 : decode cX6_worth 29 = .ok (.bipush 8, 2) := by decide +kernel
theorem dX6_worth_31 : decode cX6_worth 31 = .ok (.iload_n 0, 1) := by decide +kernel
theorem dX6_worth_32 : decode cX6_worth 32 = .ok (.isub, 1) := by decide +kernel
theorem dX6_worth_33 : decode cX6_worth 33 = .ok (.ireturn, 1) := by decide +kernel
set_option maxRecDepth 20000 in
theorem ggX6_end_X6_fails : GoodIn wsX6_end wsX6_fails := goodIn_r _ [13, 14, 33, 34, 35, 36, 37, 38, 39, 40, 41, 42, 43, 44, 45, 46, 47, 48, 49, 50, 51, 52, 53, 54, 55, 56, 57, 58] (by decide +kernel) (by decide +kernel)
set_option maxRecDepth 20000 in
theorem gX6_end_X6_fails : GoodIn wsX6_end (wsV RX6 70 RX6 yX6_fails wsX6_fails) := goodIn_app (goodIn_of _ (by decide +kernel)) ggX6_end_X6_fails
set_option maxRecDepth 20000 in
theorem ggX6_end_X6_atRank : GoodIn wsX6_end wsX6_atRank := goodIn_r _ [18, 2, 19, 20, 21, 12, 22, 23, 24, 25, 26, 3, 4, 5, 27, 28, 29, 33, 34, 35, 36, 37, 38, 39, 40, 41, 42, 43, 44, 45, 46, 47, 48, 49, 50, 51, 52, 53, 54, 55, 56, 57, 58] (by decide +kernel) (by decide +kernel)
set_option maxRecDepth 20000 in
theorem gX6_end_X6_atRank : GoodIn wsX6_end (wsV RX6 121 RX6 yX6_atRank wsX6_atRank) := goodIn_app (goodIn_of _ (by decide +kernel)) ggX6_end_X6_atRank
set_option maxRecDepth 20000 in
theorem ggX6_end_X6_ranked : GoodIn wsX6_end wsX6_ranked := goodIn_r _ [22, 2, 23, 24, 25, 12, 26, 3, 4, 5, 27, 28, 29, 33, 34, 35, 36, 37, 38, 39, 40, 41, 42, 43, 44, 45, 46, 47, 48, 49, 50, 51, 52, 53, 54, 55, 56, 57, 58] (by decide +kernel) (by decide +kernel)
set_option maxRecDepth 20000 in
theorem gX6_end_X6_ranked : GoodIn wsX6_end (wsV RX6 118 RX6 yX6_ranked wsX6_ranked) := goodIn_app (goodIn_of _ (by decide +kernel)) ggX6_end_X6_ranked
set_option maxRecDepth 20000 in
theorem ggX6_end_X6_worth : GoodIn wsX6_end wsX6_worth := goodIn_r _ [32] (by decide +kernel) (by decide +kernel)
set_option maxRecDepth 20000 in
theorem gX6_end_X6_worth : GoodIn wsX6_end (va_wsS RX6 141 yX6_worth wsX6_worth) := goodIn_app (goodIn_of _ (by decide +kernel)) ggX6_end_X6_worth
theorem dX6_end_0 : decode cX6_end 0 = .ok (.aload_n 0, 1) := by decide +kernel
theorem dX6_end_1 : decode cX6_end 1 = .ok (.aload_n 0, 1) := by decide +kernel
theorem dX6_end_2 : decode cX6_end 2 = .ok (.getfield 87, 3) := by decide +kernel
theorem dX6_end_5 : decode cX6_end 5 = .ok (.ifCond .eq 7, 3) := by decide +kernel
theorem dX6_end_8 : decode cX6_end 8 = .ok (.iconst 0, 1) := by decide +kernel
theorem dX6_end_9 : decode cX6_end 9 = .ok (.goto 4, 3) := by decide +kernel
theorem dX6_end_12 : decode cX6_end 12 = .ok (.iconst 1, 1) := by decide +kernel
theorem dX6_end_13 : decode cX6_end 13 = .ok (.invokevirtual 70, 3) := by decide +kernel
theorem dX6_end_16 : decode cX6_end 16 = .ok (.ifCond .eq 5, 3) := by decide +kernel
theorem dX6_end_19 : decode cX6_end 19 = .ok (.iconst 0, 1) := by decide +kernel
theorem dX6_end_20 : decode cX6_end 20 = .ok (.ireturn, 1) := by decide +kernel
theorem dX6_end_21 : decode cX6_end 21 = .ok (.aload_n 0, 1) := by decide +kernel
theorem dX6_end_22 : decode cX6_end 22 = .ok (.iconst 0, 1) := by decide +kernel
theorem dX6_end_23 : decode cX6_end 23 = .ok (.invokevirtual 121, 3) := by decide +kernel
theorem dX6_end_26 : decode cX6_end 26 = .ok (.istore_n 1, 1) := by decide +kernel
theorem dX6_end_27 : decode cX6_end 27 = .ok (.iconst 0, 1) := by decide +kernel
theorem dX6_end_28 : decode cX6_end 28 = .ok (.istore_n 2, 1) := by decide +kernel
theorem dX6_end_29 : decode cX6_end 29 = .ok (.iload_n 2, 1) := by decide +kernel
theorem dX6_end_30 : decode cX6_end 30 = .ok (.aload_n 0, 1) := by decide +kernel
theorem dX6_end_31 : decode cX6_end 31 = .ok (.getfield 64, 3) := by decide +kernel
theorem dX6_end_34 : decode cX6_end 34 = .ok (.if_icmp .ge 88, 3) := by decide +kernel
theorem dX6_end_37 : decode cX6_end 37 = .ok (.aload_n 0, 1) := by decide +kernel
theorem dX6_end_38 : decode cX6_end 38 = .ok (.iload_n 2, 1) := by decide +kernel
theorem dX6_end_39 : decode cX6_end 39 = .ok (.invokevirtual 118, 3) := by decide +kernel
theorem dX6_end_42 : decode cX6_end 42 = .ok (.istore_n 3, 1) := by decide +kernel
theorem dX6_end_43 : decode cX6_end 43 = .ok (.aload_n 0, 1) := by decide +kernel
theorem dX6_end_44 : decode cX6_end 44 = .ok (.getfield 38, 3) := by decide +kernel
theorem dX6_end_47 : decode cX6_end 47 = .ok (.iload_n 2, 1) := by decide +kernel
theorem dX6_end_48 : decode cX6_end 48 = .ok (.iaload, 1) := by decide +kernel
theorem dX6_end_49 : decode cX6_end 49 = .ok (.ifCond .gt 18, 3) := by decide +kernel
theorem dX6_end_52 : decode cX6_end 52 = .ok (.aload_n 0, 1) := by decide +kernel
theorem dX6_end_53 : decode cX6_end 53 = .ok (.getfield 26, 3) := by decide +kernel
theorem dX6_end_56 : decode cX6_end 56 = .ok (.iload_n 2, 1) := by decide +kernel
theorem dX6_end_57 : decode cX6_end 57 = .ok (.iaload, 1) := by decide +kernel
theorem dX6_end_58 : decode cX6_end 58 = .ok (.aload_n 0, 1) := by decide +kernel
theorem dX6_end_59 : decode cX6_end 59 = .ok (.getfield 29, 3) := by decide +kernel
theorem dX6_end_62 : decode cX6_end 62 = .ok (.iload_n 2, 1) := by decide +kernel
theorem dX6_end_63 : decode cX6_end 63 = .ok (.iaload, 1) := by decide +kernel
theorem dX6_end_64 : decode cX6_end 64 = .ok (.if_icmp .le 7, 3) := by decide +kernel
theorem dX6_end_67 : decode cX6_end 67 = .ok (.iconst 1, 1) := by decide +kernel
theorem dX6_end_68 : decode cX6_end 68 = .ok (.goto 4, 3) := by decide +kernel
theorem dX6_end_71 : decode cX6_end 71 = .ok (.iconst 0, 1) := by decide +kernel
theorem dX6_end_72 : decode cX6_end 72 = .ok (.istore 4, 2) := by decide +kernel
theorem dX6_end_74 : decode cX6_end 74 = .ok (.aload_n 0, 1) := by decide +kernel
theorem dX6_end_75 : decode cX6_end 75 = .ok (.getfield 51, 3) := by decide +kernel
theorem dX6_end_78 : decode cX6_end 78 = .ok (.bipush 6, 2) := by decide +kernel
theorem dX6_end_80 : decode cX6_end 80 = .ok (.aload_n 0, 1) := by decide +kernel
theorem dX6_end_81 : decode cX6_end 81 = .ok (.getfield 138, 3) := by decide +kernel
theorem dX6_end_84 : decode cX6_end 84 = .ok (.imul, 1) := by decide +kernel
theorem dX6_end_85 : decode cX6_end 85 = .ok (.iload_n 2, 1) := by decide +kernel
theorem dX6_end_86 : decode cX6_end 86 = .ok (.iadd, 1) := by decide +kernel
theorem dX6_end_87 : decode cX6_end 87 = .ok (.iload_n 3, 1) := by decide +kernel
theorem dX6_end_88 : decode cX6_end 88 = .ok (.iastore, 1) := by decide +kernel
theorem dX6_end_89 : decode cX6_end 89 = .ok (.aload_n 0, 1) := by decide +kernel
theorem dX6_end_90 : decode cX6_end 90 = .ok (.getfield 54, 3) := by decide +kernel
theorem dX6_end_93 : decode cX6_end 93 = .ok (.bipush 6, 2) := by decide +kernel
theorem dX6_end_95 : decode cX6_end 95 = .ok (.aload_n 0, 1) := by decide +kernel
theorem dX6_end_96 : decode cX6_end 96 = .ok (.getfield 138, 3) := by decide +kernel
theorem dX6_end_99 : decode cX6_end 99 = .ok (.imul, 1) := by decide +kernel
theorem dX6_end_100 : decode cX6_end 100 = .ok (.iload_n 2, 1) := by decide +kernel
theorem dX6_end_101 : decode cX6_end 101 = .ok (.iadd, 1) := by decide +kernel
theorem dX6_end_102 : decode cX6_end 102 = .ok (.iload 4, 2) := by decide +kernel
theorem dX6_end_104 : decode cX6_end 104 = .ok (.ifCond .eq 10, 3) := by decide +kernel
theorem dX6_end_107 : decode cX6_end 107 = .ok (.iload_n 3, 1) := by decide +kernel
theorem dX6_end_108 : decode cX6_end 108 = .ok (.invokestatic 141, 3) := by decide +kernel
theorem dX6_end_111 : decode cX6_end 111 = .ok (.goto 4, 3) := by decide +kernel
theorem dX6_end_114 : decode cX6_end 114 = .ok (.iconst 0, 1) := by decide +kernel
theorem dX6_end_115 : decode cX6_end 115 = .ok (.iastore, 1) := by decide +kernel
theorem dX6_end_116 : decode cX6_end 116 = .ok (.iinc 2 1, 3) := by decide +kernel
theorem dX6_end_119 : decode cX6_end 119 = .ok (.goto (-90), 3) := by decide +kernel
theorem dX6_end_122 : decode cX6_end 122 = .ok (.aload_n 0, 1) := by decide +kernel
theorem dX6_end_123 : decode cX6_end 123 = .ok (.dup, 1) := by decide +kernel
theorem dX6_end_124 : decode cX6_end 124 = .ok (.getfield 138, 3) := by decide +kernel
theorem dX6_end_127 : decode cX6_end 127 = .ok (.iconst 1, 1) := by decide +kernel
theorem dX6_end_128 : decode cX6_end 128 = .ok (.iadd, 1) := by decide +kernel
theorem dX6_end_129 : decode cX6_end 129 = .ok (.putfield 138, 3) := by decide +kernel
theorem dX6_end_132 : decode cX6_end 132 = .ok (.aload_n 0, 1) := by decide +kernel
theorem dX6_end_133 : decode cX6_end 133 = .ok (.iconst 0, 1) := by decide +kernel
theorem dX6_end_134 : decode cX6_end 134 = .ok (.putfield 87, 3) := by decide +kernel
theorem dX6_end_137 : decode cX6_end 137 = .ok (.iload_n 1, 1) := by decide +kernel
theorem dX6_end_138 : decode cX6_end 138 = .ok (.ireturn, 1) := by decide +kernel
set_option maxRecDepth 20000 in
theorem ggX6_races_X6_tells : GoodIn wsX6_races wsX6_tells := goodIn_r _ [6, 7, 8, 9, 10, 11, 12, 13, 14, 15, 16, 17, 18, 19, 20, 21, 22, 23, 24, 25, 26, 27, 28, 29, 30, 31, 32, 33] (by decide +kernel) (by decide +kernel)
set_option maxRecDepth 20000 in
theorem gX6_races_X6_tells : GoodIn wsX6_races (wsV RX6 80 RX6 yX6_tells wsX6_tells) := goodIn_app (goodIn_of _ (by decide +kernel)) ggX6_races_X6_tells
theorem dX6_races_0 : decode cX6_races 0 = .ok (.aload_n 0, 1) := by decide +kernel
theorem dX6_races_1 : decode cX6_races 1 = .ok (.aload_n 0, 1) := by decide +kernel
theorem dX6_races_2 : decode cX6_races 2 = .ok (.getfield 138, 3) := by decide +kernel
theorem dX6_races_5 : decode cX6_races 5 = .ok (.invokevirtual 80, 3) := by decide +kernel
theorem dX6_races_8 : decode cX6_races 8 = .ok (.ireturn, 1) := by decide +kernel
set_option maxRecDepth 20000 in
theorem ggX6_place_X6_isIn : GoodIn wsX6_place wsX6_isIn := goodIn_r _ [6] (by decide +kernel) (by decide +kernel)
set_option maxRecDepth 20000 in
theorem gX6_place_X6_isIn : GoodIn wsX6_place (va_wsS RX6 60 yX6_isIn wsX6_isIn) := goodIn_app (goodIn_of _ (by decide +kernel)) ggX6_place_X6_isIn
set_option maxRecDepth 20000 in
theorem ggX6_place_X6_isKart : GoodIn wsX6_place wsX6_isKart := goodIn_r _ [10, 11, 3, 4, 5, 6, 17, 18, 19, 20, 21, 22, 23, 24, 25, 26, 27, 28, 29, 30, 31, 32, 33, 34, 35, 36, 37, 38, 39, 40, 41, 42] (by decide +kernel) (by decide +kernel)
set_option maxRecDepth 20000 in
theorem gX6_place_X6_isKart : GoodIn wsX6_place (wsV RX6 101 RX6 yX6_isKart wsX6_isKart) := goodIn_app (goodIn_of _ (by decide +kernel)) ggX6_place_X6_isKart
set_option maxRecDepth 20000 in
theorem ggX6_place_X6_fails : GoodIn wsX6_place wsX6_fails := goodIn_r _ [15, 16, 17, 18, 19, 20, 21, 22, 23, 24, 25, 26, 27, 28, 29, 30, 31, 32, 33, 34, 35, 36, 37, 38, 39, 40, 41, 42] (by decide +kernel) (by decide +kernel)
set_option maxRecDepth 20000 in
theorem gX6_place_X6_fails : GoodIn wsX6_place (wsV RX6 70 RX6 yX6_fails wsX6_fails) := goodIn_app (goodIn_of _ (by decide +kernel)) ggX6_place_X6_fails
theorem dX6_place_0 : decode cX6_place 0 = .ok (.aload_n 0, 1) := by decide +kernel
theorem dX6_place_1 : decode cX6_place 1 = .ok (.iload_n 1, 1) := by decide +kernel
theorem dX6_place_2 : decode cX6_place 2 = .ok (.iconst 0, 1) := by decide +kernel
theorem dX6_place_3 : decode cX6_place 3 = .ok (.aload_n 0, 1) := by decide +kernel
theorem dX6_place_4 : decode cX6_place 4 = .ok (.getfield 138, 3) := by decide +kernel
theorem dX6_place_7 : decode cX6_place 7 = .ok (.iconst 1, 1) := by decide +kernel
theorem dX6_place_8 : decode cX6_place 8 = .ok (.isub, 1) := by decide +kernel
theorem dX6_place_9 : decode cX6_place 9 = .ok (.invokestatic 60, 3) := by decide +kernel
theorem dX6_place_12 : decode cX6_place 12 = .ok (.ifCond .eq 15, 3) := by decide +kernel
theorem dX6_place_15 : decode cX6_place 15 = .ok (.aload_n 0, 1) := by decide +kernel
theorem dX6_place_16 : decode cX6_place 16 = .ok (.iload_n 2, 1) := by decide +kernel
theorem dX6_place_17 : decode cX6_place 17 = .ok (.invokevirtual 101, 3) := by decide +kernel
theorem dX6_place_20 : decode cX6_place 20 = .ok (.ifCond .eq 7, 3) := by decide +kernel
theorem dX6_place_23 : decode cX6_place 23 = .ok (.iconst 0, 1) := by decide +kernel
theorem dX6_place_24 : decode cX6_place 24 = .ok (.goto 4, 3) := by decide +kernel
theorem dX6_place_27 : decode cX6_place 27 = .ok (.iconst 1, 1) := by decide +kernel
theorem dX6_place_28 : decode cX6_place 28 = .ok (.invokevirtual 70, 3) := by decide +kernel
theorem dX6_place_31 : decode cX6_place 31 = .ok (.ifCond .eq 7, 3) := by decide +kernel
theorem dX6_place_34 : decode cX6_place 34 = .ok (.iconst 0, 1) := by decide +kernel
theorem dX6_place_35 : decode cX6_place 35 = .ok (.goto 14, 3) := by decide +kernel
theorem dX6_place_38 : decode cX6_place 38 = .ok (.aload_n 0, 1) := by decide +kernel
theorem dX6_place_39 : decode cX6_place 39 = .ok (.getfield 51, 3) := by decide +kernel
theorem dX6_place_42 : decode cX6_place 42 = .ok (.bipush 6, 2) := by decide +kernel
theorem dX6_place_44 : decode cX6_place 44 = .ok (.iload_n 1, 1) := by decide +kernel
theorem dX6_place_45 : decode cX6_place 45 = .ok (.imul, 1) := by decide +kernel
theorem dX6_place_46 : decode cX6_place 46 = .ok (.iload_n 2, 1) := by decide +kernel
theorem dX6_place_47 : decode cX6_place 47 = .ok (.iadd, 1) := by decide +kernel
theorem dX6_place_48 : decode cX6_place 48 = .ok (.iaload, 1) := by decide +kernel
theorem dX6_place_49 : decode cX6_place 49 = .ok (.ireturn, 1) := by decide +kernel
set_option maxRecDepth 20000 in
theorem ggX6_setDropped_X6_isIn : GoodIn wsX6_setDropped wsX6_isIn := goodIn_r _ [5] (by decide +kernel) (by decide +kernel)
set_option maxRecDepth 20000 in
theorem gX6_setDropped_X6_isIn : GoodIn wsX6_setDropped (va_wsS RX6 60 yX6_isIn wsX6_isIn) := goodIn_app (goodIn_of _ (by decide +kernel)) ggX6_setDropped_X6_isIn
set_option maxRecDepth 20000 in
theorem ggX6_setDropped_X6_fails : GoodIn wsX6_setDropped wsX6_fails := goodIn_r _ [9, 10, 11, 12, 13, 14, 15, 16, 17, 18, 19, 20, 21, 22, 23, 24, 25, 26, 27, 28, 29, 30, 31, 32, 33, 34, 35, 36] (by decide +kernel) (by decide +kernel)
set_option maxRecDepth 20000 in
theorem gX6_setDropped_X6_fails : GoodIn wsX6_setDropped (wsV RX6 70 RX6 yX6_fails wsX6_fails) := goodIn_app (goodIn_of _ (by decide +kernel)) ggX6_setDropped_X6_fails
theorem dX6_setDropped_0 : decode cX6_setDropped 0 = .ok (.aload_n 0, 1) := by decide +kernel
theorem dX6_setDropped_1 : decode cX6_setDropped 1 = .ok (.iload_n 1, 1) := by decide +kernel
theorem dX6_setDropped_2 : decode cX6_setDropped 2 = .ok (.iconst 0, 1) := by decide +kernel
theorem dX6_setDropped_3 : decode cX6_setDropped 3 = .ok (.iconst 3, 1) := by decide +kernel
theorem dX6_setDropped_4 : decode cX6_setDropped 4 = .ok (.invokestatic 60, 3) := by decide +kernel
theorem dX6_setDropped_7 : decode cX6_setDropped 7 = .ok (.ifCond .eq 7, 3) := by decide +kernel
theorem dX6_setDropped_10 : decode cX6_setDropped 10 = .ok (.iconst 0, 1) := by decide +kernel
theorem dX6_setDropped_11 : decode cX6_setDropped 11 = .ok (.goto 4, 3) := by decide +kernel
theorem dX6_setDropped_14 : decode cX6_setDropped 14 = .ok (.iconst 1, 1) := by decide +kernel
theorem dX6_setDropped_15 : decode cX6_setDropped 15 = .ok (.invokevirtual 70, 3) := by decide +kernel
theorem dX6_setDropped_18 : decode cX6_setDropped 18 = .ok (.ifCond .eq 5, 3) := by decide +kernel
theorem dX6_setDropped_21 : decode cX6_setDropped 21 = .ok (.iconst 0, 1) := by decide +kernel
theorem dX6_setDropped_22 : decode cX6_setDropped 22 = .ok (.ireturn, 1) := by decide +kernel
theorem dX6_setDropped_23 : decode cX6_setDropped 23 = .ok (.aload_n 0, 1) := by decide +kernel
theorem dX6_setDropped_24 : decode cX6_setDropped 24 = .ok (.getfield 144, 3) := by decide +kernel
theorem dX6_setDropped_27 : decode cX6_setDropped 27 = .ok (.istore_n 2, 1) := by decide +kernel
theorem dX6_setDropped_28 : decode cX6_setDropped 28 = .ok (.aload_n 0, 1) := by decide +kernel
theorem dX6_setDropped_29 : decode cX6_setDropped 29 = .ok (.iload_n 1, 1) := by decide +kernel
theorem dX6_setDropped_30 : decode cX6_setDropped 30 = .ok (.putfield 144, 3) := by decide +kernel
theorem dX6_setDropped_33 : decode cX6_setDropped 33 = .ok (.iload_n 2, 1) := by decide +kernel
theorem dX6_setDropped_34 : decode cX6_setDropped 34 = .ok (.ireturn, 1) := by decide +kernel
theorem dX6_sum_0 : decode cX6_sum 0 = .ok (.iconst 0, 1) := by decide +kernel
theorem dX6_sum_1 : decode cX6_sum 1 = .ok (.istore_n 2, 1) := by decide +kernel
theorem dX6_sum_2 : decode cX6_sum 2 = .ok (.iconst 0, 1) := by decide +kernel
theorem dX6_sum_3 : decode cX6_sum 3 = .ok (.istore_n 3, 1) := by decide +kernel
theorem dX6_sum_4 : decode cX6_sum 4 = .ok (.iload_n 3, 1) := by decide +kernel
theorem dX6_sum_5 : decode cX6_sum 5 = .ok (.aload_n 0, 1) := by decide +kernel
theorem dX6_sum_6 : decode cX6_sum 6 = .ok (.getfield 138, 3) := by decide +kernel
theorem dX6_sum_9 : decode cX6_sum 9 = .ok (.if_icmp .ge 105, 3) := by decide +kernel
theorem dX6_sum_12 : decode cX6_sum 12 = .ok (.aload_n 0, 1) := by decide +kernel
theorem dX6_sum_13 : decode cX6_sum 13 = .ok (.getfield 54, 3) := by decide +kernel
theorem dX6_sum_16 : decode cX6_sum 16 = .ok (.bipush 6, 2) := by decide +kernel
theorem dX6_sum_18 : decode cX6_sum 18 = .ok (.iload_n 3, 1) := by decide +kernel
theorem dX6_sum_19 : decode cX6_sum 19 = .ok (.imul, 1) := by decide +kernel
theorem dX6_sum_20 : decode cX6_sum 20 = .ok (.iload_n 1, 1) := by decide +kernel
theorem dX6_sum_21 : decode cX6_sum 21 = .ok (.iadd, 1) := by decide +kernel
theorem dX6_sum_22 : decode cX6_sum 22 = .ok (.iaload, 1) := by decide +kernel
theorem dX6_sum_23 : decode cX6_sum 23 = .ok (.istore 4, 2) := by decide +kernel
theorem dX6_sum_25 : decode cX6_sum 25 = .ok (.iconst 0, 1) := by decide +kernel
theorem dX6_sum_26 : decode cX6_sum 26 = .ok (.istore 5, 2) := by decide +kernel
theorem dX6_sum_28 : decode cX6_sum 28 = .ok (.iconst 0, 1) := by decide +kernel
theorem dX6_sum_29 : decode cX6_sum 29 = .ok (.istore 6, 2) := by decide +kernel
theorem dX6_sum_31 : decode cX6_sum 31 = .ok (.iload 6, 2) := by decide +kernel
theorem dX6_sum_33 : decode cX6_sum 33 = .ok (.aload_n 0, 1) := by decide +kernel
theorem dX6_sum_34 : decode cX6_sum 34 = .ok (.getfield 138, 3) := by decide +kernel
theorem dX6_sum_37 : decode cX6_sum 37 = .ok (.if_icmp .ge 53, 3) := by decide +kernel
theorem dX6_sum_40 : decode cX6_sum 40 = .ok (.aload_n 0, 1) := by decide +kernel
theorem dX6_sum_41 : decode cX6_sum 41 = .ok (.getfield 54, 3) := by decide +kernel
theorem dX6_sum_44 : decode cX6_sum 44 = .ok (.bipush 6, 2) := by decide +kernel
theorem dX6_sum_46 : decode cX6_sum 46 = .ok (.iload 6, 2) := by decide +kernel
theorem dX6_sum_48 : decode cX6_sum 48 = .ok (.imul, 1) := by decide +kernel
theorem dX6_sum_49 : decode cX6_sum 49 = .ok (.iload_n 1, 1) := by decide +kernel
theorem dX6_sum_50 : decode cX6_sum 50 = .ok (.iadd, 1) := by decide +kernel
theorem dX6_sum_51 : decode cX6_sum 51 = .ok (.iaload, 1) := by decide +kernel
theorem dX6_sum_52 : decode cX6_sum 52 = .ok (.istore 7, 2) := by decide +kernel
theorem dX6_sum_54 : decode cX6_sum 54 = .ok (.iload 5, 2) := by decide +kernel
theorem dX6_sum_56 : decode cX6_sum 56 = .ok (.iload 7, 2) := by decide +kernel
theorem dX6_sum_58 : decode cX6_sum 58 = .ok (.iload 4, 2) := by decide +kernel
theorem dX6_sum_60 : decode cX6_sum 60 = .ok (.if_icmp .lt 16, 3) := by decide +kernel
theorem dX6_sum_63 : decode cX6_sum 63 = .ok (.iload 7, 2) := by decide +kernel
theorem dX6_sum_65 : decode cX6_sum 65 = .ok (.iload 4, 2) := by decide +kernel
theorem dX6_sum_67 : decode cX6_sum 67 = .ok (.if_icmp .ne 13, 3) := by decide +kernel
theorem dX6_sum_70 : decode cX6_sum 70 = .ok (.iload 6, 2) := by decide +kernel
theorem dX6_sum_72 : decode cX6_sum 72 = .ok (.iload_n 3, 1) := by decide +kernel
theorem dX6_sum_73 : decode cX6_sum 73 = .ok (.if_icmp .ge 7, 3) := by decide +kernel
theorem dX6_sum_76 : decode cX6_sum 76 = .ok (.iconst 1, 1) := by decide +kernel
theorem dX6_sum_77 : decode cX6_sum 77 = .ok (.goto 4, 3) := by decide +kernel
theorem dX6_sum_80 : decode cX6_sum 80 = .ok (.iconst 0, 1) := by decide +kernel
theorem dX6_sum_81 : decode cX6_sum 81 = .ok (.iadd, 1) := by decide +kernel
theorem dX6_sum_82 : decode cX6_sum 82 = .ok (.istore 5, 2) := by decide +kernel
theorem dX6_sum_84 : decode cX6_sum 84 = .ok (.iinc 6 1, 3) := by decide +kernel
theorem dX6_sum_87 : decode cX6_sum 87 = .ok (.goto (-56), 3) := by decide +kernel
theorem dX6_sum_90 : decode cX6_sum 90 = .ok (.iload_n 2, 1) := by decide +kernel
theorem dX6_sum_91 : decode cX6_sum 91 = .ok (.iload 5, 2) := by decide +kernel
theorem dX6_sum_93 : decode cX6_sum 93 = .ok (.aload_n 0, 1) := by decide +kernel
theorem dX6_sum_94 : decode cX6_sum 94 = .ok (.getfield 144, 3) := by decide +kernel
theorem dX6_sum_97 : decode cX6_sum 97 = .ok (.if_icmp .lt 8, 3) := by decide +kernel
theorem dX6_sum_100 : decode cX6_sum 100 = .ok (.iload 4, 2) := by decide +kernel
theorem dX6_sum_102 : decode cX6_sum 102 = .ok (.goto 4, 3) := by decide +kernel
theorem dX6_sum_105 : decode cX6_sum 105 = .ok (.iconst 0, 1) := by decide +kernel
theorem dX6_sum_106 : decode cX6_sum 106 = .ok (.iadd, 1) := by decide +kernel
theorem dX6_sum_107 : decode cX6_sum 107 = .ok (.istore_n 2, 1) := by decide +kernel
theorem dX6_sum_108 : decode cX6_sum 108 = .ok (.iinc 3 1, 3) := by decide +kernel
theorem dX6_sum_111 : decode cX6_sum 111 = .ok (.goto (-107), 3) := by decide +kernel
theorem dX6_sum_114 : decode cX6_sum 114 = .ok (.iload_n 2, 1) := by decide +kernel
theorem dX6_sum_115 : decode cX6_sum 115 = .ok (.ireturn, 1) := by decide +kernel
set_option maxRecDepth 20000 in
theorem ggX6_points_X6_isKart : GoodIn wsX6_points wsX6_isKart := goodIn_r _ [5, 6, 7, 8, 4, 9, 22, 23, 24, 25, 26, 27, 28, 29, 30, 31, 32, 33, 34, 35, 36, 37, 38, 39, 40, 41, 42, 43, 44, 45, 46, 47] (by decide +kernel) (by decide +kernel)
set_option maxRecDepth 20000 in
theorem gX6_points_X6_isKart : GoodIn wsX6_points (wsV RX6 101 RX6 yX6_isKart wsX6_isKart) := goodIn_app (goodIn_of _ (by decide +kernel)) ggX6_points_X6_isKart
set_option maxRecDepth 20000 in
theorem ggX6_points_X6_fails : GoodIn wsX6_points wsX6_fails := goodIn_r _ [13, 14, 22, 23, 24, 25, 26, 27, 28, 29, 30, 31, 32, 33, 34, 35, 36, 37, 38, 39, 40, 41, 42, 43, 44, 45, 46, 47] (by decide +kernel) (by decide +kernel)
set_option maxRecDepth 20000 in
theorem gX6_points_X6_fails : GoodIn wsX6_points (wsV RX6 70 RX6 yX6_fails wsX6_fails) := goodIn_app (goodIn_of _ (by decide +kernel)) ggX6_points_X6_fails
set_option maxRecDepth 20000 in
theorem ggX6_points_X6_sum : GoodIn wsX6_points wsX6_sum := goodIn_r _ [18, 19, 20, 21, 22, 23, 24, 25, 26, 27, 28, 29, 30, 31, 32, 33, 34, 35, 36, 37, 38, 39, 40, 41, 42, 43, 44, 45, 46, 47] (by decide +kernel) (by decide +kernel)
set_option maxRecDepth 20000 in
theorem gX6_points_X6_sum : GoodIn wsX6_points (wsV RX6 147 RX6 yX6_sum wsX6_sum) := goodIn_app (goodIn_of _ (by decide +kernel)) ggX6_points_X6_sum
theorem dX6_points_0 : decode cX6_points 0 = .ok (.aload_n 0, 1) := by decide +kernel
theorem dX6_points_1 : decode cX6_points 1 = .ok (.aload_n 0, 1) := by decide +kernel
theorem dX6_points_2 : decode cX6_points 2 = .ok (.iload_n 1, 1) := by decide +kernel
theorem dX6_points_3 : decode cX6_points 3 = .ok (.invokevirtual 101, 3) := by decide +kernel
theorem dX6_points_6 : decode cX6_points 6 = .ok (.ifCond .eq 7, 3) := by decide +kernel
theorem dX6_points_9 : decode cX6_points 9 = .ok (.iconst 0, 1) := by decide +kernel
theorem dX6_points_10 : decode cX6_points 10 = .ok (.goto 4, 3) := by decide +kernel
theorem dX6_points_13 : decode cX6_points 13 = .ok (.iconst 1, 1) := by decide +kernel
theorem dX6_points_14 : decode cX6_points 14 = .ok (.invokevirtual 70, 3) := by decide +kernel
theorem dX6_points_17 : decode cX6_points 17 = .ok (.ifCond .eq 7, 3) := by decide +kernel
theorem dX6_points_20 : decode cX6_points 20 = .ok (.iconst 0, 1) := by decide +kernel
theorem dX6_points_21 : decode cX6_points 21 = .ok (.goto 8, 3) := by decide +kernel
theorem dX6_points_24 : decode cX6_points 24 = .ok (.aload_n 0, 1) := by decide +kernel
theorem dX6_points_25 : decode cX6_points 25 = .ok (.iload_n 1, 1) := by decide +kernel
theorem dX6_points_26 : decode cX6_points 26 = .ok (.invokevirtual 147, 3) := by decide +kernel
theorem dX6_points_29 : decode cX6_points 29 = .ok (.ireturn, 1) := by decide +kernel
set_option maxRecDepth 20000 in
theorem ggX6_teamPoints_X6_isIn : GoodIn wsX6_teamPoints wsX6_isIn := goodIn_r _ [6] (by decide +kernel) (by decide +kernel)
set_option maxRecDepth 20000 in
theorem gX6_teamPoints_X6_isIn : GoodIn wsX6_teamPoints (va_wsS RX6 60 yX6_isIn wsX6_isIn) := goodIn_app (goodIn_of _ (by decide +kernel)) ggX6_teamPoints_X6_isIn
set_option maxRecDepth 20000 in
theorem ggX6_teamPoints_X6_fails : GoodIn wsX6_teamPoints wsX6_fails := goodIn_r _ [10, 11, 19, 20, 21, 22, 23, 24, 25, 26, 27, 28, 29, 30, 31, 32, 33, 34, 35, 36, 37, 38, 39, 40, 41, 42, 43, 44] (by decide +kernel) (by decide +kernel)
set_option maxRecDepth 20000 in
theorem gX6_teamPoints_X6_fails : GoodIn wsX6_teamPoints (wsV RX6 70 RX6 yX6_fails wsX6_fails) := goodIn_app (goodIn_of _ (by decide +kernel)) ggX6_teamPoints_X6_fails
set_option maxRecDepth 20000 in
theorem ggX6_teamPoints_X6_sum : GoodIn wsX6_teamPoints wsX6_sum := goodIn_r _ [15, 16, 17, 18, 19, 20, 21, 22, 23, 24, 25, 26, 27, 28, 29, 30, 31, 32, 33, 34, 35, 36, 37, 38, 39, 40, 41, 42, 43, 44] (by decide +kernel) (by decide +kernel)
set_option maxRecDepth 20000 in
theorem gX6_teamPoints_X6_sum : GoodIn wsX6_teamPoints (wsV RX6 147 RX6 yX6_sum wsX6_sum) := goodIn_app (goodIn_of _ (by decide +kernel)) ggX6_teamPoints_X6_sum
theorem dX6_teamPoints_0 : decode cX6_teamPoints 0 = .ok (.aload_n 0, 1) := by decide +kernel
theorem dX6_teamPoints_1 : decode cX6_teamPoints 1 = .ok (.iload_n 1, 1) := by decide +kernel
theorem dX6_teamPoints_2 : decode cX6_teamPoints 2 = .ok (.iconst 0, 1) := by decide +kernel
theorem dX6_teamPoints_3 : decode cX6_teamPoints 3 = .ok (.iconst 3, 1) := by decide +kernel
theorem dX6_teamPoints_4 : decode cX6_teamPoints 4 = .ok (.invokestatic 60, 3) := by decide +kernel
theorem dX6_teamPoints_7 : decode cX6_teamPoints 7 = .ok (.ifCond .eq 7, 3) := by decide +kernel
theorem dX6_teamPoints_10 : decode cX6_teamPoints 10 = .ok (.iconst 0, 1) := by decide +kernel
theorem dX6_teamPoints_11 : decode cX6_teamPoints 11 = .ok (.goto 4, 3) := by decide +kernel
theorem dX6_teamPoints_14 : decode cX6_teamPoints 14 = .ok (.iconst 1, 1) := by decide +kernel
theorem dX6_teamPoints_15 : decode cX6_teamPoints 15 = .ok (.invokevirtual 70, 3) := by decide +kernel
theorem dX6_teamPoints_18 : decode cX6_teamPoints 18 = .ok (.ifCond .eq 5, 3) := by decide +kernel
theorem dX6_teamPoints_21 : decode cX6_teamPoints 21 = .ok (.iconst 0, 1) := by decide +kernel
theorem dX6_teamPoints_22 : decode cX6_teamPoints 22 = .ok (.ireturn, 1) := by decide +kernel
theorem dX6_teamPoints_23 : decode cX6_teamPoints 23 = .ok (.iconst 0, 1) := by decide +kernel
theorem dX6_teamPoints_24 : decode cX6_teamPoints 24 = .ok (.istore_n 2, 1) := by decide +kernel
theorem dX6_teamPoints_25 : decode cX6_teamPoints 25 = .ok (.iconst 0, 1) := by decide +kernel
theorem dX6_teamPoints_26 : decode cX6_teamPoints 26 = .ok (.istore_n 3, 1) := by decide +kernel
theorem dX6_teamPoints_27 : decode cX6_teamPoints 27 = .ok (.iload_n 3, 1) := by decide +kernel
theorem dX6_teamPoints_28 : decode cX6_teamPoints 28 = .ok (.aload_n 0, 1) := by decide +kernel
theorem dX6_teamPoints_29 : decode cX6_teamPoints 29 = .ok (.getfield 64, 3) := by decide +kernel
theorem dX6_teamPoints_32 : decode cX6_teamPoints 32 = .ok (.if_icmp .ge 31, 3) := by decide +kernel
theorem dX6_teamPoints_35 : decode cX6_teamPoints 35 = .ok (.iload_n 2, 1) := by decide +kernel
theorem dX6_teamPoints_36 : decode cX6_teamPoints 36 = .ok (.aload_n 0, 1) := by decide +kernel
theorem dX6_teamPoints_37 : decode cX6_teamPoints 37 = .ok (.getfield 20, 3) := by decide +kernel
theorem dX6_teamPoints_40 : decode cX6_teamPoints 40 = .ok (.iload_n 3, 1) := by decide +kernel
theorem dX6_teamPoints_41 : decode cX6_teamPoints 41 = .ok (.iaload, 1) := by decide +kernel
theorem dX6_teamPoints_42 : decode cX6_teamPoints 42 = .ok (.iload_n 1, 1) := by decide +kernel
theorem dX6_teamPoints_43 : decode cX6_teamPoints 43 = .ok (.if_icmp .ne 11, 3) := by decide +kernel
theorem dX6_teamPoints_46 : decode cX6_teamPoints 46 = .ok (.aload_n 0, 1) := by decide +kernel
theorem dX6_teamPoints_47 : decode cX6_teamPoints 47 = .ok (.iload_n 3, 1) := by decide +kernel
theorem dX6_teamPoints_48 : decode cX6_teamPoints 48 = .ok (.invokevirtual 147, 3) := by decide +kernel
theorem dX6_teamPoints_51 : decode cX6_teamPoints 51 = .ok (.goto 4, 3) := by decide +kernel
theorem dX6_teamPoints_54 : decode cX6_teamPoints 54 = .ok (.iconst 0, 1) := by decide +kernel
theorem dX6_teamPoints_55 : decode cX6_teamPoints 55 = .ok (.iadd, 1) := by decide +kernel
theorem dX6_teamPoints_56 : decode cX6_teamPoints 56 = .ok (.istore_n 2, 1) := by decide +kernel
theorem dX6_teamPoints_57 : decode cX6_teamPoints 57 = .ok (.iinc 3 1, 3) := by decide +kernel
theorem dX6_teamPoints_60 : decode cX6_teamPoints 60 = .ok (.goto (-33), 3) := by decide +kernel
theorem dX6_teamPoints_63 : decode cX6_teamPoints 63 = .ok (.iload_n 2, 1) := by decide +kernel
theorem dX6_teamPoints_64 : decode cX6_teamPoints 64 = .ok (.ireturn, 1) := by decide +kernel
theorem dX6_times_0 : decode cX6_times 0 = .ok (.iconst 0, 1) := by decide +kernel
theorem dX6_times_1 : decode cX6_times 1 = .ok (.istore_n 3, 1) := by decide +kernel
theorem dX6_times_2 : decode cX6_times 2 = .ok (.iconst 0, 1) := by decide +kernel
theorem dX6_times_3 : decode cX6_times 3 = .ok (.istore 4, 2) := by decide +kernel
theorem dX6_times_5 : decode cX6_times 5 = .ok (.iload 4, 2) := by decide +kernel
theorem dX6_times_7 : decode cX6_times 7 = .ok (.aload_n 0, 1) := by decide +kernel
theorem dX6_times_8 : decode cX6_times 8 = .ok (.getfield 138, 3) := by decide +kernel
theorem dX6_times_11 : decode cX6_times 11 = .ok (.if_icmp .ge 33, 3) := by decide +kernel
theorem dX6_times_14 : decode cX6_times 14 = .ok (.iload_n 3, 1) := by decide +kernel
theorem dX6_times_15 : decode cX6_times 15 = .ok (.aload_n 0, 1) := by decide +kernel
theorem dX6_times_16 : decode cX6_times 16 = .ok (.getfield 51, 3) := by decide +kernel
theorem dX6_times_19 : decode cX6_times 19 = .ok (.bipush 6, 2) := by decide +kernel
theorem dX6_times_21 : decode cX6_times 21 = .ok (.iload 4, 2) := by decide +kernel
theorem dX6_times_23 : decode cX6_times 23 = .ok (.imul, 1) := by decide +kernel
theorem dX6_times_24 : decode cX6_times 24 = .ok (.iload_n 1, 1) := by decide +kernel
theorem dX6_times_25 : decode cX6_times 25 = .ok (.iadd, 1) := by decide +kernel
theorem dX6_times_26 : decode cX6_times 26 = .ok (.iaload, 1) := by decide +kernel
theorem dX6_times_27 : decode cX6_times 27 = .ok (.iload_n 2, 1) := by decide +kernel
theorem dX6_times_28 : decode cX6_times 28 = .ok (.if_icmp .ne 7, 3) := by decide +kernel
theorem dX6_times_31 : decode cX6_times 31 = .ok (.iconst 1, 1) := by decide +kernel
theorem dX6_times_32 : decode cX6_times 32 = .ok (.goto 4, 3) := by decide +kernel
theorem dX6_times_35 : decode cX6_times 35 = .ok (.iconst 0, 1) := by decide +kernel
theorem dX6_times_36 : decode cX6_times 36 = .ok (.iadd, 1) := by decide +kernel
theorem dX6_times_37 : decode cX6_times 37 = .ok (.istore_n 3, 1) := by decide +kernel
theorem dX6_times_38 : decode cX6_times 38 = .ok (.iinc 4 1, 3) := by decide +kernel
theorem dX6_times_41 : decode cX6_times 41 = .ok (.goto (-36), 3) := by decide +kernel
theorem dX6_times_44 : decode cX6_times 44 = .ok (.iload_n 3, 1) := by decide +kernel
theorem dX6_times_45 : decode cX6_times 45 = .ok (.ireturn, 1) := by decide +kernel
set_option maxRecDepth 20000 in
theorem ggX6_stands_X6_sum : GoodIn wsX6_stands wsX6_sum := goodIn_r _ [6, 7, 8, 9, 15, 16, 17, 18, 19, 20, 21, 22, 23, 24, 25, 26, 27, 28, 29, 30, 31, 32, 33, 34, 35, 36, 37, 38, 39, 40] (by decide +kernel) (by decide +kernel)
set_option maxRecDepth 20000 in
theorem gX6_stands_X6_sum : GoodIn wsX6_stands (wsV RX6 147 RX6 yX6_sum wsX6_sum) := goodIn_app (goodIn_of _ (by decide +kernel)) ggX6_stands_X6_sum
set_option maxRecDepth 20000 in
theorem ggX6_stands_X6_times : GoodIn wsX6_stands wsX6_times := goodIn_r _ [13, 7, 14, 15, 16, 17, 18, 19, 20, 21, 22, 23, 24, 25, 26, 27, 28, 29, 30, 31, 32, 33, 34, 35, 36, 37, 38, 39, 40] (by decide +kernel) (by decide +kernel)
set_option maxRecDepth 20000 in
theorem gX6_stands_X6_times : GoodIn wsX6_stands (wsV RX6 150 RX6 yX6_times wsX6_times) := goodIn_app (goodIn_of _ (by decide +kernel)) ggX6_stands_X6_times
theorem dX6_stands_0 : decode cX6_stands 0 = .ok (.aload_n 0, 1) := by decide +kernel
theorem dX6_stands_1 : decode cX6_stands 1 = .ok (.iload_n 1, 1) := by decide +kernel
theorem dX6_stands_2 : decode cX6_stands 2 = .ok (.invokevirtual 147, 3) := by decide +kernel
theorem dX6_stands_5 : decode cX6_stands 5 = .ok (.aload_n 0, 1) := by decide +kernel
theorem dX6_stands_6 : decode cX6_stands 6 = .ok (.iload_n 2, 1) := by decide +kernel
theorem dX6_stands_7 : decode cX6_stands 7 = .ok (.invokevirtual 147, 3) := by decide +kernel
theorem dX6_stands_10 : decode cX6_stands 10 = .ok (.if_icmp .eq 22, 3) := by decide +kernel
theorem dX6_stands_13 : decode cX6_stands 13 = .ok (.aload_n 0, 1) := by decide +kernel
theorem dX6_stands_14 : decode cX6_stands 14 = .ok (.iload_n 1, 1) := by decide +kernel
theorem dX6_stands_15 : decode cX6_stands 15 = .ok (.invokevirtual 147, 3) := by decide +kernel
theorem dX6_stands_18 : decode cX6_stands 18 = .ok (.aload_n 0, 1) := by decide +kernel
theorem dX6_stands_19 : decode cX6_stands 19 = .ok (.iload_n 2, 1) := by decide +kernel
theorem dX6_stands_20 : decode cX6_stands 20 = .ok (.invokevirtual 147, 3) := by decide +kernel
theorem dX6_stands_23 : decode cX6_stands 23 = .ok (.if_icmp .le 7, 3) := by decide +kernel
theorem dX6_stands_26 : decode cX6_stands 26 = .ok (.iconst 1, 1) := by decide +kernel
theorem dX6_stands_27 : decode cX6_stands 27 = .ok (.goto 4, 3) := by decide +kernel
theorem dX6_stands_30 : decode cX6_stands 30 = .ok (.iconst 0, 1) := by decide +kernel
theorem dX6_stands_31 : decode cX6_stands 31 = .ok (.ireturn, 1) := by decide +kernel
theorem dX6_stands_32 : decode cX6_stands 32 = .ok (.iconst 0, 1) := by decide +kernel
theorem dX6_stands_33 : decode cX6_stands 33 = .ok (.istore_n 3, 1) := by decide +kernel
theorem dX6_stands_34 : decode cX6_stands 34 = .ok (.iload_n 3, 1) := by decide +kernel
theorem dX6_stands_35 : decode cX6_stands 35 = .ok (.aload_n 0, 1) := by decide +kernel
theorem dX6_stands_36 : decode cX6_stands 36 = .ok (.getfield 64, 3) := by decide +kernel
theorem dX6_stands_39 : decode cX6_stands 39 = .ok (.if_icmp .ge 45, 3) := by decide +kernel
theorem dX6_stands_42 : decode cX6_stands 42 = .ok (.aload_n 0, 1) := by decide +kernel
theorem dX6_stands_43 : decode cX6_stands 43 = .ok (.iload_n 1, 1) := by decide +kernel
theorem dX6_stands_44 : decode cX6_stands 44 = .ok (.iload_n 3, 1) := by decide +kernel
theorem dX6_stands_45 : decode cX6_stands 45 = .ok (.invokevirtual 150, 3) := by decide +kernel
theorem dX6_stands_48 : decode cX6_stands 48 = .ok (.aload_n 0, 1) := by decide +kernel
theorem dX6_stands_49 : decode cX6_stands 49 = .ok (.iload_n 2, 1) := by decide +kernel
theorem dX6_stands_50 : decode cX6_stands 50 = .ok (.iload_n 3, 1) := by decide +kernel
theorem dX6_stands_51 : decode cX6_stands 51 = .ok (.invokevirtual 150, 3) := by decide +kernel
theorem dX6_stands_54 : decode cX6_stands 54 = .ok (.if_icmp .eq 24, 3) := by decide +kernel
theorem dX6_stands_57 : decode cX6_stands 57 = .ok (.aload_n 0, 1) := by decide +kernel
theorem dX6_stands_58 : decode cX6_stands 58 = .ok (.iload_n 1, 1) := by decide +kernel
theorem dX6_stands_59 : decode cX6_stands 59 = .ok (.iload_n 3, 1) := by decide +kernel
theorem dX6_stands_60 : decode cX6_stands 60 = .ok (.invokevirtual 150, 3) := by decide +kernel
theorem dX6_stands_63 : decode cX6_stands 63 = .ok (.aload_n 0, 1) := by decide +kernel
theorem dX6_stands_64 : decode cX6_stands 64 = .ok (.iload_n 2, 1) := by decide +kernel
theorem dX6_stands_65 : decode cX6_stands 65 = .ok (.iload_n 3, 1) := by decide +kernel
theorem dX6_stands_66 : decode cX6_stands 66 = .ok (.invokevirtual 150, 3) := by decide +kernel
theorem dX6_stands_69 : decode cX6_stands 69 = .ok (.if_icmp .le 7, 3) := by decide +kernel
theorem dX6_stands_72 : decode cX6_stands 72 = .ok (.iconst 1, 1) := by decide +kernel
theorem dX6_stands_73 : decode cX6_stands 73 = .ok (.goto 4, 3) := by decide +kernel
theorem dX6_stands_76 : decode cX6_stands 76 = .ok (.iconst 0, 1) := by decide +kernel
theorem dX6_stands_77 : decode cX6_stands 77 = .ok (.ireturn, 1) := by decide +kernel
theorem dX6_stands_78 : decode cX6_stands 78 = .ok (.iinc 3 1, 3) := by decide +kernel
theorem dX6_stands_81 : decode cX6_stands 81 = .ok (.goto (-47), 3) := by decide +kernel
theorem dX6_stands_84 : decode cX6_stands 84 = .ok (.iload_n 1, 1) := by decide +kernel
theorem dX6_stands_85 : decode cX6_stands 85 = .ok (.iload_n 2, 1) := by decide +kernel
theorem dX6_stands_86 : decode cX6_stands 86 = .ok (.if_icmp .ge 7, 3) := by decide +kernel
theorem dX6_stands_89 : decode cX6_stands 89 = .ok (.iconst 1, 1) := by decide +kernel
theorem dX6_stands_90 : decode cX6_stands 90 = .ok (.goto 4, 3) := by decide +kernel
theorem dX6_stands_93 : decode cX6_stands 93 = .ok (.iconst 0, 1) := by decide +kernel
theorem dX6_stands_94 : decode cX6_stands 94 = .ok (.ireturn, 1) := by decide +kernel
set_option maxRecDepth 20000 in
theorem ggX6_stand_X6_stands : GoodIn wsX6_stand wsX6_stands := goodIn_r _ [6, 1, 7, 8, 9, 5, 10, 11, 12, 13, 14, 15, 16, 17, 18, 19, 20, 21, 22, 23, 24, 25, 26, 27, 28, 29, 30, 31, 32, 33, 34, 35, 36, 37, 38, 39, 40, 41, 42, 43, 44] (by decide +kernel) (by decide +kernel)
set_option maxRecDepth 20000 in
theorem gX6_stand_X6_stands : GoodIn wsX6_stand (wsV RX6 153 RX6 yX6_stands wsX6_stands) := goodIn_app (goodIn_of _ (by decide +kernel)) ggX6_stand_X6_stands
theorem dX6_stand_0 : decode cX6_stand 0 = .ok (.iconst 0, 1) := by decide +kernel
theorem dX6_stand_1 : decode cX6_stand 1 = .ok (.istore_n 2, 1) := by decide +kernel
theorem dX6_stand_2 : decode cX6_stand 2 = .ok (.iconst 0, 1) := by decide +kernel
theorem dX6_stand_3 : decode cX6_stand 3 = .ok (.istore_n 3, 1) := by decide +kernel
theorem dX6_stand_4 : decode cX6_stand 4 = .ok (.iload_n 3, 1) := by decide +kernel
theorem dX6_stand_5 : decode cX6_stand 5 = .ok (.aload_n 0, 1) := by decide +kernel
theorem dX6_stand_6 : decode cX6_stand 6 = .ok (.getfield 64, 3) := by decide +kernel
theorem dX6_stand_9 : decode cX6_stand 9 = .ok (.if_icmp .ge 31, 3) := by decide +kernel
theorem dX6_stand_12 : decode cX6_stand 12 = .ok (.iload_n 2, 1) := by decide +kernel
theorem dX6_stand_13 : decode cX6_stand 13 = .ok (.iload_n 3, 1) := by decide +kernel
theorem dX6_stand_14 : decode cX6_stand 14 = .ok (.iload_n 1, 1) := by decide +kernel
theorem dX6_stand_15 : decode cX6_stand 15 = .ok (.if_icmp .eq 16, 3) := by decide +kernel
theorem dX6_stand_18 : decode cX6_stand 18 = .ok (.aload_n 0, 1) := by decide +kernel
theorem dX6_stand_19 : decode cX6_stand 19 = .ok (.iload_n 3, 1) := by decide +kernel
theorem dX6_stand_20 : decode cX6_stand 20 = .ok (.iload_n 1, 1) := by decide +kernel
theorem dX6_stand_21 : decode cX6_stand 21 = .ok (.invokevirtual 153, 3) := by decide +kernel
theorem dX6_stand_24 : decode cX6_stand 24 = .ok (.ifCond .eq 7, 3) := by decide +kernel
theorem dX6_stand_27 : decode cX6_stand 27 = .ok (.iconst 1, 1) := by decide +kernel
theorem dX6_stand_28 : decode cX6_stand 28 = .ok (.goto 4, 3) := by decide +kernel
theorem dX6_stand_31 : decode cX6_stand 31 = .ok (.iconst 0, 1) := by decide +kernel
theorem dX6_stand_32 : decode cX6_stand 32 = .ok (.iadd, 1) := by decide +kernel
theorem dX6_stand_33 : decode cX6_stand 33 = .ok (.istore_n 2, 1) := by decide +kernel
theorem dX6_stand_34 : decode cX6_stand 34 = .ok (.iinc 3 1, 3) := by decide +kernel
theorem dX6_stand_37 : decode cX6_stand 37 = .ok (.goto (-33), 3) := by decide +kernel
theorem dX6_stand_40 : decode cX6_stand 40 = .ok (.iload_n 2, 1) := by decide +kernel
theorem dX6_stand_41 : decode cX6_stand 41 = .ok (.ireturn, 1) := by decide +kernel
set_option maxRecDepth 20000 in
theorem ggX6_standing_X6_isKart : GoodIn wsX6_standing wsX6_isKart := goodIn_r _ [5, 6, 7, 8, 4, 9, 35, 36, 37, 38, 39, 40, 41, 42, 43, 44, 45, 46, 47, 48, 49, 50, 51, 52, 53, 54, 55, 56, 57, 58, 59, 60] (by decide +kernel) (by decide +kernel)
set_option maxRecDepth 20000 in
theorem gX6_standing_X6_isKart : GoodIn wsX6_standing (wsV RX6 101 RX6 yX6_isKart wsX6_isKart) := goodIn_app (goodIn_of _ (by decide +kernel)) ggX6_standing_X6_isKart
set_option maxRecDepth 20000 in
theorem ggX6_standing_X6_fails : GoodIn wsX6_standing wsX6_fails := goodIn_r _ [13, 14, 35, 36, 37, 38, 39, 40, 41, 42, 43, 44, 45, 46, 47, 48, 49, 50, 51, 52, 53, 54, 55, 56, 57, 58, 59, 60] (by decide +kernel) (by decide +kernel)
set_option maxRecDepth 20000 in
theorem gX6_standing_X6_fails : GoodIn wsX6_standing (wsV RX6 70 RX6 yX6_fails wsX6_fails) := goodIn_app (goodIn_of _ (by decide +kernel)) ggX6_standing_X6_fails
set_option maxRecDepth 20000 in
theorem ggX6_standing_X6_stand : GoodIn wsX6_standing wsX6_stand := goodIn_r _ [18, 6, 19, 20, 21, 4, 22, 23, 24, 25, 26, 27, 28, 29, 30, 31, 32, 33, 34, 35, 36, 37, 38, 39, 40, 41, 42, 43, 44, 45, 46, 47, 48, 49, 50, 51, 52, 53, 54, 55, 56, 57, 58, 59, 60] (by decide +kernel) (by decide +kernel)
set_option maxRecDepth 20000 in
theorem gX6_standing_X6_stand : GoodIn wsX6_standing (wsV RX6 156 RX6 yX6_stand wsX6_stand) := goodIn_app (goodIn_of _ (by decide +kernel)) ggX6_standing_X6_stand
theorem dX6_standing_0 : decode cX6_standing 0 = .ok (.aload_n 0, 1) := by decide +kernel
theorem dX6_standing_1 : decode cX6_standing 1 = .ok (.aload_n 0, 1) := by decide +kernel
theorem dX6_standing_2 : decode cX6_standing 2 = .ok (.iload_n 1, 1) := by decide +kernel
theorem dX6_standing_3 : decode cX6_standing 3 = .ok (.invokevirtual 101, 3) := by decide +kernel
theorem dX6_standing_6 : decode cX6_standing 6 = .ok (.ifCond .eq 7, 3) := by decide +kernel
theorem dX6_standing_9 : decode cX6_standing 9 = .ok (.iconst 0, 1) := by decide +kernel
theorem dX6_standing_10 : decode cX6_standing 10 = .ok (.goto 4, 3) := by decide +kernel
theorem dX6_standing_13 : decode cX6_standing 13 = .ok (.iconst 1, 1) := by decide +kernel
theorem dX6_standing_14 : decode cX6_standing 14 = .ok (.invokevirtual 70, 3) := by decide +kernel
theorem dX6_standing_17 : decode cX6_standing 17 = .ok (.ifCond .eq 7, 3) := by decide +kernel
theorem dX6_standing_20 : decode cX6_standing 20 = .ok (.iconst 0, 1) := by decide +kernel
theorem dX6_standing_21 : decode cX6_standing 21 = .ok (.goto 8, 3) := by decide +kernel
theorem dX6_standing_24 : decode cX6_standing 24 = .ok (.aload_n 0, 1) := by decide +kernel
theorem dX6_standing_25 : decode cX6_standing 25 = .ok (.iload_n 1, 1) := by decide +kernel
theorem dX6_standing_26 : decode cX6_standing 26 = .ok (.invokevirtual 156, 3) := by decide +kernel
theorem dX6_standing_29 : decode cX6_standing 29 = .ok (.ireturn, 1) := by decide +kernel
set_option maxRecDepth 20000 in
theorem ggX6_textLength_X6_tells : GoodIn wsX6_textLength wsX6_tells := goodIn_r _ [6, 7, 8, 9, 10, 11, 12, 13, 14, 15, 16, 17, 18, 19, 20, 21, 22, 23, 24, 25, 26, 27, 28, 29, 30, 31, 32, 33] (by decide +kernel) (by decide +kernel)
set_option maxRecDepth 20000 in
theorem gX6_textLength_X6_tells : GoodIn wsX6_textLength (wsV RX6 80 RX6 yX6_tells wsX6_tells) := goodIn_app (goodIn_of _ (by decide +kernel)) ggX6_textLength_X6_tells
theorem dX6_textLength_0 : decode cX6_textLength 0 = .ok (.aload_n 0, 1) := by decide +kernel
theorem dX6_textLength_1 : decode cX6_textLength 1 = .ok (.aload_n 0, 1) := by decide +kernel
theorem dX6_textLength_2 : decode cX6_textLength 2 = .ok (.getfield 64, 3) := by decide +kernel
theorem dX6_textLength_5 : decode cX6_textLength 5 = .ok (.ifCond .ne 7, 3) := by decide +kernel
theorem dX6_textLength_8 : decode cX6_textLength 8 = .ok (.iconst 0, 1) := by decide +kernel
theorem dX6_textLength_9 : decode cX6_textLength 9 = .ok (.goto 11, 3) := by decide +kernel
theorem dX6_textLength_12 : decode cX6_textLength 12 = .ok (.iconst 2, 1) := by decide +kernel
theorem dX6_textLength_13 : decode cX6_textLength 13 = .ok (.aload_n 0, 1) := by decide +kernel
theorem dX6_textLength_14 : decode cX6_textLength 14 = .ok (.getfield 64, 3) := by decide +kernel
theorem dX6_textLength_17 : decode cX6_textLength 17 = .ok (.imul, 1) := by decide +kernel
theorem dX6_textLength_18 : decode cX6_textLength 18 = .ok (.iconst 1, 1) := by decide +kernel
theorem dX6_textLength_19 : decode cX6_textLength 19 = .ok (.isub, 1) := by decide +kernel
theorem dX6_textLength_20 : decode cX6_textLength 20 = .ok (.invokevirtual 80, 3) := by decide +kernel
theorem dX6_textLength_23 : decode cX6_textLength 23 = .ok (.ireturn, 1) := by decide +kernel
set_option maxRecDepth 20000 in
theorem ggX6_textAt_X6_fails : GoodIn wsX6_textAt wsX6_fails := goodIn_r _ [6, 7, 28, 29, 30, 31, 32, 33, 34, 35, 36, 37, 38, 39, 40, 41, 42, 43, 44, 45, 46, 47, 48, 49, 50, 51, 52, 53] (by decide +kernel) (by decide +kernel)
set_option maxRecDepth 20000 in
theorem gX6_textAt_X6_fails : GoodIn wsX6_textAt (wsV RX6 70 RX6 yX6_fails wsX6_fails) := goodIn_app (goodIn_of _ (by decide +kernel)) ggX6_textAt_X6_fails
set_option maxRecDepth 20000 in
theorem ggX6_textAt_X6_stand : GoodIn wsX6_textAt wsX6_stand := goodIn_r _ [11, 1, 12, 13, 14, 5, 15, 16, 17, 18, 19, 20, 21, 22, 23, 24, 25, 26, 27, 28, 29, 30, 31, 32, 33, 34, 35, 36, 37, 38, 39, 40, 41, 42, 43, 44, 45, 46, 47, 48, 49, 50, 51, 52, 53] (by decide +kernel) (by decide +kernel)
set_option maxRecDepth 20000 in
theorem gX6_textAt_X6_stand : GoodIn wsX6_textAt (wsV RX6 156 RX6 yX6_stand wsX6_stand) := goodIn_app (goodIn_of _ (by decide +kernel)) ggX6_textAt_X6_stand
theorem dX6_textAt_0 : decode cX6_textAt 0 = .ok (.aload_n 0, 1) := by decide +kernel
theorem dX6_textAt_1 : decode cX6_textAt 1 = .ok (.iload_n 1, 1) := by decide +kernel
theorem dX6_textAt_2 : decode cX6_textAt 2 = .ok (.ifCond .lt 19, 3) := by decide +kernel
theorem dX6_textAt_5 : decode cX6_textAt 5 = .ok (.iload_n 1, 1) := by decide +kernel
theorem dX6_textAt_6 : decode cX6_textAt 6 = .ok (.iconst 2, 1) := by decide +kernel
theorem dX6_textAt_7 : decode cX6_textAt 7 = .ok (.aload_n 0, 1) := by decide +kernel
theorem dX6_textAt_8 : decode cX6_textAt 8 = .ok (.getfield 64, 3) := by decide +kernel
theorem dX6_textAt_11 : decode cX6_textAt 11 = .ok (.imul, 1) := by decide +kernel
theorem dX6_textAt_12 : decode cX6_textAt 12 = .ok (.iconst 1, 1) := by decide +kernel
theorem dX6_textAt_13 : decode cX6_textAt 13 = .ok (.isub, 1) := by decide +kernel
theorem dX6_textAt_14 : decode cX6_textAt 14 = .ok (.if_icmp .ge 7, 3) := by decide +kernel
theorem dX6_textAt_17 : decode cX6_textAt 17 = .ok (.iconst 0, 1) := by decide +kernel
theorem dX6_textAt_18 : decode cX6_textAt 18 = .ok (.goto 4, 3) := by decide +kernel
theorem dX6_textAt_21 : decode cX6_textAt 21 = .ok (.iconst 1, 1) := by decide +kernel
theorem dX6_textAt_22 : decode cX6_textAt 22 = .ok (.invokevirtual 70, 3) := by decide +kernel
theorem dX6_textAt_25 : decode cX6_textAt 25 = .ok (.ifCond .eq 5, 3) := by decide +kernel
theorem dX6_textAt_28 : decode cX6_textAt 28 = .ok (.iconst 0, 1) := by decide +kernel
theorem dX6_textAt_29 : decode cX6_textAt 29 = .ok (.ireturn, 1) := by decide +kernel
theorem dX6_textAt_30 : decode cX6_textAt 30 = .ok (.iconst 0, 1) := by decide +kernel
theorem dX6_textAt_31 : decode cX6_textAt 31 = .ok (.istore_n 2, 1) := by decide +kernel
theorem dX6_textAt_32 : decode cX6_textAt 32 = .ok (.iconst 0, 1) := by decide +kernel
theorem dX6_textAt_33 : decode cX6_textAt 33 = .ok (.istore_n 3, 1) := by decide +kernel
theorem dX6_textAt_34 : decode cX6_textAt 34 = .ok (.iload_n 3, 1) := by decide +kernel
theorem dX6_textAt_35 : decode cX6_textAt 35 = .ok (.aload_n 0, 1) := by decide +kernel
theorem dX6_textAt_36 : decode cX6_textAt 36 = .ok (.getfield 64, 3) := by decide +kernel
theorem dX6_textAt_39 : decode cX6_textAt 39 = .ok (.if_icmp .ge 26, 3) := by decide +kernel
theorem dX6_textAt_42 : decode cX6_textAt 42 = .ok (.iconst 2, 1) := by decide +kernel
theorem dX6_textAt_43 : decode cX6_textAt 43 = .ok (.aload_n 0, 1) := by decide +kernel
theorem dX6_textAt_44 : decode cX6_textAt 44 = .ok (.iload_n 3, 1) := by decide +kernel
theorem dX6_textAt_45 : decode cX6_textAt 45 = .ok (.invokevirtual 156, 3) := by decide +kernel
theorem dX6_textAt_48 : decode cX6_textAt 48 = .ok (.imul, 1) := by decide +kernel
theorem dX6_textAt_49 : decode cX6_textAt 49 = .ok (.iload_n 1, 1) := by decide +kernel
theorem dX6_textAt_50 : decode cX6_textAt 50 = .ok (.if_icmp .ne 7, 3) := by decide +kernel
theorem dX6_textAt_53 : decode cX6_textAt 53 = .ok (.iload_n 3, 1) := by decide +kernel
theorem dX6_textAt_54 : decode cX6_textAt 54 = .ok (.goto 4, 3) := by decide +kernel
theorem dX6_textAt_57 : decode cX6_textAt 57 = .ok (.iload_n 2, 1) := by decide +kernel
theorem dX6_textAt_58 : decode cX6_textAt 58 = .ok (.istore_n 2, 1) := by decide +kernel
theorem dX6_textAt_59 : decode cX6_textAt 59 = .ok (.iinc 3 1, 3) := by decide +kernel
theorem dX6_textAt_62 : decode cX6_textAt 62 = .ok (.goto (-28), 3) := by decide +kernel
theorem dX6_textAt_65 : decode cX6_textAt 65 = .ok (.iload_n 1, 1) := by decide +kernel
theorem dX6_textAt_66 : decode cX6_textAt 66 = .ok (.iconst 2, 1) := by decide +kernel
theorem dX6_textAt_67 : decode cX6_textAt 67 = .ok (.irem, 1) := by decide +kernel
theorem dX6_textAt_68 : decode cX6_textAt 68 = .ok (.iconst 1, 1) := by decide +kernel
theorem dX6_textAt_69 : decode cX6_textAt 69 = .ok (.if_icmp .ne 8, 3) := by decide +kernel
theorem dX6_textAt_72 : decode cX6_textAt 72 = .ok (.bipush 62, 2) := by decide +kernel
theorem dX6_textAt_74 : decode cX6_textAt 74 = .ok (.goto 8, 3) := by decide +kernel
theorem dX6_textAt_77 : decode cX6_textAt 77 = .ok (.bipush 48, 2) := by decide +kernel
theorem dX6_textAt_79 : decode cX6_textAt 79 = .ok (.iload_n 2, 1) := by decide +kernel
theorem dX6_textAt_80 : decode cX6_textAt 80 = .ok (.iadd, 1) := by decide +kernel
theorem dX6_textAt_81 : decode cX6_textAt 81 = .ok (.i2c, 1) := by decide +kernel
theorem dX6_textAt_82 : decode cX6_textAt 82 = .ok (.ireturn, 1) := by decide +kernel
theorem dJ9_max_7cf53_0 : decode cJ9_max_7cf53 0 = .ok (.iload_n 0, 1) := by decide +kernel
theorem dJ9_max_7cf53_1 : decode cJ9_max_7cf53 1 = .ok (.iload_n 1, 1) := by decide +kernel
theorem dJ9_max_7cf53_2 : decode cJ9_max_7cf53 2 = .ok (.if_icmp .lt 7, 3) := by decide +kernel
theorem dJ9_max_7cf53_5 : decode cJ9_max_7cf53 5 = .ok (.iload_n 0, 1) := by decide +kernel
theorem dJ9_max_7cf53_6 : decode cJ9_max_7cf53 6 = .ok (.goto 4, 3) := by decide +kernel
theorem dJ9_max_7cf53_9 : decode cJ9_max_7cf53 9 = .ok (.iload_n 1, 1) := by decide +kernel
theorem dJ9_max_7cf53_10 : decode cJ9_max_7cf53 10 = .ok (.ireturn, 1) := by decide +kernel
theorem dJ9_min_7cf53_0 : decode cJ9_min_7cf53 0 = .ok (.iload_n 0, 1) := by decide +kernel
theorem dJ9_min_7cf53_1 : decode cJ9_min_7cf53 1 = .ok (.iload_n 1, 1) := by decide +kernel
theorem dJ9_min_7cf53_2 : decode cJ9_min_7cf53 2 = .ok (.if_icmp .gt 7, 3) := by decide +kernel
theorem dJ9_min_7cf53_5 : decode cJ9_min_7cf53 5 = .ok (.iload_n 0, 1) := by decide +kernel
theorem dJ9_min_7cf53_6 : decode cJ9_min_7cf53 6 = .ok (.goto 4, 3) := by decide +kernel
theorem dJ9_min_7cf53_9 : decode cJ9_min_7cf53 9 = .ok (.iload_n 1, 1) := by decide +kernel
theorem dJ9_min_7cf53_10 : decode cJ9_min_7cf53 10 = .ok (.ireturn, 1) := by decide +kernel
end
section
/-! the world: cells numbered 0 .. 46, cell c at the address gad G c, holding the numbers σ c k -/
abbrev St : Type := Nat → Nat → Int32
def upA (σ : St) (c : Nat) (f : Nat → Int32) : St := fun a => if a = c then f else σ a
theorem upA_s (σ : St) (c : Nat) (f : Nat → Int32) : upA σ c f c = f := if_pos rfl
theorem upA_n {σ : St} {c a : Nat} {f : Nat → Int32} (h : a ≠ c) : upA σ c f a = σ a := if_neg h
abbrev Gx : Type := va_G × ClassId × ClassId × ClassId × (Nat → Nat) × Nat × List Nat × List (ClassId × FieldType) × Bool
def gD (G : Gx) : va_G := G.1
def gcI (G : Gx) : ClassId := G.2.1
def gcZ (G : Gx) : ClassId := G.2.2.1
def gcJ (G : Gx) : ClassId := G.2.2.2.1
def gad (G : Gx) : Nat → Nat := G.2.2.2.2.1
def gbs (G : Gx) : Nat := G.2.2.2.2.2.1
def gl (G : Gx) : List Nat := G.2.2.2.2.2.2.1
def gT (G : Gx) : List (ClassId × FieldType) := G.2.2.2.2.2.2.2.1
def gs (G : Gx) : Bool := G.2.2.2.2.2.2.2.2
def gA (G : Gx) : Nat → Prop := fun q => gbs G ≤ q
def eRace (G : Gx) (b : Nat) (f : Nat → Int32) : va_E := .inr (3, [.ref (gad G 1), .ref (gad G (b + 1)), .ref (gad G (b + 2)), .ref (gad G (b + 3)), .ref (gad G (b + 4)), .ref (gad G (b + 5)), .ref (gad G (b + 6)), .ref (gad G (b + 7)), .int (f 8), .int (f 9), .int (f 10)])
def eRow (G : Gx) (n : Nat) (f : Nat → Int32) : va_E := .inl (gcI G, n, .inl f)
def eBool (G : Gx) (n : Nat) (f : Nat → Int32) : va_E := .inl (gcZ G, n, .inl f)
def cE (G : Gx) (c : Nat) (f : Nat → Int32) : va_E := match c with
  | 0 => .inr (5, [.ref (gad G 1), .ref (gad G 4), .ref (gad G 12), .ref (gad G 20), .ref (gad G 23), .ref (gad G 27), .ref (gad G 30), .int (f 7), .int (f 8), .int (f 9)])
  | 1 => .inr (4, [.ref (gad G 2), .ref (gad G 3), .int (f 2), .int (f 3)])
  | 2 => eRow G 144 f
  | 3 => eRow G 12 f
  | 4 => eRace G 4 f
  | 12 => eRace G 12 f
  | 20 => .inr (2, [.ref (gad G 21), .ref (gad G 22), .int (f 2)])
  | 21 => eRow G 512 f
  | 22 => eRow G 512 f
  | 23 => .inr (1, [.ref (gad G 24), .ref (gad G 25), .ref (gad G 26), .int (f 3)])
  | 25 => eBool G 6 f
  | 27 => .inr (0, [.ref (gad G 28), .ref (gad G 29), .int (f 2), .int (f 3)])
  | 28 => eRow G 48 f
  | 29 => eRow G 48 f
  | 31 => .inr (6, [.int (f 0), .int (f 1), .ref (gad G 32), .ref (gad G 33), .int (f 4), .ref (gad G 34), .int (f 6), .int (f 7), .int (f 8), .int (f 9), .int (f 10), .int (f 11), .int (f 12), .ref (gad G 35), .ref (gad G 36), .ref (gad G 37), .ref (gad G 38), .ref (gad G 39), .ref (gad G 40), .ref (gad G 41), .ref (gad G 42), .ref (gad G 43), .ref (gad G 44), .ref (gad G 45), .int (f 24), .int (f 25)])
  | 32 => eRow G 144 f
  | 33 => eRow G 12 f
  | 42 => eBool G 6 f
  | 44 => eRow G 48 f
  | 45 => eRow G 48 f
  | 46 => .inl (gcJ G, 1, .inr (.inl (fun j => (f j).toInt64)))
  | _ => eRow G 6 f
def rB (b : Nat) : Prop := b = 4 ∨ b = 12
theorem cE_race {G : Gx} {b : Nat} (h : rB b) (f : Nat → Int32) : cE G b f = eRace G b f := by rcases h with rfl | rfl <;> rfl
theorem cE_row {G : Gx} {b : Nat} (h : rB b) {k : Nat} (h1 : 1 ≤ k) (h7 : k ≤ 7) (f : Nat → Int32) : cE G (b + k) f = eRow G 6 f := by
  have hk : k = 1 ∨ k = 2 ∨ k = 3 ∨ k = 4 ∨ k = 5 ∨ k = 6 ∨ k = 7 := by omega
  rcases h with rfl | rfl <;> rcases hk with rfl | rfl | rfl | rfl | rfl | rfl | rfl <;> rfl
def wl (G : Gx) (σ : St) : va_W := (gl G).map (fun c => (gad G c, cE G c (σ c)))
def gOk (G : Gx) : Prop := (gl G).Nodup ∧ (∀ a ∈ gl G, ∀ b ∈ gl G, gad G a = gad G b → a = b) ∧ ∀ a ∈ gl G, gbs G ≤ gad G a
theorem wl_get {G : Gx} {c : Nat} (h : c ∈ gl G) (σ : St) : ∃ k : Nat, (gl G)[k]? = some c ∧ (wl G σ)[k]? = some (gad G c, cE G c (σ c)) := by
  obtain ⟨k, hk⟩ := List.getElem?_of_mem h
  exact ⟨k, hk, by unfold wl; rw [List.getElem?_map, hk]; rfl⟩
theorem gl_inj {G : Gx} (hn : (gl G).Nodup) {i j c : Nat} (hi : (gl G)[i]? = some c) (hj : (gl G)[j]? = some c) : i = j := by
  have h1 := (List.getElem?_eq_some_iff.mp hi).1
  exact (List.getElem?_inj h1 hn).mp (hi.trans hj.symm)
theorem wl_set {G : Gx} {σ : St} {c k : Nat} {f : Nat → Int32} (hn : (gl G).Nodup) (hk : (gl G)[k]? = some c) : (wl G σ).set k (gad G c, cE G c f) = wl G (upA σ c f) := by
  apply List.ext_getElem?
  intro i
  by_cases hi : i = k
  · subst hi
    have hl : i < (wl G σ).length := by unfold wl; rw [List.length_map]; exact (List.getElem?_eq_some_iff.mp hk).1
    rw [List.getElem?_set_self hl]
    unfold wl
    rw [List.getElem?_map, hk]
    show _ = some (gad G c, cE G c (upA σ c f c))
    rw [upA_s]
  · rw [List.getElem?_set_ne (Ne.symm hi)]
    unfold wl
    rw [List.getElem?_map, List.getElem?_map]
    cases h : (gl G)[i]? with
    | none => rfl
    | some a =>
      have ha : a ≠ c := fun e => hi (gl_inj hn (by rw [h, e]) hk)
      show some (gad G a, cE G a (σ a)) = some (gad G a, cE G a (upA σ c f a))
      rw [upA_n ha]
theorem wl_D {G : Gx} (hG : gOk G) (σ : St) : va_D (gA G) (wl G σ) := by
  have key : ∀ (k : Nat) (q : Nat × va_E), (wl G σ)[k]? = some q → ∃ c, (gl G)[k]? = some c ∧ q.1 = gad G c := by
    intro k q hk
    unfold wl at hk
    rw [List.getElem?_map] at hk
    cases h : (gl G)[k]? with
    | none => rw [h] at hk; cases hk
    | some a => rw [h] at hk; cases hk; exact ⟨a, rfl, rfl⟩
  refine ⟨fun i j p q hi hj hpq => ?_, fun k q hk => ?_⟩
  · obtain ⟨a, ha, ea⟩ := key i p hi
    obtain ⟨b, hb, eb⟩ := key j q hj
    have hab : a = b := hG.2.1 a (List.mem_of_getElem? ha) b (List.mem_of_getElem? hb) (by rw [← ea, ← eb]; exact hpq)
    subst hab
    exact gl_inj hG.1 ha hb
  · obtain ⟨a, ha, ea⟩ := key k q hk
    show gbs G ≤ q.1
    rw [ea]
    exact hG.2.2 a (List.mem_of_getElem? ha)
/-! what is given of statics: four rows of numbers, Throwable's two, the texts of the exceptions -/
def strs : List (Nat × String) := [(277, "a race was started"), (73, "there are 12 gates"), (271, "there is no such gate"), (88, "a way leads to a greater gate or to the line"), (91, "no way leads from the line to the line"), (93, "a length is 1 to 100"), (275, "there is no such team"), (106, "there are 6 karts"), (116, "a race has 1 to 9 laps"), (118, "a race is on"), (123, "there were 8 races"), (125, "there are no karts"), (130, "no way leads from some gate"), (273, "there is no such kart"), (279, "no race is on"), (281, "the kart is finished"), (149, "the kart is stunned"), (158, "no way leads from the one gate to the other"), (161, "the record of the race is full"), (169, "ticks are 1 to 100"), (210, "the kart has an item"), (215, "the kart has no item"), (243, "there is no such ended race"), (249, "dropped are 0 to 3 races"), (260, "there is no such character")]
def tFirst (j : Nat) : Int32 := if j < 2 then 2 else if j = 2 then 1 else 0
def tMid (j : Nat) : Int32 := if j = 0 then 1 else if j = 1 then 2 else if j = 2 then 0 else 1
def tOth (j : Nat) : Int32 := if j = 0 then 3 else if j = 1 then 0 else if j = 2 then 1 else 3
def tPts (j : Nat) : Int32 := if j = 0 then 10 else if j = 1 then 8 else if j = 2 then 6 else if j = 3 then 5 else if j = 4 then 4 else 3
def stRow (C n : String) (N : Nat) (f : Nat → Int32) (A : Nat → Prop) (U : State) (H : Heap) : Prop := ∃ t : Nat, va_Z C n "[I" (.ref t) A U H ∧ va_T .int t N (fun j => .int (f j)) A U H
def xcls : List String := ["java/lang/IndexOutOfBoundsException", "java/lang/IllegalArgumentException", "java/lang/IllegalStateException"]
def dcls : List MethodName := [Bundle.initS "java/lang/RuntimeException", Bundle.initS "java/lang/Exception", Bundle.initS Bundle.tN]
def SxB (A : Nat → Prop) (U : State) (H : Heap) : Prop := stRow RX1 "FOR_FIRST" 4 tFirst A U H ∧ stRow RX1 "FOR_MIDDLE" 4 tMid A U H ∧ stRow RX1 "FOR_OTHERS" 4 tOth A U H ∧ stRow RX0 "POINTS_BY_PLACE" 6 tPts A U H ∧ vx_Zq Bundle.tN "UNASSIGNED_STACK" Bundle.steD A U H ∧ vx_Zq Bundle.tN "SUPPRESSED_SENTINEL" Bundle.listD A U H ∧ (∀ q ∈ strs, ∃ a : Nat, vk_R RX5 q.1 q.2 a U) ∧ (∀ y ∈ dcls, va_Nw (.declares y) U) ∧ ∀ X ∈ xcls, va_Nw (.castable X X) U ∧ ∀ Y ∈ xcls, X ≠ Y → va_Nc X Y U
def Sx (G : Gx) (U : State) (H : Heap) : Prop := gs G = true → SxB (gA G) U H
theorem stRow.moved {C n : String} {N : Nat} {f : Nat → Int32} {A : Nat → Prop} {u U : State} {H : Heap} (hvm : u.vm.Alike U.vm) (h : stRow C n N f A u H) : stRow C n N f A U H := by
  obtain ⟨t, h1, h2⟩ := h
  exact ⟨t, va_Z.moved hvm h1, va_T.moved hvm h2⟩
theorem stRow.kept {C n : String} {N : Nat} {f : Nat → Int32} {A : Nat → Prop} {U : State} {H H1 : Heap} (h : stRow C n N f A U H) (hq : ∀ a : Nat, a < H.size → ¬ A a → H1[a]? = H[a]?) : stRow C n N f A U H1 := by
  obtain ⟨t, h1, h2⟩ := h
  exact ⟨t, va_Z.kept h1 hq, va_T.kept h2 hq⟩
theorem va_declW {y : MethodName} {s U : State} (hW : s.WarmedH U.vm) (hZ : va_Nw (.declares y) s) : va_Nw (.declares y) U := va_tabs rfl (rfl : (s.setVm U.vm).vm = U.vm) (by rw [Cond.declares_setVm hW.alike]; exact hZ)
theorem SxB.next {A : Nat → Prop} {s U : State} {H H1 : Heap} (h : SxB A s H) (hW : s.WarmedH U.vm) (hq : ∀ a : Nat, a < H.size → ¬ A a → H1[a]? = H[a]?) : SxB A U H1 := by
  obtain ⟨h1, h2, h3, h4, h5, h6, h7, h9, h8⟩ := h
  refine ⟨(h1.kept hq).moved hW.alike, (h2.kept hq).moved hW.alike, (h3.kept hq).moved hW.alike, (h4.kept hq).moved hW.alike, vx_Zq.moved hW.alike (h5.kept hq), vx_Zq.moved hW.alike (h6.kept hq), fun q hq' => ?_, fun y hy => va_declW hW (h9 y hy), fun X hX => ⟨va_Nw.warmC hW (h8 X hX).1, fun Y hY n => va_Nc.moved hW.alike ((h8 X hX).2 Y hY n)⟩⟩
  obtain ⟨a, ha⟩ := h7 q hq'
  exact ⟨a, vk_R.warm hW ha⟩
theorem SxB.same {A : Nat → Prop} {s U : State} {H : Heap} (h : SxB A s H) (hv : U.vm = s.vm) : SxB A U H := by
  obtain ⟨h1, h2, h3, h4, h5, h6, h7, h9, h8⟩ := h
  have ha : s.vm.Alike U.vm := by rw [hv]; exact Vm.Alike.refl s.vm
  refine ⟨h1.moved ha, h2.moved ha, h3.moved ha, h4.moved ha, vx_Zq.moved ha h5, vx_Zq.moved ha h6, fun q hq' => ?_, fun y hy => va_tabs rfl hv.symm (h9 y hy), fun X hX => ⟨va_tabs rfl hv.symm (h8 X hX).1, fun Y hY n => va_Nc.moved ha ((h8 X hX).2 Y hY n)⟩⟩
  obtain ⟨a, ha⟩ := h7 q hq'
  exact ⟨a, vk_R.same hv ha⟩
/-- what holds where a method begins -/
def PreU (G : Gx) (σ : St) (U : State) : Prop := va_P (gD G) vwCl (wl G σ) U.heap ∧ va_K (gD G) vwCl (gT G) U ∧ gbs G ≤ U.heap.size ∧ Sx G U U.heap
theorem PreU.blind {G : Gx} {σ : St} {av : List Value} : FrameBlind (va_Pc av (PreU G σ)) := by
  intro a U g mk h
  obtain ⟨h0, h1, h2, h3, h4⟩ := h
  exact ⟨h0, h1, va_K.moved (u := U) (U := U.calling g mk a) (Vm.Alike.refl U.vm) h2, h3, fun hs => SxB.same (s := U) (U := U.calling g mk a) (h4 hs) rfl⟩
/-- what holds inside a method: of its start; of the heap now -/
def Fx (G : Gx) (s : State) : Prop := gOk G ∧ va_K (gD G) vwCl (gT G) s ∧ gbs G ≤ s.heap.size ∧ Sx G s s.heap
def Wd (G : Gx) (s : State) (σ : St) (H : Heap) (locs : List Loc) : Prop := va_P (gD G) vwCl (wl G σ) H ∧ va_S (gA G) s.heap H locs
theorem Wd.pre {G : Gx} {s U : State} {σ : St} {H : Heap} {locs : List Loc} (fx : Fx G s) (hw : Wd G s σ H locs) (hU : U.heap = H) (hW : s.WarmedH U.vm) : PreU G σ U := by
  refine ⟨by rw [hU]; exact hw.1, va_K.moved hW.alike fx.2.1, by rw [hU]; exact Nat.le_trans fx.2.2.1 hw.2.1, fun h => ?_⟩
  rw [hU]
  exact SxB.next (fx.2.2.2 h) hW hw.2.2.1
end
section
section VYA
/-- as vx_Q, but what returns makes nothing -/
def vy_Q (Qc : Array Value → State → Outcome → State → Prop) (XC : String → State → State → Prop) (mc ms : Nat) (free : Addr → Prop) : Array Value → State → Outcome → State → Prop := fun a st o t =>
  (Qc a st o t ∧ ∃ L, FrameEnd st o t L 0 0 ∧ ∀ q ∈ L, free q.base) ∨ ∃ q, o = .threw q ∧ vx_T XC st q t mc ms free
def vy_Met (l : Launch) (y : MethodName) (ws : List Cond) (rm : Room) (Pc : Array Value → State → Prop) (Qc : Array Value → State → Outcome → State → Prop) (XC : String → State → State → Prop) (mc ms : Nat) (free : Addr → Prop) : Prop :=
  MetFree l y (headSpec ws rm) Pc (fun _ _ _ _ _ => True) (vy_Q Qc XC mc ms free)
section Payer
variable {l : Launch} {R : Room} {p : Program} {e : Env} {below : List Frame} {s : State} {sargs : Array Value} {y : MethodName} {len W9 : Nat}
theorem vy_back {ws : List Cond} {rm : Room} {Pc : Array Value → State → Prop} {Qc : Array Value → State → Outcome → State → Prop} {XC : String → State → State → Prop} {mc ms : Nat} {free : Addr → Prop} {bytes : ByteArray} {maxL : Nat} {ret : Option FieldType}
    (hM : vy_Met l y ws rm Pc Qc XC mc ms free) (hblind : FrameBlind Pc) (hrc : rm.cells = mc) (hrs : rm.slots = ms)
    (hframes : rm.frames + 1 ≤ R.frames) (hlocals : W9 + (maxL + 11) + rm.locals ≤ R.locals)
    (hws : ∀ w ∈ ws, ∀ a' U, s.WarmedH U.vm → w.before a' U = true) (hcode : Cond.code y bytes maxL ret ∈ ws) (hinit : ∀ a' U, s.WarmedH U.vm → (Cond.initialized y.cls).before a' U = true) :
    vx_Back l R p e below s sargs y len W9 (PreOf R mc ms Pc) (PostOf Qc 0 0 free) (vx_Post XC mc ms free) := by
  intro m meth c A g ig mk a X hg hsize hdg hW hn hp
  have h1 : (headSpec ws rm).pre.before a A.U = true := atoms_intro fun w hw => hws w hw _ _ X.warmed
  have h2 : (Cond.code y bytes maxL ret).before a A.U = true := hws _ hcode _ _ X.warmed
  have h3 : (Cond.initialized y.cls).before a A.U = true := hinit _ _ X.warmed
  have h4 : A.cells + (headSpec ws rm).room.cells ≤ R.cells := by rw [show (headSpec ws rm).room.cells = mc from hrc]; exact hp.1
  have h5 : A.slots + (headSpec ws rm).room.slots ≤ R.slots := by rw [show (headSpec ws rm).room.slots = ms from hrs]; exact hp.2.1
  have hPc : Pc a (A.U.calling g mk a) := hblind _ _ _ _ hp.2.2
  obtain ⟨U, Ls, c0, s0⟩ := A
  dsimp only [Pt.U, Pt.locs, Pt.cells, Pt.slots] at h1 h2 h3 h4 h5 X hn hPc ⊢
  obtain ⟨methY, cY, hmY, hcY, -, hlY, -, -, -, -⟩ := Cond.code_spec hn h2
  obtain ⟨kY, hkY, -⟩ := className_of_methodNamed hn
  have hinitY : kY.init = .initialized := Cond.initialized_spec (findClass_of_methodNamed hn) hkY h3
  have h : At U g.method c below := by rw [hg]; exact X.here
  have hlocals9 : W9 + (maxL + 11) + (headSpec ws rm).room.locals ≤ R.locals := hlocals
  have happ : (headSpec ws rm).appliesLoose y e.platform (U.calling g mk a) = true :=
    Spec.appliesLoose_calling (g := g) h hdg hn hkY hinitY
      (X.room_calling (g := g) (R' := (headSpec ws rm).room) hsize hmY hcY hframes (by rw [hlY]; omega) h4 h5) h1
  obtain ⟨mid, hmid⟩ := h.above
  have hfr : (U.setTop g).frames = (.java g :: mid) ++ below := by rw [State.frames_setTop' g h.top, hmid]; rfl
  obtain ⟨o, s₂, hsteps, -, hend, hq⟩ := Steps.callFree hM p X.admits X.cas X.clock (acts := []) hfr happ hPc trivial
  have hq' : vy_Q Qc XC mc ms free a (U.calling g mk a) o s₂ := hq
  rw [State.frames_setTop' g h.top] at hend
  obtain ⟨g₀, hg0⟩ := Option.isSome_iff_exists.mp h.top
  obtain ⟨r, hr⟩ := State.topJava?_eq_some.mp hg0
  have hr' : (({ U with heap := s₂.heap, slotsUsed := s₂.slotsUsed } : State).setVm s₂.vm).frames = .java g₀ :: r := hr
  rcases hq' with ⟨hqc, L, hfe, hL⟩ | ⟨q, rfl, E, ce, L, hx, hce, hcv, hcl, hW₂, hsm, hL⟩
  · obtain ⟨⟨v, rfl⟩, hW₂, e2, q2, q3, q4, q5, q6⟩ := id hfe
    have e3 : s₂ = ({ (U.calling g mk a).setFrames s₂.frames with heap := s₂.heap, slotsUsed := s₂.slotsUsed } : State).setVm s₂.vm := by
      have : s₂ = ({ s₂ with vm := (U.calling g mk a).vm } : State).setVm s₂.vm := rfl
      rw [e2] at this
      exact this
    obtain ⟨c₂, i₂, len₂, hc₂, hd₂, hf₂⟩ := hend
    have hW' : U.WarmedH s₂.vm := hW₂
    have hcc : c₂ = c := by
      have h1 : s₂.code? g.method = U.code? g.method := by
        rw [State.code?_eq, State.code?_eq, hW'.alike.method?]
      exact Option.some.inj (hc₂.symm.trans (h1.trans h.code))
    subst hcc
    have hlen : len₂ = len := by rw [hdg] at hd₂; cases hd₂; rfl
    subst hlen
    have hs₂ : s₂ = (({ U with heap := s₂.heap, slotsUsed := s₂.slotsUsed } : State).setVm s₂.vm).setTop { g with pc := g.pc + len₂, stack := v.toList ++ g.stack } := by
      refine e3.trans ?_
      rw [hf₂, State.calling_eq h.top, State.setFrames_setFrames, State.setTop_of_frames _ hr', hr]
      rfl
    have hsame : U.sameButNew ({ U with heap := s₂.heap, slotsUsed := s₂.slotsUsed } : State) L 0 0 := by
      refine ⟨?_, q2, q3, q4, q5, q6⟩
      obtain ⟨t, ht, -⟩ := State.frames_cons hr
      show ({ U with heap := s₂.heap, slotsUsed := s₂.slotsUsed } : State) = { U.setFrames U.frames with heap := s₂.heap, slotsUsed := s₂.slotsUsed }
      rw [State.setFrames_self ht]
    subst hg
    refine Or.inl ⟨v, ⟨(({ U with heap := s₂.heap, slotsUsed := s₂.slotsUsed } : State).setVm s₂.vm), Ls ++ L, c0 + 0, s0 + 0⟩,
      ⟨X.admits, X.cas, X.clock, X.frames, X.room, X.hears, X.method, X.code, (X.here.setHeapUsed s₂.heap s₂.slotsUsed).setVm hW'.alike, X.tail, State.WarmedH.trans X.warmed hW', X.limits, X.bytes, X.same.trans (hsame.setVm s.vm)⟩,
      ⟨g, mk, s₂, L, rfl, rfl, hqc, rfl, hL, rfl, rfl⟩, ?_⟩
    show Steps p.tables e below _ ((({ U with heap := s₂.heap, slotsUsed := s₂.slotsUsed } : State).setVm s₂.vm).setTop { g with pc := g.pc + len₂, stack := v.toList ++ g.stack })
    rw [← hs₂]
    exact hsteps
  · obtain ⟨e2, q2, q3, q4, q5, q6⟩ := id hsm
    have e3 : s₂ = ({ (U.calling g mk a).setFrames s₂.frames with heap := s₂.heap, slotsUsed := s₂.slotsUsed } : State).setVm s₂.vm := by
      have : s₂ = ({ s₂ with vm := (U.calling g mk a).vm } : State).setVm s₂.vm := rfl
      rw [e2] at this
      exact this
    have hf₂ : s₂.frames = .throwing q :: .java g :: U.frames.tail := hend
    have hW' : U.WarmedH s₂.vm := hW₂
    have hs₂ : s₂ = ((({ U with heap := s₂.heap, slotsUsed := s₂.slotsUsed } : State).setVm s₂.vm).setTop g).pushFrame (.throwing q) := by
      refine e3.trans ?_
      rw [hf₂, State.calling_eq h.top, State.setFrames_setFrames, State.pushFrame, State.frames_setTop _ hr', State.setTop_of_frames _ hr', State.setFrames_setFrames, hr]
      rfl
    have hsame : U.sameButNew ({ U with heap := s₂.heap, slotsUsed := s₂.slotsUsed } : State) L mc ms := by
      refine ⟨?_, q2, q3, q4, q5, q6⟩
      obtain ⟨t, ht, -⟩ := State.frames_cons hr
      show ({ U with heap := s₂.heap, slotsUsed := s₂.slotsUsed } : State) = { U.setFrames U.frames with heap := s₂.heap, slotsUsed := s₂.slotsUsed }
      rw [State.setFrames_self ht]
    subst hg
    refine Or.inr ⟨q, ⟨(({ U with heap := s₂.heap, slotsUsed := s₂.slotsUsed } : State).setVm s₂.vm), Ls ++ L, c0 + mc, s0 + ms⟩,
      ⟨X.admits, X.cas, X.clock, X.frames, X.room, X.hears, X.method, X.code, (X.here.setHeapUsed s₂.heap s₂.slotsUsed).setVm hW'.alike, X.tail, State.WarmedH.trans X.warmed hW', X.limits, X.bytes, X.same.trans (hsame.setVm s.vm)⟩,
      ⟨g, mk, s₂, L, E, ce, rfl, rfl, hx, hce, hcv, hcl, rfl, hL, rfl, rfl⟩, ?_⟩
    show Steps p.tables e below _ (((({ U with heap := s₂.heap, slotsUsed := s₂.slotsUsed } : State).setVm s₂.vm).setTop g).pushFrame (.throwing q))
    rw [← hs₂]
    exact hsteps
end Payer
def vy_Run (p : Program) (l : Launch) (e : Env) (R : Room) (s : State) (m : MethodId) (args : Array Value) (below : List Frame) (meth : Method) (c : Code) (H : Heap) (locs : List Loc) (cells slots mc ms : Nat) (g : JFrame) (rest : List Value) (Qa : State → Outcome → State → Prop) (XC : String → State → State → Prop) (free : Addr → Prop) : Prop :=
  ∀ T : State, T.heap = H → Stand p l e R s m args below meth c T locs cells slots →
    (∃ (v : Option Value) (st₀ t T' : State) (L : List Loc), st₀.heap = H ∧ Stand p l e R s m args below meth c T' (locs ++ L) (cells + 0) (slots + 0) ∧ (∀ q ∈ L, free q.base) ∧ T'.heap = t.heap ∧ T'.vm = t.vm ∧ Qa st₀ (.returned v) t ∧
      Goes p e below T g T' { g with pc := g.pc + 3, stack := v.toList ++ rest }) ∨
    (∃ (q : Addr) (st₀ t T' : State) (L : List Loc) (E : String) (ce : Cell), st₀.heap = H ∧ Stand p l e R s m args below meth c T' (locs ++ L) (cells + mc) (slots + ms) ∧ (∀ z ∈ L, free z.base) ∧ T'.heap = t.heap ∧ T'.vm = t.vm ∧ XC E st₀ t ∧ t.heap[q]? = some ce ∧ ce.vm = .none ∧ s.vm.findClass E = some ce.cls ∧
      Steps p.tables e below (T.setTop g) ((T'.setTop { g with stack := rest }).pushFrame (.throwing q)))
section Runs
variable {p : Program} {l : Launch} {e : Env} {R : Room} {s : State} {m : MethodId} {args : Array Value} {below : List Frame} {meth : Method} {c : Code} {H : Heap} {locs : List Loc} {cells slots : Nat}
variable {y : MethodName} {bytes cc : ByteArray} {maxL nL mc ms n index : Nat} {ret : Option FieldType} {ws : List Cond} {rm : Room} {Pc : Array Value → State → Prop} {Qc : Array Value → State → Outcome → State → Prop} {XC : String → State → State → Prop} {free : Addr → Prop} {Ts : List Cond} {own C : String} {b : Addr} {As rest : List Value} {g : JFrame}
theorem vy_callBack (cb : CallB R s args own index y bytes maxL ret ws rm mc ms n) (hM : vy_Met l y ws rm Pc Qc XC mc ms free) (hbl : FrameBlind Pc) : vx_Back l R p e below s args y 3 8 (PreOf R mc ms Pc) (PostOf Qc 0 0 free) (vx_Post XC mc ms free) := by
  obtain ⟨hrc, hrs, hfr, hlo, hws, hcw, -, hini, -⟩ := cb
  exact vy_back (bytes := bytes) (maxL := maxL) (ret := ret) hM hbl hrc hrs hfr hlo hws hcw (fun a' U hW => word_at hW (Or.inl (by first | rfl | simp [Cond.onTables, Cond.keeps, Cond.steady])) hini)
theorem vy_runV (S : CallFix p m c cc nL s args Ts own) (hM : vy_Met l y ws rm Pc Qc XC mc ms free) (cw : CallW R s args own C index y bytes maxL ret ws rm mc ms n) (hp : PreV s H C b Pc As)
    (hg : g.method = m) (hn : As.length = n) (hsize : g.locals.size = nL) (hstack : g.stack = As.reverse ++ .ref b :: rest) (hW : 2 * g.monitorRoom + (rest.map fun v => v.category).sum ≤ 8) (hdg : decode cc g.pc = .ok (.invokevirtual index, 3)) (hf : cells + mc ≤ R.cells ∧ slots + ms ≤ R.slots) :
    vy_Run p l e R s m args below meth c H locs cells slots mc ms g rest (Qc (Value.ref b :: As).toArray) XC free := by
  have hK : vx_Back l R p e below s args y 3 8 (PreOf R mc ms Pc) (PostOf Qc 0 0 free) (vx_Post XC mc ms free) := vy_callBack cw.1 hM hp.1
  obtain ⟨⟨-, -, -, -, -, -, hcode, -, hy, hlen, hl⟩, hin, hse⟩ := cw
  obtain ⟨hx, hb, hml, ho, -⟩ := S
  obtain ⟨-, ⟨cellB, hcB, hoB, hclB⟩, hPc⟩ := hp
  intro T hT X
  rcases vx_callV X hx (C := C) (bytes := bytes) (maxL := maxL) (ret := ret) ho hl hin hse hcode hy hK (by rw [hT]; exact hcB) hoB hclB hg (hsize.trans hml.symm) (argsL := As) (rest := rest) (fun sig h => hn.trans (hlen sig h)) hstack hW (by rw [hb]; exact hdg)
    (fun vm₁ hW₁ => ⟨hf.1, hf.2, hPc (T.setVm vm₁) hT hW₁⟩) with ⟨v, vm₁, ⟨U', l2, c2, s2⟩, hW₁, X', ⟨g', mk, t, L, e1, e2, hq, h1, hL, h2, h3⟩, st⟩ | ⟨q, vm₁, ⟨U', l2, c2, s2⟩, hW₁, X', ⟨g', mk, t, L, E, ce, e1, e2, hq, hce, hcv, hcl, h1, hL, h2, h3⟩, st⟩
  · dsimp only [Pt.U, Pt.locs, Pt.cells, Pt.slots] at X' e1 e2 h1 h2 h3 st
    subst h1; subst h2; subst h3
    exact Or.inl ⟨v, (T.setVm vm₁).calling g' mk (Value.ref b :: As).toArray, t, U', L, hT, X', hL, e1, e2, hq, st⟩
  · dsimp only [Pt.U, Pt.locs, Pt.cells, Pt.slots] at X' e1 e2 h1 h2 h3 st hcl
    subst h1; subst h2; subst h3
    exact Or.inr ⟨q, (T.setVm vm₁).calling g' mk (Value.ref b :: As).toArray, t, U', L, E, ce, hT, X', hL, e1, e2, hq, hce, hcv, vx_cls hW₁ hcl, st⟩
theorem vy_runS (S : CallFix p m c cc nL s args Ts own) (hM : vy_Met l y ws rm Pc Qc XC mc ms free) (cw : CallB R s args own index y bytes maxL ret ws rm mc ms n ∧ (Cond.static y).before args s = true) (hp : PreS s H Pc As)
    (hg : g.method = m) (hn : As.length = n) (hsize : g.locals.size = nL) (hstack : g.stack = As.reverse ++ rest) (hW : 2 * g.monitorRoom + (rest.map fun v => v.category).sum ≤ 8) (hdg : decode cc g.pc = .ok (.invokestatic index, 3)) (hf : cells + mc ≤ R.cells ∧ slots + ms ≤ R.slots) :
    vy_Run p l e R s m args below meth c H locs cells slots mc ms g rest (Qc As.toArray) XC free := by
  have hK : vx_Back l R p e below s args y 3 8 (PreOf R mc ms Pc) (PostOf Qc 0 0 free) (vx_Post XC mc ms free) := vy_callBack cw.1 hM hp.1
  obtain ⟨⟨-, -, -, -, -, -, hcode, hini, hy, hlen, hl⟩, hstt⟩ := cw
  obtain ⟨hx, hb, hml, ho, -⟩ := S
  intro T hT X
  rcases vx_callS X hx (bytes := bytes) (maxL := maxL) (ret := ret) ho hl hstt hini hcode hy hK hg (hsize.trans hml.symm) (argsL := As) (rest := rest) (fun sig h => hn.trans (hlen sig h)) hstack hW (by rw [hb]; exact hdg)
    (fun vm₁ hW₁ => ⟨hf.1, hf.2, hp.2 (T.setVm vm₁) hT hW₁⟩) with ⟨v, vm₁, ⟨U', l2, c2, s2⟩, hW₁, X', ⟨g', mk, t, L, e1, e2, hq, h1, hL, h2, h3⟩, st⟩ | ⟨q, vm₁, ⟨U', l2, c2, s2⟩, hW₁, X', ⟨g', mk, t, L, E, ce, e1, e2, hq, hce, hcv, hcl, h1, hL, h2, h3⟩, st⟩
  · dsimp only [Pt.U, Pt.locs, Pt.cells, Pt.slots] at X' e1 e2 h1 h2 h3 st
    subst h1; subst h2; subst h3
    exact Or.inl ⟨v, (T.setVm vm₁).calling g' mk As.toArray, t, U', L, hT, X', hL, e1, e2, hq, st⟩
  · dsimp only [Pt.U, Pt.locs, Pt.cells, Pt.slots] at X' e1 e2 h1 h2 h3 st hcl
    subst h1; subst h2; subst h3
    exact Or.inr ⟨q, (T.setVm vm₁).calling g' mk As.toArray, t, U', L, E, ce, hT, X', hL, e1, e2, hq, hce, hcv, vx_cls hW₁ hcl, st⟩
end Runs
section Rows
variable {p : Program} {l : Launch} {e : Env} {R : Room} {s : State} {m : MethodId} {args : Array Value} {below : List Frame} {meth : Method} {c : Code} {H : Heap} {locs : List Loc} {cells slots : Nat} {Q : State → Prop}
variable {mc ms : Nat} {free : Addr → Prop} {A0 A1 : Nat → Prop} {H0 : Heap} {a : Array Value} {pc : Nat} {ls : Array Slot} {st0 rest : List Value}
theorem vy_calli {S SX : Type} {post : Int32 → S → Prop} {px : SX → Prop} {B : S → State → Prop} {BX : String → SX → State → Prop} {AX : Nat → Prop} (hr : vy_Run p l e R s m args below meth c H locs cells slots mc ms (F0 m pc ls st0) rest (va_Qi post B A1 a) (vx_X px BX AX) free) (hS : va_S A0 H0 H locs) (hA : ∀ q, q < H.size → A1 q → A0 q) (hf : ∀ q, free q → A0 q) (hAX : ∀ q, q < H.size → AX q → A0 q)
    (kx : ∀ (E : String) (ce : Cell) (q9 : Addr) (u : SX) (t : State) (H1 : Heap) (locs1 : List Loc), t.heap = H1 → s.vm.Alike t.vm → px u → BX E u t → H.size ≤ H1.size → (∀ q : Nat, q < H.size → ¬ AX q → H1[q]? = H[q]?) → va_S A0 H0 H1 locs1 → H1[q9]? = some ce → ce.vm = .none → s.vm.findClass E = some ce.cls → vx_W p l e R s m args below meth c H1 locs1 (cells + mc) (slots + ms) Q (F0 m pc ls rest) q9)
    (kk : ∀ (r : Int32) (u : S) (t : State) (H1 : Heap) (locs1 : List Loc), t.heap = H1 → s.vm.Alike t.vm → post r u → B u t → H.size ≤ H1.size → (∀ q : Nat, q < H.size → ¬ A1 q → H1[q]? = H[q]?) → va_S A0 H0 H1 locs1 → W p l e R s m args below meth c H1 locs1 (cells + 0) (slots + 0) Q (F0 m (pc + 3) ls (.int r :: rest))) : W p l e R s m args below meth c H locs cells slots Q (F0 m pc ls st0) := by
  intro T hT X
  rcases hr T hT X with ⟨v, st₀, t, T', L, h0, X', hL, e1, e2, ⟨⟨r, u, hv, hp, hb⟩, hF⟩, st⟩ | ⟨q, st₀, t, T', L, E, ce, h0, X', hL, e1, e2, ⟨u, hp, hb, hF⟩, hce, hcv, hcl, st⟩
  · cases hv
    obtain ⟨k1, k2, k3⟩ := vx_keep h0 e1 hS hA hf hL hF
    obtain ⟨t2, a1, b1⟩ := kk r u t T'.heap (locs ++ L) e1.symm (by rw [← e2]; exact X'.warmed.alike) hp hb k1 k2 k3 T' rfl X'
    exact ⟨t2, st t2 a1, b1⟩
  · obtain ⟨k1, k2, k3⟩ := vx_keep h0 e1 hS hAX hf hL hF
    obtain ⟨t2, a1, b1⟩ := kx E ce q u t T'.heap (locs ++ L) e1.symm (by rw [← e2]; exact X'.warmed.alike) hp hb k1 k2 k3 (by rw [e1]; exact hce) hcv hcl T' rfl X'
    exact ⟨t2, st.trans a1, b1⟩
theorem vy_callv {S SX : Type} {post : S → Prop} {px : SX → Prop} {B : S → State → Prop} {BX : String → SX → State → Prop} {AX : Nat → Prop} (hr : vy_Run p l e R s m args below meth c H locs cells slots mc ms (F0 m pc ls st0) rest (va_Qv post B A1 a) (vx_X px BX AX) free) (hS : va_S A0 H0 H locs) (hA : ∀ q, q < H.size → A1 q → A0 q) (hf : ∀ q, free q → A0 q) (hAX : ∀ q, q < H.size → AX q → A0 q)
    (kx : ∀ (E : String) (ce : Cell) (q9 : Addr) (u : SX) (t : State) (H1 : Heap) (locs1 : List Loc), t.heap = H1 → s.vm.Alike t.vm → px u → BX E u t → H.size ≤ H1.size → (∀ q : Nat, q < H.size → ¬ AX q → H1[q]? = H[q]?) → va_S A0 H0 H1 locs1 → H1[q9]? = some ce → ce.vm = .none → s.vm.findClass E = some ce.cls → vx_W p l e R s m args below meth c H1 locs1 (cells + mc) (slots + ms) Q (F0 m pc ls rest) q9)
    (kk : ∀ (u : S) (t : State) (H1 : Heap) (locs1 : List Loc), t.heap = H1 → s.vm.Alike t.vm → post u → B u t → H.size ≤ H1.size → (∀ q : Nat, q < H.size → ¬ A1 q → H1[q]? = H[q]?) → va_S A0 H0 H1 locs1 → W p l e R s m args below meth c H1 locs1 (cells + 0) (slots + 0) Q (F0 m (pc + 3) ls (rest))) : W p l e R s m args below meth c H locs cells slots Q (F0 m pc ls st0) := by
  intro T hT X
  rcases hr T hT X with ⟨v, st₀, t, T', L, h0, X', hL, e1, e2, ⟨⟨u, hv, hp, hb⟩, hF⟩, st⟩ | ⟨q, st₀, t, T', L, E, ce, h0, X', hL, e1, e2, ⟨u, hp, hb, hF⟩, hce, hcv, hcl, st⟩
  · cases hv
    obtain ⟨k1, k2, k3⟩ := vx_keep h0 e1 hS hA hf hL hF
    obtain ⟨t2, a1, b1⟩ := kk u t T'.heap (locs ++ L) e1.symm (by rw [← e2]; exact X'.warmed.alike) hp hb k1 k2 k3 T' rfl X'
    exact ⟨t2, st t2 a1, b1⟩
  · obtain ⟨k1, k2, k3⟩ := vx_keep h0 e1 hS hAX hf hL hF
    obtain ⟨t2, a1, b1⟩ := kx E ce q u t T'.heap (locs ++ L) e1.symm (by rw [← e2]; exact X'.warmed.alike) hp hb k1 k2 k3 (by rw [e1]; exact hce) hcv hcl T' rfl X'
    exact ⟨t2, st.trans a1, b1⟩
end Rows
section Ends
variable {p : Program} {l : Launch} {e : Env} {R : Room} {s : State} {m : MethodId} {args : Array Value} {below : List Frame} {meth : Method} {c : Code} {H : Heap} {locs : List Loc} {cells slots : Nat} {Q : State → Prop}
variable {mc ms : Nat} {free : Addr → Prop} {A0 A1 : Nat → Prop} {H0 : Heap} {a : Array Value} {ls : Array Slot} {st0 rest : List Value}
variable {Qc : Array Value → State → Outcome → State → Prop} {XC : String → State → State → Prop}
def vy_MQ (below : List Frame) (Qc : Array Value → State → Outcome → State → Prop) (XC : String → State → State → Prop) (a : Array Value) (s : State) (mc ms : Nat) (free : Addr → Prop) : State → Prop := fun t =>
  ∃ o, t.status = .running ∧ Ended t below o ∧ vy_Q Qc XC mc ms free a s o t
/-- a return out of a body that may throw -/
theorem vy_ret {g : JFrame} {mc ms : Nat} (k : W p l e R s m args below meth c H locs cells slots (MQ below Qc args s 0 0 free) g) : W p l e R s m args below meth c H locs cells slots (vy_MQ below Qc XC args s mc ms free) g := by
  intro T hT X
  obtain ⟨t, a1, o, b1, b2, b3, b4⟩ := k T hT X
  exact ⟨t, a1, o, b1, b2, Or.inl ⟨b3, b4⟩⟩
theorem vy_thr {g : JFrame} {mc ms : Nat} (k : W p l e R s m args below meth c H locs cells slots (vx_MQ below (fun _ _ _ _ => False) XC args s mc ms free) g) : W p l e R s m args below meth c H locs cells slots (vy_MQ below Qc XC args s mc ms free) g := by
  intro T hT X
  obtain ⟨t, a1, o, b1, b2, b3⟩ := k T hT X
  refine ⟨t, a1, o, b1, b2, ?_⟩
  rcases b3 with ⟨h, -⟩ | h
  · exact h.elim
  · exact Or.inr h
theorem vy_thrW {g : JFrame} {mc ms : Nat} {q : Addr} (k : vx_W p l e R s m args below meth c H locs cells slots (vx_MQ below (fun _ _ _ _ => False) XC args s mc ms free) g q) : vx_W p l e R s m args below meth c H locs cells slots (vy_MQ below Qc XC args s mc ms free) g q := by
  intro T hT X
  obtain ⟨t, a1, o, b1, b2, b3⟩ := k T hT X
  refine ⟨t, a1, o, b1, b2, ?_⟩
  rcases b3 with ⟨h, -⟩ | h
  · exact h.elim
  · exact Or.inr h
end Ends
section Bodies
variable {l : Launch}
theorem vy_ofW {y : MethodName} {ws ws' : List Cond} {rm : Room} {Pc : Array Value → State → Prop} {Qc : Array Value → State → Outcome → State → Prop} {XC : String → State → State → Prop} {mc ms : Nat} {free : Addr → Prop} {cc : ByteArray} {maxL : Nat} {ret : Option FieldType}
    (hy : plainName y.cls = true) (hw : ws = Cond.code y cc maxL ret :: ws')
    (body : ∀ p e s m args below meth c s₁, BodyLoose p l y (headSpec ws rm) cc maxL ret e s m args below meth c s₁ → c.maxLocals = maxL → (∀ x ∈ c.exceptionTable.toList, False) → Pc args s →
      W p l e (headSpec ws rm).room s m args below meth c s.heap [] 0 0 (vy_MQ below Qc XC args s mc ms free) (entryFrame m args maxL)) : vy_Met l y ws rm Pc Qc XC mc ms free := by
  refine MetFree.of_bodyS (code := cc) (maxLocals := maxL) (ret := ret) hy ?_ ?_
  · intro args s m h hn
    obtain ⟨meth, c, h1, h2, h3, h4, h5, h6, -, -⟩ := Cond.code_spec hn (atoms_spec (ws := ws) h _ (by rw [hw]; exact List.mem_cons_self))
    exact ⟨meth, c, h1, h2, h3, h4, h5, h6⟩
  · intro p e s m args below meth c s₁ B hml hP _
    have hh0 : s₁.heap = s.heap := by rw [B.state]; rfl
    have ht : ∀ x ∈ c.exceptionTable.toList, False := by
      obtain ⟨meth9, c9, h1, h2, -, -, -, -, h7, -⟩ := Cond.code_spec B.named (atoms_spec (ws := ws) B.pre _ (by rw [hw]; exact List.mem_cons_self))
      cases Option.some.inj (h1.symm.trans B.method)
      cases Option.some.inj (h2.symm.trans (Stand.of_body B).code)
      intro x hx
      rw [Array.isEmpty_iff.mp h7] at hx
      cases hx
    obtain ⟨t, a1, o, b1, b2, b3⟩ := body p e s m args below meth c s₁ B hml ht hP s₁ hh0 (Stand.of_body B)
    exact ⟨t, o, a1, b1, b2, b3⟩
end Bodies
end VYA
end
section
/-! contracts over the world, and a row an instruction that reaches it -/
def BW (G : Gx) : St → State → Prop := fun σ' t => va_P (gD G) vwCl (wl G σ') t.heap
def XW (G : Gx) (σ : St) (ex : String → Prop) : String → State → State → Prop := vx_X (fun _ : Unit => True) (fun E _ t => ex E ∧ va_P (gD G) vwCl (wl G σ) t.heap) (gA G)
def CtI (l : Launch) (y : MethodName) (ws : List Cond) (rm : Room) (G : Gx) (σ : St) (av : List Value) (post : Int32 → St → Prop) : Prop := Met l y ws rm (va_Pc av (PreU G σ)) (va_Qi post (BW G) (gA G)) 0 0 (gA G)
def CtV (l : Launch) (y : MethodName) (ws : List Cond) (rm : Room) (G : Gx) (σ : St) (av : List Value) (post : St → Prop) : Prop := Met l y ws rm (va_Pc av (PreU G σ)) (va_Qv post (BW G) (gA G)) 0 0 (gA G)
def CxI (l : Launch) (y : MethodName) (ws : List Cond) (rm : Room) (G : Gx) (σ : St) (av : List Value) (post : Int32 → St → Prop) (ex : String → Prop) : Prop := vy_Met l y ws rm (va_Pc av (PreU G σ)) (va_Qi post (BW G) (gA G)) (XW G σ ex) 1 6 (gA G)
def CxV (l : Launch) (y : MethodName) (ws : List Cond) (rm : Room) (G : Gx) (σ : St) (av : List Value) (post : St → Prop) (ex : String → Prop) : Prop := vy_Met l y ws rm (va_Pc av (PreU G σ)) (va_Qv post (BW G) (gA G)) (XW G σ ex) 1 6 (gA G)
/-- what a body is given -/
def Bd (p : Program) (s : State) (m : MethodId) (args : Array Value) (meth : Method) (c : Code) (G : Gx) (σ : St) (ws : List Cond) (cc : ByteArray) (own : String) (maxL : Nat) (ret : Option FieldType) : Prop :=
  p.tables.exec = Jvm.exec ∧ c.code = cc ∧ meth.sig.returnType = ret ∧ c.maxLocals = maxL ∧ (∀ w ∈ ws, w.before args s = true) ∧ s.vm.findClass own = some m.cls ∧ meth.locks = false ∧ Fx G s ∧ Wd G s σ s.heap []
theorem PreU.fx {G : Gx} {σ : St} {s : State} (hG : gOk G) (h : PreU G σ s) : Fx G s ∧ Wd G s σ s.heap [] := ⟨⟨hG, h.2.1, h.2.2.1, h.2.2.2⟩, h.1, va_S.rf⟩
section BG
variable {l : Launch} {y : MethodName} {ws ws' : List Cond} {rm : Room} {G : Gx} {σ : St} {av : List Value} {cc : ByteArray} {maxL : Nat} {ret : Option FieldType} {own : String} {lv : List (Nat × Value)}
theorem bgMet {Qc : Array Value → State → Outcome → State → Prop} (hy : plainName y.cls = true) (hcl : y.cls = own) (hws : ws = Cond.code y cc maxL ret :: ws') (hG : gOk G) (ha : (lg_sl av).length ≤ maxL) (hlv : lv_args 0 av = lv)
    (body : ∀ (p : Program) (e : Env) (s : State) (m : MethodId) (args : Array Value) (below : List Frame) (meth : Method) (c : Code) (ls : Array Slot), Bd p s m args meth c G σ ws cc own maxL ret → lv_has ls maxL lv → W p l e rm s m args below meth c s.heap [] 0 0 (MQ below Qc args s 0 0 (gA G)) (F0 m 0 ls [])) :
    Met l y ws rm (va_Pc av (PreU G σ)) Qc 0 0 (gA G) := by
  refine Met.ofW (cc := cc) (maxL := maxL) (ret := ret) hy hws ?_
  intro p e s m args below meth c s₁ B hml hv
  obtain ⟨rfl, hv⟩ := hv
  obtain ⟨fx, hw⟩ := hv.fx hG
  have hl := lv_entry av (n := maxL) ha
  rw [hlv] at hl
  rw [lg_entry_eq]
  exact body p e s m _ below meth c _ ⟨B.exec, B.bytes, B.returns, hml, atoms_spec (ws := ws) B.pre, by rw [← hcl]; exact findClass_of_methodNamed B.named, B.notSynchronized, fx, hw⟩ hl
theorem bgX {Qc : Array Value → State → Outcome → State → Prop} {XC : String → State → State → Prop} {mc ms : Nat} (hy : plainName y.cls = true) (hcl : y.cls = own) (hws : ws = Cond.code y cc maxL ret :: ws') (hG : gOk G) (ha : (lg_sl av).length ≤ maxL) (hlv : lv_args 0 av = lv)
    (body : ∀ (p : Program) (e : Env) (s : State) (m : MethodId) (args : Array Value) (below : List Frame) (meth : Method) (c : Code) (ls : Array Slot), (∀ x ∈ c.exceptionTable.toList, False) → Bd p s m args meth c G σ ws cc own maxL ret → lv_has ls maxL lv → W p l e rm s m args below meth c s.heap [] 0 0 (vy_MQ below Qc XC args s mc ms (gA G)) (F0 m 0 ls [])) :
    vy_Met l y ws rm (va_Pc av (PreU G σ)) Qc XC mc ms (gA G) := by
  refine vy_ofW (cc := cc) (maxL := maxL) (ret := ret) hy hws ?_
  intro p e s m args below meth c s₁ B hml ht hv
  obtain ⟨rfl, hv⟩ := hv
  obtain ⟨fx, hw⟩ := hv.fx hG
  have hl := lv_entry av (n := maxL) ha
  rw [hlv] at hl
  rw [lg_entry_eq]
  exact body p e s m _ below meth c _ ht ⟨B.exec, B.bytes, B.returns, hml, atoms_spec (ws := ws) B.pre, by rw [← hcl]; exact findClass_of_methodNamed B.named, B.notSynchronized, fx, hw⟩ hl
end BG
section RW
variable {p : Program} {l : Launch} {e : Env} {R : Room} {s : State} {m : MethodId} {args : Array Value} {below : List Frame} {meth : Method} {c : Code} {H : Heap} {locs : List Loc} {cells slots : Nat} {Q : State → Prop}
variable {pc : Nat} {ls : Array Slot} {rest st0 : List Value} {cc : ByteArray} {G : Gx} {σ : St} {Ts : List Cond} {own : String}
theorem rGet (hx : p.tables.exec = Jvm.exec) (hb : c.code = cc) (fx : Fx G s) (hown : s.vm.findClass own = some m.cls) (hts : ∀ w ∈ Ts, w.before args s = true) {C ref : String} {T : u_T} {N index ci : Nat} (hin : ∀ w ∈ u_ws C T N, w ∈ Ts) (hw : Wd G s σ H locs) (c0 : Nat) (hI : c0 ∈ gl G) {fs : List Value} (he : cE G c0 (σ c0) = .inr (ci, fs)) (hcl : vwCl[ci]? = some (C, T, N)) (k : Nat) (hk : k < N)
    (hlink : (Cond.fieldLink own index ref (T k).2.1 (T k).2.2.1).before args s = true) (hsame : ∀ x, s.fieldFound? (T k).1 (T k).2.1 (T k).2.2.1 = some x → s.fieldFound? ref (T k).2.1 (T k).2.2.1 = some x) {v : Value} (hv : fs[k]? = some v) (hdg : decode cc pc = .ok (.getfield index, 3))
    (kk : W p l e R s m args below meth c H locs cells slots Q (F0 m (pc + 3) ls (v :: rest))) : W p l e R s m args below meth c H locs cells slots Q (F0 m pc ls (.ref (gad G c0) :: rest)) := by
  obtain ⟨k0, -, hk0⟩ := wl_get hI σ
  rw [he] at hk0
  exact va_get hx hb hts hin hown fx.2.1 hw.1 k0 hk0 hcl k hk hlink hsame hv hdg kk
theorem rPut (hx : p.tables.exec = Jvm.exec) (hb : c.code = cc) (fx : Fx G s) (hown : s.vm.findClass own = some m.cls) (hts : ∀ w ∈ Ts, w.before args s = true) {C ref : String} {T : u_T} {N index ci : Nat} (hin : ∀ w ∈ u_ws C T N, w ∈ Ts) (ty0 : Nat → FieldType) (hty : ∀ k, k < N → parseFieldDescriptor (T k).2.2.1 = some (ty0 k)) (hnm : ∀ a, a < N → ∀ b, b < N → a ≠ b → (T a).2.1 ≠ (T b).2.1) (hw : Wd G s σ H locs) (c0 : Nat) (hI : c0 ∈ gl G) {fs : List Value} (he : cE G c0 (σ c0) = .inr (ci, fs)) (hcl : vwCl[ci]? = some (C, T, N)) (k : Nat) (hk : k < N)
    (hlink : (Cond.fieldLink own index ref (T k).2.1 (T k).2.2.1).before args s = true) (hsame : ∀ x, s.fieldFound? (T k).1 (T k).2.1 (T k).2.2.1 = some x → s.fieldFound? ref (T k).2.1 (T k).2.2.1 = some x) (hfin : (T k).2.2.2 = false) {ty : FieldType} {v : Int32} (hd : parseFieldDescriptor (T k).2.2.1 = some ty) (hn : narrow ty (.int v) = .int v) (hfit : fits ty (.int v) = true) (hl : k < fs.length) (hset : cE G c0 (upd (σ c0) k v) = .inr (ci, fs.set k (.int v))) (hdg : decode cc pc = .ok (.putfield index, 3))
    (kk : ∀ (H1 : Heap) (locs1 : List Loc), Wd G s (upA σ c0 (upd (σ c0) k v)) H1 locs1 → W p l e R s m args below meth c H1 locs1 cells slots Q (F0 m (pc + 3) ls rest)) : W p l e R s m args below meth c H locs cells slots Q (F0 m pc ls (.int v :: .ref (gad G c0) :: rest)) := by
  obtain ⟨k0, hk1, hk0⟩ := wl_get hI σ
  rw [he] at hk0
  refine va_put hx hb hts hin ty0 hty hnm hown fx.2.1 hw.1 (wl_D fx.1 σ) hw.2 k0 hk0 hcl k hk hlink hsame hfin hd hn hfit hl hdg (fun H1 locs1 hP hD hS => kk H1 locs1 ⟨?_, hS⟩)
  rw [← hset, wl_set fx.1.1 hk1] at hP
  exact hP
theorem rAld (hx : p.tables.exec = Jvm.exec) (hb : c.code = cc) (fx : Fx G s) (hw : Wd G s σ H locs) (c0 : Nat) (hI : c0 ∈ gl G) (hT : (gcI G, FieldType.int) ∈ gT G) {n : Nat} (he : ∀ f, cE G c0 f = eRow G n f) {i : Int32} (k : Nat) (hi : i = nI k) (hk : k < n) (hn : n < 2 ^ 31) (hdg : decode cc pc = .ok (.iaload, 1))
    (kk : W p l e R s m args below meth c H locs cells slots Q (F0 m (pc + 1) ls (.int (σ c0 k) :: rest))) : W p l e R s m args below meth c H locs cells slots Q (F0 m pc ls (.int i :: .ref (gad G c0) :: rest)) := by
  obtain ⟨k0, -, hk0⟩ := wl_get hI σ
  rw [he] at hk0
  obtain ⟨t0, ht0⟩ := List.getElem?_of_mem hT
  subst hi
  refine va_iald hx hb fx.2.1 hw.1 k0 t0 hk0 ht0 (vp_in_nI hk hn) hdg ?_
  rw [nI_clamp (by omega)]
  exact kk
theorem rAst (hx : p.tables.exec = Jvm.exec) (hb : c.code = cc) (fx : Fx G s) (hw : Wd G s σ H locs) (c0 : Nat) (hI : c0 ∈ gl G) (hT : (gcI G, FieldType.int) ∈ gT G) {n : Nat} (he : ∀ f, cE G c0 f = eRow G n f) {i x : Int32} (k : Nat) (hi : i = nI k) (hk : k < n) (hn : n < 2 ^ 31) (hdg : decode cc pc = .ok (.iastore, 1))
    (kk : ∀ (H1 : Heap) (locs1 : List Loc), Wd G s (upA σ c0 (upd (σ c0) k x)) H1 locs1 → W p l e R s m args below meth c H1 locs1 cells slots Q (F0 m (pc + 1) ls rest)) : W p l e R s m args below meth c H locs cells slots Q (F0 m pc ls (.int x :: .int i :: .ref (gad G c0) :: rest)) := by
  obtain ⟨k0, hk1, hk0⟩ := wl_get hI σ
  rw [he] at hk0
  obtain ⟨t0, ht0⟩ := List.getElem?_of_mem hT
  subst hi
  refine va_iast hx hb fx.2.1 hw.1 (wl_D fx.1 σ) hw.2 k0 t0 hk0 ht0 (vp_in_nI hk hn) hdg (fun H1 locs1 hP hD hS => kk H1 locs1 ⟨?_, hS⟩)
  rw [nI_clamp (by omega)] at hP
  have h2 := wl_set (σ := σ) (f := upd (σ c0) k x) fx.1.1 hk1
  rw [he] at h2
  rw [← h2]
  exact hP
theorem rZld (hx : p.tables.exec = Jvm.exec) (hb : c.code = cc) (fx : Fx G s) (hw : Wd G s σ H locs) (c0 : Nat) (hI : c0 ∈ gl G) (hT : (gcZ G, FieldType.boolean) ∈ gT G) {n : Nat} (he : ∀ f, cE G c0 f = eBool G n f) {i : Int32} (k : Nat) (hi : i = nI k) (hk : k < n) (hn : n < 2 ^ 31) (hdg : decode cc pc = .ok (.baload, 1))
    (kk : W p l e R s m args below meth c H locs cells slots Q (F0 m (pc + 1) ls (.int (σ c0 k) :: rest))) : W p l e R s m args below meth c H locs cells slots Q (F0 m pc ls (.int i :: .ref (gad G c0) :: rest)) := by
  obtain ⟨k0, -, hk0⟩ := wl_get hI σ
  rw [he] at hk0
  obtain ⟨t0, ht0⟩ := List.getElem?_of_mem hT
  subst hi
  refine va_zald hx hb fx.2.1 hw.1 k0 t0 hk0 ht0 (vp_in_nI hk hn) hdg ?_
  rw [nI_clamp (by omega)]
  exact kk
theorem rZst (hx : p.tables.exec = Jvm.exec) (hb : c.code = cc) (fx : Fx G s) (hw : Wd G s σ H locs) (c0 : Nat) (hI : c0 ∈ gl G) (hT : (gcZ G, FieldType.boolean) ∈ gT G) {n : Nat} (he : ∀ f, cE G c0 f = eBool G n f) {i x : Int32} (k : Nat) (hi : i = nI k) (hk : k < n) (hn : n < 2 ^ 31) (hnar : vp_nar .boolean x = x) (hdg : decode cc pc = .ok (.bastore, 1))
    (kk : ∀ (H1 : Heap) (locs1 : List Loc), Wd G s (upA σ c0 (upd (σ c0) k x)) H1 locs1 → W p l e R s m args below meth c H1 locs1 cells slots Q (F0 m (pc + 1) ls rest)) : W p l e R s m args below meth c H locs cells slots Q (F0 m pc ls (.int x :: .int i :: .ref (gad G c0) :: rest)) := by
  obtain ⟨k0, hk1, hk0⟩ := wl_get hI σ
  rw [he] at hk0
  obtain ⟨t0, ht0⟩ := List.getElem?_of_mem hT
  subst hi
  refine va_zast hx hb fx.2.1 hw.1 (wl_D fx.1 σ) hw.2 k0 t0 hk0 ht0 (vp_in_nI hk hn) hdg (fun H1 locs1 hP hD hS => kk H1 locs1 ⟨?_, hS⟩)
  rw [nI_clamp (by omega), hnar] at hP
  have h2 := wl_set (σ := σ) (f := upd (σ c0) k x) fx.1.1 hk1
  rw [he] at h2
  rw [← h2]
  exact hP
theorem rLld (hx : p.tables.exec = Jvm.exec) (hb : c.code = cc) (fx : Fx G s) (hw : Wd G s σ H locs) (hI : 46 ∈ gl G) (hT : (gcJ G, FieldType.long) ∈ gT G) (hdg : decode cc pc = .ok (.laload, 1))
    (kk : W p l e R s m args below meth c H locs cells slots Q (F0 m (pc + 1) ls (.long (σ 46 0).toInt64 :: rest))) : W p l e R s m args below meth c H locs cells slots Q (F0 m pc ls (.int 0 :: .ref (gad G 46) :: rest)) := by
  obtain ⟨k0, -, hk0⟩ := wl_get hI σ
  rw [show cE G 46 (σ 46) = .inl (gcJ G, 1, .inr (.inl (fun j => (σ 46 j).toInt64))) from rfl] at hk0
  obtain ⟨t0, ht0⟩ := List.getElem?_of_mem hT
  exact va_lald hx hb fx.2.1 hw.1 k0 t0 hk0 ht0 (vp_in_nI (n := 0) (N := 1) (by decide) (by decide)) hdg kk
theorem rLst (hx : p.tables.exec = Jvm.exec) (hb : c.code = cc) (fx : Fx G s) (hw : Wd G s σ H locs) (hI : 46 ∈ gl G) (hT : (gcJ G, FieldType.long) ∈ gT G) {x : Int32} (hdg : decode cc pc = .ok (.lastore, 1))
    (kk : ∀ (H1 : Heap) (locs1 : List Loc), Wd G s (upA σ 46 (upd (σ 46) 0 x)) H1 locs1 → W p l e R s m args below meth c H1 locs1 cells slots Q (F0 m (pc + 1) ls rest)) : W p l e R s m args below meth c H locs cells slots Q (F0 m pc ls (.long x.toInt64 :: .int 0 :: .ref (gad G 46) :: rest)) := by
  obtain ⟨k0, hk1, hk0⟩ := wl_get hI σ
  rw [show cE G 46 (σ 46) = .inl (gcJ G, 1, .inr (.inl (fun j => (σ 46 j).toInt64))) from rfl] at hk0
  obtain ⟨t0, ht0⟩ := List.getElem?_of_mem hT
  refine va_last hx hb fx.2.1 hw.1 (wl_D fx.1 σ) hw.2 k0 t0 hk0 ht0 (vp_in_nI (n := 0) (N := 1) (by decide) (by decide)) hdg (fun H1 locs1 hP hD hS => kk H1 locs1 ⟨?_, hS⟩)
  have h2 := wl_set (σ := σ) (f := upd (σ 46) 0 x) fx.1.1 hk1
  rw [show cE G 46 (upd (σ 46) 0 x) = .inl (gcJ G, 1, .inr (.inl (vp_updL (fun j => (σ 46 j).toInt64) (Int32.toNatClampNeg 0) x.toInt64))) from by
    show Sum.inl (gcJ G, 1, Sum.inr (Sum.inl (fun j => (upd (σ 46) 0 x j).toInt64))) = _
    have : (fun j => (upd (σ 46) 0 x j).toInt64) = vp_updL (fun j => (σ 46 j).toInt64) (Int32.toNatClampNeg 0) x.toInt64 := by
      funext j
      show (if j = 0 then x else σ 46 j).toInt64 = if j = (Int32.toNatClampNeg 0) then x.toInt64 else (σ 46 j).toInt64
      rw [show Int32.toNatClampNeg 0 = 0 from rfl]
      split <;> rfl
    rw [this]] at h2
  rw [← h2]
  exact hP
theorem rSts (hx : p.tables.exec = Jvm.exec) (hb : c.code = cc) (hw : Wd G s σ H locs) {C n ref : String} {index N : Nat} {f : Nat → Int32} (hZ : stRow C n N f (gA G) s s.heap) (hown : s.vm.findClass own = some m.cls) (hlink : (Cond.fieldLink own index ref n "[I").before args s = true) (hsame : ∀ x, s.fieldFound? C n "[I" = some x → s.fieldFound? ref n "[I" = some x) (hdg : decode cc pc = .ok (.getstatic index, 3))
    (kk : ∀ t : Nat, va_T .int t N (fun j => .int (f j)) (gA G) s s.heap → W p l e R s m args below meth c H locs cells slots Q (F0 m (pc + 3) ls (.ref t :: rest))) : W p l e R s m args below meth c H locs cells slots Q (F0 m pc ls rest) := by
  obtain ⟨t, h1, h2⟩ := hZ
  exact va_gets hx hb h1 hw.2 hown hlink hsame hdg (kk t h2)
theorem rStl (hx : p.tables.exec = Jvm.exec) (hb : c.code = cc) (hw : Wd G s σ H locs) {t N : Nat} {f : Nat → Int32} (hT : va_T .int t N (fun j => .int (f j)) (gA G) s s.heap) {i : Int32} (k : Nat) (hi : i = nI k) (hk : k < N) (hn : N < 2 ^ 31) (hdg : decode cc pc = .ok (.iaload, 1))
    (kk : W p l e R s m args below meth c H locs cells slots Q (F0 m (pc + 1) ls (.int (f k) :: rest))) : W p l e R s m args below meth c H locs cells slots Q (F0 m pc ls (.int i :: .ref t :: rest)) := by
  subst hi
  exact va_ti hx hb hT hw.2 (vp_in_nI hk hn) (v := .int (f k)) (by show Value.int (f _) = _; rw [nI_clamp (by omega)]) hdg kk
/-- returns -/
theorem rRetI {post : Int32 → St → Prop} (hx : p.tables.exec = Jvm.exec) (hb : c.code = cc) (hr : meth.sig.returnType = some .int) (hw : Wd G s σ H locs) {v : Int32} (hp : post v σ) (hlocks : meth.locks = false) (hdg : decode cc pc = .ok (.ireturn, 1)) : W p l e R s m args below meth c H locs cells slots (MQ below (va_Qi post (BW G) (gA G)) args s cells slots (gA G)) (F0 m pc ls [.int v]) :=
  W.iret (v := v) hx hb hr (fun t ht hW => ⟨⟨v, σ, rfl, hp, by show va_P _ _ _ t.heap; rw [ht]; exact hw.1⟩, hw.2.F ht⟩) hw.2.2.2 hdg hlocks
theorem rRetZ {post : Int32 → St → Prop} {ty : FieldType} (hx : p.tables.exec = Jvm.exec) (hb : c.code = cc) (hr : meth.sig.returnType = some ty) (hw : Wd G s σ H locs) {v : Int32} (hn : narrow ty (.int v) = .int v) (hp : post v σ) (hlocks : meth.locks = false) (hdg : decode cc pc = .ok (.ireturn, 1)) : W p l e R s m args below meth c H locs cells slots (MQ below (va_Qi post (BW G) (gA G)) args s cells slots (gA G)) (F0 m pc ls [.int v]) :=
  W.zret (v := v) hx hb hr hn (fun t ht hW => ⟨⟨v, σ, rfl, hp, by show va_P _ _ _ t.heap; rw [ht]; exact hw.1⟩, hw.2.F ht⟩) hw.2.2.2 hdg hlocks
theorem rRetV {post : St → Prop} (hx : p.tables.exec = Jvm.exec) (hb : c.code = cc) (hr : meth.sig.returnType = none) (hw : Wd G s σ H locs) (hp : post σ) (hlocks : meth.locks = false) (hdg : decode cc pc = .ok (.return_, 1)) : W p l e R s m args below meth c H locs cells slots (MQ below (va_Qv post (BW G) (gA G)) args s cells slots (gA G)) (F0 m pc ls []) :=
  W.vret hx hb hr (fun t ht hW => ⟨⟨σ, rfl, hp, by show va_P _ _ _ t.heap; rw [ht]; exact hw.1⟩, hw.2.F ht⟩) hw.2.2.2 hdg hlocks
/-- calls -/
theorem rRecv (fx : Fx G s) (hw : Wd G s σ H locs) {c0 ci : Nat} {fs : List Value} {q : vw_C} {C : String} (hI : c0 ∈ gl G) (he : cE G c0 (σ c0) = .inr (ci, fs)) (hcl : vwCl[ci]? = some q) (hq : q.1 = C) : ∃ cell : Cell, H[gad G c0]? = some cell ∧ cell.vm.isStatics = false ∧ s.vm.findClass C = some cell.cls := by
  obtain ⟨k0, -, hk0⟩ := wl_get hI σ
  rw [he] at hk0
  subst hq
  exact va_recv fx.2.1 hw.1 hcl hk0
theorem rA (fx : Fx G s) (hw : Wd G s σ H locs) : ∀ q : Nat, q < H.size → gA G q → gA G q := fun _ _ h => h
variable {y : MethodName} {bytes : ByteArray} {maxL nL n index ci c0 : Nat} {ret : Option FieldType} {ws : List Cond} {rm : Room} {C : String} {As : List Value} {fs : List Value} {q : vw_C}
theorem rCallI {post : Int32 → St → Prop} (S : CallFix p m c cc nL s args Ts own) (fx : Fx G s) (hw : Wd G s σ H locs) (hM : CtI l y ws rm G σ (.ref (gad G c0) :: As) post) (cw : CallW R s args own C index y bytes maxL ret ws rm 0 0 n) (hI : c0 ∈ gl G) (he : cE G c0 (σ c0) = .inr (ci, fs)) (hcl : vwCl[ci]? = some q) (hq : q.1 = C) (hn : As.length = n) (hsize : ls.size = nL) (hst : st0 = As.reverse ++ .ref (gad G c0) :: rest) (hW : (rest.map fun v => v.category).sum ≤ 8) (hdg : decode cc pc = .ok (.invokevirtual index, 3)) (hf : cells ≤ R.cells ∧ slots ≤ R.slots)
    (kk : ∀ (r : Int32) (σ' : St) (H1 : Heap) (locs1 : List Loc), post r σ' → Wd G s σ' H1 locs1 → W p l e R s m args below meth c H1 locs1 cells slots Q (F0 m (pc + 3) ls (.int r :: rest))) : W p l e R s m args below meth c H locs cells slots Q (F0 m pc ls st0) :=
  va_calli (va_runV (As := As) (rest := rest) S hM cw ⟨PreU.blind, rRecv fx hw hI he hcl hq, fun U hU hW => ⟨rfl, hw.pre fx hU hW⟩⟩ rfl hn hsize hst (lv_room hW) hdg hf) hw.2 (rA fx hw) (fun _ h => h) (fun r u t H1 locs1 ht _ hp hB _ _ hS => kk r u H1 locs1 hp ⟨by rw [← ht]; exact hB, hS⟩)
theorem rCallV {post : St → Prop} (S : CallFix p m c cc nL s args Ts own) (fx : Fx G s) (hw : Wd G s σ H locs) (hM : CtV l y ws rm G σ (.ref (gad G c0) :: As) post) (cw : CallW R s args own C index y bytes maxL ret ws rm 0 0 n) (hI : c0 ∈ gl G) (he : cE G c0 (σ c0) = .inr (ci, fs)) (hcl : vwCl[ci]? = some q) (hq : q.1 = C) (hn : As.length = n) (hsize : ls.size = nL) (hst : st0 = As.reverse ++ .ref (gad G c0) :: rest) (hW : (rest.map fun v => v.category).sum ≤ 8) (hdg : decode cc pc = .ok (.invokevirtual index, 3)) (hf : cells ≤ R.cells ∧ slots ≤ R.slots)
    (kk : ∀ (σ' : St) (H1 : Heap) (locs1 : List Loc), post σ' → Wd G s σ' H1 locs1 → W p l e R s m args below meth c H1 locs1 cells slots Q (F0 m (pc + 3) ls rest)) : W p l e R s m args below meth c H locs cells slots Q (F0 m pc ls st0) :=
  va_callv (va_runV (As := As) (rest := rest) S hM cw ⟨PreU.blind, rRecv fx hw hI he hcl hq, fun U hU hW => ⟨rfl, hw.pre fx hU hW⟩⟩ rfl hn hsize hst (lv_room hW) hdg hf) hw.2 (rA fx hw) (fun _ h => h) (fun u t H1 locs1 ht _ hp hB _ _ hS => kk u H1 locs1 hp ⟨by rw [← ht]; exact hB, hS⟩)
theorem rCallS {post : Int32 → St → Prop} (S : CallFix p m c cc nL s args Ts own) (fx : Fx G s) (hw : Wd G s σ H locs) (hM : CtI l y ws rm G σ As post) (cw : CallB R s args own index y bytes maxL ret ws rm 0 0 n ∧ (Cond.static y).before args s = true) (hn : As.length = n) (hsize : ls.size = nL) (hst : st0 = As.reverse ++ rest) (hW : (rest.map fun v => v.category).sum ≤ 8) (hdg : decode cc pc = .ok (.invokestatic index, 3)) (hf : cells ≤ R.cells ∧ slots ≤ R.slots)
    (kk : ∀ (r : Int32) (σ' : St) (H1 : Heap) (locs1 : List Loc), post r σ' → Wd G s σ' H1 locs1 → W p l e R s m args below meth c H1 locs1 cells slots Q (F0 m (pc + 3) ls (.int r :: rest))) : W p l e R s m args below meth c H locs cells slots Q (F0 m pc ls st0) :=
  va_calli (va_runS (As := As) (rest := rest) S hM cw ⟨PreU.blind, fun U hU hW => ⟨rfl, hw.pre fx hU hW⟩⟩ rfl hn hsize hst (lv_room hW) hdg hf) hw.2 (rA fx hw) (fun _ h => h) (fun r u t H1 locs1 ht _ hp hB _ _ hS => kk r u H1 locs1 hp ⟨by rw [← ht]; exact hB, hS⟩)
/-- calls that may throw -/
theorem rCallXI {post : Int32 → St → Prop} {ex : String → Prop} (S : CallFix p m c cc nL s args Ts own) (fx : Fx G s) (hw : Wd G s σ H locs) (hM : CxI l y ws rm G σ (.ref (gad G c0) :: As) post ex) (cw : CallW R s args own C index y bytes maxL ret ws rm 1 6 n) (hI : c0 ∈ gl G) (he : cE G c0 (σ c0) = .inr (ci, fs)) (hcl : vwCl[ci]? = some q) (hq : q.1 = C) (hn : As.length = n) (hsize : ls.size = nL) (hst : st0 = As.reverse ++ .ref (gad G c0) :: rest) (hW : (rest.map fun v => v.category).sum ≤ 8) (hdg : decode cc pc = .ok (.invokevirtual index, 3)) (hf : cells + 1 ≤ R.cells ∧ slots + 6 ≤ R.slots)
    (kx : ∀ (E : String) (ce : Cell) (q9 : Addr) (H1 : Heap) (locs1 : List Loc), ex E → Wd G s σ H1 locs1 → H1[q9]? = some ce → ce.vm = .none → s.vm.findClass E = some ce.cls → vx_W p l e R s m args below meth c H1 locs1 (cells + 1) (slots + 6) Q (F0 m pc ls rest) q9)
    (kk : ∀ (r : Int32) (σ' : St) (H1 : Heap) (locs1 : List Loc), post r σ' → Wd G s σ' H1 locs1 → W p l e R s m args below meth c H1 locs1 cells slots Q (F0 m (pc + 3) ls (.int r :: rest))) : W p l e R s m args below meth c H locs cells slots Q (F0 m pc ls st0) :=
  vy_calli (vy_runV (As := As) (rest := rest) S hM cw ⟨PreU.blind, rRecv fx hw hI he hcl hq, fun U hU hW => ⟨rfl, hw.pre fx hU hW⟩⟩ rfl hn hsize hst (lv_room hW) hdg hf) hw.2 (rA fx hw) (fun _ h => h) (rA fx hw) (fun E ce q9 _ t H1 locs1 ht _ _ hB _ _ hS h1 h2 h3 => kx E ce q9 H1 locs1 hB.1 ⟨by rw [← ht]; exact hB.2, hS⟩ h1 h2 h3) (fun r u t H1 locs1 ht _ hp hB _ _ hS => kk r u H1 locs1 hp ⟨by rw [← ht]; exact hB, hS⟩)
theorem rCallXV {post : St → Prop} {ex : String → Prop} (S : CallFix p m c cc nL s args Ts own) (fx : Fx G s) (hw : Wd G s σ H locs) (hM : CxV l y ws rm G σ (.ref (gad G c0) :: As) post ex) (cw : CallW R s args own C index y bytes maxL ret ws rm 1 6 n) (hI : c0 ∈ gl G) (he : cE G c0 (σ c0) = .inr (ci, fs)) (hcl : vwCl[ci]? = some q) (hq : q.1 = C) (hn : As.length = n) (hsize : ls.size = nL) (hst : st0 = As.reverse ++ .ref (gad G c0) :: rest) (hW : (rest.map fun v => v.category).sum ≤ 8) (hdg : decode cc pc = .ok (.invokevirtual index, 3)) (hf : cells + 1 ≤ R.cells ∧ slots + 6 ≤ R.slots)
    (kx : ∀ (E : String) (ce : Cell) (q9 : Addr) (H1 : Heap) (locs1 : List Loc), ex E → Wd G s σ H1 locs1 → H1[q9]? = some ce → ce.vm = .none → s.vm.findClass E = some ce.cls → vx_W p l e R s m args below meth c H1 locs1 (cells + 1) (slots + 6) Q (F0 m pc ls rest) q9)
    (kk : ∀ (σ' : St) (H1 : Heap) (locs1 : List Loc), post σ' → Wd G s σ' H1 locs1 → W p l e R s m args below meth c H1 locs1 cells slots Q (F0 m (pc + 3) ls rest)) : W p l e R s m args below meth c H locs cells slots Q (F0 m pc ls st0) :=
  vy_callv (vy_runV (As := As) (rest := rest) S hM cw ⟨PreU.blind, rRecv fx hw hI he hcl hq, fun U hU hW => ⟨rfl, hw.pre fx hU hW⟩⟩ rfl hn hsize hst (lv_room hW) hdg hf) hw.2 (rA fx hw) (fun _ h => h) (rA fx hw) (fun E ce q9 _ t H1 locs1 ht _ _ hB _ _ hS h1 h2 h3 => kx E ce q9 H1 locs1 hB.1 ⟨by rw [← ht]; exact hB.2, hS⟩ h1 h2 h3) (fun u t H1 locs1 ht _ hp hB _ _ hS => kk u H1 locs1 hp ⟨by rw [← ht]; exact hB, hS⟩)
/-- what a callee throws goes on to the caller -/
theorem rOut {Qc : Array Value → State → Outcome → State → Prop} {ex : String → Prop} {E : String} {ce : Cell} {q9 : Addr} (hE : ex E) (hw : Wd G s σ H locs) (h1 : H[q9]? = some ce) (h2 : ce.vm = .none) (h3 : s.vm.findClass E = some ce.cls) (hout : ∀ x ∈ c.exceptionTable.toList, False) (hlocks : meth.locks = false) (hc : cells ≤ 1) (hs : slots ≤ 6) :
    vx_W p l e R s m args below meth c H locs cells slots (vy_MQ below Qc (XW G σ ex) args s 1 6 (gA G)) (F0 m pc ls rest) q9 :=
  vy_thrW (vx_out (fun x hx => (hout x hx).elim) hlocks h1 h2 h3 (fun t ht hW => ⟨(), trivial, ⟨hE, by rw [ht]; exact hw.1⟩, hw.2.F ht⟩) hw.2.2.2 hc hs)
def nms : List String := ["java/lang/RuntimeException", "java/lang/Exception"]
theorem nms_fit : ∀ n ∈ nms, Bundle.fit n = true := by decide +kernel
/-- throw new E(text) -/
theorem rThrow {Qc : Array Value → State → Outcome → State → Prop} {ex : String → Prop} {cls text : String} {ik is ic : Nat} (hx : p.tables.exec = Jvm.exec) (hb : c.code = cc) (hl : l.stackTraces = false) (hgs : gs G = true) (fx : Fx G s) (hw : Wd G s σ H locs) (hown : s.vm.findClass RX5 = some m.cls) (hcls : Bundle.fit cls = true) (hk : (Cond.classLink RX5 ik cls).before args s = true) (hini : (Cond.initialized cls).before args s = true) (hstr : (is, text) ∈ strs) (hX : cls ∈ xcls) (hat : (∀ y ∈ dcls, (Cond.declares y).before args s = true) → (Cond.castable cls cls).before args s = true → ∀ w ∈ vx_atS RX5 ic cls nms, w.before args s = true) (hgood : ∀ w ∈ Cond.classLink RX5 ik cls :: Cond.initialized cls :: vx_atS RX5 ic cls nms, vx_ot w = true)
    (hsize : ls.size = c.maxLocals) (d0 : decode cc pc = .ok (.new ik, 3)) (d3 : decode cc (pc + 3) = .ok (.dup, 1)) (d4 : decode cc (pc + 4) = .ok (.ldc is, 2)) (d6 : decode cc (pc + 6) = .ok (.invokespecial ic, 3)) (d9 : decode cc (pc + 9) = .ok (.athrow, 1)) (hout : ∀ x ∈ c.exceptionTable.toList, False) (hRf : 5 < R.frames) (hRl : (rest.map fun v => v.category).sum + 82 ≤ R.locals) (hRc : cells + 1 ≤ R.cells) (hRs : slots + 6 ≤ R.slots) (hlocks : meth.locks = false) (hE : ex cls) (hc : cells + 1 ≤ 1) (hs : slots + 6 ≤ 6) :
    W p l e R s m args below meth c H locs cells slots (vy_MQ below Qc (XW G σ ex) args s 1 6 (gA G)) (F0 m pc ls rest) := by
  obtain ⟨-, -, -, -, hU, hN, hS, hDc, hC⟩ := fx.2.2.2 hgs
  obtain ⟨sa, hsa⟩ := hS _ hstr
  refine vy_thr (vx_throwS hx hb hl hown hcls nms_fit hk hini hsa (hat (fun y hy => va_Nw.use rfl (hDc y hy)) (va_Nw.use rfl (hC cls hX).1)) hgood hU hN hw.2 hsize d0 d3 d4 d6 d9 (fun x hx => (hout x hx).elim) hRf hRl hRc hRs hlocks ?_ hw.2.2.2 hc hs)
  intro t hW hz hq
  refine ⟨(), trivial, ⟨hE, hw.1.kept (fun k q9 hk9 => hq q9.1 (hw.1 k q9 hk9).lt)⟩, Nat.le_trans hw.2.1 hz, fun q9 h1 h2 => ?_⟩
  rw [hq q9 (Nat.lt_of_lt_of_le h1 hw.2.1)]
  exact hw.2.2.1 q9 h1 h2
theorem rThrowW {Qc : Array Value → State → Outcome → State → Prop} {ex : String → Prop} {cls text : String} {ik is ic : Nat} (hx : p.tables.exec = Jvm.exec) (hb : c.code = cc) (hl : l.stackTraces = false) (hgs : gs G = true) (fx : Fx G s) (hw : Wd G s σ H locs) (hown : s.vm.findClass RX5 = some m.cls) (hcls : Bundle.fit cls = true) (hk : (Cond.classLink RX5 ik cls).before args s = true) (hini : (Cond.initialized cls).before args s = true) (hstr : (is, text) ∈ strs) (hX : cls ∈ xcls) (hat : (∀ y ∈ dcls, (Cond.declares y).before args s = true) → (Cond.castable cls cls).before args s = true → ∀ w ∈ vx_atS RX5 ic cls nms, w.before args s = true) (hgood : ∀ w ∈ Cond.classLink RX5 ik cls :: Cond.initialized cls :: vx_atS RX5 ic cls nms, vx_ot w = true)
    (hsize : ls.size = c.maxLocals) (d0 : decode cc pc = .ok (.new ik, 3)) (d3 : decode cc (pc + 3) = .ok (.dup, 1)) (d4 : decode cc (pc + 4) = .ok (.ldc_w is, 3)) (d7 : decode cc (pc + 7) = .ok (.invokespecial ic, 3)) (d10 : decode cc (pc + 10) = .ok (.athrow, 1)) (hout : ∀ x ∈ c.exceptionTable.toList, False) (hRf : 5 < R.frames) (hRl : (rest.map fun v => v.category).sum + 82 ≤ R.locals) (hRc : cells + 1 ≤ R.cells) (hRs : slots + 6 ≤ R.slots) (hlocks : meth.locks = false) (hE : ex cls) (hc : cells + 1 ≤ 1) (hs : slots + 6 ≤ 6) :
    W p l e R s m args below meth c H locs cells slots (vy_MQ below Qc (XW G σ ex) args s 1 6 (gA G)) (F0 m pc ls rest) := by
  obtain ⟨-, -, -, -, hU, hN, hS, hDc, hC⟩ := fx.2.2.2 hgs
  obtain ⟨sa, hsa⟩ := hS _ hstr
  refine vy_thr (vx_throwSW hx hb hl hown hcls nms_fit hk hini hsa (hat (fun y hy => va_Nw.use rfl (hDc y hy)) (va_Nw.use rfl (hC cls hX).1)) hgood hU hN hw.2 hsize d0 d3 d4 d7 d10 (fun x hx => (hout x hx).elim) hRf hRl hRc hRs hlocks ?_ hw.2.2.2 hc hs)
  intro t hW hz hq
  refine ⟨(), trivial, ⟨hE, hw.1.kept (fun k q9 hk9 => hq q9.1 (hw.1 k q9 hk9).lt)⟩, Nat.le_trans hw.2.1 hz, fun q9 h1 h2 => ?_⟩
  rw [hq q9 (Nat.lt_of_lt_of_le h1 hw.2.1)]
  exact hw.2.2.1 q9 h1 h2
end RW
end
section
def bI (b : Bool) : Int32 := if b = true then 1 else 0
theorem bI_t : bI true = 1 := rfl
theorem bI_f : bI false = 0 := rfl
theorem bI_0 {b : Bool} (h : bI b = 0) : b = false := by cases b <;> first | rfl | exact absurd h (by decide)
theorem bI_1 {b : Bool} (h : ¬ bI b = 0) : b = true := by cases b <;> first | rfl | exact absurd rfl h
theorem nar_bI (b : Bool) : narrow .boolean (.int (bI b)) = .int (bI b) := by cases b <;> rfl
theorem n0_eqt {a : Nat} (h : a < 2 ^ 31) (c : nI a = 0) : a = 0 := (nI_eq h (by decide)).mp (c.trans nI_0.symm)
theorem n0_eqf {a : Nat} (h : a < 2 ^ 31) (c : ¬ nI a = 0) : ¬ a = 0 := fun e => c (by rw [e]; rfl)
theorem n0_net {a : Nat} (h : a < 2 ^ 31) (c : ¬ nI a = 0) : ¬ a = 0 := n0_eqf h c
theorem n0_nef {a : Nat} (h : a < 2 ^ 31) (c : nI a = 0) : a = 0 := n0_eqt h c
theorem n0_ltt {a : Nat} (h : a < 2 ^ 31) (c : nI a < 0) : False := nI_pos h c
theorem n0_ltf {a : Nat} (_ : a < 2 ^ 31) (_ : ¬ nI a < 0) : True := trivial
theorem n0_let {a : Nat} (h : a < 2 ^ 31) (c : nI a ≤ 0) : a = 0 := by
  have := (nI_leI h (b := 0) (by decide)).mp c
  omega
theorem n0_lef {a : Nat} (h : a < 2 ^ 31) (c : ¬ nI a ≤ 0) : 0 < a := by
  rcases Nat.eq_zero_or_pos a with e | e
  · exact absurd ((nI_leI h (b := 0) (by decide)).mpr (by omega)) c
  · exact e
theorem n0_gtt {a : Nat} (h : a < 2 ^ 31) (c : 0 < nI a) : 0 < a := (nI_ltI (a := 0) (by decide) h).mp c
theorem n0_gtf {a : Nat} (h : a < 2 ^ 31) (c : ¬ 0 < nI a) : a = 0 := by
  rcases Nat.eq_zero_or_pos a with e | e
  · exact e
  · exact absurd ((nI_ltI (a := 0) (by decide) h).mpr e) c
theorem n0_get {a : Nat} (_ : a < 2 ^ 31) (_ : 0 ≤ nI a) : True := trivial
theorem n0_gef {a : Nat} (h : a < 2 ^ 31) (c : ¬ 0 ≤ nI a) : False := c (nI_pos' h)
section TL
variable {p : Program} {l : Launch} {e : Env} {R : Room} {s : State} {m : MethodId} {args : Array Value} {below : List Frame} {meth : Method} {c : Code} {H : Heap} {locs : List Loc} {cells slots : Nat} {Q : State → Prop} {pc : Nat} {ls : Array Slot} {rest : List Value} {cc : ByteArray}
theorem lv_rep0 {x y : Int32} (h : x = y) (k : W p l e R s m args below meth c H locs cells slots Q (F0 m pc ls (.int y :: rest))) : W p l e R s m args below meth c H locs cells slots Q (F0 m pc ls (.int x :: rest)) := by rw [h]; exact k
theorem lv_rep1 {x y : Int32} {v : Value} (h : x = y) (k : W p l e R s m args below meth c H locs cells slots Q (F0 m pc ls (v :: .int y :: rest))) : W p l e R s m args below meth c H locs cells slots Q (F0 m pc ls (v :: .int x :: rest)) := by rw [h]; exact k
theorem lv_rep2 {x y : Int32} {v w : Value} (h : x = y) (k : W p l e R s m args below meth c H locs cells slots Q (F0 m pc ls (v :: w :: .int y :: rest))) : W p l e R s m args below meth c H locs cells slots Q (F0 m pc ls (v :: w :: .int x :: rest)) := by rw [h]; exact k
theorem lv_rep3 {x y : Int32} {v w u : Value} (h : x = y) (k : W p l e R s m args below meth c H locs cells slots Q (F0 m pc ls (v :: w :: u :: .int y :: rest))) : W p l e R s m args below meth c H locs cells slots Q (F0 m pc ls (v :: w :: u :: .int x :: rest)) := by rw [h]; exact k
theorem lv_b_eq (hx : p.tables.exec = Jvm.exec) (hb : c.code = cc) {b : Bool} {off : Int} {tgt : Nat} (hdg : decode cc pc = .ok (.ifCond .eq off, 3)) (ht : (pc : Int) + off = (tgt : Int)) (kt : b = false → W p l e R s m args below meth c H locs cells slots Q (F0 m tgt ls rest)) (kf : b = true → W p l e R s m args below meth c H locs cells slots Q (F0 m (pc + 3) ls rest)) : W p l e R s m args below meth c H locs cells slots Q (F0 m pc ls (.int (bI b) :: rest)) :=
  lv_if_eq hx hb hdg ht (fun h => kt (bI_0 h)) (fun h => kf (bI_1 h))
theorem lv_b_ne (hx : p.tables.exec = Jvm.exec) (hb : c.code = cc) {b : Bool} {off : Int} {tgt : Nat} (hdg : decode cc pc = .ok (.ifCond .ne off, 3)) (ht : (pc : Int) + off = (tgt : Int)) (kt : b = true → W p l e R s m args below meth c H locs cells slots Q (F0 m tgt ls rest)) (kf : b = false → W p l e R s m args below meth c H locs cells slots Q (F0 m (pc + 3) ls rest)) : W p l e R s m args below meth c H locs cells slots Q (F0 m pc ls (.int (bI b) :: rest)) :=
  lv_if_ne hx hb hdg ht (fun h => kt (bI_1 h)) (fun h => kf (bI_0 h))
end TL
/-- the whole world is there -/
def Full (G : Gx) : Prop := (∀ c, c < 47 → c ∈ gl G) ∧ (gcI G, FieldType.int) ∈ gT G ∧ (gcZ G, FieldType.boolean) ∈ gT G ∧ (gcJ G, FieldType.long) ∈ gT G ∧ gs G = true
/-- the items' cells are there -/
def ItG (G : Gx) : Prop := (∀ c, (23 ≤ c ∧ c ≤ 26) → c ∈ gl G) ∧ (gcI G, FieldType.int) ∈ gT G ∧ (gcZ G, FieldType.boolean) ∈ gT G ∧ True
theorem rB0 {G : Gx} {b : Nat} (hF : Full G) (h : rB b) : b ∈ gl G := hF.1 b (by rcases h with rfl | rfl <;> decide)
theorem rBk {G : Gx} {b k : Nat} (hF : Full G) (h : rB b) (hk : k ≤ 7) : b + k ∈ gl G := hF.1 _ (by rcases h with rfl | rfl <;> omega)
theorem ng_ISE : ∀ w ∈ (vx_atS RX5 75 "java/lang/IllegalStateException" nms).filter (fun w => !goodWord w), w ∈ Cond.castable "java/lang/IllegalStateException" "java/lang/IllegalStateException" :: dcls.map Cond.declares := by decide +kernel
theorem ng_IAE : ∀ w ∈ (vx_atS RX5 90 "java/lang/IllegalArgumentException" nms).filter (fun w => !goodWord w), w ∈ Cond.castable "java/lang/IllegalArgumentException" "java/lang/IllegalArgumentException" :: dcls.map Cond.declares := by decide +kernel
theorem ng_IOB : ∀ w ∈ (vx_atS RX5 245 "java/lang/IndexOutOfBoundsException" nms).filter (fun w => !goodWord w), w ∈ Cond.castable "java/lang/IndexOutOfBoundsException" "java/lang/IndexOutOfBoundsException" :: dcls.map Cond.declares := by decide +kernel
theorem gd_ISE : ∀ w ∈ Cond.classLink RX5 71 "java/lang/IllegalStateException" :: Cond.initialized "java/lang/IllegalStateException" :: vx_atS RX5 75 "java/lang/IllegalStateException" nms, vx_ot w = true := by decide +kernel
theorem gd_IAE : ∀ w ∈ Cond.classLink RX5 86 "java/lang/IllegalArgumentException" :: Cond.initialized "java/lang/IllegalArgumentException" :: vx_atS RX5 90 "java/lang/IllegalArgumentException" nms, vx_ot w = true := by decide +kernel
theorem gd_IOB : ∀ w ∈ Cond.classLink RX5 241 "java/lang/IndexOutOfBoundsException" :: Cond.initialized "java/lang/IndexOutOfBoundsException" :: vx_atS RX5 245 "java/lang/IndexOutOfBoundsException" nms, vx_ot w = true := by decide +kernel
theorem at_ISE {args : Array Value} {s : State} (h : ∀ w ∈ (vx_atS RX5 75 "java/lang/IllegalStateException" nms).filter goodWord, w.before args s = true) (hd : ∀ y ∈ dcls, (Cond.declares y).before args s = true) (hc : (Cond.castable "java/lang/IllegalStateException" "java/lang/IllegalStateException").before args s = true) : ∀ w ∈ vx_atS RX5 75 "java/lang/IllegalStateException" nms, w.before args s = true := vx_hat h ng_ISE (vx_c hc (fun w hw => by obtain ⟨y, hy, e⟩ := List.mem_map.mp hw; rw [← e]; exact hd y hy))
theorem at_IAE {args : Array Value} {s : State} (h : ∀ w ∈ (vx_atS RX5 90 "java/lang/IllegalArgumentException" nms).filter goodWord, w.before args s = true) (hd : ∀ y ∈ dcls, (Cond.declares y).before args s = true) (hc : (Cond.castable "java/lang/IllegalArgumentException" "java/lang/IllegalArgumentException").before args s = true) : ∀ w ∈ vx_atS RX5 90 "java/lang/IllegalArgumentException" nms, w.before args s = true := vx_hat h ng_IAE (vx_c hc (fun w hw => by obtain ⟨y, hy, e⟩ := List.mem_map.mp hw; rw [← e]; exact hd y hy))
theorem at_IOB {args : Array Value} {s : State} (h : ∀ w ∈ (vx_atS RX5 245 "java/lang/IndexOutOfBoundsException" nms).filter goodWord, w.before args s = true) (hd : ∀ y ∈ dcls, (Cond.declares y).before args s = true) (hc : (Cond.castable "java/lang/IndexOutOfBoundsException" "java/lang/IndexOutOfBoundsException").before args s = true) : ∀ w ∈ vx_atS RX5 245 "java/lang/IndexOutOfBoundsException" nms, w.before args s = true := vx_hat h ng_IOB (vx_c hc (fun w hw => by obtain ⟨y, hy, e⟩ := List.mem_map.mp hw; rw [← e]; exact hd y hy))
end
section
theorem upA_self (σ : St) (c : Nat) : upA σ c (σ c) = σ := by
  funext a
  unfold upA
  split
  · rename_i h; rw [h]
  · rfl
theorem upA_upA (σ : St) (c : Nat) (f g : Nat → Int32) : upA (upA σ c f) c g = upA σ c g := by
  funext a
  unfold upA
  split <;> rfl
theorem upd_self (f : Nat → Int32) (k : Nat) : upd f k (f k) = f := by
  funext j
  unfold upd
  split
  · rename_i h; rw [h]
  · rfl
theorem upd_upd (f : Nat → Int32) (k : Nat) (v w : Int32) : upd (upd f k v) k w = upd f k w := by
  funext j
  unfold upd
  split <;> rfl
/-! the track: len f*12+t the length of the way, 0 where none -/
def ldB (len : Nat → Int32) (f t : Nat) : Bool := !decide (len (f * 12 + t) ≤ 0)
def ldOn (len : Nat → Int32) (g a : Nat) : Bool := (List.range g).any (fun t => ldB len a t)
def deadB (len : Nat → Int32) (g : Nat) : Bool := (List.range g).any (fun a => !ldOn len g a)
/-- the least of the ways out of a over the line and the gates a+1 .. a+k -/
def lrA (len rst : Nat → Int32) (a : Nat) : Nat → Int32
  | 0 => if ldB len a 0 = true then len (a * 12 + 0) else -1
  | k + 1 => if ldB len a (a + 1 + k) = true ∧ ¬ rst (a + 1 + k) = -1 then
      (if lrA len rst a k = -1 then len (a * 12 + (a + 1 + k)) + rst (a + 1 + k) else if len (a * 12 + (a + 1 + k)) + rst (a + 1 + k) < lrA len rst a k then len (a * 12 + (a + 1 + k)) + rst (a + 1 + k) else lrA len rst a k)
    else lrA len rst a k
/-- the rests when the k gates g-1, g-2 .. are measured -/
def mrA (len rst : Nat → Int32) (g : Nat) : Nat → (Nat → Int32)
  | 0 => rst
  | k + 1 => upd (mrA len rst g k) (g - 1 - k) (lrA len (mrA len rst g k) (g - 1 - k) k)
def stGate (σ : St) (b : Bool) (g : Nat) : St :=
  upA (upA σ 3 (upd (σ 3) g (-1))) 1 (upd (upd (σ 1) 3 (if b = true then σ 1 3 ||| ((1 : Int32) <<< (nI g &&& 31)) else σ 1 3)) 2 (nI (g + 1)))
theorem ldOn_f {len : Nat → Int32} {g a : Nat} (h : ∀ t, t < g → ldB len a t = false) : ldOn len g a = false := by
  unfold ldOn
  rw [List.any_eq_false]
  intro t ht
  rw [h t (List.mem_range.mp ht)]
  decide
theorem ldOn_t {len : Nat → Int32} {g a t : Nat} (ht : t < g) (h : ldB len a t = true) : ldOn len g a = true := List.any_eq_true.mpr ⟨t, List.mem_range.mpr ht, h⟩
theorem deadB_f {len : Nat → Int32} {g : Nat} (h : ∀ t, t < g → ldOn len g t = true) : deadB len g = false := by
  unfold deadB
  rw [List.any_eq_false]
  intro t ht
  rw [h t (List.mem_range.mp ht)]
  decide
theorem deadB_t {len : Nat → Int32} {g t : Nat} (ht : t < g) (h : ldOn len g t = false) : deadB len g = true := List.any_eq_true.mpr ⟨t, List.mem_range.mpr ht, by rw [h]; rfl⟩
end
section
def rmX4_gateCount : Room := ({ frames := 0, cells := 0, slots := 0, locals := 0 } : Room)
set_option maxHeartbeats 4000000 in
set_option maxRecDepth 100000 in
theorem kX4_gateCount (l : Launch) (G : Gx) (hG : gOk G) (hF : Full G) (σ : St)  : CtI l yX4_gateCount wsX4_gateCount rmX4_gateCount G σ [.ref (gad G 1)] (fun r σ' => r = σ 1 2 ∧ σ' = σ) := by
  refine bgMet (cc := cX4_gateCount) (maxL := 1) (ret := (some .int)) (own := RX4) (by decide) rfl rfl hG (Nat.le_of_ble_eq_true rfl) rfl ?_
  intro p e s m args below meth c ls Bd hl
  obtain ⟨hx, hb, hr, hml, hts, hown, hlocks, fx, hw⟩ := Bd
  have hl : lv_has ls 1 [(0, .ref (gad G 1))] := hl
  have hin : ∀ w ∈ wsX40, w ∈ wsX4_gateCount := by decide +kernel
  refine lv_aload_n hx hb dX4_gateCount_0 rfl (lv_at hl 0 rfl) ?_
  refine rGet (v := .int (σ 1 2)) (C := RX4) (T := TX4) (N := 4) hx hb fx hown hts hin hw 1 (hF.1 1 (by decide)) rfl rfl 2 (by decide) (hts (.fieldLink RX4 18 "Leaguewheel$Track" "count" "I") (by decide +kernel)) (fun _ h9 => h9) rfl dX4_gateCount_1 ?_
  exact rRetI hx hb hr hw (by exact ⟨by first | rfl | simp [bI, bI], by first | rfl | simp [bI, upA_n, upA_s, upA_upA, upA_self, upd_self, upd_upd, bI]⟩) hlocks dX4_gateCount_4

def rmX4_isFull : Room := ({ frames := 0, cells := 0, slots := 0, locals := 0 } : Room)
set_option maxHeartbeats 4000000 in
set_option maxRecDepth 100000 in
theorem kX4_isFull (l : Launch) (G : Gx) (hG : gOk G) (hF : Full G) (σ : St)  : CtI l yX4_isFull wsX4_isFull rmX4_isFull G σ [.ref (gad G 1)] (fun r σ' => r = bI (!decide (σ 1 2 < 12)) ∧ σ' = σ) := by
  refine bgMet (cc := cX4_isFull) (maxL := 1) (ret := (some .boolean)) (own := RX4) (by decide) rfl rfl hG (Nat.le_of_ble_eq_true rfl) rfl ?_
  intro p e s m args below meth c ls Bd hl
  obtain ⟨hx, hb, hr, hml, hts, hown, hlocks, fx, hw⟩ := Bd
  have hl : lv_has ls 1 [(0, .ref (gad G 1))] := hl
  have hin : ∀ w ∈ wsX40, w ∈ wsX4_isFull := by decide +kernel
  refine lv_aload_n hx hb dX4_isFull_0 rfl (lv_at hl 0 rfl) ?_
  refine rGet (v := .int (σ 1 2)) (C := RX4) (T := TX4) (N := 4) hx hb fx hown hts hin hw 1 (hF.1 1 (by decide)) rfl rfl 2 (by decide) (hts (.fieldLink RX4 18 "Leaguewheel$Track" "count" "I") (by decide +kernel)) (fun _ h9 => h9) rfl dX4_isFull_1 ?_
  refine lv_bipush (v := 12) hx hb dX4_isFull_4 (by decide) ?_
  refine lv_icmp_lt (tgt := 13) hx hb dX4_isFull_6 (by decide) (fun c_1 => ?_) (fun c_1 => ?_)
  · skip
    refine lv_iconst (v := 0) hx hb dX4_isFull_13 (by decide) ?_
    exact rRetZ hx hb hr hw (by decide) (by exact ⟨by first | rfl | simp [bI, bI, c_1], by first | rfl | simp [bI, upA_n, upA_s, upA_upA, upA_self, upd_self, upd_upd, bI, c_1]⟩) hlocks dX4_isFull_14
  · skip
    refine lv_iconst (v := 1) hx hb dX4_isFull_9 (by decide) ?_
    refine lv_goto (tgt := 14) hx hb dX4_isFull_10 (by decide) ?_
    exact rRetZ hx hb hr hw (by decide) (by exact ⟨by first | rfl | simp [bI, bI, c_1], by first | rfl | simp [bI, upA_n, upA_s, upA_upA, upA_self, upd_self, upd_upd, bI, c_1]⟩) hlocks dX4_isFull_14

def rmX4_needed : Room := ({ frames := 0, cells := 0, slots := 0, locals := 0 } : Room)
set_option maxHeartbeats 4000000 in
set_option maxRecDepth 100000 in
theorem kX4_needed (l : Launch) (G : Gx) (hG : gOk G) (hF : Full G) (σ : St)  : CtI l yX4_needed wsX4_needed rmX4_needed G σ [.ref (gad G 1)] (fun r σ' => r = σ 1 3 ∧ σ' = σ) := by
  refine bgMet (cc := cX4_needed) (maxL := 1) (ret := (some .int)) (own := RX4) (by decide) rfl rfl hG (Nat.le_of_ble_eq_true rfl) rfl ?_
  intro p e s m args below meth c ls Bd hl
  obtain ⟨hx, hb, hr, hml, hts, hown, hlocks, fx, hw⟩ := Bd
  have hl : lv_has ls 1 [(0, .ref (gad G 1))] := hl
  have hin : ∀ w ∈ wsX40, w ∈ wsX4_needed := by decide +kernel
  refine lv_aload_n hx hb dX4_needed_0 rfl (lv_at hl 0 rfl) ?_
  refine rGet (v := .int (σ 1 3)) (C := RX4) (T := TX4) (N := 4) hx hb fx hown hts hin hw 1 (hF.1 1 (by decide)) rfl rfl 3 (by decide) (hts (.fieldLink RX4 22 "Leaguewheel$Track" "neededGates" "I") (by decide +kernel)) (fun _ h9 => h9) rfl dX4_needed_1 ?_
  exact rRetI hx hb hr hw (by exact ⟨by first | rfl | simp [bI, bI], by first | rfl | simp [bI, upA_n, upA_s, upA_upA, upA_self, upd_self, upd_upd, bI]⟩) hlocks dX4_needed_4

def rmX4_isNeeded : Room := ({ frames := 0, cells := 0, slots := 0, locals := 0 } : Room)
set_option maxHeartbeats 4000000 in
set_option maxRecDepth 100000 in
theorem kX4_isNeeded (l : Launch) (G : Gx) (hG : gOk G) (hF : Full G) (σ : St) (a : Nat) : CtI l yX4_isNeeded wsX4_isNeeded rmX4_isNeeded G σ [.ref (gad G 1), .int (nI a)] (fun r σ' => r = bI (!decide ((σ 1 3 &&& ((1 : Int32) <<< (nI a &&& 31))) = 0)) ∧ σ' = σ) := by
  refine bgMet (cc := cX4_isNeeded) (maxL := 2) (ret := (some .boolean)) (own := RX4) (by decide) rfl rfl hG (Nat.le_of_ble_eq_true rfl) rfl ?_
  intro p e s m args below meth c ls Bd hl
  obtain ⟨hx, hb, hr, hml, hts, hown, hlocks, fx, hw⟩ := Bd
  have hl : lv_has ls 2 [(0, .ref (gad G 1)), (1, .int (nI a))] := hl
  have hin : ∀ w ∈ wsX40, w ∈ wsX4_isNeeded := by decide +kernel
  refine lv_aload_n hx hb dX4_isNeeded_0 rfl (lv_at hl 0 rfl) ?_
  refine rGet (v := .int (σ 1 3)) (C := RX4) (T := TX4) (N := 4) hx hb fx hown hts hin hw 1 (hF.1 1 (by decide)) rfl rfl 3 (by decide) (hts (.fieldLink RX4 22 "Leaguewheel$Track" "neededGates" "I") (by decide +kernel)) (fun _ h9 => h9) rfl dX4_isNeeded_1 ?_
  refine lv_iconst (v := 1) hx hb dX4_isNeeded_4 (by decide) ?_
  refine lv_iload_n hx hb dX4_isNeeded_5 rfl (lv_at hl 1 rfl) ?_
  refine lv_ishl hx hb dX4_isNeeded_6 ?_
  refine lv_iand hx hb dX4_isNeeded_7 ?_
  refine lv_if_eq (tgt := 15) hx hb dX4_isNeeded_8 (by decide) (fun c_1 => ?_) (fun c_1 => ?_)
  · skip
    refine lv_iconst (v := 0) hx hb dX4_isNeeded_15 (by decide) ?_
    exact rRetZ hx hb hr hw (by decide) (by exact ⟨by first | rfl | simp [bI, bI, c_1], by first | rfl | simp [bI, upA_n, upA_s, upA_upA, upA_self, upd_self, upd_upd, bI, c_1]⟩) hlocks dX4_isNeeded_16
  · skip
    refine lv_iconst (v := 1) hx hb dX4_isNeeded_11 (by decide) ?_
    refine lv_goto (tgt := 16) hx hb dX4_isNeeded_12 (by decide) ?_
    exact rRetZ hx hb hr hw (by decide) (by exact ⟨by first | rfl | simp [bI, bI, c_1], by first | rfl | simp [bI, upA_n, upA_s, upA_upA, upA_self, upd_self, upd_upd, bI, c_1]⟩) hlocks dX4_isNeeded_16

def rmX4_wayLength : Room := ({ frames := 0, cells := 0, slots := 0, locals := 0 } : Room)
set_option maxHeartbeats 4000000 in
set_option maxRecDepth 100000 in
theorem kX4_wayLength (l : Launch) (G : Gx) (hG : gOk G) (hF : Full G) (σ : St) (f t : Nat) (hf : f < 12) (ht : t < 12) : CtI l yX4_wayLength wsX4_wayLength rmX4_wayLength G σ [.ref (gad G 1), .int (nI f), .int (nI t)] (fun r σ' => r = σ 2 (f * 12 + t) ∧ σ' = σ) := by
  refine bgMet (cc := cX4_wayLength) (maxL := 3) (ret := (some .int)) (own := RX4) (by decide) rfl rfl hG (Nat.le_of_ble_eq_true rfl) rfl ?_
  intro p e s m args below meth c ls Bd hl
  obtain ⟨hx, hb, hr, hml, hts, hown, hlocks, fx, hw⟩ := Bd
  have hl : lv_has ls 3 [(0, .ref (gad G 1)), (1, .int (nI f)), (2, .int (nI t))] := hl
  have hin : ∀ w ∈ wsX40, w ∈ wsX4_wayLength := by decide +kernel
  refine lv_aload_n hx hb dX4_wayLength_0 rfl (lv_at hl 0 rfl) ?_
  refine rGet (v := .ref (gad G 2)) (C := RX4) (T := TX4) (N := 4) hx hb fx hown hts hin hw 1 (hF.1 1 (by decide)) rfl rfl 0 (by decide) (hts (.fieldLink RX4 9 "Leaguewheel$Track" "lengths" "[I") (by decide +kernel)) (fun _ h9 => h9) rfl dX4_wayLength_1 ?_
  refine lv_iload_n hx hb dX4_wayLength_4 rfl (lv_at hl 1 rfl) ?_
  refine lv_bipush (v := 12) hx hb dX4_wayLength_5 (by decide) ?_
  refine lv_rep0 (x := 12) (y := nI 12) rfl ?_
  refine lv_imul hx hb dX4_wayLength_7 ?_
  refine lv_rep0 (x := ((nI f) * (nI 12))) (y := nI (f * 12)) (pk_mul _ _) ?_
  refine lv_iload_n hx hb dX4_wayLength_8 rfl (lv_at hl 2 rfl) ?_
  refine lv_iadd hx hb dX4_wayLength_9 ?_
  refine lv_rep0 (x := ((nI (f * 12)) + (nI t))) (y := nI ((f * 12) + t)) (nI_add _ _) ?_
  refine rAld hx hb fx hw 2 (hF.1 2 (by decide)) hF.2.1 (fun _ => rfl) ((f * 12) + t) rfl (by omega) (by decide) dX4_wayLength_10 ?_
  exact rRetI hx hb hr hw (by exact ⟨by first | rfl | simp [bI, bI], by first | rfl | simp [bI, upA_n, upA_s, upA_upA, upA_self, upd_self, upd_upd, bI]⟩) hlocks dX4_wayLength_11

def rmX4_leads : Room := ({ frames := 1, cells := 0, slots := 0, locals := 22 } : Room)
set_option maxHeartbeats 4000000 in
set_option maxRecDepth 100000 in
theorem kX4_leads (l : Launch) (G : Gx) (hG : gOk G) (hF : Full G) (σ : St) (f t : Nat) (hf : f < 12) (ht : t < 12) : CtI l yX4_leads wsX4_leads rmX4_leads G σ [.ref (gad G 1), .int (nI f), .int (nI t)] (fun r σ' => r = bI (ldB (σ 2) f t) ∧ σ' = σ) := by
  refine bgMet (cc := cX4_leads) (maxL := 3) (ret := (some .boolean)) (own := RX4) (by decide) rfl rfl hG (Nat.le_of_ble_eq_true rfl) rfl ?_
  intro p e s m args below meth c ls Bd hl
  obtain ⟨hx, hb, hr, hml, hts, hown, hlocks, fx, hw⟩ := Bd
  have hl : lv_has ls 3 [(0, .ref (gad G 1)), (1, .int (nI f)), (2, .int (nI t))] := hl
  refine lv_aload_n hx hb dX4_leads_0 rfl (lv_at hl 0 rfl) ?_
  refine lv_iload_n hx hb dX4_leads_1 rfl (lv_at hl 1 rfl) ?_
  refine lv_iload_n hx hb dX4_leads_2 rfl (lv_at hl 2 rfl) ?_
  refine rCallI (C := RX4) (As := [.int (nI f), .int (nI t)]) (rest := []) ⟨hx, hb, hml, hown, hts⟩ fx hw (kX4_wayLength l G hG hF σ f t (by omega) (by omega)) (cwV 2 hts gX4_leads_X4_wayLength rfl rfl rfl (by decide +kernel) ⟨Nat.le_of_ble_eq_true rfl, Nat.le_of_ble_eq_true rfl⟩) (hF.1 1 (by decide)) rfl rfl rfl rfl hl.1 rfl (Nat.le_of_ble_eq_true rfl) dX4_leads_3 ⟨Nat.zero_le _, Nat.zero_le _⟩ ?_
  intro r_2 σ_3 H locs p_1 hw
  obtain ⟨er_2, eσ_3⟩ := p_1
  have er_2 := er_2.symm; subst er_2
  have eσ_3 := eσ_3.symm; subst eσ_3
  refine lv_if_le (tgt := 13) hx hb dX4_leads_6 (by decide) (fun c_4 => ?_) (fun c_4 => ?_)
  · skip
    refine lv_iconst (v := 0) hx hb dX4_leads_13 (by decide) ?_
    exact rRetZ hx hb hr hw (by decide) (by exact ⟨by first | rfl | simp [ldB, bI, c_4], by first | rfl | simp [ldB, upA_n, upA_s, upA_upA, upA_self, upd_self, upd_upd, bI, c_4]⟩) hlocks dX4_leads_14
  · skip
    refine lv_iconst (v := 1) hx hb dX4_leads_9 (by decide) ?_
    refine lv_goto (tgt := 14) hx hb dX4_leads_10 (by decide) ?_
    exact rRetZ hx hb hr hw (by decide) (by exact ⟨by first | rfl | simp [ldB, bI, c_4], by first | rfl | simp [ldB, upA_n, upA_s, upA_upA, upA_self, upd_self, upd_upd, bI, c_4]⟩) hlocks dX4_leads_14

def rmX4_joins : Room := ({ frames := 2, cells := 0, slots := 0, locals := 44 } : Room)
set_option maxHeartbeats 4000000 in
set_option maxRecDepth 100000 in
theorem kX4_joins (l : Launch) (G : Gx) (hG : gOk G) (hF : Full G) (σ : St) (f t : Nat) (hf : f < 12) (ht : t < 12) : CtI l yX4_joins wsX4_joins rmX4_joins G σ [.ref (gad G 1), .int (nI f), .int (nI t)] (fun r σ' => r = bI (ldB (σ 2) f t || ldB (σ 2) t f) ∧ σ' = σ) := by
  refine bgMet (cc := cX4_joins) (maxL := 3) (ret := (some .boolean)) (own := RX4) (by decide) rfl rfl hG (Nat.le_of_ble_eq_true rfl) rfl ?_
  intro p e s m args below meth c ls Bd hl
  obtain ⟨hx, hb, hr, hml, hts, hown, hlocks, fx, hw⟩ := Bd
  have hl : lv_has ls 3 [(0, .ref (gad G 1)), (1, .int (nI f)), (2, .int (nI t))] := hl
  refine lv_aload_n hx hb dX4_joins_0 rfl (lv_at hl 0 rfl) ?_
  refine lv_iload_n hx hb dX4_joins_1 rfl (lv_at hl 1 rfl) ?_
  refine lv_iload_n hx hb dX4_joins_2 rfl (lv_at hl 2 rfl) ?_
  refine rCallI (C := RX4) (As := [.int (nI f), .int (nI t)]) (rest := []) ⟨hx, hb, hml, hown, hts⟩ fx hw (kX4_leads l G hG hF σ f t (by omega) (by omega)) (cwV 2 hts gX4_joins_X4_leads rfl rfl rfl (by decide +kernel) ⟨Nat.le_of_ble_eq_true rfl, Nat.le_of_ble_eq_true rfl⟩) (hF.1 1 (by decide)) rfl rfl rfl rfl hl.1 rfl (Nat.le_of_ble_eq_true rfl) dX4_joins_3 ⟨Nat.zero_le _, Nat.zero_le _⟩ ?_
  intro r_2 σ_3 H locs p_1 hw
  obtain ⟨er_2, eσ_3⟩ := p_1
  have er_2 := er_2.symm; subst er_2
  have eσ_3 := eσ_3.symm; subst eσ_3
  refine lv_b_ne (tgt := 18) hx hb dX4_joins_6 (by decide) (fun c_4 => ?_) (fun c_4 => ?_)
  · skip
    refine lv_iconst (v := 1) hx hb dX4_joins_18 (by decide) ?_
    refine lv_goto (tgt := 23) hx hb dX4_joins_19 (by decide) ?_
    exact rRetZ hx hb hr hw (by decide) (by exact ⟨by first | rfl | simp [bI, bI, c_4], by first | rfl | simp [bI, upA_n, upA_s, upA_upA, upA_self, upd_self, upd_upd, bI, c_4]⟩) hlocks dX4_joins_23
  · skip
    refine lv_aload_n hx hb dX4_joins_9 rfl (lv_at hl 0 rfl) ?_
    refine lv_iload_n hx hb dX4_joins_10 rfl (lv_at hl 2 rfl) ?_
    refine lv_iload_n hx hb dX4_joins_11 rfl (lv_at hl 1 rfl) ?_
    refine rCallI (C := RX4) (As := [.int (nI t), .int (nI f)]) (rest := []) ⟨hx, hb, hml, hown, hts⟩ fx hw (kX4_leads l G hG hF σ t f (by omega) (by omega)) (cwV 2 hts gX4_joins_X4_leads rfl rfl rfl (by decide +kernel) ⟨Nat.le_of_ble_eq_true rfl, Nat.le_of_ble_eq_true rfl⟩) (hF.1 1 (by decide)) rfl rfl rfl rfl hl.1 rfl (Nat.le_of_ble_eq_true rfl) dX4_joins_12 ⟨Nat.zero_le _, Nat.zero_le _⟩ ?_
    intro r_6 σ_7 H locs p_5 hw
    obtain ⟨er_6, eσ_7⟩ := p_5
    have er_6 := er_6.symm; subst er_6
    have eσ_7 := eσ_7.symm; subst eσ_7
    refine lv_b_eq (tgt := 22) hx hb dX4_joins_15 (by decide) (fun c_8 => ?_) (fun c_8 => ?_)
    · skip
      refine lv_iconst (v := 0) hx hb dX4_joins_22 (by decide) ?_
      exact rRetZ hx hb hr hw (by decide) (by exact ⟨by first | rfl | simp [bI, bI, c_4, c_8], by first | rfl | simp [bI, upA_n, upA_s, upA_upA, upA_self, upd_self, upd_upd, bI, c_4, c_8]⟩) hlocks dX4_joins_23
    · skip
      refine lv_iconst (v := 1) hx hb dX4_joins_18 (by decide) ?_
      refine lv_goto (tgt := 23) hx hb dX4_joins_19 (by decide) ?_
      exact rRetZ hx hb hr hw (by decide) (by exact ⟨by first | rfl | simp [bI, bI, c_4, c_8], by first | rfl | simp [bI, upA_n, upA_s, upA_upA, upA_self, upd_self, upd_upd, bI, c_4, c_8]⟩) hlocks dX4_joins_23

def rmX4_restOf : Room := ({ frames := 0, cells := 0, slots := 0, locals := 0 } : Room)
set_option maxHeartbeats 4000000 in
set_option maxRecDepth 100000 in
theorem kX4_restOf (l : Launch) (G : Gx) (hG : gOk G) (hF : Full G) (σ : St) (a : Nat) (ha : a < 12) : CtI l yX4_restOf wsX4_restOf rmX4_restOf G σ [.ref (gad G 1), .int (nI a)] (fun r σ' => r = σ 3 a ∧ σ' = σ) := by
  refine bgMet (cc := cX4_restOf) (maxL := 2) (ret := (some .int)) (own := RX4) (by decide) rfl rfl hG (Nat.le_of_ble_eq_true rfl) rfl ?_
  intro p e s m args below meth c ls Bd hl
  obtain ⟨hx, hb, hr, hml, hts, hown, hlocks, fx, hw⟩ := Bd
  have hl : lv_has ls 2 [(0, .ref (gad G 1)), (1, .int (nI a))] := hl
  have hin : ∀ w ∈ wsX40, w ∈ wsX4_restOf := by decide +kernel
  refine lv_aload_n hx hb dX4_restOf_0 rfl (lv_at hl 0 rfl) ?_
  refine rGet (v := .ref (gad G 3)) (C := RX4) (T := TX4) (N := 4) hx hb fx hown hts hin hw 1 (hF.1 1 (by decide)) rfl rfl 1 (by decide) (hts (.fieldLink RX4 15 "Leaguewheel$Track" "rests" "[I") (by decide +kernel)) (fun _ h9 => h9) rfl dX4_restOf_1 ?_
  refine lv_iload_n hx hb dX4_restOf_4 rfl (lv_at hl 1 rfl) ?_
  refine rAld hx hb fx hw 3 (hF.1 3 (by decide)) hF.2.1 (fun _ => rfl) a rfl (by omega) (by decide) dX4_restOf_5 ?_
  exact rRetI hx hb hr hw (by exact ⟨by first | rfl | simp [bI, bI], by first | rfl | simp [bI, upA_n, upA_s, upA_upA, upA_self, upd_self, upd_upd, bI]⟩) hlocks dX4_restOf_6

def rmX4_appendGate : Room := ({ frames := 0, cells := 0, slots := 0, locals := 0 } : Room)
set_option maxHeartbeats 4000000 in
set_option maxRecDepth 100000 in
theorem kX4_appendGate (l : Launch) (G : Gx) (hG : gOk G) (hF : Full G) (σ : St) (b : Bool) (g : Nat) (hg : σ 1 2 = nI g) (hg2 : g < 12) : CtI l yX4_appendGate wsX4_appendGate rmX4_appendGate G σ [.ref (gad G 1), .int (bI b)] (fun r σ' => r = nI g ∧ σ' = stGate σ b g) := by
  refine bgMet (cc := cX4_appendGate) (maxL := 3) (ret := (some .int)) (own := RX4) (by decide) rfl rfl hG (Nat.le_of_ble_eq_true rfl) rfl ?_
  intro p e s m args below meth c ls Bd hl
  obtain ⟨hx, hb, hr, hml, hts, hown, hlocks, fx, hw⟩ := Bd
  have hl : lv_has ls 3 [(0, .ref (gad G 1)), (1, .int (bI b))] := hl
  have hin : ∀ w ∈ wsX40, w ∈ wsX4_appendGate := by decide +kernel
  refine lv_aload_n hx hb dX4_appendGate_0 rfl (lv_at hl 0 rfl) ?_
  refine rGet (v := .int (σ 1 2)) (C := RX4) (T := TX4) (N := 4) hx hb fx hown hts hin hw 1 (hF.1 1 (by decide)) rfl rfl 2 (by decide) (hts (.fieldLink RX4 18 "Leaguewheel$Track" "count" "I") (by decide +kernel)) (fun _ h9 => h9) rfl dX4_appendGate_1 ?_
  refine lv_rep0 (x := (σ 1 2)) (y := nI g) (by exact hg) ?_
  refine lv_istore_n (lv' := [(2, .int (nI g)), (0, .ref (gad G 1)), (1, .int (bI b))]) hx hb dX4_appendGate_4 rfl hl (by decide) rfl (fun ls hl => ?_)
  refine lv_aload_n hx hb dX4_appendGate_5 rfl (lv_at hl 1 rfl) ?_
  refine rGet (v := .ref (gad G 3)) (C := RX4) (T := TX4) (N := 4) hx hb fx hown hts hin hw 1 (hF.1 1 (by decide)) rfl rfl 1 (by decide) (hts (.fieldLink RX4 15 "Leaguewheel$Track" "rests" "[I") (by decide +kernel)) (fun _ h9 => h9) rfl dX4_appendGate_6 ?_
  refine lv_iload_n hx hb dX4_appendGate_9 rfl (lv_at hl 0 rfl) ?_
  refine lv_iconst (v := (-1)) hx hb dX4_appendGate_10 (by decide) ?_
  refine rAst (x := (-1)) hx hb fx hw 3 (hF.1 3 (by decide)) hF.2.1 (fun _ => rfl) g rfl (by omega) (by decide) dX4_appendGate_11 (fun H locs hw => ?_)
  obtain ⟨σ_1, eσ_1⟩ : ∃ z, z = upA σ 3 (upd (σ 3) g (-1)) := ⟨_, rfl⟩
  rw [← eσ_1] at hw
  refine lv_iload_n hx hb dX4_appendGate_12 rfl (lv_at hl 2 rfl) ?_
  refine lv_b_eq (tgt := 28) hx hb dX4_appendGate_13 (by decide) (fun c_2 => ?_) (fun c_2 => ?_)
  · skip
    refine lv_aload_n hx hb dX4_appendGate_28 rfl (lv_at hl 1 rfl) ?_
    refine lv_dup hx hb dX4_appendGate_29 rfl ?_
    refine rGet (v := .int (σ_1 1 2)) (C := RX4) (T := TX4) (N := 4) hx hb fx hown hts hin hw 1 (hF.1 1 (by decide)) rfl rfl 2 (by decide) (hts (.fieldLink RX4 18 "Leaguewheel$Track" "count" "I") (by decide +kernel)) (fun _ h9 => h9) rfl dX4_appendGate_30 ?_
    refine lv_rep0 (x := (σ_1 1 2)) (y := nI g) (by subst_vars; simp [upA, upd, hg]) ?_
    refine lv_iconst (v := 1) hx hb dX4_appendGate_33 (by decide) ?_
    refine lv_rep0 (x := 1) (y := nI 1) rfl ?_
    refine lv_iadd hx hb dX4_appendGate_34 ?_
    refine lv_rep0 (x := ((nI g) + (nI 1))) (y := nI (g + 1)) (nI_add _ _) ?_
    refine rPut (v := (nI (g + 1))) (ty := .int) (C := RX4) (T := TX4) (N := 4) hx hb fx hown hts hin tyX4 tyX4_ok nmX4 hw 1 (hF.1 1 (by decide)) rfl rfl 2 (by decide) (hts (.fieldLink RX4 18 "Leaguewheel$Track" "count" "I") (by decide +kernel)) (fun _ h9 => h9) rfl (by decide +kernel) rfl rfl (Nat.le_of_ble_eq_true rfl) rfl dX4_appendGate_35 (fun H locs hw => ?_)
    obtain ⟨σ_3, eσ_3⟩ : ∃ z, z = upA σ_1 1 (upd (σ_1 1) 2 (nI (g + 1))) := ⟨_, rfl⟩
    rw [← eσ_3] at hw
    refine lv_iload_n hx hb dX4_appendGate_38 rfl (lv_at hl 0 rfl) ?_
    subst eσ_3
    subst eσ_1
    exact rRetI hx hb hr hw (by exact ⟨by first | rfl | simp [stGate, bI, c_2], by first | rfl | simp [stGate, upA_n, upA_s, upA_upA, upA_self, upd_self, upd_upd, bI, c_2]⟩) hlocks dX4_appendGate_39
  · skip
    refine lv_aload_n hx hb dX4_appendGate_16 rfl (lv_at hl 1 rfl) ?_
    refine lv_dup hx hb dX4_appendGate_17 rfl ?_
    refine rGet (v := .int (σ_1 1 3)) (C := RX4) (T := TX4) (N := 4) hx hb fx hown hts hin hw 1 (hF.1 1 (by decide)) rfl rfl 3 (by decide) (hts (.fieldLink RX4 22 "Leaguewheel$Track" "neededGates" "I") (by decide +kernel)) (fun _ h9 => h9) rfl dX4_appendGate_18 ?_
    refine lv_iconst (v := 1) hx hb dX4_appendGate_21 (by decide) ?_
    refine lv_iload_n hx hb dX4_appendGate_22 rfl (lv_at hl 0 rfl) ?_
    refine lv_ishl hx hb dX4_appendGate_23 ?_
    refine lv_ior hx hb dX4_appendGate_24 ?_
    refine rPut (v := ((σ_1 1 3) ||| (1 <<< ((nI g) &&& 31)))) (ty := .int) (C := RX4) (T := TX4) (N := 4) hx hb fx hown hts hin tyX4 tyX4_ok nmX4 hw 1 (hF.1 1 (by decide)) rfl rfl 3 (by decide) (hts (.fieldLink RX4 22 "Leaguewheel$Track" "neededGates" "I") (by decide +kernel)) (fun _ h9 => h9) rfl (by decide +kernel) rfl rfl (Nat.le_of_ble_eq_true rfl) rfl dX4_appendGate_25 (fun H locs hw => ?_)
    obtain ⟨σ_4, eσ_4⟩ : ∃ z, z = upA σ_1 1 (upd (σ_1 1) 3 ((σ_1 1 3) ||| (1 <<< ((nI g) &&& 31)))) := ⟨_, rfl⟩
    rw [← eσ_4] at hw
    refine lv_aload_n hx hb dX4_appendGate_28 rfl (lv_at hl 1 rfl) ?_
    refine lv_dup hx hb dX4_appendGate_29 rfl ?_
    refine rGet (v := .int (σ_4 1 2)) (C := RX4) (T := TX4) (N := 4) hx hb fx hown hts hin hw 1 (hF.1 1 (by decide)) rfl rfl 2 (by decide) (hts (.fieldLink RX4 18 "Leaguewheel$Track" "count" "I") (by decide +kernel)) (fun _ h9 => h9) rfl dX4_appendGate_30 ?_
    refine lv_rep0 (x := (σ_4 1 2)) (y := nI g) (by subst_vars; simp [upA, upd, hg]) ?_
    refine lv_iconst (v := 1) hx hb dX4_appendGate_33 (by decide) ?_
    refine lv_rep0 (x := 1) (y := nI 1) rfl ?_
    refine lv_iadd hx hb dX4_appendGate_34 ?_
    refine lv_rep0 (x := ((nI g) + (nI 1))) (y := nI (g + 1)) (nI_add _ _) ?_
    refine rPut (v := (nI (g + 1))) (ty := .int) (C := RX4) (T := TX4) (N := 4) hx hb fx hown hts hin tyX4 tyX4_ok nmX4 hw 1 (hF.1 1 (by decide)) rfl rfl 2 (by decide) (hts (.fieldLink RX4 18 "Leaguewheel$Track" "count" "I") (by decide +kernel)) (fun _ h9 => h9) rfl (by decide +kernel) rfl rfl (Nat.le_of_ble_eq_true rfl) rfl dX4_appendGate_35 (fun H locs hw => ?_)
    obtain ⟨σ_5, eσ_5⟩ : ∃ z, z = upA σ_4 1 (upd (σ_4 1) 2 (nI (g + 1))) := ⟨_, rfl⟩
    rw [← eσ_5] at hw
    refine lv_iload_n hx hb dX4_appendGate_38 rfl (lv_at hl 0 rfl) ?_
    subst eσ_5
    subst eσ_4
    subst eσ_1
    exact rRetI hx hb hr hw (by exact ⟨by first | rfl | simp [stGate, bI, c_2], by first | rfl | simp [stGate, upA_n, upA_s, upA_upA, upA_self, upd_self, upd_upd, bI, c_2]⟩) hlocks dX4_appendGate_39

def rmX4_leadsOn : Room := ({ frames := 2, cells := 0, slots := 0, locals := 44 } : Room)
set_option maxHeartbeats 4000000 in
set_option maxRecDepth 100000 in
theorem kX4_leadsOn (l : Launch) (G : Gx) (hG : gOk G) (hF : Full G) (σ : St) (a : Nat) (g : Nat) (hg : σ 1 2 = nI g) (hg2 : g ≤ 12) (ha : a < 12) : CtI l yX4_leadsOn wsX4_leadsOn rmX4_leadsOn G σ [.ref (gad G 1), .int (nI a)] (fun r σ' => r = bI (ldOn (σ 2) g a) ∧ σ' = σ) := by
  refine bgMet (cc := cX4_leadsOn) (maxL := 3) (ret := (some .boolean)) (own := RX4) (by decide) rfl rfl hG (Nat.le_of_ble_eq_true rfl) rfl ?_
  intro p e s m args below meth c ls Bd hl
  obtain ⟨hx, hb, hr, hml, hts, hown, hlocks, fx, hw⟩ := Bd
  have hl : lv_has ls 3 [(0, .ref (gad G 1)), (1, .int (nI a))] := hl
  have hin : ∀ w ∈ wsX40, w ∈ wsX4_leadsOn := by decide +kernel
  refine lv_iconst (v := 0) hx hb dX4_leadsOn_0 (by decide) ?_
  refine lv_istore_n (lv' := [(2, .int 0), (0, .ref (gad G 1)), (1, .int (nI a))]) hx hb dX4_leadsOn_1 rfl hl (by decide) rfl (fun ls hl => ?_)
  have lab_2 : ∀ (n9 : Nat), ∀ (i : Nat), g - i < n9 → i ≤ g → (∀ t, t < i → ldB (σ 2) a t = false) → ∀ (H : Heap) (locs : List Loc) (ls : Array Slot), Wd G s σ H locs → lv_has ls 3 [(0, .ref (gad G 1)), (1, .int (nI a)), (2, .int (nI i))] → W p l e rmX4_leadsOn s m args below meth c H locs 0 0 (MQ below (va_Qi (fun r σ' => r = bI (ldOn (σ 2) g a) ∧ σ' = σ) (BW G) (gA G)) args s 0 0 (gA G)) (F0 m 2 ls []) := by
    intro n9
    induction n9 with
    | zero => intro i hn9; exact absurd hn9 (Nat.not_lt_zero _)
    | succ n9 ih2 =>
      intro i hn9 h2_0 h2_1 H locs ls hw hl
      refine lv_iload_n hx hb dX4_leadsOn_2 rfl (lv_at hl 2 rfl) ?_
      refine lv_aload_n hx hb dX4_leadsOn_3 rfl (lv_at hl 0 rfl) ?_
      refine rGet (v := .int (σ 1 2)) (C := RX4) (T := TX4) (N := 4) hx hb fx hown hts hin hw 1 (hF.1 1 (by decide)) rfl rfl 2 (by decide) (hts (.fieldLink RX4 18 "Leaguewheel$Track" "count" "I") (by decide +kernel)) (fun _ h9 => h9) rfl dX4_leadsOn_4 ?_
      refine lv_rep0 (x := (σ 1 2)) (y := nI g) (by exact hg) ?_
      refine lv_icmp_ge (tgt := 27) hx hb dX4_leadsOn_7 (by decide) (fun c_1 => ?_) (fun c_1 => ?_)
      · skip
        have c_1 : g ≤ i := (nI_leI (by omega) (by omega)).mp c_1
        refine lv_iconst (v := 0) hx hb dX4_leadsOn_27 (by decide) ?_
        exact rRetZ hx hb hr hw (by decide) (by exact ⟨by rw [ldOn_f (fun t ht => h2_1 t (by omega))]; rfl, rfl⟩) hlocks dX4_leadsOn_28
      · skip
        have c_1 : ¬ g ≤ i := fun h9 => c_1 ((nI_leI (by omega) (by omega)).mpr h9)
        refine lv_aload_n hx hb dX4_leadsOn_10 rfl (lv_at hl 0 rfl) ?_
        refine lv_iload_n hx hb dX4_leadsOn_11 rfl (lv_at hl 1 rfl) ?_
        refine lv_iload_n hx hb dX4_leadsOn_12 rfl (lv_at hl 2 rfl) ?_
        refine rCallI (C := RX4) (As := [.int (nI a), .int (nI i)]) (rest := []) ⟨hx, hb, hml, hown, hts⟩ fx hw (kX4_leads l G hG hF σ a i (by omega) (by omega)) (cwV 2 hts gX4_leadsOn_X4_leads rfl rfl rfl (by decide +kernel) ⟨Nat.le_of_ble_eq_true rfl, Nat.le_of_ble_eq_true rfl⟩) (hF.1 1 (by decide)) rfl rfl rfl rfl hl.1 rfl (Nat.le_of_ble_eq_true rfl) dX4_leadsOn_13 ⟨Nat.zero_le _, Nat.zero_le _⟩ ?_
        intro r_3 σ_4 H locs p_2 hw
        obtain ⟨er_3, eσ_4⟩ := p_2
        have er_3 := er_3.symm; subst er_3
        have eσ_4 := eσ_4.symm; subst eσ_4
        refine lv_b_eq (tgt := 21) hx hb dX4_leadsOn_16 (by decide) (fun c_5 => ?_) (fun c_5 => ?_)
        · skip
          refine lv_iinc (v := (nI (i + 1))) (lv' := [(2, .int (nI (i + 1))), (0, .ref (gad G 1)), (1, .int (nI a))]) hx hb dX4_leadsOn_21 hl (k := 2) rfl (nI_1 _) (by decide) rfl (fun ls hl => ?_)
          refine lv_goto (tgt := 2) hx hb dX4_leadsOn_24 (by decide) ?_
          exact ih2 (i + 1) (by omega) (by omega) (lt_s h2_1 c_5) _ _ _ hw (lv_sub hl [1, 2, 0] rfl)
        · skip
          refine lv_iconst (v := 1) hx hb dX4_leadsOn_19 (by decide) ?_
          exact rRetZ hx hb hr hw (by decide) (by exact ⟨by rw [ldOn_t (t := i) (by omega) c_5]; rfl, rfl⟩) hlocks dX4_leadsOn_20
  have q_6 : 0 = (nI 0) := by first | rfl | (simp)
  rw [q_6] at hl
  exact lab_2 (g - 0 + 1) 0 (by omega) (by omega) (fun t ht => by omega) _ _ _ hw (lv_sub hl [1, 2, 0] rfl)

def rmX4_hasDeadEnd : Room := ({ frames := 3, cells := 0, slots := 0, locals := 66 } : Room)
set_option maxHeartbeats 4000000 in
set_option maxRecDepth 100000 in
theorem kX4_hasDeadEnd (l : Launch) (G : Gx) (hG : gOk G) (hF : Full G) (σ : St) (g : Nat) (hg : σ 1 2 = nI g) (hg2 : g ≤ 12) : CtI l yX4_hasDeadEnd wsX4_hasDeadEnd rmX4_hasDeadEnd G σ [.ref (gad G 1)] (fun r σ' => r = bI (deadB (σ 2) g) ∧ σ' = σ) := by
  refine bgMet (cc := cX4_hasDeadEnd) (maxL := 2) (ret := (some .boolean)) (own := RX4) (by decide) rfl rfl hG (Nat.le_of_ble_eq_true rfl) rfl ?_
  intro p e s m args below meth c ls Bd hl
  obtain ⟨hx, hb, hr, hml, hts, hown, hlocks, fx, hw⟩ := Bd
  have hl : lv_has ls 2 [(0, .ref (gad G 1))] := hl
  have hin : ∀ w ∈ wsX40, w ∈ wsX4_hasDeadEnd := by decide +kernel
  refine lv_iconst (v := 0) hx hb dX4_hasDeadEnd_0 (by decide) ?_
  refine lv_istore_n (lv' := [(1, .int 0), (0, .ref (gad G 1))]) hx hb dX4_hasDeadEnd_1 rfl hl (by decide) rfl (fun ls hl => ?_)
  have lab_2 : ∀ (n9 : Nat), ∀ (i : Nat), g - i < n9 → i ≤ g → (∀ t, t < i → ldOn (σ 2) g t = true) → ∀ (H : Heap) (locs : List Loc) (ls : Array Slot), Wd G s σ H locs → lv_has ls 2 [(0, .ref (gad G 1)), (1, .int (nI i))] → W p l e rmX4_hasDeadEnd s m args below meth c H locs 0 0 (MQ below (va_Qi (fun r σ' => r = bI (deadB (σ 2) g) ∧ σ' = σ) (BW G) (gA G)) args s 0 0 (gA G)) (F0 m 2 ls []) := by
    intro n9
    induction n9 with
    | zero => intro i hn9; exact absurd hn9 (Nat.not_lt_zero _)
    | succ n9 ih2 =>
      intro i hn9 h2_0 h2_1 H locs ls hw hl
      refine lv_iload_n hx hb dX4_hasDeadEnd_2 rfl (lv_at hl 1 rfl) ?_
      refine lv_aload_n hx hb dX4_hasDeadEnd_3 rfl (lv_at hl 0 rfl) ?_
      refine rGet (v := .int (σ 1 2)) (C := RX4) (T := TX4) (N := 4) hx hb fx hown hts hin hw 1 (hF.1 1 (by decide)) rfl rfl 2 (by decide) (hts (.fieldLink RX4 18 "Leaguewheel$Track" "count" "I") (by decide +kernel)) (fun _ h9 => h9) rfl dX4_hasDeadEnd_4 ?_
      refine lv_rep0 (x := (σ 1 2)) (y := nI g) (by exact hg) ?_
      refine lv_icmp_ge (tgt := 26) hx hb dX4_hasDeadEnd_7 (by decide) (fun c_1 => ?_) (fun c_1 => ?_)
      · skip
        have c_1 : g ≤ i := (nI_leI (by omega) (by omega)).mp c_1
        refine lv_iconst (v := 0) hx hb dX4_hasDeadEnd_26 (by decide) ?_
        exact rRetZ hx hb hr hw (by decide) (by exact ⟨by rw [deadB_f (fun t ht => h2_1 t (by omega))]; rfl, rfl⟩) hlocks dX4_hasDeadEnd_27
      · skip
        have c_1 : ¬ g ≤ i := fun h9 => c_1 ((nI_leI (by omega) (by omega)).mpr h9)
        refine lv_aload_n hx hb dX4_hasDeadEnd_10 rfl (lv_at hl 0 rfl) ?_
        refine lv_iload_n hx hb dX4_hasDeadEnd_11 rfl (lv_at hl 1 rfl) ?_
        refine rCallI (C := RX4) (As := [.int (nI i)]) (rest := []) ⟨hx, hb, hml, hown, hts⟩ fx hw (kX4_leadsOn l G hG hF σ i g hg (by omega) (by omega)) (cwV 1 hts gX4_hasDeadEnd_X4_leadsOn rfl rfl rfl (by decide +kernel) ⟨Nat.le_of_ble_eq_true rfl, Nat.le_of_ble_eq_true rfl⟩) (hF.1 1 (by decide)) rfl rfl rfl rfl hl.1 rfl (Nat.le_of_ble_eq_true rfl) dX4_hasDeadEnd_12 ⟨Nat.zero_le _, Nat.zero_le _⟩ ?_
        intro r_3 σ_4 H locs p_2 hw
        obtain ⟨er_3, eσ_4⟩ := p_2
        have er_3 := er_3.symm; subst er_3
        have eσ_4 := eσ_4.symm; subst eσ_4
        refine lv_b_ne (tgt := 20) hx hb dX4_hasDeadEnd_15 (by decide) (fun c_5 => ?_) (fun c_5 => ?_)
        · skip
          refine lv_iinc (v := (nI (i + 1))) (lv' := [(1, .int (nI (i + 1))), (0, .ref (gad G 1))]) hx hb dX4_hasDeadEnd_20 hl (k := 1) rfl (nI_1 _) (by decide) rfl (fun ls hl => ?_)
          refine lv_goto (tgt := 2) hx hb dX4_hasDeadEnd_23 (by decide) ?_
          exact ih2 (i + 1) (by omega) (by omega) (lt_s h2_1 c_5) _ _ _ hw (lv_sub hl [1, 0] rfl)
        · skip
          refine lv_iconst (v := 1) hx hb dX4_hasDeadEnd_18 (by decide) ?_
          exact rRetZ hx hb hr hw (by decide) (by exact ⟨by rw [deadB_t (t := i) (by omega) c_5]; rfl, rfl⟩) hlocks dX4_hasDeadEnd_19
  have q_6 : 0 = (nI 0) := by first | rfl | (simp)
  rw [q_6] at hl
  exact lab_2 (g - 0 + 1) 0 (by omega) (by omega) (fun t ht => by omega) _ _ _ hw (lv_sub hl [1, 0] rfl)

def rmX4_leastRest : Room := ({ frames := 2, cells := 0, slots := 0, locals := 44 } : Room)
set_option maxHeartbeats 4000000 in
set_option maxRecDepth 100000 in
theorem kX4_leastRest (l : Launch) (G : Gx) (hG : gOk G) (hF : Full G) (σ : St) (a : Nat) (g : Nat) (hg : σ 1 2 = nI g) (hg2 : g ≤ 12) (ha : a < g) : CtI l yX4_leastRest wsX4_leastRest rmX4_leastRest G σ [.ref (gad G 1), .int (nI a)] (fun r σ' => r = lrA (σ 2) (σ 3) a (g - 1 - a) ∧ σ' = σ) := by
  refine bgMet (cc := cX4_leastRest) (maxL := 5) (ret := (some .int)) (own := RX4) (by decide) rfl rfl hG (Nat.le_of_ble_eq_true rfl) rfl ?_
  intro p e s m args below meth c ls Bd hl
  obtain ⟨hx, hb, hr, hml, hts, hown, hlocks, fx, hw⟩ := Bd
  have hl : lv_has ls 5 [(0, .ref (gad G 1)), (1, .int (nI a))] := hl
  have hin : ∀ w ∈ wsX40, w ∈ wsX4_leastRest := by decide +kernel
  have lab_19 : ∀ (H : Heap) (locs : List Loc) (ls : Array Slot), Wd G s σ H locs → lv_has ls 5 [(0, .ref (gad G 1)), (1, .int (nI a))] → W p l e rmX4_leastRest s m args below meth c H locs 0 0 (MQ below (va_Qi (fun r σ' => r = lrA (σ 2) (σ 3) a (g - 1 - a) ∧ σ' = σ) (BW G) (gA G)) args s 0 0 (gA G)) (F0 m 19 ls [.int (lrA (σ 2) (σ 3) a 0)]) := by
    intro   H locs ls hw hl
    refine lv_istore_n (lv' := [(2, .int (lrA (σ 2) (σ 3) a 0)), (0, .ref (gad G 1)), (1, .int (nI a))]) hx hb dX4_leastRest_19 rfl hl (by decide) rfl (fun ls hl => ?_)
    refine lv_iload_n hx hb dX4_leastRest_20 rfl (lv_at hl 2 rfl) ?_
    refine lv_iconst (v := 1) hx hb dX4_leastRest_21 (by decide) ?_
    refine lv_rep0 (x := 1) (y := nI 1) rfl ?_
    refine lv_iadd hx hb dX4_leastRest_22 ?_
    refine lv_rep0 (x := ((nI a) + (nI 1))) (y := nI (a + 1)) (nI_add _ _) ?_
    refine lv_istore_n (lv' := [(3, .int (nI (a + 1))), (2, .int (lrA (σ 2) (σ 3) a 0)), (0, .ref (gad G 1)), (1, .int (nI a))]) hx hb dX4_leastRest_23 rfl hl (by decide) rfl (fun ls hl => ?_)
    have lab_24 : ∀ (n9 : Nat), ∀ (k : Nat), g - k < n9 → a + 1 + k ≤ g → ∀ (H : Heap) (locs : List Loc) (ls : Array Slot), Wd G s σ H locs → lv_has ls 5 [(0, .ref (gad G 1)), (1, .int (nI a)), (2, .int (lrA (σ 2) (σ 3) a k)), (3, .int (nI (a + 1 + k)))] → W p l e rmX4_leastRest s m args below meth c H locs 0 0 (MQ below (va_Qi (fun r σ' => r = lrA (σ 2) (σ 3) a (g - 1 - a) ∧ σ' = σ) (BW G) (gA G)) args s 0 0 (gA G)) (F0 m 24 ls []) := by
      intro n9
      induction n9 with
      | zero => intro k hn9; exact absurd hn9 (Nat.not_lt_zero _)
      | succ n9 ih24 =>
        intro k hn9 h24_0 H locs ls hw hl
        refine lv_iload_n hx hb dX4_leastRest_24 rfl (lv_at hl 3 rfl) ?_
        refine lv_aload_n hx hb dX4_leastRest_25 rfl (lv_at hl 0 rfl) ?_
        refine rGet (v := .int (σ 1 2)) (C := RX4) (T := TX4) (N := 4) hx hb fx hown hts hin hw 1 (hF.1 1 (by decide)) rfl rfl 2 (by decide) (hts (.fieldLink RX4 18 "Leaguewheel$Track" "count" "I") (by decide +kernel)) (fun _ h9 => h9) rfl dX4_leastRest_26 ?_
        refine lv_rep0 (x := (σ 1 2)) (y := nI g) (by exact hg) ?_
        refine lv_icmp_ge (tgt := 89) hx hb dX4_leastRest_29 (by decide) (fun c_1 => ?_) (fun c_1 => ?_)
        · skip
          have c_1 : g ≤ (a + 1 + k) := (nI_leI (by omega) (by omega)).mp c_1
          refine lv_iload_n hx hb dX4_leastRest_89 rfl (lv_at hl 2 rfl) ?_
          exact rRetI hx hb hr hw (by exact ⟨by rw [show g - 1 - a = k by omega], rfl⟩) hlocks dX4_leastRest_90
        · skip
          have c_1 : ¬ g ≤ (a + 1 + k) := fun h9 => c_1 ((nI_leI (by omega) (by omega)).mpr h9)
          have lab_82 : ∀ (H : Heap) (locs : List Loc) (ls : Array Slot), Wd G s σ H locs → lv_has ls 5 [(0, .ref (gad G 1)), (1, .int (nI a)), (3, .int (nI (a + 1 + k)))] → W p l e rmX4_leastRest s m args below meth c H locs 0 0 (MQ below (va_Qi (fun r σ' => r = lrA (σ 2) (σ 3) a (g - 1 - a) ∧ σ' = σ) (BW G) (gA G)) args s 0 0 (gA G)) (F0 m 82 ls [.int (lrA (σ 2) (σ 3) a (k + 1))]) := by
            intro   H locs ls hw hl
            refine lv_istore_n (lv' := [(2, .int (lrA (σ 2) (σ 3) a (k + 1))), (0, .ref (gad G 1)), (1, .int (nI a)), (3, .int (nI (a + 1 + k)))]) hx hb dX4_leastRest_82 rfl hl (by decide) rfl (fun ls hl => ?_)
            refine lv_iinc (v := (nI ((a + 1 + k) + 1))) (lv' := [(3, .int (nI ((a + 1 + k) + 1))), (2, .int (lrA (σ 2) (σ 3) a (k + 1))), (0, .ref (gad G 1)), (1, .int (nI a))]) hx hb dX4_leastRest_83 hl (k := 3) rfl (nI_1 _) (by decide) rfl (fun ls hl => ?_)
            refine lv_goto (tgt := 24) hx hb dX4_leastRest_86 (by decide) ?_
            exact ih24 (k + 1) (by omega) (by omega) _ _ _ hw (lv_sub hl [2, 3, 1, 0] rfl)
          have lab_83 : ∀ (H : Heap) (locs : List Loc) (ls : Array Slot), Wd G s σ H locs → lv_has ls 5 [(0, .ref (gad G 1)), (1, .int (nI a)), (2, .int (lrA (σ 2) (σ 3) a (k + 1))), (3, .int (nI (a + 1 + k)))] → W p l e rmX4_leastRest s m args below meth c H locs 0 0 (MQ below (va_Qi (fun r σ' => r = lrA (σ 2) (σ 3) a (g - 1 - a) ∧ σ' = σ) (BW G) (gA G)) args s 0 0 (gA G)) (F0 m 83 ls []) := by
            intro   H locs ls hw hl
            refine lv_iinc (v := (nI ((a + 1 + k) + 1))) (lv' := [(3, .int (nI ((a + 1 + k) + 1))), (0, .ref (gad G 1)), (1, .int (nI a)), (2, .int (lrA (σ 2) (σ 3) a (k + 1)))]) hx hb dX4_leastRest_83 hl (k := 3) rfl (nI_1 _) (by decide) rfl (fun ls hl => ?_)
            refine lv_goto (tgt := 24) hx hb dX4_leastRest_86 (by decide) ?_
            exact ih24 (k + 1) (by omega) (by omega) _ _ _ hw (lv_sub hl [1, 2, 3, 0] rfl)
          refine lv_aload_n hx hb dX4_leastRest_32 rfl (lv_at hl 0 rfl) ?_
          refine lv_iload_n hx hb dX4_leastRest_33 rfl (lv_at hl 1 rfl) ?_
          refine lv_iload_n hx hb dX4_leastRest_34 rfl (lv_at hl 3 rfl) ?_
          refine rCallI (C := RX4) (As := [.int (nI a), .int (nI (a + 1 + k))]) (rest := []) ⟨hx, hb, hml, hown, hts⟩ fx hw (kX4_leads l G hG hF σ a ((a + 1 + k)) (by omega) (by omega)) (cwV 2 hts gX4_leastRest_X4_leads rfl rfl rfl (by decide +kernel) ⟨Nat.le_of_ble_eq_true rfl, Nat.le_of_ble_eq_true rfl⟩) (hF.1 1 (by decide)) rfl rfl rfl rfl hl.1 rfl (Nat.le_of_ble_eq_true rfl) dX4_leastRest_35 ⟨Nat.zero_le _, Nat.zero_le _⟩ ?_
          intro r_3 σ_4 H locs p_2 hw
          obtain ⟨er_3, eσ_4⟩ := p_2
          have er_3 := er_3.symm; subst er_3
          have eσ_4 := eσ_4.symm; subst eσ_4
          refine lv_b_eq (tgt := 83) hx hb dX4_leastRest_38 (by decide) (fun c_5 => ?_) (fun c_5 => ?_)
          · skip
            have q_6 : (lrA (σ 2) (σ 3) a k) = (lrA (σ 2) (σ 3) a (k + 1)) := by first | rfl | (simp [lrA, c_1, c_5])
            rw [q_6] at hl
            exact lab_83   _ _ _ hw (lv_sub hl [0, 1, 2, 3] rfl)
          · skip
            refine lv_aload_n hx hb dX4_leastRest_41 rfl (lv_at hl 0 rfl) ?_
            refine rGet (v := .ref (gad G 3)) (C := RX4) (T := TX4) (N := 4) hx hb fx hown hts hin hw 1 (hF.1 1 (by decide)) rfl rfl 1 (by decide) (hts (.fieldLink RX4 15 "Leaguewheel$Track" "rests" "[I") (by decide +kernel)) (fun _ h9 => h9) rfl dX4_leastRest_42 ?_
            refine lv_iload_n hx hb dX4_leastRest_45 rfl (lv_at hl 3 rfl) ?_
            refine rAld hx hb fx hw 3 (hF.1 3 (by decide)) hF.2.1 (fun _ => rfl) (a + 1 + k) rfl (by omega) (by decide) dX4_leastRest_46 ?_
            refine lv_iconst (v := (-1)) hx hb dX4_leastRest_47 (by decide) ?_
            refine lv_icmp_eq (tgt := 83) hx hb dX4_leastRest_48 (by decide) (fun c_7 => ?_) (fun c_7 => ?_)
            · skip
              have q_8 : (lrA (σ 2) (σ 3) a k) = (lrA (σ 2) (σ 3) a (k + 1)) := by first | rfl | (simp [lrA, c_1, c_5, c_7])
              rw [q_8] at hl
              exact lab_83   _ _ _ hw (lv_sub hl [0, 1, 2, 3] rfl)
            · skip
              refine lv_aload_n hx hb dX4_leastRest_51 rfl (lv_at hl 0 rfl) ?_
              refine lv_iload_n hx hb dX4_leastRest_52 rfl (lv_at hl 1 rfl) ?_
              refine lv_iload_n hx hb dX4_leastRest_53 rfl (lv_at hl 3 rfl) ?_
              refine rCallI (C := RX4) (As := [.int (nI a), .int (nI (a + 1 + k))]) (rest := []) ⟨hx, hb, hml, hown, hts⟩ fx hw (kX4_wayLength l G hG hF σ a ((a + 1 + k)) (by omega) (by omega)) (cwV 2 hts gX4_leastRest_X4_wayLength rfl rfl rfl (by decide +kernel) ⟨Nat.le_of_ble_eq_true rfl, Nat.le_of_ble_eq_true rfl⟩) (hF.1 1 (by decide)) rfl rfl rfl rfl hl.1 rfl (Nat.le_of_ble_eq_true rfl) dX4_leastRest_54 ⟨Nat.zero_le _, Nat.zero_le _⟩ ?_
              intro r_10 σ_11 H locs p_9 hw
              obtain ⟨er_10, eσ_11⟩ := p_9
              have er_10 := er_10.symm; subst er_10
              have eσ_11 := eσ_11.symm; subst eσ_11
              refine lv_aload_n hx hb dX4_leastRest_57 rfl (lv_at hl 0 rfl) ?_
              refine rGet (v := .ref (gad G 3)) (C := RX4) (T := TX4) (N := 4) hx hb fx hown hts hin hw 1 (hF.1 1 (by decide)) rfl rfl 1 (by decide) (hts (.fieldLink RX4 15 "Leaguewheel$Track" "rests" "[I") (by decide +kernel)) (fun _ h9 => h9) rfl dX4_leastRest_58 ?_
              refine lv_iload_n hx hb dX4_leastRest_61 rfl (lv_at hl 3 rfl) ?_
              refine rAld hx hb fx hw 3 (hF.1 3 (by decide)) hF.2.1 (fun _ => rfl) (a + 1 + k) rfl (by omega) (by decide) dX4_leastRest_62 ?_
              refine lv_iadd hx hb dX4_leastRest_63 ?_
              refine lv_istore (lv' := [(4, .int ((σ 2 (a * 12 + (a + 1 + k))) + (σ 3 (a + 1 + k)))), (0, .ref (gad G 1)), (1, .int (nI a)), (2, .int (lrA (σ 2) (σ 3) a k)), (3, .int (nI (a + 1 + k)))]) hx hb dX4_leastRest_64 hl (by decide) rfl (fun ls hl => ?_)
              refine lv_iload_n hx hb dX4_leastRest_66 rfl (lv_at hl 3 rfl) ?_
              refine lv_iconst (v := (-1)) hx hb dX4_leastRest_67 (by decide) ?_
              refine lv_icmp_ne (tgt := 76) hx hb dX4_leastRest_68 (by decide) (fun c_12 => ?_) (fun c_12 => ?_)
              · skip
                refine lv_iload_n hx hb dX4_leastRest_76 rfl (lv_at hl 3 rfl) ?_
                refine lv_iload hx hb dX4_leastRest_77 (lv_at hl 0 rfl) ?_
                refine va_mmin hx hb (by rw [hml]; exact hl.1.symm) hown (hts (.methodLink RX4 44 Lib.Math.min.name) (by decide +kernel)) (hts (.static Lib.Math.min.name) (by decide +kernel)) (hts (.initialized "java/lang/Math") (by decide +kernel)) (hts (.code Lib.Math.min.name Lib.Math.min.code 2 (some .int)) (by decide +kernel)) (Nat.le_of_ble_eq_true rfl) (Nat.le_of_ble_eq_true rfl) (Nat.zero_le _) (Nat.zero_le _) dX4_leastRest_79 ?_
                have q_13 : (if ((σ 2 (a * 12 + (a + 1 + k))) + (σ 3 (a + 1 + k))) < (lrA (σ 2) (σ 3) a k) then ((σ 2 (a * 12 + (a + 1 + k))) + (σ 3 (a + 1 + k))) else (lrA (σ 2) (σ 3) a k)) = (lrA (σ 2) (σ 3) a (k + 1)) := by first | rfl | (simp [lrA, c_1, c_5, c_7, c_12])
                rw [q_13]
                exact lab_82   _ _ _ hw (lv_sub hl [1, 2, 4] rfl)
              · skip
                refine lv_iload hx hb dX4_leastRest_71 (lv_at hl 0 rfl) ?_
                refine lv_goto (tgt := 82) hx hb dX4_leastRest_73 (by decide) ?_
                have q_14 : ((σ 2 (a * 12 + (a + 1 + k))) + (σ 3 (a + 1 + k))) = (lrA (σ 2) (σ 3) a (k + 1)) := by first | rfl | (simp [lrA, c_1, c_5, c_7, c_12])
                rw [q_14]
                exact lab_82   _ _ _ hw (lv_sub hl [1, 2, 4] rfl)
    have q_15 : (nI (a + 1)) = (nI (a + 1 + 0)) := by first | rfl | (simp)
    rw [q_15] at hl
    exact lab_24 (g - 0 + 1) 0 (by omega) (by omega) _ _ _ hw (lv_sub hl [2, 3, 1, 0] rfl)
  refine lv_aload_n hx hb dX4_leastRest_0 rfl (lv_at hl 0 rfl) ?_
  refine lv_iload_n hx hb dX4_leastRest_1 rfl (lv_at hl 1 rfl) ?_
  refine lv_iconst (v := 0) hx hb dX4_leastRest_2 (by decide) ?_
  refine lv_rep0 (x := 0) (y := nI 0) rfl ?_
  refine rCallI (C := RX4) (As := [.int (nI a), .int (nI 0)]) (rest := []) ⟨hx, hb, hml, hown, hts⟩ fx hw (kX4_leads l G hG hF σ a 0 (by omega) (by omega)) (cwV 2 hts gX4_leastRest_X4_leads rfl rfl rfl (by decide +kernel) ⟨Nat.le_of_ble_eq_true rfl, Nat.le_of_ble_eq_true rfl⟩) (hF.1 1 (by decide)) rfl rfl rfl rfl hl.1 rfl (Nat.le_of_ble_eq_true rfl) dX4_leastRest_3 ⟨Nat.zero_le _, Nat.zero_le _⟩ ?_
  intro r_17 σ_18 H locs p_16 hw
  obtain ⟨er_17, eσ_18⟩ := p_16
  have er_17 := er_17.symm; subst er_17
  have eσ_18 := eσ_18.symm; subst eσ_18
  refine lv_b_eq (tgt := 18) hx hb dX4_leastRest_6 (by decide) (fun c_19 => ?_) (fun c_19 => ?_)
  · skip
    refine lv_iconst (v := (-1)) hx hb dX4_leastRest_18 (by decide) ?_
    have q_20 : (-1) = (lrA (σ 2) (σ 3) a 0) := by first | rfl | (simp [lrA, c_19])
    rw [q_20]
    exact lab_19   _ _ _ hw (lv_sub hl [0, 1] rfl)
  · skip
    refine lv_aload_n hx hb dX4_leastRest_9 rfl (lv_at hl 0 rfl) ?_
    refine lv_iload_n hx hb dX4_leastRest_10 rfl (lv_at hl 1 rfl) ?_
    refine lv_iconst (v := 0) hx hb dX4_leastRest_11 (by decide) ?_
    refine lv_rep0 (x := 0) (y := nI 0) rfl ?_
    refine rCallI (C := RX4) (As := [.int (nI a), .int (nI 0)]) (rest := []) ⟨hx, hb, hml, hown, hts⟩ fx hw (kX4_wayLength l G hG hF σ a 0 (by omega) (by omega)) (cwV 2 hts gX4_leastRest_X4_wayLength rfl rfl rfl (by decide +kernel) ⟨Nat.le_of_ble_eq_true rfl, Nat.le_of_ble_eq_true rfl⟩) (hF.1 1 (by decide)) rfl rfl rfl rfl hl.1 rfl (Nat.le_of_ble_eq_true rfl) dX4_leastRest_12 ⟨Nat.zero_le _, Nat.zero_le _⟩ ?_
    intro r_22 σ_23 H locs p_21 hw
    obtain ⟨er_22, eσ_23⟩ := p_21
    have er_22 := er_22.symm; subst er_22
    have eσ_23 := eσ_23.symm; subst eσ_23
    refine lv_goto (tgt := 19) hx hb dX4_leastRest_15 (by decide) ?_
    have q_24 : (σ 2 (a * 12 + 0)) = (lrA (σ 2) (σ 3) a 0) := by first | rfl | (simp [lrA, c_19])
    rw [q_24]
    exact lab_19   _ _ _ hw (lv_sub hl [0, 1] rfl)

def rmX4_measureRests : Room := ({ frames := 3, cells := 0, slots := 0, locals := 68 } : Room)
set_option maxHeartbeats 4000000 in
set_option maxRecDepth 100000 in
theorem kX4_measureRests (l : Launch) (G : Gx) (hG : gOk G) (hF : Full G) (σ : St) (g : Nat) (hg : σ 1 2 = nI g) (hg2 : g ≤ 12) : CtV l yX4_measureRests wsX4_measureRests rmX4_measureRests G σ [.ref (gad G 1)] (fun σ' => σ' = upA σ 3 (mrA (σ 2) (σ 3) g g)) := by
  refine bgMet (cc := cX4_measureRests) (maxL := 2) (ret := none) (own := RX4) (by decide) rfl rfl hG (Nat.le_of_ble_eq_true rfl) rfl ?_
  intro p e s m args below meth c ls Bd hl
  obtain ⟨hx, hb, hr, hml, hts, hown, hlocks, fx, hw⟩ := Bd
  have hl : lv_has ls 2 [(0, .ref (gad G 1))] := hl
  have hin : ∀ w ∈ wsX40, w ∈ wsX4_measureRests := by decide +kernel
  refine lv_aload_n hx hb dX4_measureRests_0 rfl (lv_at hl 0 rfl) ?_
  refine rGet (v := .int (σ 1 2)) (C := RX4) (T := TX4) (N := 4) hx hb fx hown hts hin hw 1 (hF.1 1 (by decide)) rfl rfl 2 (by decide) (hts (.fieldLink RX4 18 "Leaguewheel$Track" "count" "I") (by decide +kernel)) (fun _ h9 => h9) rfl dX4_measureRests_1 ?_
  refine lv_rep0 (x := (σ 1 2)) (y := nI g) (by exact hg) ?_
  refine lv_iconst (v := 1) hx hb dX4_measureRests_4 (by decide) ?_
  refine lv_rep0 (x := 1) (y := nI 1) rfl ?_
  refine lv_isub hx hb dX4_measureRests_5 ?_
  refine lv_istore_n (lv' := [(1, .int ((nI g) - (nI 1))), (0, .ref (gad G 1))]) hx hb dX4_measureRests_6 rfl hl (by decide) rfl (fun ls hl => ?_)
  have lab_7 : ∀ (n9 : Nat), ∀ (k : Nat), g - k < n9 → k ≤ g → ∀ (H : Heap) (locs : List Loc) (ls : Array Slot), Wd G s (upA σ 3 (mrA (σ 2) (σ 3) g k)) H locs → lv_has ls 2 [(0, .ref (gad G 1)), (1, .int (nI (g - k) - 1))] → W p l e rmX4_measureRests s m args below meth c H locs 0 0 (MQ below (va_Qv (fun σ' => σ' = upA σ 3 (mrA (σ 2) (σ 3) g g)) (BW G) (gA G)) args s 0 0 (gA G)) (F0 m 7 ls []) := by
    intro n9
    induction n9 with
    | zero => intro k hn9; exact absurd hn9 (Nat.not_lt_zero _)
    | succ n9 ih7 =>
      intro k hn9 h7_0 H locs ls hw hl
      obtain ⟨σ_1, eσ_1⟩ : ∃ z, z = upA σ 3 (mrA (σ 2) (σ 3) g k) := ⟨_, rfl⟩
      rw [← eσ_1] at hw
      refine lv_iload_n hx hb dX4_measureRests_7 rfl (lv_at hl 1 rfl) ?_
      refine lv_if_lt (tgt := 28) hx hb dX4_measureRests_8 (by decide) (fun c_2 => ?_) (fun c_2 => ?_)
      · skip
        subst eσ_1
        exact rRetV hx hb hr hw (by rw [show g = k by rcases Nat.lt_or_ge k g with q | q; exact absurd (show ¬ nI (g - k) - 1 < 0 by rw [show g - k = (g - 1 - k) + 1 by omega, nI_pred]; exact nI_pos (by omega)) (fun h => h c_2); omega]) hlocks dX4_measureRests_28
      · skip
        have hk : k < g := by rcases Nat.lt_or_ge k g with q | q; exact q; exact absurd (show nI (g - k) - 1 < 0 by rw [show g - k = 0 by omega]; decide) c_2
        have q_3 : (nI (g - k) - 1) = (nI (g - 1 - k)) := by rw [show g - k = (g - 1 - k) + 1 by omega, nI_pred]
        rw [q_3] at hl
        refine lv_aload_n hx hb dX4_measureRests_11 rfl (lv_at hl 0 rfl) ?_
        refine rGet (v := .ref (gad G 3)) (C := RX4) (T := TX4) (N := 4) hx hb fx hown hts hin hw 1 (hF.1 1 (by decide)) rfl rfl 1 (by decide) (hts (.fieldLink RX4 15 "Leaguewheel$Track" "rests" "[I") (by decide +kernel)) (fun _ h9 => h9) rfl dX4_measureRests_12 ?_
        refine lv_iload_n hx hb dX4_measureRests_15 rfl (lv_at hl 1 rfl) ?_
        refine lv_aload_n hx hb dX4_measureRests_16 rfl (lv_at hl 0 rfl) ?_
        refine lv_iload_n hx hb dX4_measureRests_17 rfl (lv_at hl 1 rfl) ?_
        refine rCallI (C := RX4) (As := [.int (nI (g - 1 - k))]) (rest := [.int (nI (g - 1 - k)), .ref (gad G 3)]) ⟨hx, hb, hml, hown, hts⟩ fx hw (kX4_leastRest l G hG hF σ_1 ((g - 1 - k)) g (by subst_vars; simp [upA_n, hg]) (by omega) (by omega)) (cwV 1 hts gX4_measureRests_X4_leastRest rfl rfl rfl (by decide +kernel) ⟨Nat.le_of_ble_eq_true rfl, Nat.le_of_ble_eq_true rfl⟩) (hF.1 1 (by decide)) rfl rfl rfl rfl hl.1 rfl (Nat.le_of_ble_eq_true rfl) dX4_measureRests_18 ⟨Nat.zero_le _, Nat.zero_le _⟩ ?_
        intro r_5 σ_6 H locs p_4 hw
        obtain ⟨er_5, eσ_6⟩ := p_4
        have er_5 := er_5.symm; subst er_5
        have eσ_6 := eσ_6.symm; subst eσ_6
        refine lv_rep0 (x := (lrA (σ_1 2) (σ_1 3) (g - 1 - k) (g - 1 - (g - 1 - k)))) (y := (lrA (σ 2) (mrA (σ 2) (σ 3) g k) (g - 1 - k) k)) (by subst_vars; simp [upA_n, upA_s]; rw [show g - 1 - (g - 1 - k) = k by omega]) ?_
        refine rAst (x := (lrA (σ 2) (mrA (σ 2) (σ 3) g k) (g - 1 - k) k)) hx hb fx hw 3 (hF.1 3 (by decide)) hF.2.1 (fun _ => rfl) (g - 1 - k) rfl (by omega) (by decide) dX4_measureRests_21 (fun H locs hw => ?_)
        obtain ⟨σ_7, eσ_7⟩ : ∃ z, z = upA σ_1 3 (upd (σ_1 3) (g - 1 - k) (lrA (σ 2) (mrA (σ 2) (σ 3) g k) (g - 1 - k) k)) := ⟨_, rfl⟩
        rw [← eσ_7] at hw
        refine lv_iinc (v := ((nI (g - 1 - k)) + (-1))) (lv' := [(1, .int ((nI (g - 1 - k)) + (-1))), (0, .ref (gad G 1))]) hx hb dX4_measureRests_22 hl (k := 1) rfl (rfl) (by decide) rfl (fun ls hl => ?_)
        refine lv_goto (tgt := 7) hx hb dX4_measureRests_25 (by decide) ?_
        have q_8 : ((nI (g - 1 - k)) + (-1)) = (nI (g - (k + 1)) - 1) := by rw [show g - (k + 1) = g - 1 - k by omega, Int32.sub_eq_add_neg]
        rw [q_8] at hl
        have q_9 : σ_7 = upA σ 3 (mrA (σ 2) (σ 3) g (k + 1)) := by subst eσ_7 eσ_1; simp [mrA, upA_n, upA_s, upA_upA]
        rw [q_9] at hw
        exact ih7 (k + 1) (by omega) (by omega) _ _ _ hw (lv_sub hl [1, 0] rfl)
  have q_10 : ((nI g) - (nI 1)) = (nI (g - 0) - 1) := by rfl
  rw [q_10] at hl
  have q_11 : σ = upA σ 3 (mrA (σ 2) (σ 3) g 0) := by exact (upA_self σ 3).symm
  rw [q_11] at hw
  exact lab_7 (g - 0 + 1) 0 (by omega) (by omega) _ _ _ hw (lv_sub hl [1, 0] rfl)
end
