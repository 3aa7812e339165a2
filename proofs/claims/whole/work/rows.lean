section
-- ===== PART A: goes FIRST, ahead of the names: the tables' words, and 'selects' of the private methods out of them =====
/-- a private method of a class that the tables say can be made, by its rows of tables_1 -/
def lw_okq (q : MethodName × Nat) : Prop := (q.1.cls ≠ "java/lang/invoke/MethodHandle" ∧ q.1.cls ≠ "java/lang/invoke/VarHandle") ∧ Cond.instantiable q.1.cls q.2 ∈ tables_1 ∧ Cond.privateMethod q.1 ∈ tables_1 ∧ Cond.instanceMethod q.1 ∈ tables_1
theorem lw_p0 : lw_okq (⟨"GemPits$Rough", "weighAll", "()V"⟩, 7) := ⟨⟨by decide +kernel, by decide +kernel⟩, List.mem_of_getElem? (i := 173) (by decide +kernel), List.mem_of_getElem? (i := 302) (by decide +kernel), List.mem_of_getElem? (i := 303) (by decide +kernel)⟩
theorem lw_p1 : lw_okq (⟨"GemPits$Rough", "weigh", "(IIII)V"⟩, 7) := ⟨⟨by decide +kernel, by decide +kernel⟩, List.mem_of_getElem? (i := 173) (by decide +kernel), List.mem_of_getElem? (i := 306) (by decide +kernel), List.mem_of_getElem? (i := 307) (by decide +kernel)⟩
theorem lw_p2 : lw_okq (⟨"GemPits$Rough", "isClear", "(IIII)Z"⟩, 7) := ⟨⟨by decide +kernel, by decide +kernel⟩, List.mem_of_getElem? (i := 173) (by decide +kernel), List.mem_of_getElem? (i := 316) (by decide +kernel), List.mem_of_getElem? (i := 317) (by decide +kernel)⟩
theorem lw_p3 : lw_okq (⟨"GemPits$Rough", "tryCut", "(III)V"⟩, 7) := ⟨⟨by decide +kernel, by decide +kernel⟩, List.mem_of_getElem? (i := 173) (by decide +kernel), List.mem_of_getElem? (i := 320) (by decide +kernel), List.mem_of_getElem? (i := 321) (by decide +kernel)⟩
theorem lw_p4 : lw_okq (⟨"java/lang/Throwable", "fillInStackTrace", "(I)Ljava/lang/Throwable;"⟩, 6) := ⟨⟨by decide +kernel, by decide +kernel⟩, List.mem_of_getElem? (i := 430) (by decide +kernel), List.mem_of_getElem? (i := 428) (by decide +kernel), List.mem_of_getElem? (i := 429) (by decide +kernel)⟩
theorem lw_p5 : lw_okq (⟨"GemPits$Ground", "narrowSpans", "(LGemPits$Pit;)V"⟩, 6) := ⟨⟨by decide +kernel, by decide +kernel⟩, List.mem_of_getElem? (i := 56) (by decide +kernel), List.mem_of_getElem? (i := 463) (by decide +kernel), List.mem_of_getElem? (i := 464) (by decide +kernel)⟩
theorem lw_p6 : lw_okq (⟨"GemPits", "readTape", "(LGemPits$Clauses;)I"⟩, 5) := ⟨⟨by decide +kernel, by decide +kernel⟩, List.mem_of_getElem? (i := 34) (by decide +kernel), List.mem_of_getElem? (i := 487) (by decide +kernel), List.mem_of_getElem? (i := 488) (by decide +kernel)⟩
theorem lw_p7 : lw_okq (⟨"GemPits$Reader", "goOnFrom", "(I)V"⟩, 3) := ⟨⟨by decide +kernel, by decide +kernel⟩, List.mem_of_getElem? (i := 491) (by decide +kernel), List.mem_of_getElem? (i := 497) (by decide +kernel), List.mem_of_getElem? (i := 498) (by decide +kernel)⟩
theorem lw_p8 : lw_okq (⟨"java/util/ArrayList", "add", "(Ljava/lang/Object;[Ljava/lang/Object;I)V"⟩, 3) := ⟨⟨by decide +kernel, by decide +kernel⟩, List.mem_of_getElem? (i := 62) (by decide +kernel), List.mem_of_getElem? (i := 748) (by decide +kernel), List.mem_of_getElem? (i := 749) (by decide +kernel)⟩
theorem lw_p9 : lw_okq (⟨"java/util/ArrayList", "grow", "()[Ljava/lang/Object;"⟩, 3) := ⟨⟨by decide +kernel, by decide +kernel⟩, List.mem_of_getElem? (i := 62) (by decide +kernel), List.mem_of_getElem? (i := 752) (by decide +kernel), List.mem_of_getElem? (i := 753) (by decide +kernel)⟩
theorem lw_p10 : lw_okq (⟨"java/util/ArrayList", "grow", "(I)[Ljava/lang/Object;"⟩, 3) := ⟨⟨by decide +kernel, by decide +kernel⟩, List.mem_of_getElem? (i := 62) (by decide +kernel), List.mem_of_getElem? (i := 756) (by decide +kernel), List.mem_of_getElem? (i := 757) (by decide +kernel)⟩
theorem lw_p11 : lw_okq (⟨"GemPits", "pitOf", "(I)LGemPits$Pit;"⟩, 5) := ⟨⟨by decide +kernel, by decide +kernel⟩, List.mem_of_getElem? (i := 34) (by decide +kernel), List.mem_of_getElem? (i := 811) (by decide +kernel), List.mem_of_getElem? (i := 812) (by decide +kernel)⟩
theorem lw_p12 : lw_okq (⟨"GemPits", "stoneOf", "(I)LGemPits$Stone;"⟩, 5) := ⟨⟨by decide +kernel, by decide +kernel⟩, List.mem_of_getElem? (i := 34) (by decide +kernel), List.mem_of_getElem? (i := 976) (by decide +kernel), List.mem_of_getElem? (i := 977) (by decide +kernel)⟩
theorem lw_p13 : lw_okq (⟨"GemPits$Agreement", "shareOf", "(II)I"⟩, 3) := ⟨⟨by decide +kernel, by decide +kernel⟩, List.mem_of_getElem? (i := 141) (by decide +kernel), List.mem_of_getElem? (i := 1022) (by decide +kernel), List.mem_of_getElem? (i := 1023) (by decide +kernel)⟩
theorem lw_p14 : lw_okq (⟨"GemPitsModel", "readAll", "(Z)I"⟩, 31) := ⟨⟨by decide +kernel, by decide +kernel⟩, List.mem_of_getElem? (i := 1062) (by decide +kernel), List.mem_of_getElem? (i := 1178) (by decide +kernel), List.mem_of_getElem? (i := 1179) (by decide +kernel)⟩
theorem lw_p15 : lw_okq (⟨"GemPitsModel", "readTerm", "()Z"⟩, 31) := ⟨⟨by decide +kernel, by decide +kernel⟩, List.mem_of_getElem? (i := 1062) (by decide +kernel), List.mem_of_getElem? (i := 1182) (by decide +kernel), List.mem_of_getElem? (i := 1183) (by decide +kernel)⟩
def lw_privs_1 : List (MethodName × Nat) := [(⟨"GemPits$Rough", "weighAll", "()V"⟩, 7), (⟨"GemPits$Rough", "weigh", "(IIII)V"⟩, 7), (⟨"GemPits$Rough", "isClear", "(IIII)Z"⟩, 7), (⟨"GemPits$Rough", "tryCut", "(III)V"⟩, 7), (⟨"java/lang/Throwable", "fillInStackTrace", "(I)Ljava/lang/Throwable;"⟩, 6), (⟨"GemPits$Ground", "narrowSpans", "(LGemPits$Pit;)V"⟩, 6), (⟨"GemPits", "readTape", "(LGemPits$Clauses;)I"⟩, 5), (⟨"GemPits$Reader", "goOnFrom", "(I)V"⟩, 3), (⟨"java/util/ArrayList", "add", "(Ljava/lang/Object;[Ljava/lang/Object;I)V"⟩, 3), (⟨"java/util/ArrayList", "grow", "()[Ljava/lang/Object;"⟩, 3), (⟨"java/util/ArrayList", "grow", "(I)[Ljava/lang/Object;"⟩, 3), (⟨"GemPits", "pitOf", "(I)LGemPits$Pit;"⟩, 5), (⟨"GemPits", "stoneOf", "(I)LGemPits$Stone;"⟩, 5), (⟨"GemPits$Agreement", "shareOf", "(II)I"⟩, 3), (⟨"GemPitsModel", "readAll", "(Z)I"⟩, 31), (⟨"GemPitsModel", "readTerm", "()Z"⟩, 31)]
theorem lw_r1 : ∀ q ∈ lw_privs_1, lw_okq q := List.forall_mem_cons.mpr ⟨lw_p0, List.forall_mem_cons.mpr ⟨lw_p1, List.forall_mem_cons.mpr ⟨lw_p2, List.forall_mem_cons.mpr ⟨lw_p3, List.forall_mem_cons.mpr ⟨lw_p4, List.forall_mem_cons.mpr ⟨lw_p5, List.forall_mem_cons.mpr ⟨lw_p6, List.forall_mem_cons.mpr ⟨lw_p7, List.forall_mem_cons.mpr ⟨lw_p8, List.forall_mem_cons.mpr ⟨lw_p9, List.forall_mem_cons.mpr ⟨lw_p10, List.forall_mem_cons.mpr ⟨lw_p11, List.forall_mem_cons.mpr ⟨lw_p12, List.forall_mem_cons.mpr ⟨lw_p13, List.forall_mem_cons.mpr ⟨lw_p14, List.forall_mem_cons.mpr ⟨lw_p15, fun _ h => absurd h List.not_mem_nil⟩⟩⟩⟩⟩⟩⟩⟩⟩⟩⟩⟩⟩⟩⟩⟩
theorem lw_p16 : lw_okq (⟨"GemPitsModel", "word", "()V"⟩, 31) := ⟨⟨by decide +kernel, by decide +kernel⟩, List.mem_of_getElem? (i := 1062) (by decide +kernel), List.mem_of_getElem? (i := 1186) (by decide +kernel), List.mem_of_getElem? (i := 1187) (by decide +kernel)⟩
theorem lw_p17 : lw_okq (⟨"GemPitsModel", "blanks", "()V"⟩, 31) := ⟨⟨by decide +kernel, by decide +kernel⟩, List.mem_of_getElem? (i := 1062) (by decide +kernel), List.mem_of_getElem? (i := 1190) (by decide +kernel), List.mem_of_getElem? (i := 1191) (by decide +kernel)⟩
theorem lw_p18 : lw_okq (⟨"GemPitsModel", "isAt", "(II)Z"⟩, 31) := ⟨⟨by decide +kernel, by decide +kernel⟩, List.mem_of_getElem? (i := 1062) (by decide +kernel), List.mem_of_getElem? (i := 1194) (by decide +kernel), List.mem_of_getElem? (i := 1195) (by decide +kernel)⟩
theorem lw_p19 : lw_okq (⟨"GemPitsModel", "isWord", "(Ljava/lang/String;)Z"⟩, 31) := ⟨⟨by decide +kernel, by decide +kernel⟩, List.mem_of_getElem? (i := 1062) (by decide +kernel), List.mem_of_getElem? (i := 1199) (by decide +kernel), List.mem_of_getElem? (i := 1200) (by decide +kernel)⟩
theorem lw_p20 : lw_okq (⟨"GemPitsModel", "number", "(III)Z"⟩, 31) := ⟨⟨by decide +kernel, by decide +kernel⟩, List.mem_of_getElem? (i := 1062) (by decide +kernel), List.mem_of_getElem? (i := 1205) (by decide +kernel), List.mem_of_getElem? (i := 1206) (by decide +kernel)⟩
theorem lw_p21 : lw_okq (⟨"GemPitsModel", "readPart", "()Z"⟩, 31) := ⟨⟨by decide +kernel, by decide +kernel⟩, List.mem_of_getElem? (i := 1062) (by decide +kernel), List.mem_of_getElem? (i := 1212) (by decide +kernel), List.mem_of_getElem? (i := 1213) (by decide +kernel)⟩
theorem lw_p22 : lw_okq (⟨"GemPitsModel", "throwsIf", "(ZI)Z"⟩, 31) := ⟨⟨by decide +kernel, by decide +kernel⟩, List.mem_of_getElem? (i := 1062) (by decide +kernel), List.mem_of_getElem? (i := 1225) (by decide +kernel), List.mem_of_getElem? (i := 1226) (by decide +kernel)⟩
theorem lw_p23 : lw_okq (⟨"GemPitsModel", "mayBeSunk", "(I)Z"⟩, 31) := ⟨⟨by decide +kernel, by decide +kernel⟩, List.mem_of_getElem? (i := 1062) (by decide +kernel), List.mem_of_getElem? (i := 1251) (by decide +kernel), List.mem_of_getElem? (i := 1252) (by decide +kernel)⟩
theorem lw_p24 : lw_okq (⟨"GemPitsModel", "noPit", "(I)Z"⟩, 31) := ⟨⟨by decide +kernel, by decide +kernel⟩, List.mem_of_getElem? (i := 1062) (by decide +kernel), List.mem_of_getElem? (i := 1264) (by decide +kernel), List.mem_of_getElem? (i := 1265) (by decide +kernel)⟩
theorem lw_p25 : lw_okq (⟨"GemPitsModel", "low", "(I)I"⟩, 31) := ⟨⟨by decide +kernel, by decide +kernel⟩, List.mem_of_getElem? (i := 1062) (by decide +kernel), List.mem_of_getElem? (i := 1281) (by decide +kernel), List.mem_of_getElem? (i := 1282) (by decide +kernel)⟩
theorem lw_p26 : lw_okq (⟨"GemPitsModel", "high", "(I)I"⟩, 31) := ⟨⟨by decide +kernel, by decide +kernel⟩, List.mem_of_getElem? (i := 1062) (by decide +kernel), List.mem_of_getElem? (i := 1285) (by decide +kernel), List.mem_of_getElem? (i := 1286) (by decide +kernel)⟩
theorem lw_p27 : lw_okq (⟨"GemPitsModel", "bondOf", "(I)I"⟩, 31) := ⟨⟨by decide +kernel, by decide +kernel⟩, List.mem_of_getElem? (i := 1062) (by decide +kernel), List.mem_of_getElem? (i := 1297) (by decide +kernel), List.mem_of_getElem? (i := 1298) (by decide +kernel)⟩
theorem lw_p28 : lw_okq (⟨"GemPitsModel", "noStone", "(I)Z"⟩, 31) := ⟨⟨by decide +kernel, by decide +kernel⟩, List.mem_of_getElem? (i := 1062) (by decide +kernel), List.mem_of_getElem? (i := 1314) (by decide +kernel), List.mem_of_getElem? (i := 1315) (by decide +kernel)⟩
theorem lw_p29 : lw_okq (⟨"GemPitsModel", "parts", "(II)V"⟩, 31) := ⟨⟨by decide +kernel, by decide +kernel⟩, List.mem_of_getElem? (i := 1062) (by decide +kernel), List.mem_of_getElem? (i := 1323) (by decide +kernel), List.mem_of_getElem? (i := 1324) (by decide +kernel)⟩
theorem lw_p30 : lw_okq (⟨"GemPitsModel", "weighs", "()V"⟩, 31) := ⟨⟨by decide +kernel, by decide +kernel⟩, List.mem_of_getElem? (i := 1062) (by decide +kernel), List.mem_of_getElem? (i := 1343) (by decide +kernel), List.mem_of_getElem? (i := 1344) (by decide +kernel)⟩
theorem lw_p31 : lw_okq (⟨"GemPitsModel", "isClear", "(IIII)Z"⟩, 31) := ⟨⟨by decide +kernel, by decide +kernel⟩, List.mem_of_getElem? (i := 1062) (by decide +kernel), List.mem_of_getElem? (i := 1350) (by decide +kernel), List.mem_of_getElem? (i := 1351) (by decide +kernel)⟩
def lw_privs_2 : List (MethodName × Nat) := [(⟨"GemPitsModel", "word", "()V"⟩, 31), (⟨"GemPitsModel", "blanks", "()V"⟩, 31), (⟨"GemPitsModel", "isAt", "(II)Z"⟩, 31), (⟨"GemPitsModel", "isWord", "(Ljava/lang/String;)Z"⟩, 31), (⟨"GemPitsModel", "number", "(III)Z"⟩, 31), (⟨"GemPitsModel", "readPart", "()Z"⟩, 31), (⟨"GemPitsModel", "throwsIf", "(ZI)Z"⟩, 31), (⟨"GemPitsModel", "mayBeSunk", "(I)Z"⟩, 31), (⟨"GemPitsModel", "noPit", "(I)Z"⟩, 31), (⟨"GemPitsModel", "low", "(I)I"⟩, 31), (⟨"GemPitsModel", "high", "(I)I"⟩, 31), (⟨"GemPitsModel", "bondOf", "(I)I"⟩, 31), (⟨"GemPitsModel", "noStone", "(I)Z"⟩, 31), (⟨"GemPitsModel", "parts", "(II)V"⟩, 31), (⟨"GemPitsModel", "weighs", "()V"⟩, 31), (⟨"GemPitsModel", "isClear", "(IIII)Z"⟩, 31)]
theorem lw_r2 : ∀ q ∈ lw_privs_2, lw_okq q := List.forall_mem_cons.mpr ⟨lw_p16, List.forall_mem_cons.mpr ⟨lw_p17, List.forall_mem_cons.mpr ⟨lw_p18, List.forall_mem_cons.mpr ⟨lw_p19, List.forall_mem_cons.mpr ⟨lw_p20, List.forall_mem_cons.mpr ⟨lw_p21, List.forall_mem_cons.mpr ⟨lw_p22, List.forall_mem_cons.mpr ⟨lw_p23, List.forall_mem_cons.mpr ⟨lw_p24, List.forall_mem_cons.mpr ⟨lw_p25, List.forall_mem_cons.mpr ⟨lw_p26, List.forall_mem_cons.mpr ⟨lw_p27, List.forall_mem_cons.mpr ⟨lw_p28, List.forall_mem_cons.mpr ⟨lw_p29, List.forall_mem_cons.mpr ⟨lw_p30, List.forall_mem_cons.mpr ⟨lw_p31, fun _ h => absurd h List.not_mem_nil⟩⟩⟩⟩⟩⟩⟩⟩⟩⟩⟩⟩⟩⟩⟩⟩
theorem lw_p32 : lw_okq (⟨"GemPitsModel", "better", "(III)V"⟩, 31) := ⟨⟨by decide +kernel, by decide +kernel⟩, List.mem_of_getElem? (i := 1062) (by decide +kernel), List.mem_of_getElem? (i := 1354) (by decide +kernel), List.mem_of_getElem? (i := 1355) (by decide +kernel)⟩
def lw_privs_3 : List (MethodName × Nat) := [(⟨"GemPitsModel", "better", "(III)V"⟩, 31)]
theorem lw_r3 : ∀ q ∈ lw_privs_3, lw_okq q := List.forall_mem_cons.mpr ⟨lw_p32, fun _ h => absurd h List.not_mem_nil⟩
def lw_privs : List (MethodName × Nat) := lw_privs_1 ++ (lw_privs_2 ++ (lw_privs_3))
def lw_tbl : List Cond := k2_sels lw_privs ++ tables_1
theorem lw_privs_ok : ∀ q ∈ lw_privs, lw_okq q := by
  show ∀ q ∈ lw_privs_1 ++ (lw_privs_2 ++ (lw_privs_3)), lw_okq q
  exact List.forall_mem_append.mpr ⟨lw_r1, List.forall_mem_append.mpr ⟨lw_r2, lw_r3⟩⟩
/-- the good words of the tables: what every method is told -/
def GW : List Cond := lw_tbl.filter goodWord
theorem gwm {w : Cond} (i : Nat) (h : lw_tbl[i]? = some w) (g : goodWord w = true) : w ∈ GW := List.mem_filter.mpr ⟨List.mem_of_getElem? h, g⟩
theorem gw_good {w : Cond} (h : w ∈ GW) : w ∈ GW ∧ ((w.onTables && w.keeps) = true ∨ ∃ ty, w = .arrayClass ty) := ⟨h, good_of_word (List.mem_filter.mp h).2⟩
theorem gw_tbl {w : Cond} (h : w ∈ GW) : w ∈ lw_tbl := (List.mem_filter.mp h).1
end
section
/-! ===== BEGIN words of one list among another's, by their places ===== -/
theorem goodIn_r {big : List Cond} (ws : List Cond) (ps : List Nat) (hp : ws = ps.filterMap (fun i => big[i]?)) (h : ws.all goodWord = true) : GoodIn big ws := by
  intro w hw
  have h1 := List.all_eq_true.mp h w hw
  rw [hp] at hw
  obtain ⟨i, -, hi⟩ := List.mem_filterMap.mp hw
  have hm : w ∈ big := by first | exact List.mem_of_getElem? hi | exact List.getElem?_mem hi
  exact ⟨hm, good_of_word h1⟩
theorem goodIn_app {big a b : List Cond} (ha : GoodIn big a) (hb : GoodIn big b) : GoodIn big (a ++ b) := fun w h => (List.mem_append.mp h).elim (ha w) (hb w)
theorem goodIn_ca {big a b : List Cond} {c : Cond} (ha : GoodIn big (c :: a)) (hb : GoodIn big b) : GoodIn big (c :: (a ++ b)) := fun w h => (List.mem_cons.mp h).elim (fun e => ha w (List.mem_cons.mpr (Or.inl e))) (fun h => (List.mem_append.mp h).elim (fun h => ha w (List.mem_cons.mpr (Or.inr h))) (hb w))
theorem goodIn_sub {big ws : List Cond} (hm : ∀ w ∈ ws, w ∈ big) (h : ws.all goodWord = true) : GoodIn big ws := fun w hw => ⟨hm w hw, good_of_word (List.all_eq_true.mp h w hw)⟩
/-! ===== END ===== -/

/-! ===== BEGIN exceptions that leave a method, and their catching by the caller (launches without stack traces) ===== -/
section VXA
/-! The laws vx_back, vx_callV, vx_callS, vx_callSW, vx_throw0, vx_throwS follow proofs of the library, with one case more: JvmDerived/Free/Laws.lean (Back.of_free), Shelf42/LK1.lean (callV, callS), Shelf/KitTraced.lean (throwNew0V, throwNewS). -/
/-- where a method has thrown q: the class by its name, the cell, what was written, the world -/
def vx_T (XC : String → State → State → Prop) (st : State) (q : Addr) (t : State) (mc ms : Nat) (free : Addr → Prop) : Prop :=
  ∃ (E : String) (ce : Cell) (L : List Loc), XC E st t ∧ t.heap[q]? = some ce ∧ ce.vm = .none ∧ st.vm.findClass E = some ce.cls ∧ st.WarmedH t.vm ∧ st.sameButNew ({ t with vm := st.vm } : State) L mc ms ∧ ∀ z ∈ L, free z.base
def vx_Q (Qc : Array Value → State → Outcome → State → Prop) (XC : String → State → State → Prop) (mc ms : Nat) (free : Addr → Prop) : Array Value → State → Outcome → State → Prop := fun a st o t =>
  (Qc a st o t ∧ ∃ L, FrameEnd st o t L mc ms ∧ ∀ q ∈ L, free q.base) ∨ ∃ q, o = .threw q ∧ vx_T XC st q t mc ms free
/-- a callee that returns or throws -/
def vx_Met (l : Launch) (y : MethodName) (ws : List Cond) (rm : Room) (Pc : Array Value → State → Prop) (Qc : Array Value → State → Outcome → State → Prop) (XC : String → State → State → Prop) (mc ms : Nat) (free : Addr → Prop) : Prop :=
  MetFree l y (headSpec ws rm) Pc (fun _ _ _ _ _ => True) (vx_Q Qc XC mc ms free)
def vx_Post (XC : String → State → State → Prop) (mc ms : Nat) (free : Addr → Prop) : Pt → Array Value → Addr → Pt → Prop := fun A a q B =>
  ∃ (g : JFrame) (mk : MethodId) (t : State) (L : List Loc) (E : String) (ce : Cell), B.U.heap = t.heap ∧ B.U.vm = t.vm ∧ XC E (A.U.calling g mk a) t ∧ t.heap[q]? = some ce ∧ ce.vm = .none ∧ A.U.vm.findClass E = some ce.cls ∧ B.locs = A.locs ++ L ∧ (∀ z ∈ L, free z.base) ∧ B.cells = A.cells + mc ∧ B.slots = A.slots + ms
def vx_Back (l : Launch) (R : Room) (p : Program) (e : Env) (below : List Frame) (s : State) (sargs : Array Value) (y : MethodName) (len W9 : Nat)
    (Pre : Pt → Array Value → Prop) (Post : Pt → Array Value → Option Value → Pt → Prop) (PostX : Pt → Array Value → Addr → Pt → Prop) : Prop :=
  ∀ (m : MethodId) (meth : Method) (c : Code) (A : Pt) (g : JFrame) (ig : Instr) (mk : MethodId) (a : Array Value),
    Stand p l e R s m sargs below meth c A.U A.locs A.cells A.slots → g.method = m → g.locals.size = c.maxLocals → decode c.code g.pc = .ok (ig, len) →
    2 * g.monitorRoom + (g.stack.map fun v => v.category).sum ≤ W9 → A.U.methodNamed? y = some mk → Pre A a →
    (∃ (v : Option Value) (B : Pt), Stand p l e R s m sargs below meth c B.U B.locs B.cells B.slots ∧ Post A a v B ∧
      Steps p.tables e below (doInvoke e (A.U.setTop g) [] mk a).1 (B.U.setTop { g with pc := g.pc + len, stack := v.toList ++ g.stack })) ∨
    (∃ (q : Addr) (B : Pt), Stand p l e R s m sargs below meth c B.U B.locs B.cells B.slots ∧ PostX A a q B ∧
      Steps p.tables e below (doInvoke e (A.U.setTop g) [] mk a).1 ((B.U.setTop g).pushFrame (.throwing q)))
section Payer
variable {l : Launch} {R : Room} {p : Program} {e : Env} {below : List Frame} {s : State} {sargs : Array Value} {y : MethodName} {len W9 : Nat}
theorem vx_back {ws : List Cond} {rm : Room} {Pc : Array Value → State → Prop} {Qc : Array Value → State → Outcome → State → Prop} {XC : String → State → State → Prop} {mc ms : Nat} {free : Addr → Prop} {bytes : ByteArray} {maxL : Nat} {ret : Option FieldType}
    (hM : vx_Met l y ws rm Pc Qc XC mc ms free) (hblind : FrameBlind Pc) (hrc : rm.cells = mc) (hrs : rm.slots = ms)
    (hframes : rm.frames + 1 ≤ R.frames) (hlocals : W9 + (maxL + 11) + rm.locals ≤ R.locals)
    (hws : ∀ w ∈ ws, ∀ a' U, s.WarmedH U.vm → w.before a' U = true) (hcode : Cond.code y bytes maxL ret ∈ ws) (hinit : ∀ a' U, s.WarmedH U.vm → (Cond.initialized y.cls).before a' U = true) :
    vx_Back l R p e below s sargs y len W9 (PreOf R mc ms Pc) (PostOf Qc mc ms free) (vx_Post XC mc ms free) := by
  intro m meth c A g ig mk a X hg hsize hdg hW hn hp
  have h1 : (headSpec ws rm).pre.before a A.U = true := atoms_intro fun w hw => hws w hw _ _ X.warmed
  have h2 : (Cond.code y bytes maxL ret).before a A.U = true := hws _ hcode _ _ X.warmed
  have h3 : (Cond.initialized y.cls).before a A.U = true := hinit _ _ X.warmed
  have h4 : A.cells + (headSpec ws rm).room.cells ≤ R.cells := by rw [show (headSpec ws rm).room.cells = mc from hrc]; exact hp.1
  have h5 : A.slots + (headSpec ws rm).room.slots ≤ R.slots := by rw [show (headSpec ws rm).room.slots = ms from hrs]; exact hp.2.1
  have hPc : Pc a (A.U.calling g mk a) := hblind _ _ _ _ hp.2.2
  obtain ⟨U, Ls, c0, s0⟩ := A
  dsimp only [Pt.U, Pt.locs, Pt.cells, Pt.slots] at h1 h2 h3 h4 h5 X hn hPc ⊢
  obtain ⟨methY, cY, hmY, hcY, -, hlY, -, -, -, -⟩ := Cond.code_spec hn h2
  obtain ⟨kY, hkY, -⟩ := className_of_methodNamed hn
  have hinitY : kY.init = .initialized := Cond.initialized_spec (findClass_of_methodNamed hn) hkY h3
  have h : At U g.method c below := by rw [hg]; exact X.here
  have hlocals9 : W9 + (maxL + 11) + (headSpec ws rm).room.locals ≤ R.locals := hlocals
  have happ : (headSpec ws rm).appliesLoose y e.platform (U.calling g mk a) = true :=
    Spec.appliesLoose_calling (g := g) h hdg hn hkY hinitY
      (X.room_calling (g := g) (R' := (headSpec ws rm).room) hsize hmY hcY hframes (by rw [hlY]; omega) h4 h5) h1
  obtain ⟨mid, hmid⟩ := h.above
  have hfr : (U.setTop g).frames = (.java g :: mid) ++ below := by rw [State.frames_setTop' g h.top, hmid]; rfl
  obtain ⟨o, s₂, hsteps, -, hend, hq⟩ := Steps.callFree hM p X.admits X.cas X.clock (acts := []) hfr happ hPc trivial
  have hq' : vx_Q Qc XC mc ms free a (U.calling g mk a) o s₂ := hq
  rw [State.frames_setTop' g h.top] at hend
  obtain ⟨g₀, hg0⟩ := Option.isSome_iff_exists.mp h.top
  obtain ⟨r, hr⟩ := State.topJava?_eq_some.mp hg0
  have hr' : (({ U with heap := s₂.heap, slotsUsed := s₂.slotsUsed } : State).setVm s₂.vm).frames = .java g₀ :: r := hr
  rcases hq' with ⟨hqc, L, hfe, hL⟩ | ⟨q, rfl, E, ce, L, hx, hce, hcv, hcl, hW₂, hsm, hL⟩
  · obtain ⟨⟨v, rfl⟩, hW₂, e2, q2, q3, q4, q5, q6⟩ := id hfe
    have e3 : s₂ = ({ (U.calling g mk a).setFrames s₂.frames with heap := s₂.heap, slotsUsed := s₂.slotsUsed } : State).setVm s₂.vm := by
      have : s₂ = ({ s₂ with vm := (U.calling g mk a).vm } : State).setVm s₂.vm := rfl
      rw [e2] at this
      exact this
    obtain ⟨c₂, i₂, len₂, hc₂, hd₂, hf₂⟩ := hend
    have hW' : U.WarmedH s₂.vm := hW₂
    have hcc : c₂ = c := by
      have h1 : s₂.code? g.method = U.code? g.method := by
        rw [State.code?_eq, State.code?_eq, hW'.alike.method?]
      exact Option.some.inj (hc₂.symm.trans (h1.trans h.code))
    subst hcc
    have hlen : len₂ = len := by rw [hdg] at hd₂; cases hd₂; rfl
    subst hlen
    have hs₂ : s₂ = (({ U with heap := s₂.heap, slotsUsed := s₂.slotsUsed } : State).setVm s₂.vm).setTop { g with pc := g.pc + len₂, stack := v.toList ++ g.stack } := by
      refine e3.trans ?_
      rw [hf₂, State.calling_eq h.top, State.setFrames_setFrames, State.setTop_of_frames _ hr', hr]
      rfl
    have hsame : U.sameButNew ({ U with heap := s₂.heap, slotsUsed := s₂.slotsUsed } : State) L mc ms := by
      refine ⟨?_, q2, q3, q4, q5, q6⟩
      obtain ⟨t, ht, -⟩ := State.frames_cons hr
      show ({ U with heap := s₂.heap, slotsUsed := s₂.slotsUsed } : State) = { U.setFrames U.frames with heap := s₂.heap, slotsUsed := s₂.slotsUsed }
      rw [State.setFrames_self ht]
    subst hg
    refine Or.inl ⟨v, ⟨(({ U with heap := s₂.heap, slotsUsed := s₂.slotsUsed } : State).setVm s₂.vm), Ls ++ L, c0 + mc, s0 + ms⟩,
      ⟨X.admits, X.cas, X.clock, X.frames, X.room, X.hears, X.method, X.code, (X.here.setHeapUsed s₂.heap s₂.slotsUsed).setVm hW'.alike, X.tail, State.WarmedH.trans X.warmed hW', X.limits, X.bytes, X.same.trans (hsame.setVm s.vm)⟩,
      ⟨g, mk, s₂, L, rfl, rfl, hqc, rfl, hL, rfl, rfl⟩, ?_⟩
    show Steps p.tables e below _ ((({ U with heap := s₂.heap, slotsUsed := s₂.slotsUsed } : State).setVm s₂.vm).setTop { g with pc := g.pc + len₂, stack := v.toList ++ g.stack })
    rw [← hs₂]
    exact hsteps
  · obtain ⟨e2, q2, q3, q4, q5, q6⟩ := id hsm
    have e3 : s₂ = ({ (U.calling g mk a).setFrames s₂.frames with heap := s₂.heap, slotsUsed := s₂.slotsUsed } : State).setVm s₂.vm := by
      have : s₂ = ({ s₂ with vm := (U.calling g mk a).vm } : State).setVm s₂.vm := rfl
      rw [e2] at this
      exact this
    have hf₂ : s₂.frames = .throwing q :: .java g :: U.frames.tail := hend
    have hW' : U.WarmedH s₂.vm := hW₂
    have hs₂ : s₂ = ((({ U with heap := s₂.heap, slotsUsed := s₂.slotsUsed } : State).setVm s₂.vm).setTop g).pushFrame (.throwing q) := by
      refine e3.trans ?_
      rw [hf₂, State.calling_eq h.top, State.setFrames_setFrames, State.pushFrame, State.frames_setTop _ hr', State.setTop_of_frames _ hr', State.setFrames_setFrames, hr]
      rfl
    have hsame : U.sameButNew ({ U with heap := s₂.heap, slotsUsed := s₂.slotsUsed } : State) L mc ms := by
      refine ⟨?_, q2, q3, q4, q5, q6⟩
      obtain ⟨t, ht, -⟩ := State.frames_cons hr
      show ({ U with heap := s₂.heap, slotsUsed := s₂.slotsUsed } : State) = { U.setFrames U.frames with heap := s₂.heap, slotsUsed := s₂.slotsUsed }
      rw [State.setFrames_self ht]
    subst hg
    refine Or.inr ⟨q, ⟨(({ U with heap := s₂.heap, slotsUsed := s₂.slotsUsed } : State).setVm s₂.vm), Ls ++ L, c0 + mc, s0 + ms⟩,
      ⟨X.admits, X.cas, X.clock, X.frames, X.room, X.hears, X.method, X.code, (X.here.setHeapUsed s₂.heap s₂.slotsUsed).setVm hW'.alike, X.tail, State.WarmedH.trans X.warmed hW', X.limits, X.bytes, X.same.trans (hsame.setVm s.vm)⟩,
      ⟨g, mk, s₂, L, E, ce, rfl, rfl, hx, hce, hcv, hcl, rfl, hL, rfl, rfl⟩, ?_⟩
    show Steps p.tables e below _ (((({ U with heap := s₂.heap, slotsUsed := s₂.slotsUsed } : State).setVm s₂.vm).setTop g).pushFrame (.throwing q))
    rw [← hs₂]
    exact hsteps
end Payer
section Calls
variable {p : Program} {l : Launch} {e : Env} {R : Room} {s : State} {m : MethodId} {args : Array Value} {below : List Frame} {meth : Method} {c : Code} {T : State} {locs : List Loc} {cells slots : Nat}
theorem vx_callV (X : Stand p l e R s m args below meth c T locs cells slots) (hexec : p.tables.exec = Jvm.exec) {own C : String} {index : Nat} {y : MethodName} {bytes : ByteArray} {maxL : Nat} {ret : Option FieldType}
    (hown : s.vm.findClass own = some m.cls) (hlink : (Cond.methodLink own index y).before args s = true) (hinst : (Cond.instanceMethod y).before args s = true) (hsel : (Cond.selects C y y).before args s = true)
    (hcode : (Cond.code y bytes maxL ret).before args s = true) (hy : y.cls ≠ "java/lang/invoke/MethodHandle" ∧ y.cls ≠ "java/lang/invoke/VarHandle")
    {W9 : Nat} {Pre : Pt → Array Value → Prop} {Post : Pt → Array Value → Option Value → Pt → Prop} {PostX : Pt → Array Value → Addr → Pt → Prop} (hK : vx_Back l R p e below s args y 3 W9 Pre Post PostX)
    {b : Addr} {cellB : Cell} (hcell : T.heap[b]? = some cellB) (hobj : cellB.vm.isStatics = false) (hcls : s.vm.findClass C = some cellB.cls)
    {g : JFrame} (hg : g.method = m) (hsize : g.locals.size = c.maxLocals) {argsL rest : List Value} (hlen : ∀ sig, parseMethodDescriptor y.desc = some sig → argsL.length = sig.parameters.length)
    (hstack : g.stack = argsL.reverse ++ .ref b :: rest) (hW : 2 * g.monitorRoom + (rest.map fun v => v.category).sum ≤ W9) (hdg : decode c.code g.pc = .ok (.invokevirtual index, 3))
    (hpre : ∀ vm₁, s.WarmedH vm₁ → Pre ⟨T.setVm vm₁, locs, cells, slots⟩ (Value.ref b :: argsL).toArray) :
    (∃ (v : Option Value) (vm₁ : Vm) (B : Pt), s.WarmedH vm₁ ∧ Stand p l e R s m args below meth c B.U B.locs B.cells B.slots ∧ Post ⟨T.setVm vm₁, locs, cells, slots⟩ (Value.ref b :: argsL).toArray v B ∧
      ∀ target, Steps p.tables e below (B.U.setTop { g with pc := g.pc + 3, stack := v.toList ++ rest }) target → Steps p.tables e below (T.setTop g) target) ∨
    (∃ (q : Addr) (vm₁ : Vm) (B : Pt), s.WarmedH vm₁ ∧ Stand p l e R s m args below meth c B.U B.locs B.cells B.slots ∧ PostX ⟨T.setVm vm₁, locs, cells, slots⟩ (Value.ref b :: argsL).toArray q B ∧
      Steps p.tables e below (T.setTop g) ((B.U.setTop { g with stack := rest }).pushFrame (.throwing q))) := by
  obtain ⟨mk, methM, hnamed, hmethM, hstM, habM⟩ := Cond.instanceMethod_spec hinst
  obtain ⟨methM', cM, hmethM', -, -, -, -, -, -, hsigM⟩ := Cond.code_spec hnamed hcode
  cases hmethM.symm.trans hmethM'
  obtain ⟨c2, r2, m2, q1, q2, q3, q4, kP, hkP, hkPi⟩ := Cond.selects_spec hsel
  cases hcls.symm.trans q1
  cases (State.methodFound?_of_named hnamed hy).symm.trans q2
  cases hnamed.symm.trans q3
  have hselP : selectMethod e.platform s.vm cellB.cls mk = .method mk := by rw [Launch.admits_selectMethod X.admits]; exact q4
  obtain ⟨vm₁, X₁, hstep₁⟩ := X.invokevirtual hexec hown hlink hnamed hmethM hstM hkP hkPi hy (a := b) (cell := cellB) hcell
    (fun z h => by rw [h] at hobj; cases hobj) hselP hmethM habM hkP hkPi (g := g) hg (argsL := argsL) (rest := rest) (hlen _ hsigM) hstack hdg
  rcases hK m meth c ⟨T.setVm vm₁, locs, cells, slots⟩ { g with stack := rest } (.invokevirtual index) mk (Value.ref b :: argsL).toArray X₁ hg hsize hdg hW (X₁.named hnamed) (hpre vm₁ X₁.warmed) with ⟨v, B, X', hpost, hsteps⟩ | ⟨q, B, X', hpost, hsteps⟩
  · exact Or.inl ⟨v, vm₁, B, X₁.warmed, X', hpost, fun target h => hstep₁ _ fun acts => by rw [doInvoke_state]; exact hsteps.trans h⟩
  · exact Or.inr ⟨q, vm₁, B, X₁.warmed, X', hpost, hstep₁ _ fun acts => by rw [doInvoke_state]; exact hsteps⟩
theorem vx_callS (X : Stand p l e R s m args below meth c T locs cells slots) (hexec : p.tables.exec = Jvm.exec) {own : String} {index : Nat} {y : MethodName} {bytes : ByteArray} {maxL : Nat} {ret : Option FieldType}
    (hown : s.vm.findClass own = some m.cls) (hlink : (Cond.methodLink own index y).before args s = true) (hstat : (Cond.static y).before args s = true) (hinit : (Cond.initialized y.cls).before args s = true)
    (hcode : (Cond.code y bytes maxL ret).before args s = true) (hy : y.cls ≠ "java/lang/invoke/MethodHandle" ∧ y.cls ≠ "java/lang/invoke/VarHandle")
    {W9 : Nat} {Pre : Pt → Array Value → Prop} {Post : Pt → Array Value → Option Value → Pt → Prop} {PostX : Pt → Array Value → Addr → Pt → Prop} (hK : vx_Back l R p e below s args y 3 W9 Pre Post PostX)
    {g : JFrame} (hg : g.method = m) (hsize : g.locals.size = c.maxLocals) {argsL rest : List Value} (hlen : ∀ sig, parseMethodDescriptor y.desc = some sig → argsL.length = sig.parameters.length)
    (hstack : g.stack = argsL.reverse ++ rest) (hW : 2 * g.monitorRoom + (rest.map fun v => v.category).sum ≤ W9) (hdg : decode c.code g.pc = .ok (.invokestatic index, 3))
    (hpre : ∀ vm₁, s.WarmedH vm₁ → Pre ⟨T.setVm vm₁, locs, cells, slots⟩ argsL.toArray) :
    (∃ (v : Option Value) (vm₁ : Vm) (B : Pt), s.WarmedH vm₁ ∧ Stand p l e R s m args below meth c B.U B.locs B.cells B.slots ∧ Post ⟨T.setVm vm₁, locs, cells, slots⟩ argsL.toArray v B ∧
      ∀ target, Steps p.tables e below (B.U.setTop { g with pc := g.pc + 3, stack := v.toList ++ rest }) target → Steps p.tables e below (T.setTop g) target) ∨
    (∃ (q : Addr) (vm₁ : Vm) (B : Pt), s.WarmedH vm₁ ∧ Stand p l e R s m args below meth c B.U B.locs B.cells B.slots ∧ PostX ⟨T.setVm vm₁, locs, cells, slots⟩ argsL.toArray q B ∧
      Steps p.tables e below (T.setTop g) ((B.U.setTop { g with stack := rest }).pushFrame (.throwing q))) := by
  obtain ⟨mk, hnamed⟩ := Cond.code_named hcode
  obtain ⟨methM, cM, hmethM, -, -, -, -, -, -, hsigM⟩ := Cond.code_spec hnamed hcode
  have hstatic : methM.isStatic = true := Cond.static_spec hnamed hmethM hstat
  obtain ⟨kP, hkP, -⟩ := className_of_methodNamed hnamed
  have hinitP : kP.init = .initialized := Cond.initialized_spec (findClass_of_methodNamed hnamed) hkP hinit
  obtain ⟨vm₁, X₁, hstep₁⟩ := X.invokestatic hexec hown hlink hnamed hmethM hstatic hkP hinitP hy (g := g) hg (argsL := argsL) (rest := rest) (hlen _ hsigM) hstack hdg
  rcases hK m meth c ⟨T.setVm vm₁, locs, cells, slots⟩ { g with stack := rest } (.invokestatic index) mk argsL.toArray X₁ hg hsize hdg hW (X₁.named hnamed) (hpre vm₁ X₁.warmed) with ⟨v, B, X', hpost, hsteps⟩ | ⟨q, B, X', hpost, hsteps⟩
  · exact Or.inl ⟨v, vm₁, B, X₁.warmed, X', hpost, fun target h => hstep₁ _ fun acts => by rw [doInvoke_state]; exact hsteps.trans h⟩
  · exact Or.inr ⟨q, vm₁, B, X₁.warmed, X', hpost, hstep₁ _ fun acts => by rw [doInvoke_state]; exact hsteps⟩
end Calls
theorem vx_cls {s : State} {T : State} {vm₁ : Vm} {E : String} {k : ClassId} (hW : s.WarmedH vm₁) (h : (T.setVm vm₁).vm.findClass E = some k) : s.vm.findClass E = some k := by
  have h1 : vm₁.findClass E = some k := h
  rw [hW.alike.findClass] at h1
  exact h1
/-- the method's frame g, with q thrown over it -/
def vx_W (p : Program) (l : Launch) (e : Env) (R : Room) (s : State) (m : MethodId) (args : Array Value) (below : List Frame) (meth : Method) (c : Code) (H : Heap) (locs : List Loc) (cells slots : Nat) (Q : State → Prop) (g : JFrame) (q : Addr) : Prop :=
  ∀ T : State, T.heap = H → Stand p l e R s m args below meth c T locs cells slots → ∃ t, Steps p.tables e below ((T.setTop g).pushFrame (.throwing q)) t ∧ Q t
def vx_Run (p : Program) (l : Launch) (e : Env) (R : Room) (s : State) (m : MethodId) (args : Array Value) (below : List Frame) (meth : Method) (c : Code) (H : Heap) (locs : List Loc) (cells slots mc ms : Nat) (g : JFrame) (rest : List Value) (Qa : State → Outcome → State → Prop) (XC : String → State → State → Prop) (free : Addr → Prop) : Prop :=
  ∀ T : State, T.heap = H → Stand p l e R s m args below meth c T locs cells slots →
    (∃ (v : Option Value) (st₀ t T' : State) (L : List Loc), st₀.heap = H ∧ Stand p l e R s m args below meth c T' (locs ++ L) (cells + mc) (slots + ms) ∧ (∀ q ∈ L, free q.base) ∧ T'.heap = t.heap ∧ T'.vm = t.vm ∧ Qa st₀ (.returned v) t ∧
      Goes p e below T g T' { g with pc := g.pc + 3, stack := v.toList ++ rest }) ∨
    (∃ (q : Addr) (st₀ t T' : State) (L : List Loc) (E : String) (ce : Cell), st₀.heap = H ∧ Stand p l e R s m args below meth c T' (locs ++ L) (cells + mc) (slots + ms) ∧ (∀ z ∈ L, free z.base) ∧ T'.heap = t.heap ∧ T'.vm = t.vm ∧ XC E st₀ t ∧ t.heap[q]? = some ce ∧ ce.vm = .none ∧ s.vm.findClass E = some ce.cls ∧
      Steps p.tables e below (T.setTop g) ((T'.setTop { g with stack := rest }).pushFrame (.throwing q)))
def vx_X {S : Type} (px : S → Prop) (B : String → S → State → Prop) (A : Nat → Prop) : String → State → State → Prop := fun E st t => ∃ u : S, px u ∧ B E u t ∧ va_F A st t
section Runs
variable {p : Program} {l : Launch} {e : Env} {R : Room} {s : State} {m : MethodId} {args : Array Value} {below : List Frame} {meth : Method} {c : Code} {H : Heap} {locs : List Loc} {cells slots : Nat}
variable {y : MethodName} {bytes cc : ByteArray} {maxL nL mc ms n index : Nat} {ret : Option FieldType} {ws : List Cond} {rm : Room} {Pc : Array Value → State → Prop} {Qc : Array Value → State → Outcome → State → Prop} {XC : String → State → State → Prop} {free : Addr → Prop} {Ts : List Cond} {own C : String} {b : Addr} {As rest : List Value} {g : JFrame}
theorem vx_callBack (cb : CallB R s args own index y bytes maxL ret ws rm mc ms n) (hM : vx_Met l y ws rm Pc Qc XC mc ms free) (hbl : FrameBlind Pc) : vx_Back l R p e below s args y 3 8 (PreOf R mc ms Pc) (PostOf Qc mc ms free) (vx_Post XC mc ms free) := by
  obtain ⟨hrc, hrs, hfr, hlo, hws, hcw, -, hini, -⟩ := cb
  exact vx_back (bytes := bytes) (maxL := maxL) (ret := ret) hM hbl hrc hrs hfr hlo hws hcw (fun a' U hW => word_at hW (Or.inl (by first | rfl | simp [Cond.onTables, Cond.keeps, Cond.steady])) hini)
theorem vx_runV (S : CallFix p m c cc nL s args Ts own) (hM : vx_Met l y ws rm Pc Qc XC mc ms free) (cw : CallW R s args own C index y bytes maxL ret ws rm mc ms n) (hp : PreV s H C b Pc As)
    (hg : g.method = m) (hn : As.length = n) (hsize : g.locals.size = nL) (hstack : g.stack = As.reverse ++ .ref b :: rest) (hW : 2 * g.monitorRoom + (rest.map fun v => v.category).sum ≤ 8) (hdg : decode cc g.pc = .ok (.invokevirtual index, 3)) (hf : cells + mc ≤ R.cells ∧ slots + ms ≤ R.slots) :
    vx_Run p l e R s m args below meth c H locs cells slots mc ms g rest (Qc (Value.ref b :: As).toArray) XC free := by
  have hK : vx_Back l R p e below s args y 3 8 (PreOf R mc ms Pc) (PostOf Qc mc ms free) (vx_Post XC mc ms free) := vx_callBack cw.1 hM hp.1
  obtain ⟨⟨-, -, -, -, -, -, hcode, -, hy, hlen, hl⟩, hin, hse⟩ := cw
  obtain ⟨hx, hb, hml, ho, -⟩ := S
  obtain ⟨-, ⟨cellB, hcB, hoB, hclB⟩, hPc⟩ := hp
  intro T hT X
  rcases vx_callV X hx (C := C) (bytes := bytes) (maxL := maxL) (ret := ret) ho hl hin hse hcode hy hK (by rw [hT]; exact hcB) hoB hclB hg (hsize.trans hml.symm) (argsL := As) (rest := rest) (fun sig h => hn.trans (hlen sig h)) hstack hW (by rw [hb]; exact hdg)
    (fun vm₁ hW₁ => ⟨hf.1, hf.2, hPc (T.setVm vm₁) hT hW₁⟩) with ⟨v, vm₁, ⟨U', l2, c2, s2⟩, hW₁, X', ⟨g', mk, t, L, e1, e2, hq, h1, hL, h2, h3⟩, st⟩ | ⟨q, vm₁, ⟨U', l2, c2, s2⟩, hW₁, X', ⟨g', mk, t, L, E, ce, e1, e2, hq, hce, hcv, hcl, h1, hL, h2, h3⟩, st⟩
  · dsimp only [Pt.U, Pt.locs, Pt.cells, Pt.slots] at X' e1 e2 h1 h2 h3 st
    subst h1; subst h2; subst h3
    exact Or.inl ⟨v, (T.setVm vm₁).calling g' mk (Value.ref b :: As).toArray, t, U', L, hT, X', hL, e1, e2, hq, st⟩
  · dsimp only [Pt.U, Pt.locs, Pt.cells, Pt.slots] at X' e1 e2 h1 h2 h3 st hcl
    subst h1; subst h2; subst h3
    exact Or.inr ⟨q, (T.setVm vm₁).calling g' mk (Value.ref b :: As).toArray, t, U', L, E, ce, hT, X', hL, e1, e2, hq, hce, hcv, vx_cls hW₁ hcl, st⟩
theorem vx_runS (S : CallFix p m c cc nL s args Ts own) (hM : vx_Met l y ws rm Pc Qc XC mc ms free) (cw : CallB R s args own index y bytes maxL ret ws rm mc ms n ∧ (Cond.static y).before args s = true) (hp : PreS s H Pc As)
    (hg : g.method = m) (hn : As.length = n) (hsize : g.locals.size = nL) (hstack : g.stack = As.reverse ++ rest) (hW : 2 * g.monitorRoom + (rest.map fun v => v.category).sum ≤ 8) (hdg : decode cc g.pc = .ok (.invokestatic index, 3)) (hf : cells + mc ≤ R.cells ∧ slots + ms ≤ R.slots) :
    vx_Run p l e R s m args below meth c H locs cells slots mc ms g rest (Qc As.toArray) XC free := by
  have hK : vx_Back l R p e below s args y 3 8 (PreOf R mc ms Pc) (PostOf Qc mc ms free) (vx_Post XC mc ms free) := vx_callBack cw.1 hM hp.1
  obtain ⟨⟨-, -, -, -, -, -, hcode, hini, hy, hlen, hl⟩, hstt⟩ := cw
  obtain ⟨hx, hb, hml, ho, -⟩ := S
  intro T hT X
  rcases vx_callS X hx (bytes := bytes) (maxL := maxL) (ret := ret) ho hl hstt hini hcode hy hK hg (hsize.trans hml.symm) (argsL := As) (rest := rest) (fun sig h => hn.trans (hlen sig h)) hstack hW (by rw [hb]; exact hdg)
    (fun vm₁ hW₁ => ⟨hf.1, hf.2, hp.2 (T.setVm vm₁) hT hW₁⟩) with ⟨v, vm₁, ⟨U', l2, c2, s2⟩, hW₁, X', ⟨g', mk, t, L, e1, e2, hq, h1, hL, h2, h3⟩, st⟩ | ⟨q, vm₁, ⟨U', l2, c2, s2⟩, hW₁, X', ⟨g', mk, t, L, E, ce, e1, e2, hq, hce, hcv, hcl, h1, hL, h2, h3⟩, st⟩
  · dsimp only [Pt.U, Pt.locs, Pt.cells, Pt.slots] at X' e1 e2 h1 h2 h3 st
    subst h1; subst h2; subst h3
    exact Or.inl ⟨v, (T.setVm vm₁).calling g' mk As.toArray, t, U', L, hT, X', hL, e1, e2, hq, st⟩
  · dsimp only [Pt.U, Pt.locs, Pt.cells, Pt.slots] at X' e1 e2 h1 h2 h3 st hcl
    subst h1; subst h2; subst h3
    exact Or.inr ⟨q, (T.setVm vm₁).calling g' mk As.toArray, t, U', L, E, ce, hT, X', hL, e1, e2, hq, hce, hcv, vx_cls hW₁ hcl, st⟩
end Runs
section Rows
variable {p : Program} {l : Launch} {e : Env} {R : Room} {s : State} {m : MethodId} {args : Array Value} {below : List Frame} {meth : Method} {c : Code} {H : Heap} {locs : List Loc} {cells slots : Nat} {Q : State → Prop}
variable {mc ms : Nat} {free : Addr → Prop} {A0 A1 : Nat → Prop} {H0 : Heap} {a : Array Value} {pc : Nat} {ls : Array Slot} {st0 rest : List Value}
theorem vx_keep {st₀ t T' : State} {L : List Loc} (h0 : st₀.heap = H) (e1 : T'.heap = t.heap) (hS : va_S A0 H0 H locs) (hA : ∀ q, q < H.size → A1 q → A0 q) (hf : ∀ q, free q → A0 q) (hL : ∀ q ∈ L, free q.base) (hF : va_F A1 st₀ t) :
    H.size ≤ T'.heap.size ∧ (∀ q : Nat, q < H.size → ¬ A1 q → T'.heap[q]? = H[q]?) ∧ va_S A0 H0 T'.heap (locs ++ L) := by
  obtain ⟨hz, hk⟩ := hF
  rw [h0] at hz hk
  exact ⟨by rw [e1]; exact hz, fun q h1 h2 => by rw [e1]; exact hk q h1 h2,
    ⟨Nat.le_trans hS.1 (by rw [e1]; exact hz), fun q h1 h2 => by rw [e1, hk q (Nat.lt_of_lt_of_le h1 hS.1) (fun z => h2 (hA q (Nat.lt_of_lt_of_le h1 hS.1) z))]; exact hS.2.1 q h1 h2, fun q hq => by
      rcases List.mem_append.mp hq with h | h
      · exact hS.2.2 q h
      · exact hf _ (hL q h)⟩⟩
theorem vx_calli {S SX : Type} {post : Int32 → S → Prop} {px : SX → Prop} {B : S → State → Prop} {BX : String → SX → State → Prop} {AX : Nat → Prop} (hr : vx_Run p l e R s m args below meth c H locs cells slots mc ms (F0 m pc ls st0) rest (va_Qi post B A1 a) (vx_X px BX AX) free) (hS : va_S A0 H0 H locs) (hA : ∀ q, q < H.size → A1 q → A0 q) (hf : ∀ q, free q → A0 q) (hAX : ∀ q, q < H.size → AX q → A0 q)
    (kx : ∀ (E : String) (ce : Cell) (q9 : Addr) (u : SX) (t : State) (H1 : Heap) (locs1 : List Loc), t.heap = H1 → s.vm.Alike t.vm → px u → BX E u t → H.size ≤ H1.size → (∀ q : Nat, q < H.size → ¬ AX q → H1[q]? = H[q]?) → va_S A0 H0 H1 locs1 → H1[q9]? = some ce → ce.vm = .none → s.vm.findClass E = some ce.cls → vx_W p l e R s m args below meth c H1 locs1 (cells + mc) (slots + ms) Q (F0 m pc ls rest) q9)
    (kk : ∀ (r : Int32) (u : S) (t : State) (H1 : Heap) (locs1 : List Loc), t.heap = H1 → s.vm.Alike t.vm → post r u → B u t → H.size ≤ H1.size → (∀ q : Nat, q < H.size → ¬ A1 q → H1[q]? = H[q]?) → va_S A0 H0 H1 locs1 → W p l e R s m args below meth c H1 locs1 (cells + mc) (slots + ms) Q (F0 m (pc + 3) ls (.int r :: rest))) : W p l e R s m args below meth c H locs cells slots Q (F0 m pc ls st0) := by
  intro T hT X
  rcases hr T hT X with ⟨v, st₀, t, T', L, h0, X', hL, e1, e2, ⟨⟨r, u, hv, hp, hb⟩, hF⟩, st⟩ | ⟨q, st₀, t, T', L, E, ce, h0, X', hL, e1, e2, ⟨u, hp, hb, hF⟩, hce, hcv, hcl, st⟩
  · cases hv
    obtain ⟨k1, k2, k3⟩ := vx_keep h0 e1 hS hA hf hL hF
    obtain ⟨t2, a1, b1⟩ := kk r u t T'.heap (locs ++ L) e1.symm (by rw [← e2]; exact X'.warmed.alike) hp hb k1 k2 k3 T' rfl X'
    exact ⟨t2, st t2 a1, b1⟩
  · obtain ⟨k1, k2, k3⟩ := vx_keep h0 e1 hS hAX hf hL hF
    obtain ⟨t2, a1, b1⟩ := kx E ce q u t T'.heap (locs ++ L) e1.symm (by rw [← e2]; exact X'.warmed.alike) hp hb k1 k2 k3 (by rw [e1]; exact hce) hcv hcl T' rfl X'
    exact ⟨t2, st.trans a1, b1⟩
theorem vx_calll {S SX : Type} {post : Int64 → S → Prop} {px : SX → Prop} {B : S → State → Prop} {BX : String → SX → State → Prop} {AX : Nat → Prop} (hr : vx_Run p l e R s m args below meth c H locs cells slots mc ms (F0 m pc ls st0) rest (va_Ql post B A1 a) (vx_X px BX AX) free) (hS : va_S A0 H0 H locs) (hA : ∀ q, q < H.size → A1 q → A0 q) (hf : ∀ q, free q → A0 q) (hAX : ∀ q, q < H.size → AX q → A0 q)
    (kx : ∀ (E : String) (ce : Cell) (q9 : Addr) (u : SX) (t : State) (H1 : Heap) (locs1 : List Loc), t.heap = H1 → s.vm.Alike t.vm → px u → BX E u t → H.size ≤ H1.size → (∀ q : Nat, q < H.size → ¬ AX q → H1[q]? = H[q]?) → va_S A0 H0 H1 locs1 → H1[q9]? = some ce → ce.vm = .none → s.vm.findClass E = some ce.cls → vx_W p l e R s m args below meth c H1 locs1 (cells + mc) (slots + ms) Q (F0 m pc ls rest) q9)
    (kk : ∀ (r : Int64) (u : S) (t : State) (H1 : Heap) (locs1 : List Loc), t.heap = H1 → s.vm.Alike t.vm → post r u → B u t → H.size ≤ H1.size → (∀ q : Nat, q < H.size → ¬ A1 q → H1[q]? = H[q]?) → va_S A0 H0 H1 locs1 → W p l e R s m args below meth c H1 locs1 (cells + mc) (slots + ms) Q (F0 m (pc + 3) ls (.long r :: rest))) : W p l e R s m args below meth c H locs cells slots Q (F0 m pc ls st0) := by
  intro T hT X
  rcases hr T hT X with ⟨v, st₀, t, T', L, h0, X', hL, e1, e2, ⟨⟨r, u, hv, hp, hb⟩, hF⟩, st⟩ | ⟨q, st₀, t, T', L, E, ce, h0, X', hL, e1, e2, ⟨u, hp, hb, hF⟩, hce, hcv, hcl, st⟩
  · cases hv
    obtain ⟨k1, k2, k3⟩ := vx_keep h0 e1 hS hA hf hL hF
    obtain ⟨t2, a1, b1⟩ := kk r u t T'.heap (locs ++ L) e1.symm (by rw [← e2]; exact X'.warmed.alike) hp hb k1 k2 k3 T' rfl X'
    exact ⟨t2, st t2 a1, b1⟩
  · obtain ⟨k1, k2, k3⟩ := vx_keep h0 e1 hS hAX hf hL hF
    obtain ⟨t2, a1, b1⟩ := kx E ce q u t T'.heap (locs ++ L) e1.symm (by rw [← e2]; exact X'.warmed.alike) hp hb k1 k2 k3 (by rw [e1]; exact hce) hcv hcl T' rfl X'
    exact ⟨t2, st.trans a1, b1⟩
theorem vx_callf {S SX : Type} {post : UInt32 → S → Prop} {px : SX → Prop} {B : S → State → Prop} {BX : String → SX → State → Prop} {AX : Nat → Prop} (hr : vx_Run p l e R s m args below meth c H locs cells slots mc ms (F0 m pc ls st0) rest (va_Qf post B A1 a) (vx_X px BX AX) free) (hS : va_S A0 H0 H locs) (hA : ∀ q, q < H.size → A1 q → A0 q) (hf : ∀ q, free q → A0 q) (hAX : ∀ q, q < H.size → AX q → A0 q)
    (kx : ∀ (E : String) (ce : Cell) (q9 : Addr) (u : SX) (t : State) (H1 : Heap) (locs1 : List Loc), t.heap = H1 → s.vm.Alike t.vm → px u → BX E u t → H.size ≤ H1.size → (∀ q : Nat, q < H.size → ¬ AX q → H1[q]? = H[q]?) → va_S A0 H0 H1 locs1 → H1[q9]? = some ce → ce.vm = .none → s.vm.findClass E = some ce.cls → vx_W p l e R s m args below meth c H1 locs1 (cells + mc) (slots + ms) Q (F0 m pc ls rest) q9)
    (kk : ∀ (r : UInt32) (u : S) (t : State) (H1 : Heap) (locs1 : List Loc), t.heap = H1 → s.vm.Alike t.vm → post r u → B u t → H.size ≤ H1.size → (∀ q : Nat, q < H.size → ¬ A1 q → H1[q]? = H[q]?) → va_S A0 H0 H1 locs1 → W p l e R s m args below meth c H1 locs1 (cells + mc) (slots + ms) Q (F0 m (pc + 3) ls (.float r :: rest))) : W p l e R s m args below meth c H locs cells slots Q (F0 m pc ls st0) := by
  intro T hT X
  rcases hr T hT X with ⟨v, st₀, t, T', L, h0, X', hL, e1, e2, ⟨⟨r, u, hv, hp, hb⟩, hF⟩, st⟩ | ⟨q, st₀, t, T', L, E, ce, h0, X', hL, e1, e2, ⟨u, hp, hb, hF⟩, hce, hcv, hcl, st⟩
  · cases hv
    obtain ⟨k1, k2, k3⟩ := vx_keep h0 e1 hS hA hf hL hF
    obtain ⟨t2, a1, b1⟩ := kk r u t T'.heap (locs ++ L) e1.symm (by rw [← e2]; exact X'.warmed.alike) hp hb k1 k2 k3 T' rfl X'
    exact ⟨t2, st t2 a1, b1⟩
  · obtain ⟨k1, k2, k3⟩ := vx_keep h0 e1 hS hAX hf hL hF
    obtain ⟨t2, a1, b1⟩ := kx E ce q u t T'.heap (locs ++ L) e1.symm (by rw [← e2]; exact X'.warmed.alike) hp hb k1 k2 k3 (by rw [e1]; exact hce) hcv hcl T' rfl X'
    exact ⟨t2, st.trans a1, b1⟩
theorem vx_calld {S SX : Type} {post : UInt64 → S → Prop} {px : SX → Prop} {B : S → State → Prop} {BX : String → SX → State → Prop} {AX : Nat → Prop} (hr : vx_Run p l e R s m args below meth c H locs cells slots mc ms (F0 m pc ls st0) rest (va_Qd post B A1 a) (vx_X px BX AX) free) (hS : va_S A0 H0 H locs) (hA : ∀ q, q < H.size → A1 q → A0 q) (hf : ∀ q, free q → A0 q) (hAX : ∀ q, q < H.size → AX q → A0 q)
    (kx : ∀ (E : String) (ce : Cell) (q9 : Addr) (u : SX) (t : State) (H1 : Heap) (locs1 : List Loc), t.heap = H1 → s.vm.Alike t.vm → px u → BX E u t → H.size ≤ H1.size → (∀ q : Nat, q < H.size → ¬ AX q → H1[q]? = H[q]?) → va_S A0 H0 H1 locs1 → H1[q9]? = some ce → ce.vm = .none → s.vm.findClass E = some ce.cls → vx_W p l e R s m args below meth c H1 locs1 (cells + mc) (slots + ms) Q (F0 m pc ls rest) q9)
    (kk : ∀ (r : UInt64) (u : S) (t : State) (H1 : Heap) (locs1 : List Loc), t.heap = H1 → s.vm.Alike t.vm → post r u → B u t → H.size ≤ H1.size → (∀ q : Nat, q < H.size → ¬ A1 q → H1[q]? = H[q]?) → va_S A0 H0 H1 locs1 → W p l e R s m args below meth c H1 locs1 (cells + mc) (slots + ms) Q (F0 m (pc + 3) ls (.double r :: rest))) : W p l e R s m args below meth c H locs cells slots Q (F0 m pc ls st0) := by
  intro T hT X
  rcases hr T hT X with ⟨v, st₀, t, T', L, h0, X', hL, e1, e2, ⟨⟨r, u, hv, hp, hb⟩, hF⟩, st⟩ | ⟨q, st₀, t, T', L, E, ce, h0, X', hL, e1, e2, ⟨u, hp, hb, hF⟩, hce, hcv, hcl, st⟩
  · cases hv
    obtain ⟨k1, k2, k3⟩ := vx_keep h0 e1 hS hA hf hL hF
    obtain ⟨t2, a1, b1⟩ := kk r u t T'.heap (locs ++ L) e1.symm (by rw [← e2]; exact X'.warmed.alike) hp hb k1 k2 k3 T' rfl X'
    exact ⟨t2, st t2 a1, b1⟩
  · obtain ⟨k1, k2, k3⟩ := vx_keep h0 e1 hS hAX hf hL hF
    obtain ⟨t2, a1, b1⟩ := kx E ce q u t T'.heap (locs ++ L) e1.symm (by rw [← e2]; exact X'.warmed.alike) hp hb k1 k2 k3 (by rw [e1]; exact hce) hcv hcl T' rfl X'
    exact ⟨t2, st.trans a1, b1⟩
theorem vx_callv {S SX : Type} {post : S → Prop} {px : SX → Prop} {B : S → State → Prop} {BX : String → SX → State → Prop} {AX : Nat → Prop} (hr : vx_Run p l e R s m args below meth c H locs cells slots mc ms (F0 m pc ls st0) rest (va_Qv post B A1 a) (vx_X px BX AX) free) (hS : va_S A0 H0 H locs) (hA : ∀ q, q < H.size → A1 q → A0 q) (hf : ∀ q, free q → A0 q) (hAX : ∀ q, q < H.size → AX q → A0 q)
    (kx : ∀ (E : String) (ce : Cell) (q9 : Addr) (u : SX) (t : State) (H1 : Heap) (locs1 : List Loc), t.heap = H1 → s.vm.Alike t.vm → px u → BX E u t → H.size ≤ H1.size → (∀ q : Nat, q < H.size → ¬ AX q → H1[q]? = H[q]?) → va_S A0 H0 H1 locs1 → H1[q9]? = some ce → ce.vm = .none → s.vm.findClass E = some ce.cls → vx_W p l e R s m args below meth c H1 locs1 (cells + mc) (slots + ms) Q (F0 m pc ls rest) q9)
    (kk : ∀ (u : S) (t : State) (H1 : Heap) (locs1 : List Loc), t.heap = H1 → s.vm.Alike t.vm → post u → B u t → H.size ≤ H1.size → (∀ q : Nat, q < H.size → ¬ A1 q → H1[q]? = H[q]?) → va_S A0 H0 H1 locs1 → W p l e R s m args below meth c H1 locs1 (cells + mc) (slots + ms) Q (F0 m (pc + 3) ls (rest))) : W p l e R s m args below meth c H locs cells slots Q (F0 m pc ls st0) := by
  intro T hT X
  rcases hr T hT X with ⟨v, st₀, t, T', L, h0, X', hL, e1, e2, ⟨⟨u, hv, hp, hb⟩, hF⟩, st⟩ | ⟨q, st₀, t, T', L, E, ce, h0, X', hL, e1, e2, ⟨u, hp, hb, hF⟩, hce, hcv, hcl, st⟩
  · cases hv
    obtain ⟨k1, k2, k3⟩ := vx_keep h0 e1 hS hA hf hL hF
    obtain ⟨t2, a1, b1⟩ := kk u t T'.heap (locs ++ L) e1.symm (by rw [← e2]; exact X'.warmed.alike) hp hb k1 k2 k3 T' rfl X'
    exact ⟨t2, st t2 a1, b1⟩
  · obtain ⟨k1, k2, k3⟩ := vx_keep h0 e1 hS hAX hf hL hF
    obtain ⟨t2, a1, b1⟩ := kx E ce q u t T'.heap (locs ++ L) e1.symm (by rw [← e2]; exact X'.warmed.alike) hp hb k1 k2 k3 (by rw [e1]; exact hce) hcv hcl T' rfl X'
    exact ⟨t2, st.trans a1, b1⟩
/-- caught by the row x of this method's table; the rows ahead don't take it -/
theorem vx_catch {own name : String} {E : String} {ce : Cell} {q : Addr} (hown : s.vm.findClass own = some m.cls) (pre : List ExceptionTableEntry) (x : ExceptionTableEntry) (suf : List ExceptionTableEntry) (hsplit : c.exceptionTable.toList = pre ++ x :: suf)
    (hpass : ∀ z ∈ pre, covers z pc = false ∨ (z.catchType ≠ 0 ∧ ∃ nm : String, (Cond.classLink own z.catchType nm).before args s = true ∧ va_Nc E nm s)) (hx : covers x pc = true) (h0 : x.catchType ≠ 0)
    (hlink : (Cond.classLink own x.catchType name).before args s = true) (hcast : (Cond.castable E name).before args s = true) (hcell : H[q]? = some ce) (hv : ce.vm = .none) (hcl : s.vm.findClass E = some ce.cls)
    (kk : W p l e R s m args below meth c H locs cells slots Q (F0 m x.handlerPc ls [.ref q])) : vx_W p l e R s m args below meth c H locs cells slots Q (F0 m pc ls rest) q := by
  intro T hT X
  have hpl : e.platform.magicAccessors = ({} : Platform).magicAccessors := by rw [X.admits.platform]
  obtain ⟨c3, c4, hc3, hc4, hasg⟩ := Cond.castable_spec hcast
  cases Option.some.inj (hc3.symm.trans hcl)
  obtain ⟨c5, hc5, hcl5⟩ := Cond.classLink_spec hown hlink e.platform hpl
  cases Option.some.inj (hc4.symm.trans hc5)
  obtain ⟨vm', X', st⟩ := X.thenCaughtThrough q (g := F0 m pc ls rest) rfl (Steps.refl _) (by rw [hT]; exact hcell) (by rw [hv]; rfl) (by obtain ⟨k9, h9, -⟩ := Vm.findClass_spec hcl; exact ⟨k9, h9⟩) pre x suf hsplit
    (fun z hz => by
      rcases hpass z hz with h | ⟨hz0, nm, hl1, hn1⟩
      · exact Or.inl h
      · obtain ⟨c6, hc6, hcl6⟩ := Cond.classLink_spec hown hl1 e.platform hpl
        obtain ⟨a8, b8, h1, h2, h3⟩ := hn1
        cases Option.some.inj (h1.symm.trans hcl)
        cases Option.some.inj (h2.symm.trans hc6)
        exact Or.inr ⟨hz0, _, hcl6, h3⟩) hx (Or.inr ⟨h0, c4, hcl5, hasg⟩)
  obtain ⟨t, a1, b1⟩ := kk (T.setVm vm') hT X'
  exact ⟨t, st.trans a1, b1⟩
end Rows
section Ends
variable {p : Program} {l : Launch} {e : Env} {R : Room} {s : State} {m : MethodId} {args : Array Value} {below : List Frame} {meth : Method} {c : Code} {H : Heap} {locs : List Loc} {cells slots : Nat} {Q : State → Prop}
variable {mc ms : Nat} {free : Addr → Prop} {A0 A1 : Nat → Prop} {H0 : Heap} {a : Array Value} {ls : Array Slot} {st0 rest : List Value}
variable {Qc : Array Value → State → Outcome → State → Prop} {XC : String → State → State → Prop}
/-- what a body that may throw owes at its end -/
def vx_MQ (below : List Frame) (Qc : Array Value → State → Outcome → State → Prop) (XC : String → State → State → Prop) (a : Array Value) (s : State) (mc ms : Nat) (free : Addr → Prop) : State → Prop := fun t =>
  ∃ o, t.status = .running ∧ Ended t below o ∧ vx_Q Qc XC mc ms free a s o t
theorem vx_ret {g : JFrame} {mc ms : Nat} (k : W p l e R s m args below meth c H locs cells slots (MQ below Qc args s mc ms free) g) : W p l e R s m args below meth c H locs cells slots (vx_MQ below Qc XC args s mc ms free) g := by
  intro T hT X
  obtain ⟨t, a1, o, b1, b2, b3, b4⟩ := k T hT X
  exact ⟨t, a1, o, b1, b2, Or.inl ⟨b3, b4⟩⟩
/-- not caught here: it goes on to the caller -/
theorem vx_widen {g : JFrame} {q : Addr} {k n : Nat} (h1 : cells ≤ k) (h2 : slots ≤ n) (kk : vx_W p l e R s m args below meth c H locs k n Q g q) : vx_W p l e R s m args below meth c H locs cells slots Q g q := fun T hT X => kk T hT (stand_widen X h1 h2)
theorem vx_out {pc : Nat} {E : String} {ce : Cell} {q : Addr} {mc ms : Nat} (hout : ∀ x ∈ c.exceptionTable.toList, covers x pc = false) (hlocks : meth.locks = false) (hcell : H[q]? = some ce) (hv : ce.vm = .none) (hcl : s.vm.findClass E = some ce.cls)
    (hx : ∀ t : State, t.heap = H → s.vm.Alike t.vm → XC E s t) (hf : ∀ z ∈ locs, free z.base) (hc : cells ≤ mc) (hs : slots ≤ ms) :
    vx_W p l e R s m args below meth c H locs cells slots (vx_MQ below Qc XC args s mc ms free) (F0 m pc ls rest) q := by
  intro T hT X
  obtain ⟨st1, hrun, hend, hW, hsm⟩ := X.leaveThrown q (g := F0 m pc ls rest) rfl rfl rfl hout hlocks
  have hcell9 : (T.setFrames (.throwing q :: below)).heap[q]? = some ce := by
    show T.heap[q]? = some ce
    rw [hT]; exact hcell
  exact ⟨_, st1, .threw q, hrun, hend, Or.inr ⟨q, rfl, E, ce, locs, hx _ hT hW.alike, hcell9, hv, hcl, hW, hsm.mono hc hs, hf⟩⟩
theorem vx_frame {U : State} {k n : Nat} (h : s.sameButNew ({ U with vm := s.vm } : State) locs k n) : s.heap.size ≤ U.heap.size ∧ ∀ q : Nat, q < s.heap.size → (∀ z ∈ locs, z.base ≠ q) → U.heap[q]? = s.heap[q]? := by
  obtain ⟨-, h2, -, -, -, h6⟩ := h
  refine ⟨h2, fun q hq hz => ?_⟩
  obtain ⟨c9, e1, e2, e3, e4⟩ := h6 q _ (Array.getElem?_eq_getElem hq)
  have hs : c9.slots = (s.heap[q]).slots := Array.ext_getElem? fun i => e4 i fun hm => hz _ hm rfl
  have h9 : c9 = s.heap[q] := by
    rw [hs] at e2
    exact e2
  have e5 : U.heap[q]? = some c9 := e1
  rw [e5, h9, Array.getElem?_eq_getElem hq]
/-- the words of a throw but the four that speak of the heap -/
def vx_no (w : Cond) : Bool := decide (w ≠ .isRef (.static Bundle.tN "UNASSIGNED_STACK" Bundle.steD)) && decide (w ≠ .isRef (.static Bundle.tN "SUPPRESSED_SENTINEL" Bundle.listD)) && decide (w ≠ .laysStatic Bundle.tN "UNASSIGNED_STACK" Bundle.steD) && decide (w ≠ .laysStatic Bundle.tN "SUPPRESSED_SENTINEL" Bundle.listD)
def vx_at0 (own : String) (ic : Nat) (X : String) (names : List String) : List Cond := (Bundle.ownAtoms0 own ic X names).filter vx_no
def vx_atS (own : String) (ic : Nat) (X : String) (names : List String) : List Cond := (Bundle.ownAtoms own ic X names).filter vx_no
/-- a word that the tables alone decide, or a good one -/
def vx_ot (w : Cond) : Bool := w.onTables || goodWord w
theorem vx_ot_at {args a' : Array Value} {s U : State} {w : Cond} (hW : s.WarmedH U.vm) (hvm : s.vm = U.vm) (hg : vx_ot w = true) (h : w.before args s = true) : w.before a' U = true := by
  simp only [vx_ot, Bool.or_eq_true] at hg
  rcases hg with hg | hg
  · exact va_tabs hg hvm h
  · exact word_at hW (good_of_word hg) h
/-- a list's words: the good ones out of the method's own list, the others by premises of their own -/
theorem vx_hat {args : Array Value} {s : State} {L B : List Cond} (h1 : ∀ w ∈ L.filter goodWord, w.before args s = true) (h2 : ∀ w ∈ L.filter (fun w => !goodWord w), w ∈ B) (h3 : ∀ w ∈ B, w.before args s = true) : ∀ w ∈ L, w.before args s = true := by
  intro w hw
  by_cases g : goodWord w = true
  · exact h1 w (List.mem_filter.mpr ⟨hw, g⟩)
  · refine h3 w (h2 w (List.mem_filter.mpr ⟨hw, ?_⟩))
    show (!goodWord w) = true
    cases hgw : goodWord w
    · rfl
    · exact absurd hgw g
theorem vx_c {args : Array Value} {s : State} {w : Cond} {B : List Cond} (h : w.before args s = true) (t : ∀ w ∈ B, w.before args s = true) : ∀ w' ∈ w :: B, w'.before args s = true := fun w' h' => (List.mem_cons.mp h').elim (fun e => by rw [e]; exact h) (t w')
theorem vx_n {args : Array Value} {s : State} : ∀ w ∈ ([] : List Cond), w.before args s = true := fun _ h => nomatch h
theorem vx_own {args : Array Value} {s : State} {L : List Cond} (h1 : ∀ w ∈ L.filter vx_no, w.before args s = true)
    (hU : (Cond.isRef (.static Bundle.tN "UNASSIGNED_STACK" Bundle.steD)).before args s = true) (hN : (Cond.isRef (.static Bundle.tN "SUPPRESSED_SENTINEL" Bundle.listD)).before args s = true)
    (lU : (Cond.laysStatic Bundle.tN "UNASSIGNED_STACK" Bundle.steD).before args s = true) (lN : (Cond.laysStatic Bundle.tN "SUPPRESSED_SENTINEL" Bundle.listD).before args s = true) : ∀ w ∈ L, w.before args s = true := by
  intro w hw
  by_cases e1 : w = .isRef (.static Bundle.tN "UNASSIGNED_STACK" Bundle.steD)
  · rw [e1]; exact hU
  · by_cases e2 : w = .isRef (.static Bundle.tN "SUPPRESSED_SENTINEL" Bundle.listD)
    · rw [e2]; exact hN
    · by_cases e3 : w = .laysStatic Bundle.tN "UNASSIGNED_STACK" Bundle.steD
      · rw [e3]; exact lU
      · by_cases e4 : w = .laysStatic Bundle.tN "SUPPRESSED_SENTINEL" Bundle.listD
        · rw [e4]; exact lN
        · exact h1 w (List.mem_filter.mpr ⟨hw, by unfold vx_no; rw [decide_eq_true e1, decide_eq_true e2, decide_eq_true e3, decide_eq_true e4]; rfl⟩)
/-- where a static field lies, its class's statics cell in H -/
def vx_L (C n d : String) (A : Nat → Prop) (U : State) (H : Heap) : Prop := ∃ (c : ClassId) (k : Class) (i : Nat) (f : Field) (a : Nat) (cell : Cell), U.vm.findClass C = some c ∧ U.fieldFound? C n d = some (c, k, i, f) ∧ f.isStatic = true ∧ k.statics = some a ∧ H[a]? = some cell ∧ cell.vm.isStatics = true ∧ cell.cls = c ∧ f.slot < cell.slots.size ∧ k.staticTypes[f.slot]? = some f.type ∧ ¬ A a
theorem vx_L.moved {C n d : String} {A : Nat → Prop} {u U : State} {H : Heap} (hvm : u.vm.Alike U.vm) (h : vx_L C n d A u H) : vx_L C n d A U H := by
  obtain ⟨c, k, i, f, a, cell, h1, h2, h3, h4, h5, h6, h7, h8, h9, h10⟩ := h
  obtain ⟨k', hi', he⟩ := State.fieldFound?_setVm hvm h2
  exact ⟨c, k', i, f, a, cell, by rw [hvm.findClass]; exact h1, hi', h3, by rw [he]; exact h4, h5, h6, h7, h8, by rw [he]; exact h9, h10⟩
theorem vx_L.kept {C n d : String} {A : Nat → Prop} {U : State} {H H1 : Heap} (h : vx_L C n d A U H) (hq : ∀ a : Nat, a < H.size → ¬ A a → H1[a]? = H[a]?) : vx_L C n d A U H1 := by
  obtain ⟨c, k, i, f, a, cell, h1, h2, h3, h4, h5, h6, h7, h8, h9, h10⟩ := h
  exact ⟨c, k, i, f, a, cell, h1, h2, h3, h4, by rw [hq a (Array.getElem?_eq_some_iff.mp h5).1 h10]; exact h5, h6, h7, h8, h9, h10⟩
theorem vx_L.narrow {C n d : String} {A B : Nat → Prop} {U : State} {H : Heap} (h : vx_L C n d A U H) (hAB : ∀ q, B q → A q) : vx_L C n d B U H := by
  obtain ⟨c, k, i, f, a, cell, h1, h2, h3, h4, h5, h6, h7, h8, h9, h10⟩ := h
  exact ⟨c, k, i, f, a, cell, h1, h2, h3, h4, h5, h6, h7, h8, h9, fun z => h10 (hAB _ z)⟩
theorem vx_L.word {C n d : String} {A : Nat → Prop} {s : State} {args : Array Value} (h : vx_L C n d A s s.heap) : (Cond.laysStatic C n d).before args s = true := by
  obtain ⟨c, k, i, f, a, cell, h1, h2, h3, h4, h5, h6, h7, h8, h9, -⟩ := h
  show (Cond.laysStatic C n d).holds args s none s [] = true
  exact Cond.laysStatic_of h1 h2 h3 h4 h5 h6 h7 h8 h9
/-- .. and what it holds: null or some reference -/
def vx_Zq (C n d : String) (A : Nat → Prop) (U : State) (H : Heap) : Prop := va_Zq C n d A U H ∧ vx_L C n d A U H
theorem vx_Zq.moved {C n d : String} {A : Nat → Prop} {u U : State} {H : Heap} (hvm : u.vm.Alike U.vm) (h : vx_Zq C n d A u H) : vx_Zq C n d A U H := ⟨va_Zq.moved hvm h.1, vx_L.moved hvm h.2⟩
theorem vx_Zq.kept {C n d : String} {A : Nat → Prop} {U : State} {H H1 : Heap} (h : vx_Zq C n d A U H) (hq : ∀ a : Nat, a < H.size → ¬ A a → H1[a]? = H[a]?) : vx_Zq C n d A U H1 := ⟨va_Zq.kept h.1 hq, vx_L.kept h.2 hq⟩
theorem vx_Zq.narrow {C n d : String} {A B : Nat → Prop} {U : State} {H : Heap} (h : vx_Zq C n d A U H) (hAB : ∀ q, B q → A q) : vx_Zq C n d B U H := ⟨va_Zq.narrow h.1 hAB, vx_L.narrow h.2 hAB⟩
theorem vx_Zqof {args : Array Value} {s : State} {C n d : String} {A : Nat → Prop} (hl : (Cond.laysStatic C n d).before args s = true) (hini : (Cond.initialized C).before args s = true) (h : (Cond.isRef (.static C n d)).before args s = true) (hA : ∀ a : Nat, a < s.heap.size → ¬ A a) : vx_Zq C n d A s s.heap := by
  refine ⟨va_Zqof hl hini h hA, ?_⟩
  obtain ⟨c, k, i, f, a, cell, h1, h2, h3, h4, h5, h6, h7, h8, h9⟩ := Cond.laysStatic_spec hl
  exact ⟨c, k, i, f, a, cell, h1, h2, h3, h4, h5, h6, h7, h8, h9, hA a (Array.getElem?_eq_some_iff.mp h5).1⟩
theorem vx_isRef {C n d : String} {v : Value} {A : Nat → Prop} {s : State} {args : Array Value} (h : va_Z C n d v A s s.heap) (hv : v.isRef = true) : (Cond.isRef (.static C n d)).before args s = true := by
  obtain ⟨cf, kf, fi, f, a, cell, h1, h2, h3, h4, h5, h6, h7, -⟩ := h
  have he : (Term.static C n d).eval args s none [] s = some v := by
    simp [Term.eval, State.fieldNamed?, h1, h2, h4, h5, h6, h7]
  simp only [Cond.before, Cond.holds, Cond.value, he]
  cases v <;> simp_all [Value.isRef]
theorem vx_isRefq {C n d : String} {A : Nat → Prop} {s : State} {args : Array Value} (h : va_Zq C n d A s s.heap) : (Cond.isRef (.static C n d)).before args s = true := by
  rcases h with h | ⟨t, h⟩
  · exact vx_isRef h rfl
  · exact vx_isRef h rfl
/-- the same frame, seen from here: as if the method were called anew in this heap -/
theorem vx_rebase {T : State} (X : Stand p l e R s m args below meth c T locs cells slots) {R' : Room} (hf : R'.frames ≤ R.frames) (hl : R'.locals ≤ R.locals) (hc : cells + R'.cells ≤ R.cells) (hs : slots + R'.slots ≤ R.slots) :
    Stand p l e R' ((T.setVm s.vm).setFrames (.invoking m args :: below)) m args below meth c T [] 0 0 := by
  have htop : (T.setVm s.vm).topJava?.isSome := X.here.top
  have hF : ((T.setVm s.vm).setFrames (.invoking m args :: below)).frames = .invoking m args :: below := State.frames_setFrames _ (State.cur_lt_of_top htop)
  obtain ⟨g₀, hg0⟩ := Option.isSome_iff_exists.mp htop
  obtain ⟨r, hr⟩ := State.topJava?_eq_some.mp hg0
  have hl9 : e.platform.stackLimits (T.setVm s.vm).me = e.platform.stackLimits s.me := X.limits
  have hb9 : (T.setVm s.vm).me.stackBytes = s.me.stackBytes := X.bytes
  refine ⟨X.admits, X.cas, X.clock, hF, ?_, X.hears, X.method, X.code, X.here, X.tail, X.warmed, ?_, ?_, ?_⟩
  · have h := X.room
    have hU : ((T.setVm s.vm).setFrames (.invoking m args :: below)).localsInUse = s.localsInUse := by
      rw [State.localsInUse_invoking hF (meth := meth) (c := c) X.method X.code, State.localsInUse_invoking X.frames X.method X.code]
    simp only [State.hasRoom, Bool.and_eq_true, decide_eq_true_eq] at h ⊢
    obtain ⟨⟨⟨⟨h1, h2, h3, h4, h5, h6⟩, h7⟩, h8⟩, h9⟩ := h
    rw [X.frames, List.length_cons] at h2 h3
    have q1 := X.heapSize
    have q2 := X.used
    simp only [hF, hU, List.length_cons, State.stackLimits_setFrames, State.stackBytes_setFrames, hl9, hb9]
    refine ⟨⟨⟨⟨by omega, by omega, by omega, by omega, by omega, h6⟩, ?_⟩, ?_⟩, X.book⟩
    · show T.heap.size + R'.cells ≤ e.platform.maxCells
      omega
    · show T.slotsUsed + R'.slots ≤ e.platform.maxSlots
      omega
  · rw [State.stackLimits_setFrames]; rfl
  · rw [State.stackBytes_setFrames]; rfl
  · refine ⟨?_, Nat.le_refl _, Nat.le_refl _, ?_, ?_, fun a c9 h9 => ⟨c9, h9, rfl, rfl, fun _ _ => rfl⟩⟩
    · obtain ⟨t, ht, -⟩ := State.frames_cons hr
      show T.setVm s.vm = { ((T.setVm s.vm).setFrames (.invoking m args :: below)).setFrames (T.setVm s.vm).frames with heap := T.heap, slotsUsed := T.slotsUsed }
      rw [State.setFrames_setFrames, State.setFrames_self ht]
      rfl
    · show T.slotsUsed = T.slotsUsed + ((T.heap.toList.drop T.heap.size).map (·.slots.size)).sum
      rw [List.drop_eq_nil_of_le (Nat.le_of_eq Array.length_toList)]
      rfl
    · show ((T.heap.toList.drop T.heap.size).map (·.slots.size)).sum ≤ 0
      rw [List.drop_eq_nil_of_le (Nat.le_of_eq Array.length_toList)]
      exact Nat.le_refl _
/-- 'throw new E()': new; dup; invokespecial; athrow -/
theorem vx_throw0 {cc : ByteArray} {pc : Nat} (hexec : p.tables.exec = Jvm.exec) (hb : c.code = cc) (hl : l.stackTraces = false) {own cls : String} {names : List String} {ik ic mc ms : Nat} {A : Nat → Prop}
    (hown : s.vm.findClass own = some m.cls) (hcls : Bundle.fit cls = true) (hnames : ∀ n ∈ names, Bundle.fit n = true)
    (hk : (Cond.classLink own ik cls).before args s = true) (hini : (Cond.initialized cls).before args s = true) (hat : ∀ w ∈ vx_at0 own ic cls names, w.before args s = true)
    (hgood : ∀ w ∈ Cond.classLink own ik cls :: Cond.initialized cls :: vx_at0 own ic cls names, vx_ot w = true)
    (hU : vx_Zq Bundle.tN "UNASSIGNED_STACK" Bundle.steD A s s.heap) (hN : vx_Zq Bundle.tN "SUPPRESSED_SENTINEL" Bundle.listD A s s.heap) (hS : va_S A s.heap H locs) (hsize : ls.size = c.maxLocals)
    (d0 : decode cc pc = .ok (.new ik, 3)) (d3 : decode cc (pc + 3) = .ok (.dup, 1)) (d4 : decode cc (pc + 4) = .ok (.invokespecial ic, 3)) (d7 : decode cc (pc + 7) = .ok (.athrow, 1))
    (hout : ∀ x ∈ c.exceptionTable.toList, covers x (pc + 7) = false)
    (hRframes : names.length + 3 < R.frames) (hRlocals : (rest.map fun v => v.category).sum + (13 * (names.length + 1) + 42) ≤ R.locals) (hRcells : cells + 1 ≤ R.cells) (hRslots : slots + 6 ≤ R.slots) (hlocks : meth.locks = false)
    (hx : ∀ t : State, s.vm.Alike t.vm → H.size ≤ t.heap.size → (∀ q : Nat, q < H.size → t.heap[q]? = H[q]?) → XC cls s t)
    (hf : ∀ z ∈ locs, free z.base) (hc : cells + 1 ≤ mc) (hs : slots + 6 ≤ ms) :
    W p l e R s m args below meth c H locs cells slots (vx_MQ below Qc XC args s mc ms free) (F0 m pc ls rest) := by
  intro T hT X
  have htr : e.platform.stackTraces = false := (show e.platform.stackTraces = l.stackTraces by rw [X.admits.platform]).trans hl
  have Y := vx_rebase X (R' := { frames := R.frames, locals := R.locals, cells := 1, slots := 6 }) (Nat.le_refl _) (Nat.le_refl _) hRcells hRslots
  obtain ⟨s', hA⟩ : ∃ z, z = (T.setVm s.vm).setFrames (.invoking m args :: below) := ⟨_, rfl⟩
  rw [← hA] at Y
  have hvm : s'.vm = s.vm := by rw [hA]; rfl
  have hhp : s'.heap = H := by rw [hA]; exact hT
  have hW0 : s.WarmedH s'.vm := by rw [hvm]; exact State.WarmedH.refl s
  have hat' : ∀ w ∈ vx_at0 own ic cls names, w.before args s' = true := fun w hw => vx_ot_at hW0 hvm.symm (hgood w (List.mem_cons_of_mem _ (List.mem_cons_of_mem _ hw))) (hat w hw)
  have hk' : (Cond.classLink own ik cls).before args s' = true := vx_ot_at hW0 hvm.symm (hgood _ List.mem_cons_self) hk
  have hini' : (Cond.initialized cls).before args s' = true := vx_ot_at hW0 hvm.symm (hgood _ (List.mem_cons_of_mem _ List.mem_cons_self)) hini
  have hU' : vx_Zq Bundle.tN "UNASSIGNED_STACK" Bundle.steD A s' s'.heap := by rw [hhp]; exact vx_Zq.moved hW0.alike (hU.kept hS.2.1)
  have hN' : vx_Zq Bundle.tN "SUPPRESSED_SENTINEL" Bundle.listD A s' s'.heap := by rw [hhp]; exact vx_Zq.moved hW0.alike (hN.kept hS.2.1)
  have h : ∀ w ∈ Bundle.ownAtoms0 own ic cls names, w.before args s' = true := vx_own hat' (vx_isRefq hU'.1) (vx_isRefq hN'.1) hU'.2.word hN'.2.word
  have hown' : s'.vm.findClass own = some m.cls := by rw [hvm]; exact hown
  have hins : (Cond.instantiable cls 6).before args s' = true := h _ (by simp [Bundle.ownAtoms0])
  obtain ⟨vm₁, cX, kX, hfX, hkX, -, -, X₁, st1⟩ := Y.newCold hexec (own := own) (C := cls) (index := ik) (n := 6) hown' hk' hins hini'
    (g := F0 m pc ls rest) rfl (by rw [hb]; exact d0) (Nat.le_refl _) (Nat.le_refl _)
  generalize hT1 : (T.setVm vm₁).pushCell { cls := cX, slots := kX.instanceTypes.map defaultValue, vm := .none } = T1 at X₁ st1
  have hcat : (Value.ref T.heap.size).category = 1 := rfl
  have hcellA : T1.heap[T.heap.size]? = some (freshCell cX kX) := by rw [← hT1]; exact State.heap_pushCell_size _ _
  have d3' : decode c.code (pc + 3) = .ok (.dup, 1) := by rw [hb]; exact d3
  obtain ⟨U, hsteps, hrun, hend, hW, hsame, ce, hce, hO⟩ := X₁.ctorThrow0 hexec htr (own := own) (cls := cls) (names := names) (ic := ic) hown' hcls hnames h (fun x hx => nomatch hx) hfX hkX hcellA (by rw [hhp, hT]; exact Nat.le_refl _)
    (g := { method := m, pc := pc + 4, locals := ls, stack := .ref T.heap.size :: .ref T.heap.size :: rest, locked := none }) rfl hsize rfl rfl (rest := rest) rfl
    (by rw [hb]; exact d4) (by rw [hb]; exact d7) hout hRframes (by simp only [List.map_cons, List.sum_cons, hcat]; omega) hlocks
  obtain ⟨f1, f2⟩ := vx_frame hsame
  rw [hhp] at f1 f2
  have hWs : s.WarmedH U.vm := State.WarmedH.trans hW0 hW
  have hcl : s.vm.findClass cls = some ce.cls := by
    have h9 := hO.cls
    rw [hvm] at h9
    exact h9
  have hall : s.sameButNew ({ U with vm := s.vm } : State) locs mc ms := by
    subst hA
    obtain ⟨e1, e2⟩ := hsame
    rw [State.setFrames_setFrames] at e1
    have h2 : (T.setVm s.vm).sameButNew ({ U with vm := s.vm } : State) [] (0 + 1) (0 + 6) := ⟨e1, e2⟩
    have h3 := X.same.trans h2
    rw [List.append_nil] at h3
    exact h3.mono hc hs
  refine ⟨U, ?_, .threw T.heap.size, hrun, hend, Or.inr ⟨T.heap.size, rfl, cls, ce, locs, hx U hWs.alike f1 (fun q hq => f2 q hq (fun z hz => nomatch hz)), hce, hO.vm, hcl, hWs, hall, hf⟩⟩
  refine st1 _ ?_
  show Steps p.tables e below (T1.setTop { method := m, pc := pc + 3, locals := ls, stack := .ref T.heap.size :: rest, locked := none }) _
  jvm_step X₁.here [X₁.here.top, hexec, d3', Value.category]
  exact hsteps
/-- 'throw new E("text")': new; dup; ldc; invokespecial; athrow -/
theorem vx_throwS {cc : ByteArray} {pc : Nat} (hexec : p.tables.exec = Jvm.exec) (hb : c.code = cc) (hl : l.stackTraces = false) {own cls text : String} {names : List String} {ik is ic mc ms sa : Nat} {A : Nat → Prop}
    (hown : s.vm.findClass own = some m.cls) (hcls : Bundle.fit cls = true) (hnames : ∀ n ∈ names, Bundle.fit n = true)
    (hk : (Cond.classLink own ik cls).before args s = true) (hini : (Cond.initialized cls).before args s = true) (hstr : vk_R own is text sa s) (hat : ∀ w ∈ vx_atS own ic cls names, w.before args s = true)
    (hgood : ∀ w ∈ Cond.classLink own ik cls :: Cond.initialized cls :: vx_atS own ic cls names, vx_ot w = true)
    (hU : vx_Zq Bundle.tN "UNASSIGNED_STACK" Bundle.steD A s s.heap) (hN : vx_Zq Bundle.tN "SUPPRESSED_SENTINEL" Bundle.listD A s s.heap) (hS : va_S A s.heap H locs) (hsize : ls.size = c.maxLocals)
    (d0 : decode cc pc = .ok (.new ik, 3)) (d3 : decode cc (pc + 3) = .ok (.dup, 1)) (d4 : decode cc (pc + 4) = .ok (.ldc is, 2)) (d6 : decode cc (pc + 6) = .ok (.invokespecial ic, 3)) (d9 : decode cc (pc + 9) = .ok (.athrow, 1))
    (hout : ∀ x ∈ c.exceptionTable.toList, covers x (pc + 9) = false)
    (hRframes : names.length + 3 < R.frames) (hRlocals : (rest.map fun v => v.category).sum + (13 * (names.length + 1) + 43) ≤ R.locals) (hRcells : cells + 1 ≤ R.cells) (hRslots : slots + 6 ≤ R.slots) (hlocks : meth.locks = false)
    (hx : ∀ t : State, s.vm.Alike t.vm → H.size ≤ t.heap.size → (∀ q : Nat, q < H.size → t.heap[q]? = H[q]?) → XC cls s t)
    (hf : ∀ z ∈ locs, free z.base) (hc : cells + 1 ≤ mc) (hs : slots + 6 ≤ ms) :
    W p l e R s m args below meth c H locs cells slots (vx_MQ below Qc XC args s mc ms free) (F0 m pc ls rest) := by
  intro T hT X
  have htr : e.platform.stackTraces = false := (show e.platform.stackTraces = l.stackTraces by rw [X.admits.platform]).trans hl
  have Y := vx_rebase X (R' := { frames := R.frames, locals := R.locals, cells := 1, slots := 6 }) (Nat.le_refl _) (Nat.le_refl _) hRcells hRslots
  obtain ⟨s', hA⟩ : ∃ z, z = (T.setVm s.vm).setFrames (.invoking m args :: below) := ⟨_, rfl⟩
  rw [← hA] at Y
  have hvm : s'.vm = s.vm := by rw [hA]; rfl
  have hhp : s'.heap = H := by rw [hA]; exact hT
  have hW0 : s.WarmedH s'.vm := by rw [hvm]; exact State.WarmedH.refl s
  have hat' : ∀ w ∈ vx_atS own ic cls names, w.before args s' = true := fun w hw => vx_ot_at hW0 hvm.symm (hgood w (List.mem_cons_of_mem _ (List.mem_cons_of_mem _ hw))) (hat w hw)
  have hk' : (Cond.classLink own ik cls).before args s' = true := vx_ot_at hW0 hvm.symm (hgood _ List.mem_cons_self) hk
  have hini' : (Cond.initialized cls).before args s' = true := vx_ot_at hW0 hvm.symm (hgood _ (List.mem_cons_of_mem _ List.mem_cons_self)) hini
  have hU' : vx_Zq Bundle.tN "UNASSIGNED_STACK" Bundle.steD A s' s'.heap := by rw [hhp]; exact vx_Zq.moved hW0.alike (hU.kept hS.2.1)
  have hN' : vx_Zq Bundle.tN "SUPPRESSED_SENTINEL" Bundle.listD A s' s'.heap := by rw [hhp]; exact vx_Zq.moved hW0.alike (hN.kept hS.2.1)
  have h : ∀ w ∈ Bundle.ownAtoms own ic cls names, w.before args s' = true := vx_own hat' (vx_isRefq hU'.1) (vx_isRefq hN'.1) hU'.2.word hN'.2.word
  have hown' : s'.vm.findClass own = some m.cls := by rw [hvm]; exact hown
  have hins : (Cond.instantiable cls 6).before args s' = true := h _ (by simp [Bundle.ownAtoms])
  obtain ⟨vm₁, cX, kX, hfX, hkX, -, -, X₁, st1⟩ := Y.newCold hexec (own := own) (C := cls) (index := ik) (n := 6) hown' hk' hins hini'
    (g := F0 m pc ls rest) rfl (by rw [hb]; exact d0) (Nat.le_refl _) (Nat.le_refl _)
  generalize hT1 : (T.setVm vm₁).pushCell { cls := cX, slots := kX.instanceTypes.map defaultValue, vm := .none } = T1 at X₁ st1
  have hcat : (Value.ref T.heap.size).category = 1 := rfl
  have hcellA : T1.heap[T.heap.size]? = some (freshCell cX kX) := by rw [← hT1]; exact State.heap_pushCell_size _ _
  have d3' : decode c.code (pc + 3) = .ok (.dup, 1) := by rw [hb]; exact d3
  have d4' : decode c.code (pc + 4) = .ok (.ldc is, 2) := by rw [hb]; exact d4
  have hstr' : vk_R own is text sa s' := vk_R.warm hW0 hstr
  obtain ⟨U, hsteps, hrun, hend, hW, hsame, ce, hce, hO⟩ := X₁.ctorThrowS hexec htr (own := own) (cls := cls) (names := names) (ic := ic) hown' hcls hnames h (fun x hx => nomatch hx) hfX hkX hcellA (by rw [hhp, hT]; exact Nat.le_refl _) (msg := .ref sa) rfl
    (g := { method := m, pc := pc + 6, locals := ls, stack := .ref sa :: .ref T.heap.size :: .ref T.heap.size :: rest, locked := none }) rfl hsize rfl rfl (rest := rest) rfl
    (by rw [hb]; exact d6) (by rw [hb]; exact d9) hout hRframes (by simp only [List.map_cons, List.sum_cons, hcat]; omega) hlocks
  obtain ⟨f1, f2⟩ := vx_frame hsame
  rw [hhp] at f1 f2
  have hWs : s.WarmedH U.vm := State.WarmedH.trans hW0 hW
  have hcl : s.vm.findClass cls = some ce.cls := by
    have h9 := hO.cls
    rw [hvm] at h9
    exact h9
  have hall : s.sameButNew ({ U with vm := s.vm } : State) locs mc ms := by
    subst hA
    obtain ⟨e1, e2⟩ := hsame
    rw [State.setFrames_setFrames] at e1
    have h2 : (T.setVm s.vm).sameButNew ({ U with vm := s.vm } : State) [] (0 + 1) (0 + 6) := ⟨e1, e2⟩
    have h3 := X.same.trans h2
    rw [List.append_nil] at h3
    exact h3.mono hc hs
  refine ⟨U, ?_, .threw T.heap.size, hrun, hend, Or.inr ⟨T.heap.size, rfl, cls, ce, locs, hx U hWs.alike f1 (fun q hq => f2 q hq (fun z hz => nomatch hz)), hce, hO.vm, hcl, hWs, hall, hf⟩⟩
  refine st1 _ ?_
  show Steps p.tables e below (T1.setTop { method := m, pc := pc + 3, locals := ls, stack := .ref T.heap.size :: rest, locked := none }) _
  jvm_step X₁.here [X₁.here.top, hexec, d3', Value.category]
  exact X₁.ldcString hexec (own := own) (text := text) (index := is) (a := sa) hown' hstr'.1 hstr'.2
    (g := { method := m, pc := pc + 4, locals := ls, stack := .ref T.heap.size :: .ref T.heap.size :: rest, locked := none }) rfl d4' _ hsteps
/-- 'throw new E("text")', the text by a wide index -/
theorem vx_throwSW {cc : ByteArray} {pc : Nat} (hexec : p.tables.exec = Jvm.exec) (hb : c.code = cc) (hl : l.stackTraces = false) {own cls text : String} {names : List String} {ik is ic mc ms sa : Nat} {A : Nat → Prop}
    (hown : s.vm.findClass own = some m.cls) (hcls : Bundle.fit cls = true) (hnames : ∀ n ∈ names, Bundle.fit n = true)
    (hk : (Cond.classLink own ik cls).before args s = true) (hini : (Cond.initialized cls).before args s = true) (hstr : vk_R own is text sa s) (hat : ∀ w ∈ vx_atS own ic cls names, w.before args s = true)
    (hgood : ∀ w ∈ Cond.classLink own ik cls :: Cond.initialized cls :: vx_atS own ic cls names, vx_ot w = true)
    (hU : vx_Zq Bundle.tN "UNASSIGNED_STACK" Bundle.steD A s s.heap) (hN : vx_Zq Bundle.tN "SUPPRESSED_SENTINEL" Bundle.listD A s s.heap) (hS : va_S A s.heap H locs) (hsize : ls.size = c.maxLocals)
    (d0 : decode cc pc = .ok (.new ik, 3)) (d3 : decode cc (pc + 3) = .ok (.dup, 1)) (d4 : decode cc (pc + 4) = .ok (.ldc_w is, 3)) (d7 : decode cc (pc + 7) = .ok (.invokespecial ic, 3)) (d10 : decode cc (pc + 10) = .ok (.athrow, 1))
    (hout : ∀ x ∈ c.exceptionTable.toList, covers x (pc + 10) = false)
    (hRframes : names.length + 3 < R.frames) (hRlocals : (rest.map fun v => v.category).sum + (13 * (names.length + 1) + 43) ≤ R.locals) (hRcells : cells + 1 ≤ R.cells) (hRslots : slots + 6 ≤ R.slots) (hlocks : meth.locks = false)
    (hx : ∀ t : State, s.vm.Alike t.vm → H.size ≤ t.heap.size → (∀ q : Nat, q < H.size → t.heap[q]? = H[q]?) → XC cls s t)
    (hf : ∀ z ∈ locs, free z.base) (hc : cells + 1 ≤ mc) (hs : slots + 6 ≤ ms) :
    W p l e R s m args below meth c H locs cells slots (vx_MQ below Qc XC args s mc ms free) (F0 m pc ls rest) := by
  intro T hT X
  have htr : e.platform.stackTraces = false := (show e.platform.stackTraces = l.stackTraces by rw [X.admits.platform]).trans hl
  have Y := vx_rebase X (R' := { frames := R.frames, locals := R.locals, cells := 1, slots := 6 }) (Nat.le_refl _) (Nat.le_refl _) hRcells hRslots
  obtain ⟨s', hA⟩ : ∃ z, z = (T.setVm s.vm).setFrames (.invoking m args :: below) := ⟨_, rfl⟩
  rw [← hA] at Y
  have hvm : s'.vm = s.vm := by rw [hA]; rfl
  have hhp : s'.heap = H := by rw [hA]; exact hT
  have hW0 : s.WarmedH s'.vm := by rw [hvm]; exact State.WarmedH.refl s
  have hat' : ∀ w ∈ vx_atS own ic cls names, w.before args s' = true := fun w hw => vx_ot_at hW0 hvm.symm (hgood w (List.mem_cons_of_mem _ (List.mem_cons_of_mem _ hw))) (hat w hw)
  have hk' : (Cond.classLink own ik cls).before args s' = true := vx_ot_at hW0 hvm.symm (hgood _ List.mem_cons_self) hk
  have hini' : (Cond.initialized cls).before args s' = true := vx_ot_at hW0 hvm.symm (hgood _ (List.mem_cons_of_mem _ List.mem_cons_self)) hini
  have hU' : vx_Zq Bundle.tN "UNASSIGNED_STACK" Bundle.steD A s' s'.heap := by rw [hhp]; exact vx_Zq.moved hW0.alike (hU.kept hS.2.1)
  have hN' : vx_Zq Bundle.tN "SUPPRESSED_SENTINEL" Bundle.listD A s' s'.heap := by rw [hhp]; exact vx_Zq.moved hW0.alike (hN.kept hS.2.1)
  have h : ∀ w ∈ Bundle.ownAtoms own ic cls names, w.before args s' = true := vx_own hat' (vx_isRefq hU'.1) (vx_isRefq hN'.1) hU'.2.word hN'.2.word
  have hown' : s'.vm.findClass own = some m.cls := by rw [hvm]; exact hown
  have hins : (Cond.instantiable cls 6).before args s' = true := h _ (by simp [Bundle.ownAtoms])
  obtain ⟨vm₁, cX, kX, hfX, hkX, -, -, X₁, st1⟩ := Y.newCold hexec (own := own) (C := cls) (index := ik) (n := 6) hown' hk' hins hini'
    (g := F0 m pc ls rest) rfl (by rw [hb]; exact d0) (Nat.le_refl _) (Nat.le_refl _)
  generalize hT1 : (T.setVm vm₁).pushCell { cls := cX, slots := kX.instanceTypes.map defaultValue, vm := .none } = T1 at X₁ st1
  have hcat : (Value.ref T.heap.size).category = 1 := rfl
  have hcellA : T1.heap[T.heap.size]? = some (freshCell cX kX) := by rw [← hT1]; exact State.heap_pushCell_size _ _
  have d3' : decode c.code (pc + 3) = .ok (.dup, 1) := by rw [hb]; exact d3
  have d4' : decode c.code (pc + 4) = .ok (.ldc_w is, 3) := by rw [hb]; exact d4
  have hstr' : vk_R own is text sa s' := vk_R.warm hW0 hstr
  obtain ⟨U, hsteps, hrun, hend, hW, hsame, ce, hce, hO⟩ := X₁.ctorThrowS hexec htr (own := own) (cls := cls) (names := names) (ic := ic) hown' hcls hnames h (fun x hx => nomatch hx) hfX hkX hcellA (by rw [hhp, hT]; exact Nat.le_refl _) (msg := .ref sa) rfl
    (g := { method := m, pc := pc + 7, locals := ls, stack := .ref sa :: .ref T.heap.size :: .ref T.heap.size :: rest, locked := none }) rfl hsize rfl rfl (rest := rest) rfl
    (by rw [hb]; exact d7) (by rw [hb]; exact d10) hout hRframes (by simp only [List.map_cons, List.sum_cons, hcat]; omega) hlocks
  obtain ⟨f1, f2⟩ := vx_frame hsame
  rw [hhp] at f1 f2
  have hWs : s.WarmedH U.vm := State.WarmedH.trans hW0 hW
  have hcl : s.vm.findClass cls = some ce.cls := by
    have h9 := hO.cls
    rw [hvm] at h9
    exact h9
  have hall : s.sameButNew ({ U with vm := s.vm } : State) locs mc ms := by
    subst hA
    obtain ⟨e1, e2⟩ := hsame
    rw [State.setFrames_setFrames] at e1
    have h2 : (T.setVm s.vm).sameButNew ({ U with vm := s.vm } : State) [] (0 + 1) (0 + 6) := ⟨e1, e2⟩
    have h3 := X.same.trans h2
    rw [List.append_nil] at h3
    exact h3.mono hc hs
  refine ⟨U, ?_, .threw T.heap.size, hrun, hend, Or.inr ⟨T.heap.size, rfl, cls, ce, locs, hx U hWs.alike f1 (fun q hq => f2 q hq (fun z hz => nomatch hz)), hce, hO.vm, hcl, hWs, hall, hf⟩⟩
  refine st1 _ ?_
  show Steps p.tables e below (T1.setTop { method := m, pc := pc + 3, locals := ls, stack := .ref T.heap.size :: rest, locked := none }) _
  jvm_step X₁.here [X₁.here.top, hexec, d3', Value.category]
  exact X₁.ldcStringW hexec (own := own) (text := text) (index := is) (a := sa) hown' hstr'.1 hstr'.2
    (g := { method := m, pc := pc + 4, locals := ls, stack := .ref T.heap.size :: .ref T.heap.size :: rest, locked := none }) rfl d4' _ hsteps
end Ends
section Bodies
variable {l : Launch}
theorem vx_ofW {y : MethodName} {ws ws' : List Cond} {rm : Room} {Pc : Array Value → State → Prop} {Qc : Array Value → State → Outcome → State → Prop} {XC : String → State → State → Prop} {mc ms : Nat} {free : Addr → Prop} {cc : ByteArray} {maxL : Nat} {ret : Option FieldType}
    (hy : plainName y.cls = true) (hw : ws = Cond.code y cc maxL ret :: ws')
    (body : ∀ p e s m args below meth c s₁, BodyLoose p l y (headSpec ws rm) cc maxL ret e s m args below meth c s₁ → c.maxLocals = maxL → (∀ x ∈ c.exceptionTable.toList, False) → Pc args s →
      W p l e (headSpec ws rm).room s m args below meth c s.heap [] 0 0 (vx_MQ below Qc XC args s mc ms free) (entryFrame m args maxL)) : vx_Met l y ws rm Pc Qc XC mc ms free := by
  refine MetFree.of_bodyS (code := cc) (maxLocals := maxL) (ret := ret) hy ?_ ?_
  · intro args s m h hn
    obtain ⟨meth, c, h1, h2, h3, h4, h5, h6, -, -⟩ := Cond.code_spec hn (atoms_spec (ws := ws) h _ (by rw [hw]; exact List.mem_cons_self))
    exact ⟨meth, c, h1, h2, h3, h4, h5, h6⟩
  · intro p e s m args below meth c s₁ B hml hP _
    have hh0 : s₁.heap = s.heap := by rw [B.state]; rfl
    have ht : ∀ x ∈ c.exceptionTable.toList, False := by
      obtain ⟨meth9, c9, h1, h2, -, -, -, -, h7, -⟩ := Cond.code_spec B.named (atoms_spec (ws := ws) B.pre _ (by rw [hw]; exact List.mem_cons_self))
      cases Option.some.inj (h1.symm.trans B.method)
      cases Option.some.inj (h2.symm.trans (Stand.of_body B).code)
      intro x hx
      rw [Array.isEmpty_iff.mp h7] at hx
      cases hx
    obtain ⟨t, a1, o, b1, b2, b3⟩ := body p e s m args below meth c s₁ B hml ht hP s₁ hh0 (Stand.of_body B)
    exact ⟨t, o, a1, b1, b2, b3⟩
/-- the table of a body with handlers -/
theorem vx_table {p : Program} {x y : MethodName} {S : Spec} {cc bytes : ByteArray} {maxL maxL' : Nat} {ret ret' : Option FieldType} {e : Env} {s s₁ : State} {m : MethodId} {args : Array Value} {below : List Frame} {meth : Method} {c : Code} {hh : List (Nat × Nat × Nat × Nat)}
    (B : BodyLoose p l y S cc maxL ret e s m args below meth c s₁) (h : (Cond.codeWith y bytes maxL' ret' hh).before args s = true) : c.exceptionTable.toList = tableOf hh := by
  obtain ⟨m9, meth9, c9, hn9, h1, h2, -, -, h6, -⟩ := Cond.codeWith_spec h
  cases Option.some.inj (hn9.symm.trans B.named)
  cases Option.some.inj (h1.symm.trans B.method)
  cases Option.some.inj (h2.symm.trans (Stand.of_body B).code)
  rw [← h6, table_eq]
end Bodies
end VXA
/-! ===== END ===== -/
/-! ===== BEGIN a static call of a method with an exception table ===== -/
section VXS
variable {p : Program} {l : Launch} {e : Env} {R : Room} {s : State} {m : MethodId} {args : Array Value} {below : List Frame} {meth : Method} {c : Code} {T : State} {H : Heap} {locs : List Loc} {cells slots : Nat}
abbrev vx_CSW (R : Room) (s : State) (args : Array Value) (own : String) (index : Nat) (y : MethodName) (bytes : ByteArray) (maxL : Nat) (ret : Option FieldType) (hh : List (Nat × Nat × Nat × Nat)) (ws : List Cond) (rm : Room) (mc ms n : Nat) : Prop :=
  (rm.cells = mc ∧ rm.slots = ms ∧ rm.frames + 1 ≤ R.frames ∧ 8 + (maxL + 11) + rm.locals ≤ R.locals ∧ (∀ w ∈ ws, ∀ (a' : Array Value) (U : State), s.WarmedH U.vm → w.before a' U = true) ∧ Cond.codeWith y bytes maxL ret hh ∈ ws) ∧
  (Cond.codeWith y bytes maxL ret hh).before args s = true ∧ (Cond.initialized y.cls).before args s = true ∧ (y.cls ≠ "java/lang/invoke/MethodHandle" ∧ y.cls ≠ "java/lang/invoke/VarHandle") ∧
  (∀ sig, parseMethodDescriptor y.desc = some sig → n = sig.parameters.length) ∧ (Cond.methodLink own index y).before args s = true ∧ (Cond.static y).before args s = true
theorem vx_cwSW {own : String} {index maxL mc ms : Nat} {y : MethodName} {bytes : ByteArray} {ret : Option FieldType} {hh : List (Nat × Nat × Nat × Nat)} {Ts ws ws' : List Cond} {rm : Room} (n : Nat) (ht : ∀ w ∈ Ts, w.before args s = true) (hT : GoodIn Ts (va_wsS own index y ws)) (hw : ws = Cond.codeWith y bytes maxL ret hh :: ws') (hrc : rm.cells = mc) (hrs : rm.slots = ms)
    (hd : y.cls ≠ "java/lang/invoke/MethodHandle" ∧ y.cls ≠ "java/lang/invoke/VarHandle" ∧ (parseMethodDescriptor y.desc).map (fun d => d.parameters.length) = some n) (hR : rm.frames + 1 ≤ R.frames ∧ 8 + (maxL + 11) + rm.locals ≤ R.locals) :
    vx_CSW R s args own index y bytes maxL ret hh ws rm mc ms n := by
  have ok : ∀ w ∈ va_wsS own index y ws, w.before args s = true := fun w h => ht w (hT w h).1
  have hG : GoodIn Ts ws := fun w h => hT w (by unfold va_wsS; exact List.mem_append_right _ h)
  have hc : Cond.codeWith y bytes maxL ret hh ∈ ws := by rw [hw]; exact List.mem_cons_self
  refine ⟨⟨hrc, hrs, hR.1, hR.2, pay_in ht hG, hc⟩, ht _ (hG _ hc).1, ok _ (by simp [va_wsS]), ⟨hd.1, hd.2.1⟩, fun sig h => ?_, ok _ (by simp [va_wsS]), ok _ (by simp [va_wsS])⟩
  have h2 := hd.2.2
  rw [h] at h2
  exact (Option.some.inj h2).symm
theorem vx_callSW (X : Stand p l e R s m args below meth c T locs cells slots) (hexec : p.tables.exec = Jvm.exec) {own : String} {index : Nat} {y : MethodName} {bytes : ByteArray} {maxL : Nat} {ret : Option FieldType} {hh : List (Nat × Nat × Nat × Nat)}
    (hown : s.vm.findClass own = some m.cls) (hlink : (Cond.methodLink own index y).before args s = true) (hstat : (Cond.static y).before args s = true) (hinit : (Cond.initialized y.cls).before args s = true)
    (hcode : (Cond.codeWith y bytes maxL ret hh).before args s = true) (hy : y.cls ≠ "java/lang/invoke/MethodHandle" ∧ y.cls ≠ "java/lang/invoke/VarHandle")
    {W9 : Nat} {Pre : Pt → Array Value → Prop} {Post : Pt → Array Value → Option Value → Pt → Prop} (hK : Back l R p e below s args y 3 W9 Pre Post)
    {g : JFrame} (hg : g.method = m) (hsize : g.locals.size = c.maxLocals) {argsL rest : List Value} (hlen : ∀ sig, parseMethodDescriptor y.desc = some sig → argsL.length = sig.parameters.length)
    (hstack : g.stack = argsL.reverse ++ rest) (hW : 2 * g.monitorRoom + (rest.map fun v => v.category).sum ≤ W9) (hdg : decode c.code g.pc = .ok (.invokestatic index, 3))
    (hpre : ∀ vm₁, s.WarmedH vm₁ → Pre ⟨T.setVm vm₁, locs, cells, slots⟩ argsL.toArray) :
    ∃ (v : Option Value) (vm₁ : Vm) (B : Pt), s.WarmedH vm₁ ∧ Stand p l e R s m args below meth c B.U B.locs B.cells B.slots ∧ Post ⟨T.setVm vm₁, locs, cells, slots⟩ argsL.toArray v B ∧
      ∀ target, Steps p.tables e below (B.U.setTop { g with pc := g.pc + 3, stack := v.toList ++ rest }) target → Steps p.tables e below (T.setTop g) target := by
  obtain ⟨mk, methM, cM, hnamed, hmethM, -, -, -, -, -, -, hsigM⟩ := Cond.codeWith_spec hcode
  have hstatic : methM.isStatic = true := Cond.static_spec hnamed hmethM hstat
  obtain ⟨kP, hkP, -⟩ := className_of_methodNamed hnamed
  have hinitP : kP.init = .initialized := Cond.initialized_spec (findClass_of_methodNamed hnamed) hkP hinit
  obtain ⟨vm₁, X₁, hstep₁⟩ := X.invokestatic hexec hown hlink hnamed hmethM hstatic hkP hinitP hy (g := g) hg (argsL := argsL) (rest := rest) (hlen _ hsigM) hstack hdg
  obtain ⟨v, B, X', hpost, hsteps⟩ := hK m meth c ⟨T.setVm vm₁, locs, cells, slots⟩ { g with stack := rest } (.invokestatic index) mk argsL.toArray X₁ hg hsize hdg hW (X₁.named hnamed) (hpre vm₁ X₁.warmed)
  exact ⟨v, vm₁, B, X₁.warmed, X', hpost, fun target h => hstep₁ _ fun acts => by rw [doInvoke_state]; exact hsteps.trans h⟩
theorem vx_runSW {y : MethodName} {bytes cc : ByteArray} {maxL nL mc ms n index : Nat} {ret : Option FieldType} {hh : List (Nat × Nat × Nat × Nat)} {ws : List Cond} {rm : Room} {Pc : Array Value → State → Prop} {Qc : Array Value → State → Outcome → State → Prop} {free : Addr → Prop} {Ts : List Cond} {own : String} {As rest : List Value} {g : JFrame}
    (S : CallFix p m c cc nL s args Ts own) (hM : Met l y ws rm Pc Qc mc ms free) (cw : vx_CSW R s args own index y bytes maxL ret hh ws rm mc ms n) (hp : PreS s H Pc As)
    (hg : g.method = m) (hn : As.length = n) (hsize : g.locals.size = nL) (hstack : g.stack = As.reverse ++ rest) (hW : 2 * g.monitorRoom + (rest.map fun v => v.category).sum ≤ 8) (hdg : decode cc g.pc = .ok (.invokestatic index, 3)) (hf : cells + mc ≤ R.cells ∧ slots + ms ≤ R.slots) :
    va_Run p l e R s m args below meth c H locs cells slots mc ms g rest (Qc As.toArray) (free) := by
  obtain ⟨⟨hrc, hrs, hfr, hlo, hws, hcw⟩, hcode, hini, hy, hlen, hl, hstt⟩ := cw
  have hK : Back l R p e below s args y 3 8 (PreOf R mc ms Pc) (PostOf Qc mc ms free) := va_backW (hh := hh) (bytes := bytes) (maxL := maxL) (ret := ret) hM hp.1 hrc hrs hfr hlo hws hcw (fun a' U hW => word_at hW (Or.inl (by first | rfl | simp [Cond.onTables, Cond.keeps, Cond.steady])) hini)
  obtain ⟨hx, hb, hml, ho, -⟩ := S
  intro T hT X
  obtain ⟨v, vm₁, ⟨U', l2, c2, s2⟩, hW₁, X', ⟨g', mk, t, L, e1, e2, hq, h1, hL, h2, h3⟩, st⟩ := vx_callSW X hx (hh := hh) (bytes := bytes) (maxL := maxL) (ret := ret) ho hl hstt hini hcode hy hK hg (hsize.trans hml.symm) (argsL := As) (rest := rest) (fun sig h => hn.trans (hlen sig h)) hstack hW (by rw [hb]; exact hdg)
    (fun vm₁ hW₁ => ⟨hf.1, hf.2, hp.2 (T.setVm vm₁) hT hW₁⟩)
  dsimp only [Pt.U, Pt.locs, Pt.cells, Pt.slots] at X' e1 e2 h1 h2 h3 st
  subst h1; subst h2; subst h3
  exact ⟨v, (T.setVm vm₁).calling g' mk As.toArray, t, U', L, hT, X', hL, e1, e2, hq, st⟩
/-- not caught here, past rows that name other classes: it goes on to the caller -/
theorem vx_outP {p : Program} {l : Launch} {e : Env} {R : Room} {s : State} {m : MethodId} {args : Array Value} {below : List Frame} {meth : Method} {c : Code} {H : Heap} {locs : List Loc} {cells slots : Nat} {free : Addr → Prop} {ls : Array Slot} {rest : List Value} {Qc : Array Value → State → Outcome → State → Prop} {XC : String → State → State → Prop}
    {pc : Nat} {own E : String} {ce : Cell} {q : Addr} {mc ms : Nat} (hown : s.vm.findClass own = some m.cls) (hlocks : meth.locks = false)
    (hpass : ∀ z ∈ c.exceptionTable.toList, covers z pc = false ∨ (z.catchType ≠ 0 ∧ ∃ nm : String, (Cond.classLink own z.catchType nm).before args s = true ∧ va_Nc E nm s)) (hcell : H[q]? = some ce) (hv : ce.vm = .none) (hcl : s.vm.findClass E = some ce.cls)
    (hx : ∀ t : State, t.heap = H → s.vm.Alike t.vm → XC E s t) (hf : ∀ z ∈ locs, free z.base) (hc : cells ≤ mc) (hs : slots ≤ ms) :
    vx_W p l e R s m args below meth c H locs cells slots (vx_MQ below Qc XC args s mc ms free) (F0 m pc ls rest) q := by
  intro T hT X
  have hpl : e.platform.magicAccessors = ({} : Platform).magicAccessors := by rw [X.admits.platform]
  obtain ⟨vm', hW', X', st⟩ := X.outThrough hlocks q (g := F0 m pc ls rest) rfl rfl rfl (cell := ce) (by rw [hT]; exact hcell) (by rw [hv]; rfl)
    (by obtain ⟨k9, h9, -⟩ := Vm.findClass_spec hcl; exact ⟨k9, h9⟩) (fun z hz => by
      rcases hpass z hz with h | ⟨hz0, nm, hl1, hn1⟩
      · exact Or.inl h
      · obtain ⟨c6, hc6, hcl6⟩ := Cond.classLink_spec hown hl1 e.platform hpl
        obtain ⟨a8, b8, h1, h2, h3⟩ := hn1
        cases Option.some.inj (h1.symm.trans hcl)
        cases Option.some.inj (h2.symm.trans hc6)
        exact Or.inr ⟨hz0, _, hcl6, h3⟩)
  obtain ⟨g₀, hfr⟩ := X'.frames_eq
  have hcell9 : ((T.setVm vm').setFrames (.throwing q :: below)).heap[q]? = some ce := by
    show T.heap[q]? = some ce
    rw [hT]; exact hcell
  have hend : Ended ((T.setVm vm').setFrames (.throwing q :: below)) below (.threw q) := State.frames_setFrames _ (State.cur_lt_of_frames hfr)
  refine ⟨(T.setVm vm').setFrames (.throwing q :: below), ?_, .threw q, X'.here.running, hend, Or.inr ⟨q, rfl, E, ce, locs, hx _ hT (X'.ends _).1.alike, hcell9, hv, hcl, (X'.ends _).1, (X'.ends _).2.mono hc hs, hf⟩⟩
  rw [X.pushThrowing_eq]
  exact st
/-- a thing of a world lies in the heap -/
theorem vx_lt {D : va_G} {cl : List vw_C} {ws : va_W} {H1 : Heap} (h : va_P D cl ws H1) {k : Nat} {q : Nat × va_E} (hk : ws[k]? = some q) : q.1 < H1.size := (h k q hk).lt
end VXS
/-! ===== END ===== -/
/-! ===== BEGIN methods with a table of their own: called by a name, returning or throwing ===== -/
section VXH
/-! vx_backW, vx_callVX, vx_callSX, vx_callVW, vx_runVW, vx_runVX, vx_runSX, vx_ofWH follow the same proofs as their sisters above (Free/Laws.lean, Shelf42/LK1.lean); vx_outP calls Shelf42/NT130.lean (outThrough). -/
section
variable {l : Launch} {R : Room} {p : Program} {e : Env} {below : List Frame} {s : State} {sargs : Array Value} {y : MethodName} {len W9 : Nat}
theorem vx_backW {ws : List Cond} {rm : Room} {Pc : Array Value → State → Prop} {Qc : Array Value → State → Outcome → State → Prop} {XC : String → State → State → Prop} {mc ms : Nat} {free : Addr → Prop} {bytes : ByteArray} {maxL : Nat} {ret : Option FieldType} {hh : List (Nat × Nat × Nat × Nat)}
    (hM : vx_Met l y ws rm Pc Qc XC mc ms free) (hblind : FrameBlind Pc) (hrc : rm.cells = mc) (hrs : rm.slots = ms)
    (hframes : rm.frames + 1 ≤ R.frames) (hlocals : W9 + (maxL + 11) + rm.locals ≤ R.locals)
    (hws : ∀ w ∈ ws, ∀ a' U, s.WarmedH U.vm → w.before a' U = true) (hcode : Cond.codeWith y bytes maxL ret hh ∈ ws) (hinit : ∀ a' U, s.WarmedH U.vm → (Cond.initialized y.cls).before a' U = true) :
    vx_Back l R p e below s sargs y len W9 (PreOf R mc ms Pc) (PostOf Qc mc ms free) (vx_Post XC mc ms free) := by
  intro m meth c A g ig mk a X hg hsize hdg hW hn hp
  have h1 : (headSpec ws rm).pre.before a A.U = true := atoms_intro fun w hw => hws w hw _ _ X.warmed
  have h2 : (Cond.codeWith y bytes maxL ret hh).before a A.U = true := hws _ hcode _ _ X.warmed
  have h3 : (Cond.initialized y.cls).before a A.U = true := hinit _ _ X.warmed
  have h4 : A.cells + (headSpec ws rm).room.cells ≤ R.cells := by rw [show (headSpec ws rm).room.cells = mc from hrc]; exact hp.1
  have h5 : A.slots + (headSpec ws rm).room.slots ≤ R.slots := by rw [show (headSpec ws rm).room.slots = ms from hrs]; exact hp.2.1
  have hPc : Pc a (A.U.calling g mk a) := hblind _ _ _ _ hp.2.2
  obtain ⟨U, Ls, c0, s0⟩ := A
  dsimp only [Pt.U, Pt.locs, Pt.cells, Pt.slots] at h1 h2 h3 h4 h5 X hn hPc ⊢
  obtain ⟨m9, methY, cY, hn9, hmY, hcY, -, hlY, -⟩ := Cond.codeWith_spec h2
  cases Option.some.inj (hn9.symm.trans hn)
  obtain ⟨kY, hkY, -⟩ := className_of_methodNamed hn
  have hinitY : kY.init = .initialized := Cond.initialized_spec (findClass_of_methodNamed hn) hkY h3
  have h : At U g.method c below := by rw [hg]; exact X.here
  have hlocals9 : W9 + (maxL + 11) + (headSpec ws rm).room.locals ≤ R.locals := hlocals
  have happ : (headSpec ws rm).appliesLoose y e.platform (U.calling g mk a) = true :=
    Spec.appliesLoose_calling (g := g) h hdg hn hkY hinitY
      (X.room_calling (g := g) (R' := (headSpec ws rm).room) hsize hmY hcY hframes (by rw [hlY]; omega) h4 h5) h1
  obtain ⟨mid, hmid⟩ := h.above
  have hfr : (U.setTop g).frames = (.java g :: mid) ++ below := by rw [State.frames_setTop' g h.top, hmid]; rfl
  obtain ⟨o, s₂, hsteps, -, hend, hq⟩ := Steps.callFree hM p X.admits X.cas X.clock (acts := []) hfr happ hPc trivial
  have hq' : vx_Q Qc XC mc ms free a (U.calling g mk a) o s₂ := hq
  rw [State.frames_setTop' g h.top] at hend
  obtain ⟨g₀, hg0⟩ := Option.isSome_iff_exists.mp h.top
  obtain ⟨r, hr⟩ := State.topJava?_eq_some.mp hg0
  have hr' : (({ U with heap := s₂.heap, slotsUsed := s₂.slotsUsed } : State).setVm s₂.vm).frames = .java g₀ :: r := hr
  rcases hq' with ⟨hqc, L, hfe, hL⟩ | ⟨q, rfl, E, ce, L, hx, hce, hcv, hcl, hW₂, hsm, hL⟩
  · obtain ⟨⟨v, rfl⟩, hW₂, e2, q2, q3, q4, q5, q6⟩ := id hfe
    have e3 : s₂ = ({ (U.calling g mk a).setFrames s₂.frames with heap := s₂.heap, slotsUsed := s₂.slotsUsed } : State).setVm s₂.vm := by
      have : s₂ = ({ s₂ with vm := (U.calling g mk a).vm } : State).setVm s₂.vm := rfl
      rw [e2] at this
      exact this
    obtain ⟨c₂, i₂, len₂, hc₂, hd₂, hf₂⟩ := hend
    have hW' : U.WarmedH s₂.vm := hW₂
    have hcc : c₂ = c := by
      have h1 : s₂.code? g.method = U.code? g.method := by
        rw [State.code?_eq, State.code?_eq, hW'.alike.method?]
      exact Option.some.inj (hc₂.symm.trans (h1.trans h.code))
    subst hcc
    have hlen : len₂ = len := by rw [hdg] at hd₂; cases hd₂; rfl
    subst hlen
    have hs₂ : s₂ = (({ U with heap := s₂.heap, slotsUsed := s₂.slotsUsed } : State).setVm s₂.vm).setTop { g with pc := g.pc + len₂, stack := v.toList ++ g.stack } := by
      refine e3.trans ?_
      rw [hf₂, State.calling_eq h.top, State.setFrames_setFrames, State.setTop_of_frames _ hr', hr]
      rfl
    have hsame : U.sameButNew ({ U with heap := s₂.heap, slotsUsed := s₂.slotsUsed } : State) L mc ms := by
      refine ⟨?_, q2, q3, q4, q5, q6⟩
      obtain ⟨t, ht, -⟩ := State.frames_cons hr
      show ({ U with heap := s₂.heap, slotsUsed := s₂.slotsUsed } : State) = { U.setFrames U.frames with heap := s₂.heap, slotsUsed := s₂.slotsUsed }
      rw [State.setFrames_self ht]
    subst hg
    refine Or.inl ⟨v, ⟨(({ U with heap := s₂.heap, slotsUsed := s₂.slotsUsed } : State).setVm s₂.vm), Ls ++ L, c0 + mc, s0 + ms⟩,
      ⟨X.admits, X.cas, X.clock, X.frames, X.room, X.hears, X.method, X.code, (X.here.setHeapUsed s₂.heap s₂.slotsUsed).setVm hW'.alike, X.tail, State.WarmedH.trans X.warmed hW', X.limits, X.bytes, X.same.trans (hsame.setVm s.vm)⟩,
      ⟨g, mk, s₂, L, rfl, rfl, hqc, rfl, hL, rfl, rfl⟩, ?_⟩
    show Steps p.tables e below _ ((({ U with heap := s₂.heap, slotsUsed := s₂.slotsUsed } : State).setVm s₂.vm).setTop { g with pc := g.pc + len₂, stack := v.toList ++ g.stack })
    rw [← hs₂]
    exact hsteps
  · obtain ⟨e2, q2, q3, q4, q5, q6⟩ := id hsm
    have e3 : s₂ = ({ (U.calling g mk a).setFrames s₂.frames with heap := s₂.heap, slotsUsed := s₂.slotsUsed } : State).setVm s₂.vm := by
      have : s₂ = ({ s₂ with vm := (U.calling g mk a).vm } : State).setVm s₂.vm := rfl
      rw [e2] at this
      exact this
    have hf₂ : s₂.frames = .throwing q :: .java g :: U.frames.tail := hend
    have hW' : U.WarmedH s₂.vm := hW₂
    have hs₂ : s₂ = ((({ U with heap := s₂.heap, slotsUsed := s₂.slotsUsed } : State).setVm s₂.vm).setTop g).pushFrame (.throwing q) := by
      refine e3.trans ?_
      rw [hf₂, State.calling_eq h.top, State.setFrames_setFrames, State.pushFrame, State.frames_setTop _ hr', State.setTop_of_frames _ hr', State.setFrames_setFrames, hr]
      rfl
    have hsame : U.sameButNew ({ U with heap := s₂.heap, slotsUsed := s₂.slotsUsed } : State) L mc ms := by
      refine ⟨?_, q2, q3, q4, q5, q6⟩
      obtain ⟨t, ht, -⟩ := State.frames_cons hr
      show ({ U with heap := s₂.heap, slotsUsed := s₂.slotsUsed } : State) = { U.setFrames U.frames with heap := s₂.heap, slotsUsed := s₂.slotsUsed }
      rw [State.setFrames_self ht]
    subst hg
    refine Or.inr ⟨q, ⟨(({ U with heap := s₂.heap, slotsUsed := s₂.slotsUsed } : State).setVm s₂.vm), Ls ++ L, c0 + mc, s0 + ms⟩,
      ⟨X.admits, X.cas, X.clock, X.frames, X.room, X.hears, X.method, X.code, (X.here.setHeapUsed s₂.heap s₂.slotsUsed).setVm hW'.alike, X.tail, State.WarmedH.trans X.warmed hW', X.limits, X.bytes, X.same.trans (hsame.setVm s.vm)⟩,
      ⟨g, mk, s₂, L, E, ce, rfl, rfl, hx, hce, hcv, hcl, rfl, hL, rfl, rfl⟩, ?_⟩
    show Steps p.tables e below _ (((({ U with heap := s₂.heap, slotsUsed := s₂.slotsUsed } : State).setVm s₂.vm).setTop g).pushFrame (.throwing q))
    rw [← hs₂]
    exact hsteps
end
variable {p : Program} {l : Launch} {e : Env} {R : Room} {s : State} {m : MethodId} {args : Array Value} {below : List Frame} {meth : Method} {c : Code} {T : State} {H : Heap} {locs : List Loc} {cells slots : Nat}
theorem vx_callVX (X : Stand p l e R s m args below meth c T locs cells slots) (hexec : p.tables.exec = Jvm.exec) {own C : String} {index : Nat} {y : MethodName} {bytes : ByteArray} {maxL : Nat} {ret : Option FieldType} {hh : List (Nat × Nat × Nat × Nat)}
    (hown : s.vm.findClass own = some m.cls) (hlink : (Cond.methodLink own index y).before args s = true) (hinst : (Cond.instanceMethod y).before args s = true) (hsel : (Cond.selects C y y).before args s = true)
    (hcode : (Cond.codeWith y bytes maxL ret hh).before args s = true) (hy : y.cls ≠ "java/lang/invoke/MethodHandle" ∧ y.cls ≠ "java/lang/invoke/VarHandle")
    {W9 : Nat} {Pre : Pt → Array Value → Prop} {Post : Pt → Array Value → Option Value → Pt → Prop} {PostX : Pt → Array Value → Addr → Pt → Prop} (hK : vx_Back l R p e below s args y 3 W9 Pre Post PostX)
    {b : Addr} {cellB : Cell} (hcell : T.heap[b]? = some cellB) (hobj : cellB.vm.isStatics = false) (hcls : s.vm.findClass C = some cellB.cls)
    {g : JFrame} (hg : g.method = m) (hsize : g.locals.size = c.maxLocals) {argsL rest : List Value} (hlen : ∀ sig, parseMethodDescriptor y.desc = some sig → argsL.length = sig.parameters.length)
    (hstack : g.stack = argsL.reverse ++ .ref b :: rest) (hW : 2 * g.monitorRoom + (rest.map fun v => v.category).sum ≤ W9) (hdg : decode c.code g.pc = .ok (.invokevirtual index, 3))
    (hpre : ∀ vm₁, s.WarmedH vm₁ → Pre ⟨T.setVm vm₁, locs, cells, slots⟩ (Value.ref b :: argsL).toArray) :
    (∃ (v : Option Value) (vm₁ : Vm) (B : Pt), s.WarmedH vm₁ ∧ Stand p l e R s m args below meth c B.U B.locs B.cells B.slots ∧ Post ⟨T.setVm vm₁, locs, cells, slots⟩ (Value.ref b :: argsL).toArray v B ∧
      ∀ target, Steps p.tables e below (B.U.setTop { g with pc := g.pc + 3, stack := v.toList ++ rest }) target → Steps p.tables e below (T.setTop g) target) ∨
    (∃ (q : Addr) (vm₁ : Vm) (B : Pt), s.WarmedH vm₁ ∧ Stand p l e R s m args below meth c B.U B.locs B.cells B.slots ∧ PostX ⟨T.setVm vm₁, locs, cells, slots⟩ (Value.ref b :: argsL).toArray q B ∧
      Steps p.tables e below (T.setTop g) ((B.U.setTop { g with stack := rest }).pushFrame (.throwing q))) := by
  obtain ⟨mk, methM, hnamed, hmethM, hstM, habM⟩ := Cond.instanceMethod_spec hinst
  obtain ⟨m8, methM', cM, hn8, hmethM', -, -, -, -, -, -, hsigM⟩ := Cond.codeWith_spec hcode
  cases Option.some.inj (hn8.symm.trans hnamed)
  cases hmethM.symm.trans hmethM'
  obtain ⟨c2, r2, m2, q1, q2, q3, q4, kP, hkP, hkPi⟩ := Cond.selects_spec hsel
  cases hcls.symm.trans q1
  cases (State.methodFound?_of_named hnamed hy).symm.trans q2
  cases hnamed.symm.trans q3
  have hselP : selectMethod e.platform s.vm cellB.cls mk = .method mk := by rw [Launch.admits_selectMethod X.admits]; exact q4
  obtain ⟨vm₁, X₁, hstep₁⟩ := X.invokevirtual hexec hown hlink hnamed hmethM hstM hkP hkPi hy (a := b) (cell := cellB) hcell
    (fun z h => by rw [h] at hobj; cases hobj) hselP hmethM habM hkP hkPi (g := g) hg (argsL := argsL) (rest := rest) (hlen _ hsigM) hstack hdg
  rcases hK m meth c ⟨T.setVm vm₁, locs, cells, slots⟩ { g with stack := rest } (.invokevirtual index) mk (Value.ref b :: argsL).toArray X₁ hg hsize hdg hW (X₁.named hnamed) (hpre vm₁ X₁.warmed) with ⟨v, B, X', hpost, hsteps⟩ | ⟨q, B, X', hpost, hsteps⟩
  · exact Or.inl ⟨v, vm₁, B, X₁.warmed, X', hpost, fun target h => hstep₁ _ fun acts => by rw [doInvoke_state]; exact hsteps.trans h⟩
  · exact Or.inr ⟨q, vm₁, B, X₁.warmed, X', hpost, hstep₁ _ fun acts => by rw [doInvoke_state]; exact hsteps⟩
theorem vx_callSX (X : Stand p l e R s m args below meth c T locs cells slots) (hexec : p.tables.exec = Jvm.exec) {own : String} {index : Nat} {y : MethodName} {bytes : ByteArray} {maxL : Nat} {ret : Option FieldType} {hh : List (Nat × Nat × Nat × Nat)}
    (hown : s.vm.findClass own = some m.cls) (hlink : (Cond.methodLink own index y).before args s = true) (hstat : (Cond.static y).before args s = true) (hinit : (Cond.initialized y.cls).before args s = true)
    (hcode : (Cond.codeWith y bytes maxL ret hh).before args s = true) (hy : y.cls ≠ "java/lang/invoke/MethodHandle" ∧ y.cls ≠ "java/lang/invoke/VarHandle")
    {W9 : Nat} {Pre : Pt → Array Value → Prop} {Post : Pt → Array Value → Option Value → Pt → Prop} {PostX : Pt → Array Value → Addr → Pt → Prop} (hK : vx_Back l R p e below s args y 3 W9 Pre Post PostX)
    {g : JFrame} (hg : g.method = m) (hsize : g.locals.size = c.maxLocals) {argsL rest : List Value} (hlen : ∀ sig, parseMethodDescriptor y.desc = some sig → argsL.length = sig.parameters.length)
    (hstack : g.stack = argsL.reverse ++ rest) (hW : 2 * g.monitorRoom + (rest.map fun v => v.category).sum ≤ W9) (hdg : decode c.code g.pc = .ok (.invokestatic index, 3))
    (hpre : ∀ vm₁, s.WarmedH vm₁ → Pre ⟨T.setVm vm₁, locs, cells, slots⟩ argsL.toArray) :
    (∃ (v : Option Value) (vm₁ : Vm) (B : Pt), s.WarmedH vm₁ ∧ Stand p l e R s m args below meth c B.U B.locs B.cells B.slots ∧ Post ⟨T.setVm vm₁, locs, cells, slots⟩ argsL.toArray v B ∧
      ∀ target, Steps p.tables e below (B.U.setTop { g with pc := g.pc + 3, stack := v.toList ++ rest }) target → Steps p.tables e below (T.setTop g) target) ∨
    (∃ (q : Addr) (vm₁ : Vm) (B : Pt), s.WarmedH vm₁ ∧ Stand p l e R s m args below meth c B.U B.locs B.cells B.slots ∧ PostX ⟨T.setVm vm₁, locs, cells, slots⟩ argsL.toArray q B ∧
      Steps p.tables e below (T.setTop g) ((B.U.setTop { g with stack := rest }).pushFrame (.throwing q))) := by
  obtain ⟨mk, methM, cM, hnamed, hmethM, -, -, -, -, -, -, hsigM⟩ := Cond.codeWith_spec hcode
  have hstatic : methM.isStatic = true := Cond.static_spec hnamed hmethM hstat
  obtain ⟨kP, hkP, -⟩ := className_of_methodNamed hnamed
  have hinitP : kP.init = .initialized := Cond.initialized_spec (findClass_of_methodNamed hnamed) hkP hinit
  obtain ⟨vm₁, X₁, hstep₁⟩ := X.invokestatic hexec hown hlink hnamed hmethM hstatic hkP hinitP hy (g := g) hg (argsL := argsL) (rest := rest) (hlen _ hsigM) hstack hdg
  rcases hK m meth c ⟨T.setVm vm₁, locs, cells, slots⟩ { g with stack := rest } (.invokestatic index) mk argsL.toArray X₁ hg hsize hdg hW (X₁.named hnamed) (hpre vm₁ X₁.warmed) with ⟨v, B, X', hpost, hsteps⟩ | ⟨q, B, X', hpost, hsteps⟩
  · exact Or.inl ⟨v, vm₁, B, X₁.warmed, X', hpost, fun target h => hstep₁ _ fun acts => by rw [doInvoke_state]; exact hsteps.trans h⟩
  · exact Or.inr ⟨q, vm₁, B, X₁.warmed, X', hpost, hstep₁ _ fun acts => by rw [doInvoke_state]; exact hsteps⟩
theorem vx_callVW (X : Stand p l e R s m args below meth c T locs cells slots) (hexec : p.tables.exec = Jvm.exec) {own C : String} {index : Nat} {y : MethodName} {bytes : ByteArray} {maxL : Nat} {ret : Option FieldType} {hh : List (Nat × Nat × Nat × Nat)}
    (hown : s.vm.findClass own = some m.cls) (hlink : (Cond.methodLink own index y).before args s = true) (hinst : (Cond.instanceMethod y).before args s = true) (hsel : (Cond.selects C y y).before args s = true)
    (hcode : (Cond.codeWith y bytes maxL ret hh).before args s = true) (hy : y.cls ≠ "java/lang/invoke/MethodHandle" ∧ y.cls ≠ "java/lang/invoke/VarHandle")
    {W9 : Nat} {Pre : Pt → Array Value → Prop} {Post : Pt → Array Value → Option Value → Pt → Prop} (hK : Back l R p e below s args y 3 W9 Pre Post)
    {b : Addr} {cellB : Cell} (hcell : T.heap[b]? = some cellB) (hobj : cellB.vm.isStatics = false) (hcls : s.vm.findClass C = some cellB.cls)
    {g : JFrame} (hg : g.method = m) (hsize : g.locals.size = c.maxLocals) {argsL rest : List Value} (hlen : ∀ sig, parseMethodDescriptor y.desc = some sig → argsL.length = sig.parameters.length)
    (hstack : g.stack = argsL.reverse ++ .ref b :: rest) (hW : 2 * g.monitorRoom + (rest.map fun v => v.category).sum ≤ W9) (hdg : decode c.code g.pc = .ok (.invokevirtual index, 3))
    (hpre : ∀ vm₁, s.WarmedH vm₁ → Pre ⟨T.setVm vm₁, locs, cells, slots⟩ (Value.ref b :: argsL).toArray) :
    ∃ (v : Option Value) (vm₁ : Vm) (B : Pt), s.WarmedH vm₁ ∧ Stand p l e R s m args below meth c B.U B.locs B.cells B.slots ∧ Post ⟨T.setVm vm₁, locs, cells, slots⟩ (Value.ref b :: argsL).toArray v B ∧
      ∀ target, Steps p.tables e below (B.U.setTop { g with pc := g.pc + 3, stack := v.toList ++ rest }) target → Steps p.tables e below (T.setTop g) target := by
  obtain ⟨mk, methM, hnamed, hmethM, hstM, habM⟩ := Cond.instanceMethod_spec hinst
  obtain ⟨m8, methM', cM, hn8, hmethM', -, -, -, -, -, -, hsigM⟩ := Cond.codeWith_spec hcode
  cases Option.some.inj (hn8.symm.trans hnamed)
  cases hmethM.symm.trans hmethM'
  obtain ⟨c2, r2, m2, q1, q2, q3, q4, kP, hkP, hkPi⟩ := Cond.selects_spec hsel
  cases hcls.symm.trans q1
  cases (State.methodFound?_of_named hnamed hy).symm.trans q2
  cases hnamed.symm.trans q3
  have hselP : selectMethod e.platform s.vm cellB.cls mk = .method mk := by rw [Launch.admits_selectMethod X.admits]; exact q4
  obtain ⟨vm₁, X₁, hstep₁⟩ := X.invokevirtual hexec hown hlink hnamed hmethM hstM hkP hkPi hy (a := b) (cell := cellB) hcell
    (fun z h => by rw [h] at hobj; cases hobj) hselP hmethM habM hkP hkPi (g := g) hg (argsL := argsL) (rest := rest) (hlen _ hsigM) hstack hdg
  obtain ⟨v, B, X', hpost, hsteps⟩ := hK m meth c ⟨T.setVm vm₁, locs, cells, slots⟩ { g with stack := rest } (.invokevirtual index) mk (Value.ref b :: argsL).toArray X₁ hg hsize hdg hW (X₁.named hnamed) (hpre vm₁ X₁.warmed)
  exact ⟨v, vm₁, B, X₁.warmed, X', hpost, fun target h => hstep₁ _ fun acts => by rw [doInvoke_state]; exact hsteps.trans h⟩
abbrev vx_CVW (R : Room) (s : State) (args : Array Value) (own C : String) (index : Nat) (y : MethodName) (bytes : ByteArray) (maxL : Nat) (ret : Option FieldType) (hh : List (Nat × Nat × Nat × Nat)) (ws : List Cond) (rm : Room) (mc ms n : Nat) : Prop :=
  (rm.cells = mc ∧ rm.slots = ms ∧ rm.frames + 1 ≤ R.frames ∧ 8 + (maxL + 11) + rm.locals ≤ R.locals ∧ (∀ w ∈ ws, ∀ (a' : Array Value) (U : State), s.WarmedH U.vm → w.before a' U = true) ∧ Cond.codeWith y bytes maxL ret hh ∈ ws) ∧
  (Cond.codeWith y bytes maxL ret hh).before args s = true ∧ (Cond.initialized y.cls).before args s = true ∧ (y.cls ≠ "java/lang/invoke/MethodHandle" ∧ y.cls ≠ "java/lang/invoke/VarHandle") ∧
  (∀ sig, parseMethodDescriptor y.desc = some sig → n = sig.parameters.length) ∧ (Cond.methodLink own index y).before args s = true ∧ (Cond.instanceMethod y).before args s = true ∧ (Cond.selects C y y).before args s = true
theorem vx_cwVW {own C : String} {index maxL mc ms : Nat} {y : MethodName} {bytes : ByteArray} {ret : Option FieldType} {hh : List (Nat × Nat × Nat × Nat)} {Ts ws ws' : List Cond} {rm : Room} (n : Nat) (ht : ∀ w ∈ Ts, w.before args s = true) (hT : GoodIn Ts (wsV own index C y ws)) (hw : ws = Cond.codeWith y bytes maxL ret hh :: ws') (hrc : rm.cells = mc) (hrs : rm.slots = ms)
    (hd : y.cls = C ∧ y.cls ≠ "java/lang/invoke/MethodHandle" ∧ y.cls ≠ "java/lang/invoke/VarHandle" ∧ (parseMethodDescriptor y.desc).map (fun d => d.parameters.length) = some n) (hR : rm.frames + 1 ≤ R.frames ∧ 8 + (maxL + 11) + rm.locals ≤ R.locals) :
    vx_CVW R s args own C index y bytes maxL ret hh ws rm mc ms n := by
  obtain ⟨hC, hd⟩ := hd
  subst hC
  have ok : ∀ w ∈ wsV own index y.cls y ws, w.before args s = true := fun w h => ht w (hT w h).1
  have hG : GoodIn Ts ws := fun w h => hT w (by unfold wsV; exact List.mem_append_right _ h)
  have hc : Cond.codeWith y bytes maxL ret hh ∈ ws := by rw [hw]; exact List.mem_cons_self
  refine ⟨⟨hrc, hrs, hR.1, hR.2, pay_in ht hG, hc⟩, ht _ (hG _ hc).1, ok _ (by simp [wsV]), ⟨hd.1, hd.2.1⟩, fun sig h => ?_, ok _ (by simp [wsV]), ok _ (by simp [wsV]), ok _ (by simp [wsV])⟩
  have h2 := hd.2.2
  rw [h] at h2
  exact (Option.some.inj h2).symm
theorem vx_runVW {y : MethodName} {bytes cc : ByteArray} {maxL nL mc ms n index : Nat} {ret : Option FieldType} {hh : List (Nat × Nat × Nat × Nat)} {ws : List Cond} {rm : Room} {Pc : Array Value → State → Prop} {Qc : Array Value → State → Outcome → State → Prop} {free : Addr → Prop} {Ts : List Cond} {own C : String} {b : Addr} {As rest : List Value} {g : JFrame}
    (S : CallFix p m c cc nL s args Ts own) (hM : Met l y ws rm Pc Qc mc ms free) (cw : vx_CVW R s args own C index y bytes maxL ret hh ws rm mc ms n) (hp : PreV s H C b Pc As)
    (hg : g.method = m) (hn : As.length = n) (hsize : g.locals.size = nL) (hstack : g.stack = As.reverse ++ .ref b :: rest) (hW : 2 * g.monitorRoom + (rest.map fun v => v.category).sum ≤ 8) (hdg : decode cc g.pc = .ok (.invokevirtual index, 3)) (hf : cells + mc ≤ R.cells ∧ slots + ms ≤ R.slots) :
    va_Run p l e R s m args below meth c H locs cells slots mc ms g rest (Qc (Value.ref b :: As).toArray) free := by
  obtain ⟨⟨hrc, hrs, hfr, hlo, hws, hcw⟩, hcode, hini, hy, hlen, hl, hin, hse⟩ := cw
  have hK : Back l R p e below s args y 3 8 (PreOf R mc ms Pc) (PostOf Qc mc ms free) := va_backW (hh := hh) (bytes := bytes) (maxL := maxL) (ret := ret) hM hp.1 hrc hrs hfr hlo hws hcw (fun a' U hW => word_at hW (Or.inl (by first | rfl | simp [Cond.onTables, Cond.keeps, Cond.steady])) hini)
  obtain ⟨hx, hb, hml, ho, -⟩ := S
  obtain ⟨-, ⟨cellB, hcB, hoB, hclB⟩, hPc⟩ := hp
  intro T hT X
  obtain ⟨v, vm₁, ⟨U', l2, c2, s2⟩, hW₁, X', ⟨g', mk, t, L, e1, e2, hq, h1, hL, h2, h3⟩, st⟩ := vx_callVW X hx (C := C) (hh := hh) (bytes := bytes) (maxL := maxL) (ret := ret) ho hl hin hse hcode hy hK (by rw [hT]; exact hcB) hoB hclB hg (hsize.trans hml.symm) (argsL := As) (rest := rest) (fun sig h => hn.trans (hlen sig h)) hstack hW (by rw [hb]; exact hdg)
    (fun vm₁ hW₁ => ⟨hf.1, hf.2, hPc (T.setVm vm₁) hT hW₁⟩)
  dsimp only [Pt.U, Pt.locs, Pt.cells, Pt.slots] at X' e1 e2 h1 h2 h3 st
  subst h1; subst h2; subst h3
  exact ⟨v, (T.setVm vm₁).calling g' mk (Value.ref b :: As).toArray, t, U', L, hT, X', hL, e1, e2, hq, st⟩
section
variable {y : MethodName} {bytes cc : ByteArray} {maxL nL mc ms n index : Nat} {ret : Option FieldType} {ws : List Cond} {rm : Room} {Pc : Array Value → State → Prop} {Qc : Array Value → State → Outcome → State → Prop} {XC : String → State → State → Prop} {free : Addr → Prop} {Ts : List Cond} {own C : String} {b : Addr} {As rest : List Value} {g : JFrame}
theorem vx_runVX {hh : List (Nat × Nat × Nat × Nat)} (S : CallFix p m c cc nL s args Ts own) (hM : vx_Met l y ws rm Pc Qc XC mc ms free) (cw : vx_CVW R s args own C index y bytes maxL ret hh ws rm mc ms n) (hp : PreV s H C b Pc As)
    (hg : g.method = m) (hn : As.length = n) (hsize : g.locals.size = nL) (hstack : g.stack = As.reverse ++ .ref b :: rest) (hW : 2 * g.monitorRoom + (rest.map fun v => v.category).sum ≤ 8) (hdg : decode cc g.pc = .ok (.invokevirtual index, 3)) (hf : cells + mc ≤ R.cells ∧ slots + ms ≤ R.slots) :
    vx_Run p l e R s m args below meth c H locs cells slots mc ms g rest (Qc (Value.ref b :: As).toArray) XC free := by
  obtain ⟨⟨hrc, hrs, hfr, hlo, hws, hcw⟩, hcode, hini, hy, hlen, hl, hin, hse⟩ := cw
  have hK : vx_Back l R p e below s args y 3 8 (PreOf R mc ms Pc) (PostOf Qc mc ms free) (vx_Post XC mc ms free) := vx_backW (hh := hh) (bytes := bytes) (maxL := maxL) (ret := ret) hM hp.1 hrc hrs hfr hlo hws hcw (fun a' U hW => word_at hW (Or.inl (by first | rfl | simp [Cond.onTables, Cond.keeps, Cond.steady])) hini)
  obtain ⟨hx, hb, hml, ho, -⟩ := S
  obtain ⟨-, ⟨cellB, hcB, hoB, hclB⟩, hPc⟩ := hp
  intro T hT X
  rcases vx_callVX X hx (C := C) (hh := hh) (bytes := bytes) (maxL := maxL) (ret := ret) ho hl hin hse hcode hy hK (by rw [hT]; exact hcB) hoB hclB hg (hsize.trans hml.symm) (argsL := As) (rest := rest) (fun sig h => hn.trans (hlen sig h)) hstack hW (by rw [hb]; exact hdg)
    (fun vm₁ hW₁ => ⟨hf.1, hf.2, hPc (T.setVm vm₁) hT hW₁⟩) with ⟨v, vm₁, ⟨U', l2, c2, s2⟩, hW₁, X', ⟨g', mk, t, L, e1, e2, hq, h1, hL, h2, h3⟩, st⟩ | ⟨q, vm₁, ⟨U', l2, c2, s2⟩, hW₁, X', ⟨g', mk, t, L, E, ce, e1, e2, hq, hce, hcv, hcl, h1, hL, h2, h3⟩, st⟩
  · dsimp only [Pt.U, Pt.locs, Pt.cells, Pt.slots] at X' e1 e2 h1 h2 h3 st
    subst h1; subst h2; subst h3
    exact Or.inl ⟨v, (T.setVm vm₁).calling g' mk (Value.ref b :: As).toArray, t, U', L, hT, X', hL, e1, e2, hq, st⟩
  · dsimp only [Pt.U, Pt.locs, Pt.cells, Pt.slots] at X' e1 e2 h1 h2 h3 st hcl
    subst h1; subst h2; subst h3
    exact Or.inr ⟨q, (T.setVm vm₁).calling g' mk (Value.ref b :: As).toArray, t, U', L, E, ce, hT, X', hL, e1, e2, hq, hce, hcv, vx_cls hW₁ hcl, st⟩
theorem vx_runSX {hh : List (Nat × Nat × Nat × Nat)} (S : CallFix p m c cc nL s args Ts own) (hM : vx_Met l y ws rm Pc Qc XC mc ms free) (cw : vx_CSW R s args own index y bytes maxL ret hh ws rm mc ms n) (hp : PreS s H Pc As)
    (hg : g.method = m) (hn : As.length = n) (hsize : g.locals.size = nL) (hstack : g.stack = As.reverse ++ rest) (hW : 2 * g.monitorRoom + (rest.map fun v => v.category).sum ≤ 8) (hdg : decode cc g.pc = .ok (.invokestatic index, 3)) (hf : cells + mc ≤ R.cells ∧ slots + ms ≤ R.slots) :
    vx_Run p l e R s m args below meth c H locs cells slots mc ms g rest (Qc As.toArray) XC free := by
  obtain ⟨⟨hrc, hrs, hfr, hlo, hws, hcw⟩, hcode, hini, hy, hlen, hl, hstt⟩ := cw
  have hK : vx_Back l R p e below s args y 3 8 (PreOf R mc ms Pc) (PostOf Qc mc ms free) (vx_Post XC mc ms free) := vx_backW (hh := hh) (bytes := bytes) (maxL := maxL) (ret := ret) hM hp.1 hrc hrs hfr hlo hws hcw (fun a' U hW => word_at hW (Or.inl (by first | rfl | simp [Cond.onTables, Cond.keeps, Cond.steady])) hini)
  obtain ⟨hx, hb, hml, ho, -⟩ := S
  intro T hT X
  rcases vx_callSX X hx (hh := hh) (bytes := bytes) (maxL := maxL) (ret := ret) ho hl hstt hini hcode hy hK hg (hsize.trans hml.symm) (argsL := As) (rest := rest) (fun sig h => hn.trans (hlen sig h)) hstack hW (by rw [hb]; exact hdg)
    (fun vm₁ hW₁ => ⟨hf.1, hf.2, hp.2 (T.setVm vm₁) hT hW₁⟩) with ⟨v, vm₁, ⟨U', l2, c2, s2⟩, hW₁, X', ⟨g', mk, t, L, e1, e2, hq, h1, hL, h2, h3⟩, st⟩ | ⟨q, vm₁, ⟨U', l2, c2, s2⟩, hW₁, X', ⟨g', mk, t, L, E, ce, e1, e2, hq, hce, hcv, hcl, h1, hL, h2, h3⟩, st⟩
  · dsimp only [Pt.U, Pt.locs, Pt.cells, Pt.slots] at X' e1 e2 h1 h2 h3 st
    subst h1; subst h2; subst h3
    exact Or.inl ⟨v, (T.setVm vm₁).calling g' mk As.toArray, t, U', L, hT, X', hL, e1, e2, hq, st⟩
  · dsimp only [Pt.U, Pt.locs, Pt.cells, Pt.slots] at X' e1 e2 h1 h2 h3 st hcl
    subst h1; subst h2; subst h3
    exact Or.inr ⟨q, (T.setVm vm₁).calling g' mk As.toArray, t, U', L, E, ce, hT, X', hL, e1, e2, hq, hce, hcv, vx_cls hW₁ hcl, st⟩
end
end VXH
theorem vx_ofWH {l : Launch} {y : MethodName} {ws ws' : List Cond} {rm : Room} {Pc : Array Value → State → Prop} {Qc : Array Value → State → Outcome → State → Prop} {XC : String → State → State → Prop} {mc ms : Nat} {free : Addr → Prop} {cc : ByteArray} {maxL : Nat} {ret : Option FieldType} {hh : List (Nat × Nat × Nat × Nat)}
    (hy : plainName y.cls = true) (hw : ws = Cond.codeWith y cc maxL ret hh :: ws')
    (body : ∀ p e s m args below meth c s₁, BodyLoose p l y (headSpec ws rm) cc maxL ret e s m args below meth c s₁ → c.maxLocals = maxL → Pc args s →
      W p l e (headSpec ws rm).room s m args below meth c s.heap [] 0 0 (vx_MQ below Qc XC args s mc ms free) (entryFrame m args maxL)) : vx_Met l y ws rm Pc Qc XC mc ms free := by
  refine MetFree.of_bodyS (code := cc) (maxLocals := maxL) (ret := ret) hy ?_ ?_
  · intro args s m h hn
    obtain ⟨m9, meth, c, hn9, h1, h2, h3, h4, -, h5, h6, -⟩ := Cond.codeWith_spec (atoms_spec (ws := ws) h _ (by rw [hw]; exact List.mem_cons_self))
    cases hn.symm.trans hn9
    exact ⟨meth, c, h1, h2, h3, h4, h5, h6⟩
  · intro p e s m args below meth c s₁ B hml hP _
    have hh0 : s₁.heap = s.heap := by rw [B.state]; rfl
    obtain ⟨t, a1, o, b1, b2, b3⟩ := body p e s m args below meth c s₁ B hml hP s₁ hh0 (Stand.of_body B)
    exact ⟨t, o, a1, b1, b2, b3⟩
/-! ===== END ===== -/
end
section
def RX0 : String := "GemPits$Agreement"
def TX0 : u_T := fun k => match k with
  | 0 => ("GemPits$Agreement", "hundredths", "[I", true)
  | 1 => ("GemPits$Agreement", "costsFirst", "Z", false)
  | _ => ("GemPits$Agreement", "until", "I", false)
def tyX0 : Nat → FieldType := fun k => match k with
  | 0 => .array .int
  | 1 => .boolean
  | _ => .int
abbrev wsX00 : List Cond := u_ws RX0 TX0 3
theorem nmX0 : ∀ a, a < 3 → ∀ b, b < 3 → a ≠ b → (TX0 a).2.1 ≠ (TX0 b).2.1 := by decide +kernel
theorem tyX0_ok : ∀ k, k < 3 → parseFieldDescriptor (TX0 k).2.2.1 = some (tyX0 k) := by decide +kernel
abbrev cX0_init : ByteArray := prog_2_method_1_code
def yX0_init : MethodName := ⟨RX0, "<init>", "()V"⟩
abbrev cX0_readClause : ByteArray := prog_2_method_2_code
def yX0_readClause : MethodName := ⟨RX0, "readClause", "(LGemPits$Reader;)V"⟩
abbrev cX0_agrees : ByteArray := prog_2_method_3_code
def yX0_agrees : MethodName := ⟨RX0, "agrees", "()Z"⟩
abbrev cX0_partPrice : ByteArray := prog_2_method_4_code
def yX0_partPrice : MethodName := ⟨RX0, "partPrice", "(III[I)V"⟩
abbrev cX0_shareOf : ByteArray := prog_2_method_5_code
def yX0_shareOf : MethodName := ⟨RX0, "shareOf", "(II)I"⟩
def RX1 : String := "GemPits$Clauses"
def TX1 : u_T := fun k => match k with
  | _ => ("", "", "", false)
def tyX1 : Nat → FieldType := fun k => match k with
  | _ => .int
abbrev wsX10 : List Cond := u_ws RX1 TX1 0
theorem nmX1 : ∀ a, a < 0 → ∀ b, b < 0 → a ≠ b → (TX1 a).2.1 ≠ (TX1 b).2.1 := by decide +kernel
theorem tyX1_ok : ∀ k, k < 0 → parseFieldDescriptor (TX1 k).2.2.1 = some (tyX1 k) := by decide +kernel
abbrev cX1_init : ByteArray := prog_3_method_1_code
def yX1_init : MethodName := ⟨RX1, "<init>", "()V"⟩
abbrev cX1_readAll : ByteArray := prog_3_method_4_code
def yX1_readAll : MethodName := ⟨RX1, "readAll", "(LGemPits$Reader;)I"⟩
abbrev cX1_finish : ByteArray := prog_3_method_5_code
def yX1_finish : MethodName := ⟨RX1, "finish", "(LGemPits$Reader;)V"⟩
def RX2 : String := "GemPits$Ground"
def TX2 : u_T := fun k => match k with
  | 0 => ("GemPits$Ground", "pits", "Ljava/util/ArrayList;", true)
  | 1 => ("GemPits$Ground", "least", "[I", true)
  | 2 => ("GemPits$Ground", "greatest", "[I", true)
  | 3 => ("GemPits$Ground", "law", "LGemPits$Law;", false)
  | 4 => ("GemPits$Ground", "step", "I", false)
  | _ => ("GemPits$Ground", "today", "I", false)
def tyX2 : Nat → FieldType := fun k => match k with
  | 0 => .object "java/util/ArrayList"
  | 1 => .array .int
  | 2 => .array .int
  | 3 => .object "GemPits$Law"
  | 4 => .int
  | _ => .int
abbrev wsX20 : List Cond := u_ws RX2 TX2 6
theorem nmX2 : ∀ a, a < 6 → ∀ b, b < 6 → a ≠ b → (TX2 a).2.1 ≠ (TX2 b).2.1 := by decide +kernel
theorem tyX2_ok : ∀ k, k < 6 → parseFieldDescriptor (TX2 k).2.2.1 = some (tyX2 k) := by decide +kernel
abbrev cX2_init : ByteArray := prog_4_method_1_code
def yX2_init : MethodName := ⟨RX2, "<init>", "()V"⟩
abbrev cX2_lawNow : ByteArray := prog_4_method_2_code
def yX2_lawNow : MethodName := ⟨RX2, "lawNow", "()LGemPits$Law;"⟩
abbrev cX2_setLaw : ByteArray := prog_4_method_3_code
def yX2_setLaw : MethodName := ⟨RX2, "setLaw", "(LGemPits$Law;)V"⟩
abbrev cX2_setStep : ByteArray := prog_4_method_4_code
def yX2_setStep : MethodName := ⟨RX2, "setStep", "(I)V"⟩
abbrev cX2_today : ByteArray := prog_4_method_5_code
def yX2_today : MethodName := ⟨RX2, "today", "()I"⟩
abbrev cX2_passDays : ByteArray := prog_4_method_6_code
def yX2_passDays : MethodName := ⟨RX2, "passDays", "(I)V"⟩
abbrev cX2_pits : ByteArray := prog_4_method_7_code
def yX2_pits : MethodName := ⟨RX2, "pits", "()I"⟩
abbrev cX2_pitAt : ByteArray := prog_4_method_8_code
def yX2_pitAt : MethodName := ⟨RX2, "pitAt", "(I)LGemPits$Pit;"⟩
abbrev cX2_maySink : ByteArray := prog_4_method_9_code
def yX2_maySink : MethodName := ⟨RX2, "maySink", "(I)Z"⟩
abbrev cX2_sinkAt : ByteArray := prog_4_method_10_code
def yX2_sinkAt : MethodName := ⟨RX2, "sinkAt", "(I)I"⟩
abbrev cX2_tellFound : ByteArray := prog_4_method_11_code
def yX2_tellFound : MethodName := ⟨RX2, "tellFound", "(LGemPits$Pit;I)Z"⟩
abbrev cX2_leastAt : ByteArray := prog_4_method_12_code
def yX2_leastAt : MethodName := ⟨RX2, "leastAt", "(I)I"⟩
abbrev cX2_greatestAt : ByteArray := prog_4_method_13_code
def yX2_greatestAt : MethodName := ⟨RX2, "greatestAt", "(I)I"⟩
abbrev cX2_hasSpan : ByteArray := prog_4_method_14_code
def yX2_hasSpan : MethodName := ⟨RX2, "hasSpan", "(I)Z"⟩
abbrev cX2_bestSquare : ByteArray := prog_4_method_15_code
def yX2_bestSquare : MethodName := ⟨RX2, "bestSquare", "()I"⟩
abbrev cX2_squaresOfOneAmount : ByteArray := prog_4_method_16_code
def yX2_squaresOfOneAmount : MethodName := ⟨RX2, "squaresOfOneAmount", "()I"⟩
abbrev cX2_squaresWithoutSpan : ByteArray := prog_4_method_17_code
def yX2_squaresWithoutSpan : MethodName := ⟨RX2, "squaresWithoutSpan", "()I"⟩
abbrev cX2_openPits : ByteArray := prog_4_method_18_code
def yX2_openPits : MethodName := ⟨RX2, "openPits", "()I"⟩
abbrev cX2_bonds : ByteArray := prog_4_method_19_code
def yX2_bonds : MethodName := ⟨RX2, "bonds", "(I)I"⟩
abbrev cX2_narrowSpans : ByteArray := prog_4_method_20_code
def yX2_narrowSpans : MethodName := ⟨RX2, "narrowSpans", "(LGemPits$Pit;)V"⟩
abbrev cX2_stepsApart : ByteArray := prog_4_method_21_code
def yX2_stepsApart : MethodName := ⟨RX2, "stepsApart", "(II)I"⟩
def RX3 : String := "GemPits$Law"
def TX3 : u_T := fun k => match k with
  | 0 => ("GemPits$Law", "apart", "I", false)
  | 1 => ("GemPits$Law", "fillDays", "I", false)
  | _ => ("GemPits$Law", "bond", "I", false)
def tyX3 : Nat → FieldType := fun k => match k with
  | 0 => .int
  | 1 => .int
  | _ => .int
abbrev wsX30 : List Cond := u_ws RX3 TX3 3
theorem nmX3 : ∀ a, a < 3 → ∀ b, b < 3 → a ≠ b → (TX3 a).2.1 ≠ (TX3 b).2.1 := by decide +kernel
theorem tyX3_ok : ∀ k, k < 3 → parseFieldDescriptor (TX3 k).2.2.1 = some (tyX3 k) := by decide +kernel
abbrev cX3_init : ByteArray := prog_5_method_1_code
def yX3_init : MethodName := ⟨RX3, "<init>", "()V"⟩
abbrev cX3_copy : ByteArray := prog_5_method_2_code
def yX3_copy : MethodName := ⟨RX3, "copy", "()LGemPits$Law;"⟩
abbrev cX3_readClause : ByteArray := prog_5_method_3_code
def yX3_readClause : MethodName := ⟨RX3, "readClause", "(LGemPits$Reader;)V"⟩
abbrev cX3_agrees : ByteArray := prog_5_method_4_code
def yX3_agrees : MethodName := ⟨RX3, "agrees", "()Z"⟩
def RX4 : String := "GemPits$Market"
def TX4 : u_T := fun k => match k with
  | 0 => ("GemPits$Market", "stones", "Ljava/util/ArrayList;", true)
  | 1 => ("GemPits$Market", "had", "[I", true)
  | 2 => ("GemPits$Market", "agreement", "LGemPits$Agreement;", false)
  | 3 => ("GemPits$Market", "costs", "I", false)
  | _ => ("GemPits$Market", "sold", "I", false)
def tyX4 : Nat → FieldType := fun k => match k with
  | 0 => .object "java/util/ArrayList"
  | 1 => .array .int
  | 2 => .object "GemPits$Agreement"
  | 3 => .int
  | _ => .int
abbrev wsX40 : List Cond := u_ws RX4 TX4 5
theorem nmX4 : ∀ a, a < 5 → ∀ b, b < 5 → a ≠ b → (TX4 a).2.1 ≠ (TX4 b).2.1 := by decide +kernel
theorem tyX4_ok : ∀ k, k < 5 → parseFieldDescriptor (TX4 k).2.2.1 = some (tyX4 k) := by decide +kernel
abbrev cX4_init : ByteArray := prog_6_method_1_code
def yX4_init : MethodName := ⟨RX4, "<init>", "()V"⟩
abbrev cX4_setAgreement : ByteArray := prog_6_method_2_code
def yX4_setAgreement : MethodName := ⟨RX4, "setAgreement", "(LGemPits$Agreement;)V"⟩
abbrev cX4_stones : ByteArray := prog_6_method_3_code
def yX4_stones : MethodName := ⟨RX4, "stones", "()I"⟩
abbrev cX4_stoneAt : ByteArray := prog_6_method_4_code
def yX4_stoneAt : MethodName := ⟨RX4, "stoneAt", "(I)LGemPits$Stone;"⟩
abbrev cX4_addStone : ByteArray := prog_6_method_5_code
def yX4_addStone : MethodName := ⟨RX4, "addStone", "(II)I"⟩
abbrev cX4_sold : ByteArray := prog_6_method_6_code
def yX4_sold : MethodName := ⟨RX4, "sold", "()I"⟩
abbrev cX4_costs : ByteArray := prog_6_method_7_code
def yX4_costs : MethodName := ⟨RX4, "costs", "()I"⟩
abbrev cX4_layOut : ByteArray := prog_6_method_8_code
def yX4_layOut : MethodName := ⟨RX4, "layOut", "(I)V"⟩
abbrev cX4_hadBy : ByteArray := prog_6_method_9_code
def yX4_hadBy : MethodName := ⟨RX4, "hadBy", "(I)I"⟩
abbrev cX4_sellTo : ByteArray := prog_6_method_10_code
def yX4_sellTo : MethodName := ⟨RX4, "sellTo", "(LGemPits$Stone;I)V"⟩
def RX5 : String := "GemPits$Pit"
def TX5 : u_T := fun k => match k with
  | 0 => ("GemPits$Pit", "square", "I", true)
  | 1 => ("GemPits$Pit", "sunkOn", "I", true)
  | 2 => ("GemPits$Pit", "lastDay", "I", true)
  | 3 => ("GemPits$Pit", "bond", "I", true)
  | 4 => ("GemPits$Pit", "found", "I", false)
  | _ => ("GemPits$Pit", "filledOn", "I", false)
def tyX5 : Nat → FieldType := fun k => match k with
  | 0 => .int
  | 1 => .int
  | 2 => .int
  | 3 => .int
  | 4 => .int
  | _ => .int
abbrev wsX50 : List Cond := u_ws RX5 TX5 6
theorem nmX5 : ∀ a, a < 6 → ∀ b, b < 6 → a ≠ b → (TX5 a).2.1 ≠ (TX5 b).2.1 := by decide +kernel
theorem tyX5_ok : ∀ k, k < 6 → parseFieldDescriptor (TX5 k).2.2.1 = some (tyX5 k) := by decide +kernel
abbrev cX5_init : ByteArray := prog_7_method_1_code
def yX5_init : MethodName := ⟨RX5, "<init>", "(IILGemPits$Law;)V"⟩
abbrev cX5_isFilled : ByteArray := prog_7_method_2_code
def yX5_isFilled : MethodName := ⟨RX5, "isFilled", "()Z"⟩
abbrev cX5_fillOn : ByteArray := prog_7_method_3_code
def yX5_fillOn : MethodName := ⟨RX5, "fillOn", "(I)Z"⟩
abbrev cX5_bondState : ByteArray := prog_7_method_4_code
def yX5_bondState : MethodName := ⟨RX5, "bondState", "(I)I"⟩
def RX6 : String := "GemPits$Reader"
def TX6 : u_T := fun k => match k with
  | 0 => ("GemPits$Reader", "text", "LGemPits$Tape;", true)
  | 1 => ("GemPits$Reader", "at", "I", false)
  | _ => ("GemPits$Reader", "firstFault", "I", false)
def tyX6 : Nat → FieldType := fun k => match k with
  | 0 => .object "GemPits$Tape"
  | 1 => .int
  | _ => .int
abbrev wsX60 : List Cond := u_ws RX6 TX6 3
theorem nmX6 : ∀ a, a < 3 → ∀ b, b < 3 → a ≠ b → (TX6 a).2.1 ≠ (TX6 b).2.1 := by decide +kernel
theorem tyX6_ok : ∀ k, k < 3 → parseFieldDescriptor (TX6 k).2.2.1 = some (tyX6 k) := by decide +kernel
abbrev cX6_init : ByteArray := prog_8_method_1_code
def yX6_init : MethodName := ⟨RX6, "<init>", "(LGemPits$Tape;)V"⟩
abbrev cX6_firstFault : ByteArray := prog_8_method_2_code
def yX6_firstFault : MethodName := ⟨RX6, "firstFault", "()I"⟩
abbrev cX6_refuse : ByteArray := prog_8_method_3_code
def yX6_refuse : MethodName := ⟨RX6, "refuse", "()V"⟩
abbrev cX6_takeWord : ByteArray := prog_8_method_4_code
def yX6_takeWord : MethodName := ⟨RX6, "takeWord", "(Ljava/lang/String;)Z"⟩
abbrev cX6_expectWord : ByteArray := prog_8_method_5_code
def yX6_expectWord : MethodName := ⟨RX6, "expectWord", "(Ljava/lang/String;)V"⟩
abbrev cX6_expectNumber : ByteArray := prog_8_method_6_code
def yX6_expectNumber : MethodName := ⟨RX6, "expectNumber", "(II)I"⟩
abbrev cX6_takeSemicolon : ByteArray := prog_8_method_7_code
def yX6_takeSemicolon : MethodName := ⟨RX6, "takeSemicolon", "()Z"⟩
abbrev cX6_expectEnd : ByteArray := prog_8_method_8_code
def yX6_expectEnd : MethodName := ⟨RX6, "expectEnd", "()V"⟩
abbrev cX6_goOnFrom : ByteArray := prog_8_method_9_code
def yX6_goOnFrom : MethodName := ⟨RX6, "goOnFrom", "(I)V"⟩
abbrev cX6_isLetter : ByteArray := prog_8_method_10_code
def yX6_isLetter : MethodName := ⟨RX6, "isLetter", "(I)Z"⟩
abbrev cX6_isDigit : ByteArray := prog_8_method_11_code
def yX6_isDigit : MethodName := ⟨RX6, "isDigit", "(I)Z"⟩
def RX7 : String := "GemPits$Rough"
def TX7 : u_T := fun k => match k with
  | 0 => ("GemPits$Rough", "flawed", "[Z", true)
  | 1 => ("GemPits$Rough", "clear", "[Z", true)
  | 2 => ("GemPits$Rough", "worth", "[I", true)
  | 3 => ("GemPits$Rough", "fewest", "[I", true)
  | 4 => ("GemPits$Rough", "wide", "I", false)
  | 5 => ("GemPits$Rough", "high", "I", false)
  | _ => ("GemPits$Rough", "weighed", "Z", false)
def tyX7 : Nat → FieldType := fun k => match k with
  | 0 => .array .boolean
  | 1 => .array .boolean
  | 2 => .array .int
  | 3 => .array .int
  | 4 => .int
  | 5 => .int
  | _ => .boolean
abbrev wsX70 : List Cond := u_ws RX7 TX7 7
theorem nmX7 : ∀ a, a < 7 → ∀ b, b < 7 → a ≠ b → (TX7 a).2.1 ≠ (TX7 b).2.1 := by decide +kernel
theorem tyX7_ok : ∀ k, k < 7 → parseFieldDescriptor (TX7 k).2.2.1 = some (tyX7 k) := by decide +kernel
abbrev cX7_init : ByteArray := prog_9_method_1_code
def yX7_init : MethodName := ⟨RX7, "<init>", "()V"⟩
abbrev cX7_begin : ByteArray := prog_9_method_2_code
def yX7_begin : MethodName := ⟨RX7, "begin", "(II)V"⟩
abbrev cX7_hasCell : ByteArray := prog_9_method_3_code
def yX7_hasCell : MethodName := ⟨RX7, "hasCell", "(II)Z"⟩
abbrev cX7_setFlaw : ByteArray := prog_9_method_4_code
def yX7_setFlaw : MethodName := ⟨RX7, "setFlaw", "(IIZ)Z"⟩
abbrev cX7_greatestWorth : ByteArray := prog_9_method_5_code
def yX7_greatestWorth : MethodName := ⟨RX7, "greatestWorth", "()I"⟩
abbrev cX7_fewestCuts : ByteArray := prog_9_method_6_code
def yX7_fewestCuts : MethodName := ⟨RX7, "fewestCuts", "()I"⟩
abbrev cX7_weighAll : ByteArray := prog_9_method_7_code
def yX7_weighAll : MethodName := ⟨RX7, "weighAll", "()V"⟩
abbrev cX7_weigh : ByteArray := prog_9_method_8_code
def yX7_weigh : MethodName := ⟨RX7, "weigh", "(IIII)V"⟩
abbrev cX7_isClear : ByteArray := prog_9_method_9_code
def yX7_isClear : MethodName := ⟨RX7, "isClear", "(IIII)Z"⟩
abbrev cX7_tryCut : ByteArray := prog_9_method_10_code
def yX7_tryCut : MethodName := ⟨RX7, "tryCut", "(III)V"⟩
abbrev cX7_place : ByteArray := prog_9_method_11_code
def yX7_place : MethodName := ⟨RX7, "place", "(IIII)I"⟩
abbrev cX7_runOf : ByteArray := prog_9_method_12_code
def yX7_runOf : MethodName := ⟨RX7, "runOf", "(II)I"⟩
def RX8 : String := "GemPits$Stone"
def TX8 : u_T := fun k => match k with
  | 0 => ("GemPits$Stone", "pit", "I", true)
  | 1 => ("GemPits$Stone", "basket", "I", true)
  | 2 => ("GemPits$Stone", "hands", "[I", true)
  | 3 => ("GemPits$Stone", "shares", "[I", true)
  | 4 => ("GemPits$Stone", "buyer", "I", false)
  | _ => ("GemPits$Stone", "price", "I", false)
def tyX8 : Nat → FieldType := fun k => match k with
  | 0 => .int
  | 1 => .int
  | 2 => .array .int
  | 3 => .array .int
  | 4 => .int
  | _ => .int
abbrev wsX80 : List Cond := u_ws RX8 TX8 6
theorem nmX8 : ∀ a, a < 6 → ∀ b, b < 6 → a ≠ b → (TX8 a).2.1 ≠ (TX8 b).2.1 := by decide +kernel
theorem tyX8_ok : ∀ k, k < 6 → parseFieldDescriptor (TX8 k).2.2.1 = some (tyX8 k) := by decide +kernel
abbrev cX8_init : ByteArray := prog_10_method_1_code
def yX8_init : MethodName := ⟨RX8, "<init>", "(II)V"⟩
abbrev cX8_isSold : ByteArray := prog_10_method_2_code
def yX8_isSold : MethodName := ⟨RX8, "isSold", "()Z"⟩
abbrev cX8_takeHand : ByteArray := prog_10_method_3_code
def yX8_takeHand : MethodName := ⟨RX8, "takeHand", "(II)Z"⟩
abbrev cX8_buyerFor : ByteArray := prog_10_method_4_code
def yX8_buyerFor : MethodName := ⟨RX8, "buyerFor", "(I)I"⟩
def RX9 : String := "GemPits$Tape"
def TX9 : u_T := fun k => match k with
  | 0 => ("GemPits$Tape", "bytes", "[B", true)
  | _ => ("GemPits$Tape", "length", "I", false)
def tyX9 : Nat → FieldType := fun k => match k with
  | 0 => .array .byte
  | _ => .int
abbrev wsX90 : List Cond := u_ws RX9 TX9 2
theorem nmX9 : ∀ a, a < 2 → ∀ b, b < 2 → a ≠ b → (TX9 a).2.1 ≠ (TX9 b).2.1 := by decide +kernel
theorem tyX9_ok : ∀ k, k < 2 → parseFieldDescriptor (TX9 k).2.2.1 = some (tyX9 k) := by decide +kernel
abbrev cX9_init : ByteArray := prog_11_method_1_code
def yX9_init : MethodName := ⟨RX9, "<init>", "()V"⟩
abbrev cX9_length : ByteArray := prog_11_method_2_code
def yX9_length : MethodName := ⟨RX9, "length", "()I"⟩
abbrev cX9_hasRoom : ByteArray := prog_11_method_3_code
def yX9_hasRoom : MethodName := ⟨RX9, "hasRoom", "()Z"⟩
abbrev cX9_put : ByteArray := prog_11_method_4_code
def yX9_put : MethodName := ⟨RX9, "put", "(I)V"⟩
abbrev cX9_shorten : ByteArray := prog_11_method_5_code
def yX9_shorten : MethodName := ⟨RX9, "shorten", "(I)Z"⟩
abbrev cX9_byteAt : ByteArray := prog_11_method_6_code
def yX9_byteAt : MethodName := ⟨RX9, "byteAt", "(I)I"⟩
def RX10 : String := "GemPits"
def TX10 : u_T := fun k => match k with
  | 0 => ("GemPits", "tape", "LGemPits$Tape;", true)
  | 1 => ("GemPits", "ground", "LGemPits$Ground;", true)
  | 2 => ("GemPits", "market", "LGemPits$Market;", true)
  | 3 => ("GemPits", "gem", "LGemPits$Rough;", true)
  | _ => ("GemPits", "latestFault", "I", false)
def tyX10 : Nat → FieldType := fun k => match k with
  | 0 => .object "GemPits$Tape"
  | 1 => .object "GemPits$Ground"
  | 2 => .object "GemPits$Market"
  | 3 => .object "GemPits$Rough"
  | _ => .int
abbrev wsX100 : List Cond := u_ws RX10 TX10 5
theorem nmX10 : ∀ a, a < 5 → ∀ b, b < 5 → a ≠ b → (TX10 a).2.1 ≠ (TX10 b).2.1 := by decide +kernel
theorem tyX10_ok : ∀ k, k < 5 → parseFieldDescriptor (TX10 k).2.2.1 = some (tyX10 k) := by decide +kernel
abbrev cX10_init : ByteArray := prog_1_method_1_code
def yX10_init : MethodName := ⟨RX10, "<init>", "()V"⟩
abbrev cX10_feed : ByteArray := prog_1_method_2_code
def yX10_feed : MethodName := ⟨RX10, "feed", "(IIIII)I"⟩
abbrev cX10_end : ByteArray := prog_1_method_3_code
def yX10_end : MethodName := ⟨RX10, "end", "(I)Z"⟩
abbrev cX10_step : ByteArray := prog_1_method_4_code
def yX10_step : MethodName := ⟨RX10, "step", "(I)V"⟩
abbrev cX10_law : ByteArray := prog_1_method_5_code
def yX10_law : MethodName := ⟨RX10, "law", "()I"⟩
abbrev cX10_agreement : ByteArray := prog_1_method_6_code
def yX10_agreement : MethodName := ⟨RX10, "agreement", "()I"⟩
abbrev cX10_fault : ByteArray := prog_1_method_7_code
def yX10_fault : MethodName := ⟨RX10, "fault", "()I"⟩
abbrev cX10_sink : ByteArray := prog_1_method_8_code
def yX10_sink : MethodName := ⟨RX10, "sink", "(I)I"⟩
abbrev cX10_wash : ByteArray := prog_1_method_9_code
def yX10_wash : MethodName := ⟨RX10, "wash", "(II)Z"⟩
abbrev cX10_fill : ByteArray := prog_1_method_10_code
def yX10_fill : MethodName := ⟨RX10, "fill", "(I)Z"⟩
abbrev cX10_days : ByteArray := prog_1_method_11_code
def yX10_days : MethodName := ⟨RX10, "days", "(I)I"⟩
abbrev cX10_span : ByteArray := prog_1_method_12_code
def yX10_span : MethodName := ⟨RX10, "span", "(IZ)I"⟩
abbrev cX10_best : ByteArray := prog_1_method_13_code
def yX10_best : MethodName := ⟨RX10, "best", "()I"⟩
abbrev cX10_look : ByteArray := prog_1_method_14_code
def yX10_look : MethodName := ⟨RX10, "look", "(II)I"⟩
abbrev cX10_stone : ByteArray := prog_1_method_15_code
def yX10_stone : MethodName := ⟨RX10, "stone", "(II)I"⟩
abbrev cX10_lay : ByteArray := prog_1_method_16_code
def yX10_lay : MethodName := ⟨RX10, "lay", "(I)I"⟩
abbrev cX10_hand : ByteArray := prog_1_method_17_code
def yX10_hand : MethodName := ⟨RX10, "hand", "(III)Z"⟩
abbrev cX10_sell : ByteArray := prog_1_method_18_code
def yX10_sell : MethodName := ⟨RX10, "sell", "(II)I"⟩
abbrev cX10_part : ByteArray := prog_1_method_19_code
def yX10_part : MethodName := ⟨RX10, "part", "(II)I"⟩
abbrev cX10_rough : ByteArray := prog_1_method_20_code
def yX10_rough : MethodName := ⟨RX10, "rough", "(II)V"⟩
abbrev cX10_flaw : ByteArray := prog_1_method_21_code
def yX10_flaw : MethodName := ⟨RX10, "flaw", "(IIZ)Z"⟩
abbrev cX10_most : ByteArray := prog_1_method_22_code
def yX10_most : MethodName := ⟨RX10, "most", "()I"⟩
abbrev cX10_cuts : ByteArray := prog_1_method_23_code
def yX10_cuts : MethodName := ⟨RX10, "cuts", "()I"⟩
abbrev cX10_count : ByteArray := prog_1_method_24_code
def yX10_count : MethodName := ⟨RX10, "count", "(I)I"⟩
abbrev cX10_readTape : ByteArray := prog_1_method_25_code
def yX10_readTape : MethodName := ⟨RX10, "readTape", "(LGemPits$Clauses;)I"⟩
abbrev cX10_pitOf : ByteArray := prog_1_method_26_code
def yX10_pitOf : MethodName := ⟨RX10, "pitOf", "(I)LGemPits$Pit;"⟩
abbrev cX10_stoneOf : ByteArray := prog_1_method_27_code
def yX10_stoneOf : MethodName := ⟨RX10, "stoneOf", "(I)LGemPits$Stone;"⟩
abbrev cX10_checkSquare : ByteArray := prog_1_method_28_code
def yX10_checkSquare : MethodName := ⟨RX10, "checkSquare", "(I)V"⟩
abbrev cX10_checkMoney : ByteArray := prog_1_method_29_code
def yX10_checkMoney : MethodName := ⟨RX10, "checkMoney", "(I)V"⟩
def RX11 : String := "GemPitsModel"
def TX11 : u_T := fun k => match k with
  | 0 => ("GemPitsModel", "thrown", "I", false)
  | 1 => ("GemPitsModel", "today", "I", false)
  | 2 => ("GemPitsModel", "step", "I", false)
  | 3 => ("GemPitsModel", "square", "[I", true)
  | 4 => ("GemPitsModel", "sunk", "[I", true)
  | 5 => ("GemPitsModel", "found", "[I", true)
  | 6 => ("GemPitsModel", "filled", "[I", true)
  | 7 => ("GemPitsModel", "fillBy", "[I", true)
  | 8 => ("GemPitsModel", "bond", "[I", true)
  | 9 => ("GemPitsModel", "pits", "I", false)
  | 10 => ("GemPitsModel", "law", "[I", true)
  | 11 => ("GemPitsModel", "agreed", "[I", true)
  | 12 => ("GemPitsModel", "draft", "[I", true)
  | 13 => ("GemPitsModel", "isAgreed", "Z", false)
  | 14 => ("GemPitsModel", "tape", "[B", true)
  | 15 => ("GemPitsModel", "taped", "I", false)
  | 16 => ("GemPitsModel", "point", "I", false)
  | 17 => ("GemPitsModel", "end", "I", false)
  | 18 => ("GemPitsModel", "begin", "I", false)
  | 19 => ("GemPitsModel", "faultAt", "I", false)
  | 20 => ("GemPitsModel", "five", "[I", true)
  | 21 => ("GemPitsModel", "stone", "[I", true)
  | 22 => ("GemPitsModel", "hand", "[I", true)
  | 23 => ("GemPitsModel", "stones", "I", false)
  | 24 => ("GemPitsModel", "costs", "I", false)
  | 25 => ("GemPitsModel", "had", "[I", true)
  | 26 => ("GemPitsModel", "wide", "I", false)
  | 27 => ("GemPitsModel", "high", "I", false)
  | 28 => ("GemPitsModel", "isFlaw", "[Z", true)
  | 29 => ("GemPitsModel", "worth", "[I", true)
  | _ => ("GemPitsModel", "cuts", "[I", true)
def tyX11 : Nat → FieldType := fun k => match k with
  | 0 => .int
  | 1 => .int
  | 2 => .int
  | 3 => .array .int
  | 4 => .array .int
  | 5 => .array .int
  | 6 => .array .int
  | 7 => .array .int
  | 8 => .array .int
  | 9 => .int
  | 10 => .array .int
  | 11 => .array .int
  | 12 => .array .int
  | 13 => .boolean
  | 14 => .array .byte
  | 15 => .int
  | 16 => .int
  | 17 => .int
  | 18 => .int
  | 19 => .int
  | 20 => .array .int
  | 21 => .array .int
  | 22 => .array .int
  | 23 => .int
  | 24 => .int
  | 25 => .array .int
  | 26 => .int
  | 27 => .int
  | 28 => .array .boolean
  | 29 => .array .int
  | _ => .array .int
abbrev wsX110 : List Cond := u_ws RX11 TX11 31
theorem nmX11 : ∀ a, a < 31 → ∀ b, b < 31 → a ≠ b → (TX11 a).2.1 ≠ (TX11 b).2.1 := by decide +kernel
theorem tyX11_ok : ∀ k, k < 31 → parseFieldDescriptor (TX11 k).2.2.1 = some (tyX11 k) := by decide +kernel
abbrev cX11_init : ByteArray := prog_13_method_1_code
def yX11_init : MethodName := ⟨RX11, "<init>", "()V"⟩
abbrev cX11_thrown : ByteArray := prog_13_method_2_code
def yX11_thrown : MethodName := ⟨RX11, "thrown", "()I"⟩
abbrev cX11_throwsIf : ByteArray := prog_13_method_3_code
def yX11_throwsIf : MethodName := ⟨RX11, "throwsIf", "(ZI)Z"⟩
abbrev cX11_in : ByteArray := prog_13_method_4_code
def yX11_in : MethodName := ⟨RX11, "in", "(III)Z"⟩
abbrev cX11_noSquare : ByteArray := prog_13_method_5_code
def yX11_noSquare : MethodName := ⟨RX11, "noSquare", "(I)Z"⟩
abbrev cX11_noPit : ByteArray := prog_13_method_6_code
def yX11_noPit : MethodName := ⟨RX11, "noPit", "(I)Z"⟩
abbrev cX11_noStone : ByteArray := prog_13_method_7_code
def yX11_noStone : MethodName := ⟨RX11, "noStone", "(I)Z"⟩
abbrev cX11_feed : ByteArray := prog_13_method_8_code
def yX11_feed : MethodName := ⟨RX11, "feed", "(IIIII)I"⟩
abbrev cX11_end : ByteArray := prog_13_method_9_code
def yX11_end : MethodName := ⟨RX11, "end", "(I)Z"⟩
abbrev cX11_isAt : ByteArray := prog_13_method_10_code
def yX11_isAt : MethodName := ⟨RX11, "isAt", "(II)Z"⟩
abbrev cX11_blanks : ByteArray := prog_13_method_11_code
def yX11_blanks : MethodName := ⟨RX11, "blanks", "()V"⟩
abbrev cX11_word : ByteArray := prog_13_method_12_code
def yX11_word : MethodName := ⟨RX11, "word", "()V"⟩
abbrev cX11_isWord : ByteArray := prog_13_method_13_code
def yX11_isWord : MethodName := ⟨RX11, "isWord", "(Ljava/lang/String;)Z"⟩
abbrev cX11_number : ByteArray := prog_13_method_14_code
def yX11_number : MethodName := ⟨RX11, "number", "(III)Z"⟩
abbrev cX11_readTerm : ByteArray := prog_13_method_15_code
def yX11_readTerm : MethodName := ⟨RX11, "readTerm", "()Z"⟩
abbrev cX11_readPart : ByteArray := prog_13_method_16_code
def yX11_readPart : MethodName := ⟨RX11, "readPart", "()Z"⟩
abbrev cX11_readAll : ByteArray := prog_13_method_17_code
def yX11_readAll : MethodName := ⟨RX11, "readAll", "(Z)I"⟩
abbrev cX11_law : ByteArray := prog_13_method_18_code
def yX11_law : MethodName := ⟨RX11, "law", "()I"⟩
abbrev cX11_agreement : ByteArray := prog_13_method_19_code
def yX11_agreement : MethodName := ⟨RX11, "agreement", "()I"⟩
abbrev cX11_fault : ByteArray := prog_13_method_20_code
def yX11_fault : MethodName := ⟨RX11, "fault", "()I"⟩
abbrev cX11_step : ByteArray := prog_13_method_21_code
def yX11_step : MethodName := ⟨RX11, "step", "(I)V"⟩
abbrev cX11_apart : ByteArray := prog_13_method_22_code
def yX11_apart : MethodName := ⟨RX11, "apart", "(II)I"⟩
abbrev cX11_mayBeSunk : ByteArray := prog_13_method_23_code
def yX11_mayBeSunk : MethodName := ⟨RX11, "mayBeSunk", "(I)Z"⟩
abbrev cX11_sink : ByteArray := prog_13_method_24_code
def yX11_sink : MethodName := ⟨RX11, "sink", "(I)I"⟩
abbrev cX11_wash : ByteArray := prog_13_method_25_code
def yX11_wash : MethodName := ⟨RX11, "wash", "(II)Z"⟩
abbrev cX11_fill : ByteArray := prog_13_method_26_code
def yX11_fill : MethodName := ⟨RX11, "fill", "(I)Z"⟩
abbrev cX11_days : ByteArray := prog_13_method_27_code
def yX11_days : MethodName := ⟨RX11, "days", "(I)I"⟩
abbrev cX11_low : ByteArray := prog_13_method_28_code
def yX11_low : MethodName := ⟨RX11, "low", "(I)I"⟩
abbrev cX11_high : ByteArray := prog_13_method_29_code
def yX11_high : MethodName := ⟨RX11, "high", "(I)I"⟩
abbrev cX11_span : ByteArray := prog_13_method_30_code
def yX11_span : MethodName := ⟨RX11, "span", "(IZ)I"⟩
abbrev cX11_best : ByteArray := prog_13_method_31_code
def yX11_best : MethodName := ⟨RX11, "best", "()I"⟩
abbrev cX11_bondOf : ByteArray := prog_13_method_32_code
def yX11_bondOf : MethodName := ⟨RX11, "bondOf", "(I)I"⟩
abbrev cX11_look : ByteArray := prog_13_method_33_code
def yX11_look : MethodName := ⟨RX11, "look", "(II)I"⟩
abbrev cX11_stone : ByteArray := prog_13_method_34_code
def yX11_stone : MethodName := ⟨RX11, "stone", "(II)I"⟩
abbrev cX11_lay : ByteArray := prog_13_method_35_code
def yX11_lay : MethodName := ⟨RX11, "lay", "(I)I"⟩
abbrev cX11_hand : ByteArray := prog_13_method_36_code
def yX11_hand : MethodName := ⟨RX11, "hand", "(III)Z"⟩
abbrev cX11_parts : ByteArray := prog_13_method_37_code
def yX11_parts : MethodName := ⟨RX11, "parts", "(II)V"⟩
abbrev cX11_sell : ByteArray := prog_13_method_38_code
def yX11_sell : MethodName := ⟨RX11, "sell", "(II)I"⟩
abbrev cX11_part : ByteArray := prog_13_method_39_code
def yX11_part : MethodName := ⟨RX11, "part", "(II)I"⟩
abbrev cX11_rough : ByteArray := prog_13_method_40_code
def yX11_rough : MethodName := ⟨RX11, "rough", "(II)V"⟩
abbrev cX11_flaw : ByteArray := prog_13_method_41_code
def yX11_flaw : MethodName := ⟨RX11, "flaw", "(IIZ)Z"⟩
abbrev cX11_placeOf : ByteArray := prog_13_method_42_code
def yX11_placeOf : MethodName := ⟨RX11, "placeOf", "(IIII)I"⟩
abbrev cX11_isClear : ByteArray := prog_13_method_43_code
def yX11_isClear : MethodName := ⟨RX11, "isClear", "(IIII)Z"⟩
abbrev cX11_better : ByteArray := prog_13_method_44_code
def yX11_better : MethodName := ⟨RX11, "better", "(III)V"⟩
abbrev cX11_weighs : ByteArray := prog_13_method_45_code
def yX11_weighs : MethodName := ⟨RX11, "weighs", "()V"⟩
abbrev cX11_most : ByteArray := prog_13_method_46_code
def yX11_most : MethodName := ⟨RX11, "most", "()I"⟩
abbrev cX11_cuts : ByteArray := prog_13_method_47_code
def yX11_cuts : MethodName := ⟨RX11, "cuts", "()I"⟩
abbrev cX11_count : ByteArray := prog_13_method_48_code
def yX11_count : MethodName := ⟨RX11, "count", "(I)I"⟩
def RJx145de : String := "java/io/Serializable"
def TJx145de : u_T := fun k => match k with
  | _ => ("", "", "", false)
def tyJx145de : Nat → FieldType := fun k => match k with
  | _ => .int
abbrev wsJx145de0 : List Cond := u_ws RJx145de TJx145de 0
theorem nmJx145de : ∀ a, a < 0 → ∀ b, b < 0 → a ≠ b → (TJx145de a).2.1 ≠ (TJx145de b).2.1 := by decide +kernel
theorem tyJx145de_ok : ∀ k, k < 0 → parseFieldDescriptor (TJx145de k).2.2.1 = some (tyJx145de k) := by decide +kernel
def RJx9f9b0 : String := "java/lang/CharSequence"
def TJx9f9b0 : u_T := fun k => match k with
  | _ => ("", "", "", false)
def tyJx9f9b0 : Nat → FieldType := fun k => match k with
  | _ => .int
abbrev wsJx9f9b00 : List Cond := u_ws RJx9f9b0 TJx9f9b0 0
theorem nmJx9f9b0 : ∀ a, a < 0 → ∀ b, b < 0 → a ≠ b → (TJx9f9b0 a).2.1 ≠ (TJx9f9b0 b).2.1 := by decide +kernel
theorem tyJx9f9b0_ok : ∀ k, k < 0 → parseFieldDescriptor (TJx9f9b0 k).2.2.1 = some (tyJx9f9b0 k) := by decide +kernel
def RJx8e188 : String := "java/lang/Cloneable"
def TJx8e188 : u_T := fun k => match k with
  | _ => ("", "", "", false)
def tyJx8e188 : Nat → FieldType := fun k => match k with
  | _ => .int
abbrev wsJx8e1880 : List Cond := u_ws RJx8e188 TJx8e188 0
theorem nmJx8e188 : ∀ a, a < 0 → ∀ b, b < 0 → a ≠ b → (TJx8e188 a).2.1 ≠ (TJx8e188 b).2.1 := by decide +kernel
theorem tyJx8e188_ok : ∀ k, k < 0 → parseFieldDescriptor (TJx8e188 k).2.2.1 = some (tyJx8e188 k) := by decide +kernel
def RJxb160c : String := "java/lang/Comparable"
def TJxb160c : u_T := fun k => match k with
  | _ => ("", "", "", false)
def tyJxb160c : Nat → FieldType := fun k => match k with
  | _ => .int
abbrev wsJxb160c0 : List Cond := u_ws RJxb160c TJxb160c 0
theorem nmJxb160c : ∀ a, a < 0 → ∀ b, b < 0 → a ≠ b → (TJxb160c a).2.1 ≠ (TJxb160c b).2.1 := by decide +kernel
theorem tyJxb160c_ok : ∀ k, k < 0 → parseFieldDescriptor (TJxb160c k).2.2.1 = some (tyJxb160c k) := by decide +kernel
def RJxab1ab : String := "java/lang/Iterable"
def TJxab1ab : u_T := fun k => match k with
  | _ => ("", "", "", false)
def tyJxab1ab : Nat → FieldType := fun k => match k with
  | _ => .int
abbrev wsJxab1ab0 : List Cond := u_ws RJxab1ab TJxab1ab 0
theorem nmJxab1ab : ∀ a, a < 0 → ∀ b, b < 0 → a ≠ b → (TJxab1ab a).2.1 ≠ (TJxab1ab b).2.1 := by decide +kernel
theorem tyJxab1ab_ok : ∀ k, k < 0 → parseFieldDescriptor (TJxab1ab k).2.2.1 = some (tyJxab1ab k) := by decide +kernel
def RJ9 : String := "java/lang/Math"
def TJ9 : u_T := fun k => match k with
  | _ => ("", "", "", false)
def tyJ9 : Nat → FieldType := fun k => match k with
  | _ => .int
abbrev wsJ90 : List Cond := u_ws RJ9 TJ9 0
theorem nmJ9 : ∀ a, a < 0 → ∀ b, b < 0 → a ≠ b → (TJ9 a).2.1 ≠ (TJ9 b).2.1 := by decide +kernel
theorem tyJ9_ok : ∀ k, k < 0 → parseFieldDescriptor (TJ9 k).2.2.1 = some (tyJ9 k) := by decide +kernel
abbrev cJ9_abs_0f7a4 : ByteArray := prog_23_method_59_code
def yJ9_abs_0f7a4 : MethodName := ⟨RJ9, "abs", "(I)I"⟩
abbrev cJ9_max_7cf53 : ByteArray := prog_23_method_65_code
def yJ9_max_7cf53 : MethodName := ⟨RJ9, "max", "(II)I"⟩
abbrev cJ9_min_7cf53 : ByteArray := prog_23_method_69_code
def yJ9_min_7cf53 : MethodName := ⟨RJ9, "min", "(II)I"⟩
def RJ0 : String := "java/lang/String"
def TJ0 : u_T := fun k => match k with
  | _ => ("", "", "", false)
def tyJ0 : Nat → FieldType := fun k => match k with
  | _ => .int
abbrev wsJ00 : List Cond := u_ws RJ0 TJ0 0
theorem nmJ0 : ∀ a, a < 0 → ∀ b, b < 0 → a ≠ b → (TJ0 a).2.1 ≠ (TJ0 b).2.1 := by decide +kernel
theorem tyJ0_ok : ∀ k, k < 0 → parseFieldDescriptor (TJ0 k).2.2.1 = some (tyJ0 k) := by decide +kernel
abbrev cJ0_length_8abf5 : ByteArray := prog_25_method_54_code
def yJ0_length_8abf5 : MethodName := ⟨RJ0, "length", "()I"⟩
abbrev cJ0_charAt_5068e : ByteArray := prog_25_method_56_code
def yJ0_charAt_5068e : MethodName := ⟨RJ0, "charAt", "(I)C"⟩
abbrev cJ0_coder_7d493 : ByteArray := prog_25_method_152_code
def yJ0_coder_7d493 : MethodName := ⟨RJ0, "coder", "()B"⟩
abbrev cJ0_isLatin1_aae02 : ByteArray := prog_25_method_154_code
def yJ0_isLatin1_aae02 : MethodName := ⟨RJ0, "isLatin1", "()Z"⟩
abbrev cJ0_checkIndex_df160 : ByteArray := prog_25_method_155_code
def yJ0_checkIndex_df160 : MethodName := ⟨RJ0, "checkIndex", "(II)V"⟩
def RJ1 : String := "java/lang/StringLatin1"
def TJ1 : u_T := fun k => match k with
  | _ => ("", "", "", false)
def tyJ1 : Nat → FieldType := fun k => match k with
  | _ => .int
abbrev wsJ10 : List Cond := u_ws RJ1 TJ1 0
theorem nmJ1 : ∀ a, a < 0 → ∀ b, b < 0 → a ≠ b → (TJ1 a).2.1 ≠ (TJ1 b).2.1 := by decide +kernel
theorem tyJ1_ok : ∀ k, k < 0 → parseFieldDescriptor (TJ1 k).2.2.1 = some (tyJ1 k) := by decide +kernel
abbrev cJ1_charAt_3b067 : ByteArray := prog_26_method_2_code
def yJ1_charAt_3b067 : MethodName := ⟨RJ1, "charAt", "([BI)C"⟩
def RJ2 : String := "java/lang/StringUTF16"
def TJ2 : u_T := fun k => match k with
  | _ => ("", "", "", false)
def tyJ2 : Nat → FieldType := fun k => match k with
  | _ => .int
abbrev wsJ20 : List Cond := u_ws RJ2 TJ2 0
theorem nmJ2 : ∀ a, a < 0 → ∀ b, b < 0 → a ≠ b → (TJ2 a).2.1 ≠ (TJ2 b).2.1 := by decide +kernel
theorem tyJ2_ok : ∀ k, k < 0 → parseFieldDescriptor (TJ2 k).2.2.1 = some (tyJ2 k) := by decide +kernel
abbrev cJ2_getChar_3b067 : ByteArray := prog_27_method_5_code
def yJ2_getChar_3b067 : MethodName := ⟨RJ2, "getChar", "([BI)C"⟩
abbrev cJ2_length_9d52b : ByteArray := prog_27_method_6_code
def yJ2_length_9d52b : MethodName := ⟨RJ2, "length", "([B)I"⟩
abbrev cJ2_charAt_3b067 : ByteArray := prog_27_method_83_code
def yJ2_charAt_3b067 : MethodName := ⟨RJ2, "charAt", "([BI)C"⟩
abbrev cJ2_checkIndex_2214a : ByteArray := prog_27_method_91_code
def yJ2_checkIndex_2214a : MethodName := ⟨RJ2, "checkIndex", "(I[B)V"⟩
def RJ10 : String := "java/lang/System"
def TJ10 : u_T := fun k => match k with
  | _ => ("", "", "", false)
def tyJ10 : Nat → FieldType := fun k => match k with
  | _ => .int
abbrev wsJ100 : List Cond := u_ws RJ10 TJ10 0
theorem nmJ10 : ∀ a, a < 0 → ∀ b, b < 0 → a ≠ b → (TJ10 a).2.1 ≠ (TJ10 b).2.1 := by decide +kernel
theorem tyJ10_ok : ∀ k, k < 0 → parseFieldDescriptor (TJ10 k).2.2.1 = some (tyJ10 k) := by decide +kernel
def RJxfd54e : String := "java/lang/constant/Constable"
def TJxfd54e : u_T := fun k => match k with
  | _ => ("", "", "", false)
def tyJxfd54e : Nat → FieldType := fun k => match k with
  | _ => .int
abbrev wsJxfd54e0 : List Cond := u_ws RJxfd54e TJxfd54e 0
theorem nmJxfd54e : ∀ a, a < 0 → ∀ b, b < 0 → a ≠ b → (TJxfd54e a).2.1 ≠ (TJxfd54e b).2.1 := by decide +kernel
theorem tyJxfd54e_ok : ∀ k, k < 0 → parseFieldDescriptor (TJxfd54e k).2.2.1 = some (tyJxfd54e k) := by decide +kernel
def RJx3cf43 : String := "java/lang/constant/ConstantDesc"
def TJx3cf43 : u_T := fun k => match k with
  | _ => ("", "", "", false)
def tyJx3cf43 : Nat → FieldType := fun k => match k with
  | _ => .int
abbrev wsJx3cf430 : List Cond := u_ws RJx3cf43 TJx3cf43 0
theorem nmJx3cf43 : ∀ a, a < 0 → ∀ b, b < 0 → a ≠ b → (TJx3cf43 a).2.1 ≠ (TJx3cf43 b).2.1 := by decide +kernel
theorem tyJx3cf43_ok : ∀ k, k < 0 → parseFieldDescriptor (TJx3cf43 k).2.2.1 = some (tyJx3cf43 k) := by decide +kernel
def RJxa1e45 : String := "java/util/AbstractCollection"
def TJxa1e45 : u_T := fun k => match k with
  | _ => ("", "", "", false)
def tyJxa1e45 : Nat → FieldType := fun k => match k with
  | _ => .int
abbrev wsJxa1e450 : List Cond := u_ws RJxa1e45 TJxa1e45 0
theorem nmJxa1e45 : ∀ a, a < 0 → ∀ b, b < 0 → a ≠ b → (TJxa1e45 a).2.1 ≠ (TJxa1e45 b).2.1 := by decide +kernel
theorem tyJxa1e45_ok : ∀ k, k < 0 → parseFieldDescriptor (TJxa1e45 k).2.2.1 = some (tyJxa1e45 k) := by decide +kernel
abbrev cJxa1e45_init_da8c8 : ByteArray := prog_33_method_1_code
def yJxa1e45_init_da8c8 : MethodName := ⟨RJxa1e45, "<init>", "()V"⟩
def RJxc12de : String := "java/util/AbstractList"
def TJxc12de : u_T := fun k => match k with
  | _ => ("", "", "", false)
def tyJxc12de : Nat → FieldType := fun k => match k with
  | _ => .int
abbrev wsJxc12de0 : List Cond := u_ws RJxc12de TJxc12de 0
theorem nmJxc12de : ∀ a, a < 0 → ∀ b, b < 0 → a ≠ b → (TJxc12de a).2.1 ≠ (TJxc12de b).2.1 := by decide +kernel
theorem tyJxc12de_ok : ∀ k, k < 0 → parseFieldDescriptor (TJxc12de k).2.2.1 = some (tyJxc12de k) := by decide +kernel
abbrev cJxc12de_init_da8c8 : ByteArray := prog_34_method_1_code
def yJxc12de_init_da8c8 : MethodName := ⟨RJxc12de, "<init>", "()V"⟩
def RJx4a65c : String := "java/util/ArrayList"
def TJx4a65c : u_T := fun k => match k with
  | 0 => ("java/util/AbstractList", "modCount", "I", false)
  | 1 => ("java/util/ArrayList", "elementData", "[Ljava/lang/Object;", false)
  | _ => ("java/util/ArrayList", "size", "I", false)
def tyJx4a65c : Nat → FieldType := fun k => match k with
  | 0 => .int
  | 1 => .array (.object "java/lang/Object")
  | _ => .int
abbrev wsJx4a65c0 : List Cond := u_ws RJx4a65c TJx4a65c 3
theorem nmJx4a65c : ∀ a, a < 3 → ∀ b, b < 3 → a ≠ b → (TJx4a65c a).2.1 ≠ (TJx4a65c b).2.1 := by decide +kernel
theorem tyJx4a65c_ok : ∀ k, k < 3 → parseFieldDescriptor (TJx4a65c k).2.2.1 = some (tyJx4a65c k) := by decide +kernel
abbrev cJx4a65c_init_da8c8 : ByteArray := prog_35_method_2_code
def yJx4a65c_init_da8c8 : MethodName := ⟨RJx4a65c, "<init>", "()V"⟩
abbrev cJx4a65c_grow_92f84 : ByteArray := prog_35_method_6_code
def yJx4a65c_grow_92f84 : MethodName := ⟨RJx4a65c, "grow", "(I)[Ljava/lang/Object;"⟩
abbrev cJx4a65c_grow_d5877 : ByteArray := prog_35_method_7_code
def yJx4a65c_grow_d5877 : MethodName := ⟨RJx4a65c, "grow", "()[Ljava/lang/Object;"⟩
abbrev cJx4a65c_size_8abf5 : ByteArray := prog_35_method_8_code
def yJx4a65c_size_8abf5 : MethodName := ⟨RJx4a65c, "size", "()I"⟩
abbrev cJx4a65c_elementData_915e3 : ByteArray := prog_35_method_18_code
def yJx4a65c_elementData_915e3 : MethodName := ⟨RJx4a65c, "elementData", "(I)Ljava/lang/Object;"⟩
abbrev cJx4a65c_get_915e3 : ByteArray := prog_35_method_20_code
def yJx4a65c_get_915e3 : MethodName := ⟨RJx4a65c, "get", "(I)Ljava/lang/Object;"⟩
abbrev cJx4a65c_add_72be8 : ByteArray := prog_35_method_24_code
def yJx4a65c_add_72be8 : MethodName := ⟨RJx4a65c, "add", "(Ljava/lang/Object;[Ljava/lang/Object;I)V"⟩
abbrev cJx4a65c_add_9ea2d : ByteArray := prog_35_method_25_code
def yJx4a65c_add_9ea2d : MethodName := ⟨RJx4a65c, "add", "(Ljava/lang/Object;)Z"⟩
def RJ7 : String := "java/util/Arrays"
def TJ7 : u_T := fun k => match k with
  | _ => ("", "", "", false)
def tyJ7 : Nat → FieldType := fun k => match k with
  | _ => .int
abbrev wsJ70 : List Cond := u_ws RJ7 TJ7 0
theorem nmJ7 : ∀ a, a < 0 → ∀ b, b < 0 → a ≠ b → (TJ7 a).2.1 ≠ (TJ7 b).2.1 := by decide +kernel
theorem tyJ7_ok : ∀ k, k < 0 → parseFieldDescriptor (TJ7 k).2.2.1 = some (tyJ7 k) := by decide +kernel
abbrev cJ7_fill_53178 : ByteArray := prog_36_method_103_code
def yJ7_fill_53178 : MethodName := ⟨RJ7, "fill", "([II)V"⟩
abbrev cJ7_copyOf_1904c : ByteArray := prog_36_method_119_code
def yJ7_copyOf_1904c : MethodName := ⟨RJ7, "copyOf", "([Ljava/lang/Object;I)[Ljava/lang/Object;"⟩
abbrev cJ7_copyOf_6403c : ByteArray := prog_36_method_120_code
def yJ7_copyOf_6403c : MethodName := ⟨RJ7, "copyOf", "([Ljava/lang/Object;ILjava/lang/Class;)[Ljava/lang/Object;"⟩
def RJx5ef63 : String := "java/util/Collection"
def TJx5ef63 : u_T := fun k => match k with
  | _ => ("", "", "", false)
def tyJx5ef63 : Nat → FieldType := fun k => match k with
  | _ => .int
abbrev wsJx5ef630 : List Cond := u_ws RJx5ef63 TJx5ef63 0
theorem nmJx5ef63 : ∀ a, a < 0 → ∀ b, b < 0 → a ≠ b → (TJx5ef63 a).2.1 ≠ (TJx5ef63 b).2.1 := by decide +kernel
theorem tyJx5ef63_ok : ∀ k, k < 0 → parseFieldDescriptor (TJx5ef63 k).2.2.1 = some (tyJx5ef63 k) := by decide +kernel
def RJxbd725 : String := "java/util/List"
def TJxbd725 : u_T := fun k => match k with
  | _ => ("", "", "", false)
def tyJxbd725 : Nat → FieldType := fun k => match k with
  | _ => .int
abbrev wsJxbd7250 : List Cond := u_ws RJxbd725 TJxbd725 0
theorem nmJxbd725 : ∀ a, a < 0 → ∀ b, b < 0 → a ≠ b → (TJxbd725 a).2.1 ≠ (TJxbd725 b).2.1 := by decide +kernel
theorem tyJxbd725_ok : ∀ k, k < 0 → parseFieldDescriptor (TJxbd725 k).2.2.1 = some (tyJxbd725 k) := by decide +kernel
def RJ15 : String := "java/util/Objects"
def TJ15 : u_T := fun k => match k with
  | _ => ("", "", "", false)
def tyJ15 : Nat → FieldType := fun k => match k with
  | _ => .int
abbrev wsJ150 : List Cond := u_ws RJ15 TJ15 0
theorem nmJ15 : ∀ a, a < 0 → ∀ b, b < 0 → a ≠ b → (TJ15 a).2.1 ≠ (TJ15 b).2.1 := by decide +kernel
theorem tyJ15_ok : ∀ k, k < 0 → parseFieldDescriptor (TJ15 k).2.2.1 = some (tyJ15 k) := by decide +kernel
abbrev cJ15_checkIndex_7cf53 : ByteArray := prog_40_method_17_code
def yJ15_checkIndex_7cf53 : MethodName := ⟨RJ15, "checkIndex", "(II)I"⟩
def RJxf0a74 : String := "java/util/RandomAccess"
def TJxf0a74 : u_T := fun k => match k with
  | _ => ("", "", "", false)
def tyJxf0a74 : Nat → FieldType := fun k => match k with
  | _ => .int
abbrev wsJxf0a740 : List Cond := u_ws RJxf0a74 TJxf0a74 0
theorem nmJxf0a74 : ∀ a, a < 0 → ∀ b, b < 0 → a ≠ b → (TJxf0a74 a).2.1 ≠ (TJxf0a74 b).2.1 := by decide +kernel
theorem tyJxf0a74_ok : ∀ k, k < 0 → parseFieldDescriptor (TJxf0a74 k).2.2.1 = some (tyJxf0a74 k) := by decide +kernel
def RJxa66e6 : String := "java/util/SequencedCollection"
def TJxa66e6 : u_T := fun k => match k with
  | _ => ("", "", "", false)
def tyJxa66e6 : Nat → FieldType := fun k => match k with
  | _ => .int
abbrev wsJxa66e60 : List Cond := u_ws RJxa66e6 TJxa66e6 0
theorem nmJxa66e6 : ∀ a, a < 0 → ∀ b, b < 0 → a ≠ b → (TJxa66e6 a).2.1 ≠ (TJxa66e6 b).2.1 := by decide +kernel
theorem tyJxa66e6_ok : ∀ k, k < 0 → parseFieldDescriptor (TJxa66e6 k).2.2.1 = some (tyJxa66e6 k) := by decide +kernel
def RJ8 : String := "jdk/internal/util/ArraysSupport"
def TJ8 : u_T := fun k => match k with
  | _ => ("", "", "", false)
def tyJ8 : Nat → FieldType := fun k => match k with
  | _ => .int
abbrev wsJ80 : List Cond := u_ws RJ8 TJ8 0
theorem nmJ8 : ∀ a, a < 0 → ∀ b, b < 0 → a ≠ b → (TJ8 a).2.1 ≠ (TJ8 b).2.1 := by decide +kernel
theorem tyJ8_ok : ∀ k, k < 0 → parseFieldDescriptor (TJ8 k).2.2.1 = some (tyJ8 k) := by decide +kernel
abbrev cJ8_newLength_cabcc : ByteArray := prog_43_method_27_code
def yJ8_newLength_cabcc : MethodName := ⟨RJ8, "newLength", "(III)I"⟩
abbrev cJ8_hugeLength_7cf53 : ByteArray := prog_43_method_28_code
def yJ8_hugeLength_7cf53 : MethodName := ⟨RJ8, "hugeLength", "(II)I"⟩
def RJ3 : String := "jdk/internal/util/Preconditions"
def TJ3 : u_T := fun k => match k with
  | _ => ("", "", "", false)
def tyJ3 : Nat → FieldType := fun k => match k with
  | _ => .int
abbrev wsJ30 : List Cond := u_ws RJ3 TJ3 0
theorem nmJ3 : ∀ a, a < 0 → ∀ b, b < 0 → a ≠ b → (TJ3 a).2.1 ≠ (TJ3 b).2.1 := by decide +kernel
theorem tyJ3_ok : ∀ k, k < 0 → parseFieldDescriptor (TJ3 k).2.2.1 = some (tyJ3 k) := by decide +kernel
abbrev cJ3_checkIndex_8e157 : ByteArray := prog_44_method_11_code
def yJ3_checkIndex_8e157 : MethodName := ⟨RJ3, "checkIndex", "(IILjava/util/function/BiFunction;)I"⟩
def RL : String := "GemPitsLaw"
abbrev cL_step : ByteArray := method_3_code
def yL_step : MethodName := ⟨RL, "step", "(LGemPits;I)I"⟩
abbrev cL_law : ByteArray := method_4_code
def yL_law : MethodName := ⟨RL, "law", "(LGemPits;[J)I"⟩
abbrev cL_agreement : ByteArray := method_5_code
def yL_agreement : MethodName := ⟨RL, "agreement", "(LGemPits;[J)I"⟩
abbrev cL_sink : ByteArray := method_6_code
def yL_sink : MethodName := ⟨RL, "sink", "(LGemPits;I[J)I"⟩
abbrev cL_wash : ByteArray := method_7_code
def yL_wash : MethodName := ⟨RL, "wash", "(LGemPits;II[J)I"⟩
abbrev cL_fill : ByteArray := method_8_code
def yL_fill : MethodName := ⟨RL, "fill", "(LGemPits;I[J)I"⟩
abbrev cL_days : ByteArray := method_9_code
def yL_days : MethodName := ⟨RL, "days", "(LGemPits;I[J)I"⟩
abbrev cL_span : ByteArray := method_10_code
def yL_span : MethodName := ⟨RL, "span", "(LGemPits;IZ[J)I"⟩
abbrev cL_look : ByteArray := method_11_code
def yL_look : MethodName := ⟨RL, "look", "(LGemPits;II[J)I"⟩
abbrev cL_stone : ByteArray := method_12_code
def yL_stone : MethodName := ⟨RL, "stone", "(LGemPits;II[J)I"⟩
abbrev cL_lay : ByteArray := method_13_code
def yL_lay : MethodName := ⟨RL, "lay", "(LGemPits;I[J)I"⟩
abbrev cL_hand : ByteArray := method_14_code
def yL_hand : MethodName := ⟨RL, "hand", "(LGemPits;III[J)I"⟩
abbrev cL_sell : ByteArray := method_15_code
def yL_sell : MethodName := ⟨RL, "sell", "(LGemPits;II[J)I"⟩
abbrev cL_part : ByteArray := method_16_code
def yL_part : MethodName := ⟨RL, "part", "(LGemPits;II[J)I"⟩
abbrev cL_rough : ByteArray := method_17_code
def yL_rough : MethodName := ⟨RL, "rough", "(LGemPits;II)I"⟩
abbrev cL_flaw : ByteArray := method_18_code
def yL_flaw : MethodName := ⟨RL, "flaw", "(LGemPits;IIZ[J)I"⟩
abbrev cL_law_ : ByteArray := code
def yL_law_ : MethodName := ⟨RL, "law", "([I)Z"⟩
abbrev vwCl : List vw_C := [(RJx4a65c, TJx4a65c, 3), (RX0, TX0, 3), (RX2, TX2, 6), (RX3, TX3, 3), (RX4, TX4, 5), (RX5, TX5, 6), (RX6, TX6, 3), (RX7, TX7, 7), (RX8, TX8, 6), (RX9, TX9, 2), (RX10, TX10, 5), (RX11, TX11, 31)]
end
section
theorem w_0 : (.selects "GemPits$Rough" ⟨"GemPits$Rough", "weighAll", "()V"⟩ ⟨"GemPits$Rough", "weighAll", "()V"⟩ : Cond) ∈ GW := gwm 0 (by decide +kernel) (by decide +kernel)
theorem w_1 : (.selects "GemPits$Rough" ⟨"GemPits$Rough", "weigh", "(IIII)V"⟩ ⟨"GemPits$Rough", "weigh", "(IIII)V"⟩ : Cond) ∈ GW := gwm 1 (by decide +kernel) (by decide +kernel)
theorem w_2 : (.selects "GemPits$Rough" ⟨"GemPits$Rough", "isClear", "(IIII)Z"⟩ ⟨"GemPits$Rough", "isClear", "(IIII)Z"⟩ : Cond) ∈ GW := gwm 2 (by decide +kernel) (by decide +kernel)
theorem w_3 : (.selects "GemPits$Rough" ⟨"GemPits$Rough", "tryCut", "(III)V"⟩ ⟨"GemPits$Rough", "tryCut", "(III)V"⟩ : Cond) ∈ GW := gwm 3 (by decide +kernel) (by decide +kernel)
theorem w_4 : (.selects "java/lang/Throwable" ⟨"java/lang/Throwable", "fillInStackTrace", "(I)Ljava/lang/Throwable;"⟩ ⟨"java/lang/Throwable", "fillInStackTrace", "(I)Ljava/lang/Throwable;"⟩ : Cond) ∈ GW := gwm 4 (by decide +kernel) (by decide +kernel)
theorem w_5 : (.selects "GemPits$Ground" ⟨"GemPits$Ground", "narrowSpans", "(LGemPits$Pit;)V"⟩ ⟨"GemPits$Ground", "narrowSpans", "(LGemPits$Pit;)V"⟩ : Cond) ∈ GW := gwm 5 (by decide +kernel) (by decide +kernel)
theorem w_6 : (.selects "GemPits" ⟨"GemPits", "readTape", "(LGemPits$Clauses;)I"⟩ ⟨"GemPits", "readTape", "(LGemPits$Clauses;)I"⟩ : Cond) ∈ GW := gwm 6 (by decide +kernel) (by decide +kernel)
theorem w_7 : (.selects "GemPits$Reader" ⟨"GemPits$Reader", "goOnFrom", "(I)V"⟩ ⟨"GemPits$Reader", "goOnFrom", "(I)V"⟩ : Cond) ∈ GW := gwm 7 (by decide +kernel) (by decide +kernel)
theorem w_8 : (.selects "java/util/ArrayList" ⟨"java/util/ArrayList", "add", "(Ljava/lang/Object;[Ljava/lang/Object;I)V"⟩ ⟨"java/util/ArrayList", "add", "(Ljava/lang/Object;[Ljava/lang/Object;I)V"⟩ : Cond) ∈ GW := gwm 8 (by decide +kernel) (by decide +kernel)
theorem w_9 : (.selects "java/util/ArrayList" ⟨"java/util/ArrayList", "grow", "()[Ljava/lang/Object;"⟩ ⟨"java/util/ArrayList", "grow", "()[Ljava/lang/Object;"⟩ : Cond) ∈ GW := gwm 9 (by decide +kernel) (by decide +kernel)
theorem w_10 : (.selects "java/util/ArrayList" ⟨"java/util/ArrayList", "grow", "(I)[Ljava/lang/Object;"⟩ ⟨"java/util/ArrayList", "grow", "(I)[Ljava/lang/Object;"⟩ : Cond) ∈ GW := gwm 10 (by decide +kernel) (by decide +kernel)
theorem w_11 : (.selects "GemPits" ⟨"GemPits", "pitOf", "(I)LGemPits$Pit;"⟩ ⟨"GemPits", "pitOf", "(I)LGemPits$Pit;"⟩ : Cond) ∈ GW := gwm 11 (by decide +kernel) (by decide +kernel)
theorem w_12 : (.selects "GemPits" ⟨"GemPits", "stoneOf", "(I)LGemPits$Stone;"⟩ ⟨"GemPits", "stoneOf", "(I)LGemPits$Stone;"⟩ : Cond) ∈ GW := gwm 12 (by decide +kernel) (by decide +kernel)
theorem w_13 : (.selects "GemPits$Agreement" ⟨"GemPits$Agreement", "shareOf", "(II)I"⟩ ⟨"GemPits$Agreement", "shareOf", "(II)I"⟩ : Cond) ∈ GW := gwm 13 (by decide +kernel) (by decide +kernel)
theorem w_14 : (.selects "GemPitsModel" ⟨"GemPitsModel", "readAll", "(Z)I"⟩ ⟨"GemPitsModel", "readAll", "(Z)I"⟩ : Cond) ∈ GW := gwm 14 (by decide +kernel) (by decide +kernel)
theorem w_15 : (.selects "GemPitsModel" ⟨"GemPitsModel", "readTerm", "()Z"⟩ ⟨"GemPitsModel", "readTerm", "()Z"⟩ : Cond) ∈ GW := gwm 15 (by decide +kernel) (by decide +kernel)
theorem w_16 : (.selects "GemPitsModel" ⟨"GemPitsModel", "word", "()V"⟩ ⟨"GemPitsModel", "word", "()V"⟩ : Cond) ∈ GW := gwm 16 (by decide +kernel) (by decide +kernel)
theorem w_17 : (.selects "GemPitsModel" ⟨"GemPitsModel", "blanks", "()V"⟩ ⟨"GemPitsModel", "blanks", "()V"⟩ : Cond) ∈ GW := gwm 17 (by decide +kernel) (by decide +kernel)
theorem w_18 : (.selects "GemPitsModel" ⟨"GemPitsModel", "isAt", "(II)Z"⟩ ⟨"GemPitsModel", "isAt", "(II)Z"⟩ : Cond) ∈ GW := gwm 18 (by decide +kernel) (by decide +kernel)
theorem w_19 : (.selects "GemPitsModel" ⟨"GemPitsModel", "isWord", "(Ljava/lang/String;)Z"⟩ ⟨"GemPitsModel", "isWord", "(Ljava/lang/String;)Z"⟩ : Cond) ∈ GW := gwm 19 (by decide +kernel) (by decide +kernel)
theorem w_20 : (.selects "GemPitsModel" ⟨"GemPitsModel", "number", "(III)Z"⟩ ⟨"GemPitsModel", "number", "(III)Z"⟩ : Cond) ∈ GW := gwm 20 (by decide +kernel) (by decide +kernel)
theorem w_21 : (.selects "GemPitsModel" ⟨"GemPitsModel", "readPart", "()Z"⟩ ⟨"GemPitsModel", "readPart", "()Z"⟩ : Cond) ∈ GW := gwm 21 (by decide +kernel) (by decide +kernel)
theorem w_22 : (.selects "GemPitsModel" ⟨"GemPitsModel", "throwsIf", "(ZI)Z"⟩ ⟨"GemPitsModel", "throwsIf", "(ZI)Z"⟩ : Cond) ∈ GW := gwm 22 (by decide +kernel) (by decide +kernel)
theorem w_23 : (.selects "GemPitsModel" ⟨"GemPitsModel", "mayBeSunk", "(I)Z"⟩ ⟨"GemPitsModel", "mayBeSunk", "(I)Z"⟩ : Cond) ∈ GW := gwm 23 (by decide +kernel) (by decide +kernel)
theorem w_24 : (.selects "GemPitsModel" ⟨"GemPitsModel", "noPit", "(I)Z"⟩ ⟨"GemPitsModel", "noPit", "(I)Z"⟩ : Cond) ∈ GW := gwm 24 (by decide +kernel) (by decide +kernel)
theorem w_25 : (.selects "GemPitsModel" ⟨"GemPitsModel", "low", "(I)I"⟩ ⟨"GemPitsModel", "low", "(I)I"⟩ : Cond) ∈ GW := gwm 25 (by decide +kernel) (by decide +kernel)
theorem w_26 : (.selects "GemPitsModel" ⟨"GemPitsModel", "high", "(I)I"⟩ ⟨"GemPitsModel", "high", "(I)I"⟩ : Cond) ∈ GW := gwm 26 (by decide +kernel) (by decide +kernel)
theorem w_27 : (.selects "GemPitsModel" ⟨"GemPitsModel", "bondOf", "(I)I"⟩ ⟨"GemPitsModel", "bondOf", "(I)I"⟩ : Cond) ∈ GW := gwm 27 (by decide +kernel) (by decide +kernel)
theorem w_28 : (.selects "GemPitsModel" ⟨"GemPitsModel", "noStone", "(I)Z"⟩ ⟨"GemPitsModel", "noStone", "(I)Z"⟩ : Cond) ∈ GW := gwm 28 (by decide +kernel) (by decide +kernel)
theorem w_29 : (.selects "GemPitsModel" ⟨"GemPitsModel", "parts", "(II)V"⟩ ⟨"GemPitsModel", "parts", "(II)V"⟩ : Cond) ∈ GW := gwm 29 (by decide +kernel) (by decide +kernel)
theorem w_30 : (.selects "GemPitsModel" ⟨"GemPitsModel", "weighs", "()V"⟩ ⟨"GemPitsModel", "weighs", "()V"⟩ : Cond) ∈ GW := gwm 30 (by decide +kernel) (by decide +kernel)
theorem w_31 : (.selects "GemPitsModel" ⟨"GemPitsModel", "isClear", "(IIII)Z"⟩ ⟨"GemPitsModel", "isClear", "(IIII)Z"⟩ : Cond) ∈ GW := gwm 31 (by decide +kernel) (by decide +kernel)
theorem w_32 : (.selects "GemPitsModel" ⟨"GemPitsModel", "better", "(III)V"⟩ ⟨"GemPitsModel", "better", "(III)V"⟩ : Cond) ∈ GW := gwm 32 (by decide +kernel) (by decide +kernel)
theorem w_33 : (.initialized "GemPitsLaw" : Cond) ∈ GW := gwm 33 (by decide +kernel) (by decide +kernel)
theorem w_34 : (.initialized "GemPits" : Cond) ∈ GW := gwm 34 (by decide +kernel) (by decide +kernel)
theorem w_35 : (.initialized "GemPits$Tape" : Cond) ∈ GW := gwm 35 (by decide +kernel) (by decide +kernel)
theorem w_36 : (.initialized "GemPits$Ground" : Cond) ∈ GW := gwm 36 (by decide +kernel) (by decide +kernel)
theorem w_37 : (.initialized "java/util/AbstractCollection" : Cond) ∈ GW := gwm 37 (by decide +kernel) (by decide +kernel)
theorem w_38 : (.initialized "java/util/AbstractList" : Cond) ∈ GW := gwm 38 (by decide +kernel) (by decide +kernel)
theorem w_39 : (.initialized "java/util/ArrayList" : Cond) ∈ GW := gwm 39 (by decide +kernel) (by decide +kernel)
theorem w_40 : (.initialized "GemPits$Clauses" : Cond) ∈ GW := gwm 40 (by decide +kernel) (by decide +kernel)
theorem w_41 : (.initialized "GemPits$Law" : Cond) ∈ GW := gwm 41 (by decide +kernel) (by decide +kernel)
theorem w_42 : (.initialized "java/util/Arrays" : Cond) ∈ GW := gwm 42 (by decide +kernel) (by decide +kernel)
theorem w_43 : (.initialized "GemPits$Market" : Cond) ∈ GW := gwm 43 (by decide +kernel) (by decide +kernel)
theorem w_44 : (.initialized "GemPits$Agreement" : Cond) ∈ GW := gwm 44 (by decide +kernel) (by decide +kernel)
theorem w_45 : (.initialized "GemPits$Rough" : Cond) ∈ GW := gwm 45 (by decide +kernel) (by decide +kernel)
theorem w_46 : (.initialized "GemPitsModel" : Cond) ∈ GW := gwm 46 (by decide +kernel) (by decide +kernel)
theorem w_47 : (.initialized "java/lang/Throwable" : Cond) ∈ GW := gwm 47 (by decide +kernel) (by decide +kernel)
theorem w_48 : (.initialized "java/lang/Exception" : Cond) ∈ GW := gwm 48 (by decide +kernel) (by decide +kernel)
theorem w_49 : (.initialized "java/lang/RuntimeException" : Cond) ∈ GW := gwm 49 (by decide +kernel) (by decide +kernel)
theorem w_50 : (.initialized "java/lang/IllegalArgumentException" : Cond) ∈ GW := gwm 50 (by decide +kernel) (by decide +kernel)
theorem w_51 : (.initialized "java/util/Objects" : Cond) ∈ GW := gwm 51 (by decide +kernel) (by decide +kernel)
theorem w_52 : (.initialized "jdk/internal/util/Preconditions" : Cond) ∈ GW := gwm 52 (by decide +kernel) (by decide +kernel)
theorem w_53 : (.initialized "java/lang/Math" : Cond) ∈ GW := gwm 53 (by decide +kernel) (by decide +kernel)
theorem w_54 : (.initialized "GemPits$Reader" : Cond) ∈ GW := gwm 54 (by decide +kernel) (by decide +kernel)
theorem w_55 : (.initialized "java/lang/String" : Cond) ∈ GW := gwm 55 (by decide +kernel) (by decide +kernel)
theorem w_56 : (.initialized "java/lang/StringLatin1" : Cond) ∈ GW := gwm 56 (by decide +kernel) (by decide +kernel)
theorem w_57 : (.initialized "java/lang/StringUTF16" : Cond) ∈ GW := gwm 57 (by decide +kernel) (by decide +kernel)
theorem w_58 : (.initialized "java/lang/IndexOutOfBoundsException" : Cond) ∈ GW := gwm 58 (by decide +kernel) (by decide +kernel)
theorem w_59 : (.initialized "java/lang/UnsupportedOperationException" : Cond) ∈ GW := gwm 59 (by decide +kernel) (by decide +kernel)
theorem w_60 : (.initialized "GemPits$Pit" : Cond) ∈ GW := gwm 60 (by decide +kernel) (by decide +kernel)
theorem w_61 : (.initialized "jdk/internal/util/ArraysSupport" : Cond) ∈ GW := gwm 61 (by decide +kernel) (by decide +kernel)
theorem w_62 : (.initialized "java/lang/System" : Cond) ∈ GW := gwm 62 (by decide +kernel) (by decide +kernel)
theorem w_63 : (.initialized "java/util/NoSuchElementException" : Cond) ∈ GW := gwm 63 (by decide +kernel) (by decide +kernel)
theorem w_64 : (.initialized "java/lang/IllegalStateException" : Cond) ∈ GW := gwm 64 (by decide +kernel) (by decide +kernel)
theorem w_65 : (.initialized "GemPits$Stone" : Cond) ∈ GW := gwm 65 (by decide +kernel) (by decide +kernel)
theorem w_66 : (.classLink "GemPitsLaw" 8 "GemPits" : Cond) ∈ GW := gwm 66 (by decide +kernel) (by decide +kernel)
theorem w_67 : (.instantiable "GemPits" 5 : Cond) ∈ GW := gwm 67 (by decide +kernel) (by decide +kernel)
theorem w_68 : (.methodLink "GemPitsLaw" 77 ⟨"GemPits", "<init>", "()V"⟩ : Cond) ∈ GW := gwm 68 (by decide +kernel) (by decide +kernel)
theorem w_69 : (.instanceMethod ⟨"GemPits", "<init>", "()V"⟩ : Cond) ∈ GW := gwm 69 (by decide +kernel) (by decide +kernel)
theorem w_70 : (.code ⟨"GemPits", "<init>", "()V"⟩ prog_1_method_1_code 1 (Option.none : Option Jvm.ClassFile.FieldType) : Cond) ∈ GW := gwm 70 (by decide +kernel) (by decide +kernel)
theorem w_71 : (.methodLink "GemPits" 1 ⟨"java/lang/Object", "<init>", "()V"⟩ : Cond) ∈ GW := gwm 71 (by decide +kernel) (by decide +kernel)
theorem w_72 : (.instanceMethod ⟨"java/lang/Object", "<init>", "()V"⟩ : Cond) ∈ GW := gwm 72 (by decide +kernel) (by decide +kernel)
theorem w_73 : (.code ⟨"java/lang/Object", "<init>", "()V"⟩ object_method_1_code 1 (Option.none : Option Jvm.ClassFile.FieldType) : Cond) ∈ GW := gwm 73 (by decide +kernel) (by decide +kernel)
theorem w_74 : (.classLink "GemPits" 7 "GemPits$Tape" : Cond) ∈ GW := gwm 74 (by decide +kernel) (by decide +kernel)
theorem w_75 : (.instantiable "GemPits$Tape" 2 : Cond) ∈ GW := gwm 75 (by decide +kernel) (by decide +kernel)
theorem w_77 : (.instanceMethod ⟨"GemPits$Tape", "<init>", "()V"⟩ : Cond) ∈ GW := gwm 77 (by decide +kernel) (by decide +kernel)
theorem w_78 : (.code ⟨"GemPits$Tape", "<init>", "()V"⟩ prog_11_method_1_code 1 (Option.none : Option Jvm.ClassFile.FieldType) : Cond) ∈ GW := gwm 78 (by decide +kernel) (by decide +kernel)
theorem w_79 : (.methodLink "GemPits$Tape" 3 ⟨"java/lang/Object", "<init>", "()V"⟩ : Cond) ∈ GW := gwm 79 (by decide +kernel) (by decide +kernel)
theorem w_80 : (.fieldLink "GemPits$Tape" 11 "GemPits$Tape" "bytes" "[B" : Cond) ∈ GW := gwm 80 (by decide +kernel) (by decide +kernel)
theorem w_81 : (.fieldLink "GemPits$Tape" 15 "GemPits$Tape" "length" "I" : Cond) ∈ GW := gwm 81 (by decide +kernel) (by decide +kernel)
theorem w_82 : (.laysFinal "GemPits$Tape" "GemPits$Tape" "bytes" "[B" : Cond) ∈ GW := gwm 82 (by decide +kernel) (by decide +kernel)
theorem w_83 : (.soleField "GemPits$Tape" "bytes" : Cond) ∈ GW := gwm 83 (by decide +kernel) (by decide +kernel)
theorem w_84 : (.lays "GemPits$Tape" "GemPits$Tape" "length" "I" : Cond) ∈ GW := gwm 84 (by decide +kernel) (by decide +kernel)
theorem w_85 : (.soleField "GemPits$Tape" "length" : Cond) ∈ GW := gwm 85 (by decide +kernel) (by decide +kernel)
theorem w_86 : (.superclass "GemPits$Tape" "java/lang/Object" : Cond) ∈ GW := gwm 86 (by decide +kernel) (by decide +kernel)
theorem w_87 : (.arrayClass .byte : Cond) ∈ GW := gwm 87 (by decide +kernel) (by decide +kernel)
theorem w_88 : (.classLink "GemPits" 16 "GemPits$Ground" : Cond) ∈ GW := gwm 88 (by decide +kernel) (by decide +kernel)
theorem w_89 : (.instantiable "GemPits$Ground" 6 : Cond) ∈ GW := gwm 89 (by decide +kernel) (by decide +kernel)
theorem w_90 : (.methodLink "GemPits" 18 ⟨"GemPits$Ground", "<init>", "()V"⟩ : Cond) ∈ GW := gwm 90 (by decide +kernel) (by decide +kernel)
theorem w_91 : (.instanceMethod ⟨"GemPits$Ground", "<init>", "()V"⟩ : Cond) ∈ GW := gwm 91 (by decide +kernel) (by decide +kernel)
theorem w_92 : (.code ⟨"GemPits$Ground", "<init>", "()V"⟩ prog_4_method_1_code 1 (Option.none : Option Jvm.ClassFile.FieldType) : Cond) ∈ GW := gwm 92 (by decide +kernel) (by decide +kernel)
theorem w_93 : (.methodLink "GemPits$Ground" 3 ⟨"java/lang/Object", "<init>", "()V"⟩ : Cond) ∈ GW := gwm 93 (by decide +kernel) (by decide +kernel)
theorem w_94 : (.classLink "GemPits$Ground" 9 "java/util/ArrayList" : Cond) ∈ GW := gwm 94 (by decide +kernel) (by decide +kernel)
theorem w_95 : (.instantiable "java/util/ArrayList" 3 : Cond) ∈ GW := gwm 95 (by decide +kernel) (by decide +kernel)
theorem w_96 : (.methodLink "GemPits$Ground" 11 ⟨"java/util/ArrayList", "<init>", "()V"⟩ : Cond) ∈ GW := gwm 96 (by decide +kernel) (by decide +kernel)
theorem w_97 : (.instanceMethod ⟨"java/util/ArrayList", "<init>", "()V"⟩ : Cond) ∈ GW := gwm 97 (by decide +kernel) (by decide +kernel)
theorem w_98 : (.code ⟨"java/util/ArrayList", "<init>", "()V"⟩ prog_35_method_2_code 1 (Option.none : Option Jvm.ClassFile.FieldType) : Cond) ∈ GW := gwm 98 (by decide +kernel) (by decide +kernel)
theorem w_99 : (.methodLink "java/util/ArrayList" 1 ⟨"java/util/AbstractList", "<init>", "()V"⟩ : Cond) ∈ GW := gwm 99 (by decide +kernel) (by decide +kernel)
theorem w_100 : (.instanceMethod ⟨"java/util/AbstractList", "<init>", "()V"⟩ : Cond) ∈ GW := gwm 100 (by decide +kernel) (by decide +kernel)
theorem w_101 : (.code ⟨"java/util/AbstractList", "<init>", "()V"⟩ prog_34_method_1_code 1 (Option.none : Option Jvm.ClassFile.FieldType) : Cond) ∈ GW := gwm 101 (by decide +kernel) (by decide +kernel)
theorem w_102 : (.methodLink "java/util/AbstractList" 1 ⟨"java/util/AbstractCollection", "<init>", "()V"⟩ : Cond) ∈ GW := gwm 102 (by decide +kernel) (by decide +kernel)
theorem w_103 : (.instanceMethod ⟨"java/util/AbstractCollection", "<init>", "()V"⟩ : Cond) ∈ GW := gwm 103 (by decide +kernel) (by decide +kernel)
theorem w_104 : (.code ⟨"java/util/AbstractCollection", "<init>", "()V"⟩ prog_33_method_1_code 1 (Option.none : Option Jvm.ClassFile.FieldType) : Cond) ∈ GW := gwm 104 (by decide +kernel) (by decide +kernel)
theorem w_105 : (.methodLink "java/util/AbstractCollection" 1 ⟨"java/lang/Object", "<init>", "()V"⟩ : Cond) ∈ GW := gwm 105 (by decide +kernel) (by decide +kernel)
theorem w_106 : (.fieldLink "java/util/ArrayList" 39 "java/util/ArrayList" "DEFAULTCAPACITY_EMPTY_ELEMENTDATA" "[Ljava/lang/Object;" : Cond) ∈ GW := gwm 106 (by decide +kernel) (by decide +kernel)
theorem w_108 : (.fieldLink "java/util/ArrayList" 9 "java/util/ArrayList" "elementData" "[Ljava/lang/Object;" : Cond) ∈ GW := gwm 108 (by decide +kernel) (by decide +kernel)
theorem w_109 : (.fieldLink "java/util/ArrayList" 48 "java/util/ArrayList" "size" "I" : Cond) ∈ GW := gwm 109 (by decide +kernel) (by decide +kernel)
theorem w_110 : (.fieldLink "java/util/AbstractList" 7 "java/util/AbstractList" "modCount" "I" : Cond) ∈ GW := gwm 110 (by decide +kernel) (by decide +kernel)
theorem w_111 : (.fieldLink "java/util/ArrayList" 63 "java/util/ArrayList" "modCount" "I" : Cond) ∈ GW := gwm 111 (by decide +kernel) (by decide +kernel)
theorem w_112 : (.sameField "java/util/ArrayList" "java/util/AbstractList" "modCount" "I" : Cond) ∈ GW := gwm 112 (by decide +kernel) (by decide +kernel)
theorem w_113 : (.lays "java/util/ArrayList" "java/util/ArrayList" "elementData" "[Ljava/lang/Object;" : Cond) ∈ GW := gwm 113 (by decide +kernel) (by decide +kernel)
theorem w_114 : (.soleField "java/util/ArrayList" "elementData" : Cond) ∈ GW := gwm 114 (by decide +kernel) (by decide +kernel)
theorem w_115 : (.lays "java/util/ArrayList" "java/util/ArrayList" "size" "I" : Cond) ∈ GW := gwm 115 (by decide +kernel) (by decide +kernel)
theorem w_116 : (.soleField "java/util/ArrayList" "size" : Cond) ∈ GW := gwm 116 (by decide +kernel) (by decide +kernel)
theorem w_117 : (.lays "java/util/ArrayList" "java/util/AbstractList" "modCount" "I" : Cond) ∈ GW := gwm 117 (by decide +kernel) (by decide +kernel)
theorem w_118 : (.soleField "java/util/AbstractList" "modCount" : Cond) ∈ GW := gwm 118 (by decide +kernel) (by decide +kernel)
theorem w_119 : (.superclass "java/util/ArrayList" "java/util/AbstractList" : Cond) ∈ GW := gwm 119 (by decide +kernel) (by decide +kernel)
theorem w_120 : (.classLink "GemPits$Ground" 25 "GemPits$Law" : Cond) ∈ GW := gwm 120 (by decide +kernel) (by decide +kernel)
theorem w_121 : (.instantiable "GemPits$Law" 3 : Cond) ∈ GW := gwm 121 (by decide +kernel) (by decide +kernel)
theorem w_123 : (.instanceMethod ⟨"GemPits$Law", "<init>", "()V"⟩ : Cond) ∈ GW := gwm 123 (by decide +kernel) (by decide +kernel)
theorem w_124 : (.code ⟨"GemPits$Law", "<init>", "()V"⟩ prog_5_method_1_code 1 (Option.none : Option Jvm.ClassFile.FieldType) : Cond) ∈ GW := gwm 124 (by decide +kernel) (by decide +kernel)
theorem w_126 : (.instanceMethod ⟨"GemPits$Clauses", "<init>", "()V"⟩ : Cond) ∈ GW := gwm 126 (by decide +kernel) (by decide +kernel)
theorem w_127 : (.code ⟨"GemPits$Clauses", "<init>", "()V"⟩ prog_3_method_1_code 1 (Option.none : Option Jvm.ClassFile.FieldType) : Cond) ∈ GW := gwm 127 (by decide +kernel) (by decide +kernel)
theorem w_128 : (.methodLink "GemPits$Clauses" 3 ⟨"java/lang/Object", "<init>", "()V"⟩ : Cond) ∈ GW := gwm 128 (by decide +kernel) (by decide +kernel)
theorem w_129 : (.fieldLink "GemPits$Law" 7 "GemPits$Law" "apart" "I" : Cond) ∈ GW := gwm 129 (by decide +kernel) (by decide +kernel)
theorem w_130 : (.fieldLink "GemPits$Ground" 75 "GemPits$Law" "apart" "I" : Cond) ∈ GW := gwm 130 (by decide +kernel) (by decide +kernel)
theorem w_131 : (.fieldLink "GemPits$Law" 13 "GemPits$Law" "fillDays" "I" : Cond) ∈ GW := gwm 131 (by decide +kernel) (by decide +kernel)
theorem w_132 : (.fieldLink "GemPits$Pit" 18 "GemPits$Law" "fillDays" "I" : Cond) ∈ GW := gwm 132 (by decide +kernel) (by decide +kernel)
theorem w_133 : (.fieldLink "GemPits$Law" 16 "GemPits$Law" "bond" "I" : Cond) ∈ GW := gwm 133 (by decide +kernel) (by decide +kernel)
theorem w_134 : (.fieldLink "GemPits$Pit" 26 "GemPits$Law" "bond" "I" : Cond) ∈ GW := gwm 134 (by decide +kernel) (by decide +kernel)
theorem w_135 : (.lays "GemPits$Law" "GemPits$Law" "apart" "I" : Cond) ∈ GW := gwm 135 (by decide +kernel) (by decide +kernel)
theorem w_136 : (.soleField "GemPits$Law" "apart" : Cond) ∈ GW := gwm 136 (by decide +kernel) (by decide +kernel)
theorem w_137 : (.lays "GemPits$Law" "GemPits$Law" "fillDays" "I" : Cond) ∈ GW := gwm 137 (by decide +kernel) (by decide +kernel)
theorem w_138 : (.soleField "GemPits$Law" "fillDays" : Cond) ∈ GW := gwm 138 (by decide +kernel) (by decide +kernel)
theorem w_139 : (.lays "GemPits$Law" "GemPits$Law" "bond" "I" : Cond) ∈ GW := gwm 139 (by decide +kernel) (by decide +kernel)
theorem w_140 : (.soleField "GemPits$Law" "bond" : Cond) ∈ GW := gwm 140 (by decide +kernel) (by decide +kernel)
theorem w_141 : (.superclass "GemPits$Law" "GemPits$Clauses" : Cond) ∈ GW := gwm 141 (by decide +kernel) (by decide +kernel)
theorem w_142 : (.arrayClass .int : Cond) ∈ GW := gwm 142 (by decide +kernel) (by decide +kernel)
theorem w_143 : (.methodLink "GemPits$Ground" 39 ⟨"java/util/Arrays", "fill", "([II)V"⟩ : Cond) ∈ GW := gwm 143 (by decide +kernel) (by decide +kernel)
theorem w_144 : (.static ⟨"java/util/Arrays", "fill", "([II)V"⟩ : Cond) ∈ GW := gwm 144 (by decide +kernel) (by decide +kernel)
theorem w_145 : (.code ⟨"java/util/Arrays", "fill", "([II)V"⟩ prog_36_method_103_code 4 (Option.none : Option Jvm.ClassFile.FieldType) : Cond) ∈ GW := gwm 145 (by decide +kernel) (by decide +kernel)
theorem w_146 : (.fieldLink "GemPits$Ground" 12 "GemPits$Ground" "pits" "Ljava/util/ArrayList;" : Cond) ∈ GW := gwm 146 (by decide +kernel) (by decide +kernel)
theorem w_147 : (.fieldLink "GemPits$Ground" 18 "GemPits$Ground" "least" "[I" : Cond) ∈ GW := gwm 147 (by decide +kernel) (by decide +kernel)
theorem w_148 : (.fieldLink "GemPits$Ground" 22 "GemPits$Ground" "greatest" "[I" : Cond) ∈ GW := gwm 148 (by decide +kernel) (by decide +kernel)
theorem w_149 : (.fieldLink "GemPits$Ground" 28 "GemPits$Ground" "law" "LGemPits$Law;" : Cond) ∈ GW := gwm 149 (by decide +kernel) (by decide +kernel)
theorem w_150 : (.fieldLink "GemPits$Ground" 32 "GemPits$Ground" "step" "I" : Cond) ∈ GW := gwm 150 (by decide +kernel) (by decide +kernel)
theorem w_151 : (.fieldLink "GemPits$Ground" 36 "GemPits$Ground" "today" "I" : Cond) ∈ GW := gwm 151 (by decide +kernel) (by decide +kernel)
theorem w_152 : (.laysFinal "GemPits$Ground" "GemPits$Ground" "pits" "Ljava/util/ArrayList;" : Cond) ∈ GW := gwm 152 (by decide +kernel) (by decide +kernel)
theorem w_153 : (.soleField "GemPits$Ground" "pits" : Cond) ∈ GW := gwm 153 (by decide +kernel) (by decide +kernel)
theorem w_154 : (.laysFinal "GemPits$Ground" "GemPits$Ground" "least" "[I" : Cond) ∈ GW := gwm 154 (by decide +kernel) (by decide +kernel)
theorem w_155 : (.soleField "GemPits$Ground" "least" : Cond) ∈ GW := gwm 155 (by decide +kernel) (by decide +kernel)
theorem w_156 : (.laysFinal "GemPits$Ground" "GemPits$Ground" "greatest" "[I" : Cond) ∈ GW := gwm 156 (by decide +kernel) (by decide +kernel)
theorem w_157 : (.soleField "GemPits$Ground" "greatest" : Cond) ∈ GW := gwm 157 (by decide +kernel) (by decide +kernel)
theorem w_158 : (.lays "GemPits$Ground" "GemPits$Ground" "law" "LGemPits$Law;" : Cond) ∈ GW := gwm 158 (by decide +kernel) (by decide +kernel)
theorem w_159 : (.soleField "GemPits$Ground" "law" : Cond) ∈ GW := gwm 159 (by decide +kernel) (by decide +kernel)
theorem w_160 : (.lays "GemPits$Ground" "GemPits$Ground" "step" "I" : Cond) ∈ GW := gwm 160 (by decide +kernel) (by decide +kernel)
theorem w_161 : (.soleField "GemPits$Ground" "step" : Cond) ∈ GW := gwm 161 (by decide +kernel) (by decide +kernel)
theorem w_162 : (.lays "GemPits$Ground" "GemPits$Ground" "today" "I" : Cond) ∈ GW := gwm 162 (by decide +kernel) (by decide +kernel)
theorem w_163 : (.soleField "GemPits$Ground" "today" : Cond) ∈ GW := gwm 163 (by decide +kernel) (by decide +kernel)
theorem w_164 : (.superclass "GemPits$Ground" "java/lang/Object" : Cond) ∈ GW := gwm 164 (by decide +kernel) (by decide +kernel)
theorem w_165 : (.classLink "GemPits" 23 "GemPits$Market" : Cond) ∈ GW := gwm 165 (by decide +kernel) (by decide +kernel)
theorem w_166 : (.instantiable "GemPits$Market" 5 : Cond) ∈ GW := gwm 166 (by decide +kernel) (by decide +kernel)
theorem w_168 : (.instanceMethod ⟨"GemPits$Market", "<init>", "()V"⟩ : Cond) ∈ GW := gwm 168 (by decide +kernel) (by decide +kernel)
theorem w_169 : (.code ⟨"GemPits$Market", "<init>", "()V"⟩ prog_6_method_1_code 1 (Option.none : Option Jvm.ClassFile.FieldType) : Cond) ∈ GW := gwm 169 (by decide +kernel) (by decide +kernel)
theorem w_170 : (.methodLink "GemPits$Market" 3 ⟨"java/lang/Object", "<init>", "()V"⟩ : Cond) ∈ GW := gwm 170 (by decide +kernel) (by decide +kernel)
theorem w_171 : (.classLink "GemPits$Market" 9 "java/util/ArrayList" : Cond) ∈ GW := gwm 171 (by decide +kernel) (by decide +kernel)
theorem w_172 : (.methodLink "GemPits$Market" 11 ⟨"java/util/ArrayList", "<init>", "()V"⟩ : Cond) ∈ GW := gwm 172 (by decide +kernel) (by decide +kernel)
theorem w_173 : (.classLink "GemPits$Market" 22 "GemPits$Agreement" : Cond) ∈ GW := gwm 173 (by decide +kernel) (by decide +kernel)
theorem w_174 : (.instantiable "GemPits$Agreement" 3 : Cond) ∈ GW := gwm 174 (by decide +kernel) (by decide +kernel)
theorem w_176 : (.instanceMethod ⟨"GemPits$Agreement", "<init>", "()V"⟩ : Cond) ∈ GW := gwm 176 (by decide +kernel) (by decide +kernel)
theorem w_177 : (.code ⟨"GemPits$Agreement", "<init>", "()V"⟩ prog_2_method_1_code 1 (Option.none : Option Jvm.ClassFile.FieldType) : Cond) ∈ GW := gwm 177 (by decide +kernel) (by decide +kernel)
theorem w_179 : (.fieldLink "GemPits$Agreement" 9 "GemPits$Agreement" "hundredths" "[I" : Cond) ∈ GW := gwm 179 (by decide +kernel) (by decide +kernel)
theorem w_180 : (.fieldLink "GemPits$Agreement" 29 "GemPits$Agreement" "costsFirst" "Z" : Cond) ∈ GW := gwm 180 (by decide +kernel) (by decide +kernel)
theorem w_181 : (.fieldLink "GemPits$Agreement" 46 "GemPits$Agreement" "until" "I" : Cond) ∈ GW := gwm 181 (by decide +kernel) (by decide +kernel)
theorem w_182 : (.laysFinal "GemPits$Agreement" "GemPits$Agreement" "hundredths" "[I" : Cond) ∈ GW := gwm 182 (by decide +kernel) (by decide +kernel)
theorem w_183 : (.soleField "GemPits$Agreement" "hundredths" : Cond) ∈ GW := gwm 183 (by decide +kernel) (by decide +kernel)
theorem w_184 : (.lays "GemPits$Agreement" "GemPits$Agreement" "costsFirst" "Z" : Cond) ∈ GW := gwm 184 (by decide +kernel) (by decide +kernel)
theorem w_185 : (.soleField "GemPits$Agreement" "costsFirst" : Cond) ∈ GW := gwm 185 (by decide +kernel) (by decide +kernel)
theorem w_186 : (.lays "GemPits$Agreement" "GemPits$Agreement" "until" "I" : Cond) ∈ GW := gwm 186 (by decide +kernel) (by decide +kernel)
theorem w_187 : (.soleField "GemPits$Agreement" "until" : Cond) ∈ GW := gwm 187 (by decide +kernel) (by decide +kernel)
theorem w_188 : (.superclass "GemPits$Agreement" "GemPits$Clauses" : Cond) ∈ GW := gwm 188 (by decide +kernel) (by decide +kernel)
theorem w_189 : (.fieldLink "GemPits$Market" 12 "GemPits$Market" "stones" "Ljava/util/ArrayList;" : Cond) ∈ GW := gwm 189 (by decide +kernel) (by decide +kernel)
theorem w_190 : (.fieldLink "GemPits$Market" 18 "GemPits$Market" "had" "[I" : Cond) ∈ GW := gwm 190 (by decide +kernel) (by decide +kernel)
theorem w_191 : (.fieldLink "GemPits$Market" 25 "GemPits$Market" "agreement" "LGemPits$Agreement;" : Cond) ∈ GW := gwm 191 (by decide +kernel) (by decide +kernel)
theorem w_192 : (.fieldLink "GemPits$Market" 29 "GemPits$Market" "costs" "I" : Cond) ∈ GW := gwm 192 (by decide +kernel) (by decide +kernel)
theorem w_193 : (.fieldLink "GemPits$Market" 33 "GemPits$Market" "sold" "I" : Cond) ∈ GW := gwm 193 (by decide +kernel) (by decide +kernel)
theorem w_194 : (.laysFinal "GemPits$Market" "GemPits$Market" "stones" "Ljava/util/ArrayList;" : Cond) ∈ GW := gwm 194 (by decide +kernel) (by decide +kernel)
theorem w_195 : (.soleField "GemPits$Market" "stones" : Cond) ∈ GW := gwm 195 (by decide +kernel) (by decide +kernel)
theorem w_196 : (.laysFinal "GemPits$Market" "GemPits$Market" "had" "[I" : Cond) ∈ GW := gwm 196 (by decide +kernel) (by decide +kernel)
theorem w_197 : (.soleField "GemPits$Market" "had" : Cond) ∈ GW := gwm 197 (by decide +kernel) (by decide +kernel)
theorem w_198 : (.lays "GemPits$Market" "GemPits$Market" "agreement" "LGemPits$Agreement;" : Cond) ∈ GW := gwm 198 (by decide +kernel) (by decide +kernel)
theorem w_199 : (.soleField "GemPits$Market" "agreement" : Cond) ∈ GW := gwm 199 (by decide +kernel) (by decide +kernel)
theorem w_200 : (.lays "GemPits$Market" "GemPits$Market" "costs" "I" : Cond) ∈ GW := gwm 200 (by decide +kernel) (by decide +kernel)
theorem w_201 : (.soleField "GemPits$Market" "costs" : Cond) ∈ GW := gwm 201 (by decide +kernel) (by decide +kernel)
theorem w_202 : (.lays "GemPits$Market" "GemPits$Market" "sold" "I" : Cond) ∈ GW := gwm 202 (by decide +kernel) (by decide +kernel)
theorem w_203 : (.soleField "GemPits$Market" "sold" : Cond) ∈ GW := gwm 203 (by decide +kernel) (by decide +kernel)
theorem w_204 : (.superclass "GemPits$Market" "java/lang/Object" : Cond) ∈ GW := gwm 204 (by decide +kernel) (by decide +kernel)
theorem w_205 : (.classLink "GemPits" 30 "GemPits$Rough" : Cond) ∈ GW := gwm 205 (by decide +kernel) (by decide +kernel)
theorem w_206 : (.instantiable "GemPits$Rough" 7 : Cond) ∈ GW := gwm 206 (by decide +kernel) (by decide +kernel)
theorem w_208 : (.instanceMethod ⟨"GemPits$Rough", "<init>", "()V"⟩ : Cond) ∈ GW := gwm 208 (by decide +kernel) (by decide +kernel)
theorem w_209 : (.code ⟨"GemPits$Rough", "<init>", "()V"⟩ prog_9_method_1_code 1 (Option.none : Option Jvm.ClassFile.FieldType) : Cond) ∈ GW := gwm 209 (by decide +kernel) (by decide +kernel)
theorem w_210 : (.methodLink "GemPits$Rough" 1 ⟨"java/lang/Object", "<init>", "()V"⟩ : Cond) ∈ GW := gwm 210 (by decide +kernel) (by decide +kernel)
theorem w_211 : (.fieldLink "GemPits$Rough" 9 "GemPits$Rough" "flawed" "[Z" : Cond) ∈ GW := gwm 211 (by decide +kernel) (by decide +kernel)
theorem w_212 : (.fieldLink "GemPits$Rough" 13 "GemPits$Rough" "clear" "[Z" : Cond) ∈ GW := gwm 212 (by decide +kernel) (by decide +kernel)
theorem w_213 : (.fieldLink "GemPits$Rough" 16 "GemPits$Rough" "worth" "[I" : Cond) ∈ GW := gwm 213 (by decide +kernel) (by decide +kernel)
theorem w_214 : (.fieldLink "GemPits$Rough" 20 "GemPits$Rough" "fewest" "[I" : Cond) ∈ GW := gwm 214 (by decide +kernel) (by decide +kernel)
theorem w_215 : (.fieldLink "GemPits$Rough" 23 "GemPits$Rough" "wide" "I" : Cond) ∈ GW := gwm 215 (by decide +kernel) (by decide +kernel)
theorem w_216 : (.fieldLink "GemPits$Rough" 27 "GemPits$Rough" "high" "I" : Cond) ∈ GW := gwm 216 (by decide +kernel) (by decide +kernel)
theorem w_217 : (.fieldLink "GemPits$Rough" 30 "GemPits$Rough" "weighed" "Z" : Cond) ∈ GW := gwm 217 (by decide +kernel) (by decide +kernel)
theorem w_218 : (.laysFinal "GemPits$Rough" "GemPits$Rough" "flawed" "[Z" : Cond) ∈ GW := gwm 218 (by decide +kernel) (by decide +kernel)
theorem w_219 : (.soleField "GemPits$Rough" "flawed" : Cond) ∈ GW := gwm 219 (by decide +kernel) (by decide +kernel)
theorem w_220 : (.laysFinal "GemPits$Rough" "GemPits$Rough" "clear" "[Z" : Cond) ∈ GW := gwm 220 (by decide +kernel) (by decide +kernel)
theorem w_221 : (.soleField "GemPits$Rough" "clear" : Cond) ∈ GW := gwm 221 (by decide +kernel) (by decide +kernel)
theorem w_222 : (.laysFinal "GemPits$Rough" "GemPits$Rough" "worth" "[I" : Cond) ∈ GW := gwm 222 (by decide +kernel) (by decide +kernel)
theorem w_223 : (.soleField "GemPits$Rough" "worth" : Cond) ∈ GW := gwm 223 (by decide +kernel) (by decide +kernel)
theorem w_224 : (.laysFinal "GemPits$Rough" "GemPits$Rough" "fewest" "[I" : Cond) ∈ GW := gwm 224 (by decide +kernel) (by decide +kernel)
theorem w_225 : (.soleField "GemPits$Rough" "fewest" : Cond) ∈ GW := gwm 225 (by decide +kernel) (by decide +kernel)
theorem w_226 : (.lays "GemPits$Rough" "GemPits$Rough" "wide" "I" : Cond) ∈ GW := gwm 226 (by decide +kernel) (by decide +kernel)
theorem w_227 : (.soleField "GemPits$Rough" "wide" : Cond) ∈ GW := gwm 227 (by decide +kernel) (by decide +kernel)
theorem w_228 : (.lays "GemPits$Rough" "GemPits$Rough" "high" "I" : Cond) ∈ GW := gwm 228 (by decide +kernel) (by decide +kernel)
theorem w_229 : (.soleField "GemPits$Rough" "high" : Cond) ∈ GW := gwm 229 (by decide +kernel) (by decide +kernel)
theorem w_230 : (.lays "GemPits$Rough" "GemPits$Rough" "weighed" "Z" : Cond) ∈ GW := gwm 230 (by decide +kernel) (by decide +kernel)
theorem w_231 : (.soleField "GemPits$Rough" "weighed" : Cond) ∈ GW := gwm 231 (by decide +kernel) (by decide +kernel)
theorem w_232 : (.superclass "GemPits$Rough" "java/lang/Object" : Cond) ∈ GW := gwm 232 (by decide +kernel) (by decide +kernel)
theorem w_233 : (.arrayClass .boolean : Cond) ∈ GW := gwm 233 (by decide +kernel) (by decide +kernel)
theorem w_234 : (.fieldLink "GemPits" 10 "GemPits" "tape" "LGemPits$Tape;" : Cond) ∈ GW := gwm 234 (by decide +kernel) (by decide +kernel)
theorem w_235 : (.fieldLink "GemPits" 19 "GemPits" "ground" "LGemPits$Ground;" : Cond) ∈ GW := gwm 235 (by decide +kernel) (by decide +kernel)
theorem w_236 : (.fieldLink "GemPits" 26 "GemPits" "market" "LGemPits$Market;" : Cond) ∈ GW := gwm 236 (by decide +kernel) (by decide +kernel)
theorem w_237 : (.fieldLink "GemPits" 33 "GemPits" "gem" "LGemPits$Rough;" : Cond) ∈ GW := gwm 237 (by decide +kernel) (by decide +kernel)
theorem w_238 : (.fieldLink "GemPits" 37 "GemPits" "latestFault" "I" : Cond) ∈ GW := gwm 238 (by decide +kernel) (by decide +kernel)
theorem w_239 : (.laysFinal "GemPits" "GemPits" "tape" "LGemPits$Tape;" : Cond) ∈ GW := gwm 239 (by decide +kernel) (by decide +kernel)
theorem w_240 : (.soleField "GemPits" "tape" : Cond) ∈ GW := gwm 240 (by decide +kernel) (by decide +kernel)
theorem w_241 : (.laysFinal "GemPits" "GemPits" "ground" "LGemPits$Ground;" : Cond) ∈ GW := gwm 241 (by decide +kernel) (by decide +kernel)
theorem w_242 : (.soleField "GemPits" "ground" : Cond) ∈ GW := gwm 242 (by decide +kernel) (by decide +kernel)
theorem w_243 : (.laysFinal "GemPits" "GemPits" "market" "LGemPits$Market;" : Cond) ∈ GW := gwm 243 (by decide +kernel) (by decide +kernel)
theorem w_244 : (.soleField "GemPits" "market" : Cond) ∈ GW := gwm 244 (by decide +kernel) (by decide +kernel)
theorem w_245 : (.laysFinal "GemPits" "GemPits" "gem" "LGemPits$Rough;" : Cond) ∈ GW := gwm 245 (by decide +kernel) (by decide +kernel)
theorem w_246 : (.soleField "GemPits" "gem" : Cond) ∈ GW := gwm 246 (by decide +kernel) (by decide +kernel)
theorem w_247 : (.lays "GemPits" "GemPits" "latestFault" "I" : Cond) ∈ GW := gwm 247 (by decide +kernel) (by decide +kernel)
theorem w_248 : (.soleField "GemPits" "latestFault" : Cond) ∈ GW := gwm 248 (by decide +kernel) (by decide +kernel)
theorem w_249 : (.superclass "GemPits" "java/lang/Object" : Cond) ∈ GW := gwm 249 (by decide +kernel) (by decide +kernel)
theorem w_250 : (.methodLink "GemPitsLaw" 81 ⟨"GemPits", "feed", "(IIIII)I"⟩ : Cond) ∈ GW := gwm 250 (by decide +kernel) (by decide +kernel)
theorem w_251 : (.instanceMethod ⟨"GemPits", "feed", "(IIIII)I"⟩ : Cond) ∈ GW := gwm 251 (by decide +kernel) (by decide +kernel)
theorem w_252 : (.selects "GemPits" ⟨"GemPits", "feed", "(IIIII)I"⟩ ⟨"GemPits", "feed", "(IIIII)I"⟩ : Cond) ∈ GW := gwm 252 (by decide +kernel) (by decide +kernel)
theorem w_253 : (.code ⟨"GemPits", "feed", "(IIIII)I"⟩ prog_1_method_2_code 6 (Option.some .int) : Cond) ∈ GW := gwm 253 (by decide +kernel) (by decide +kernel)
theorem w_254 : (.methodLink "GemPits" 41 ⟨"GemPits$Tape", "hasRoom", "()Z"⟩ : Cond) ∈ GW := gwm 254 (by decide +kernel) (by decide +kernel)
theorem w_255 : (.instanceMethod ⟨"GemPits$Tape", "hasRoom", "()Z"⟩ : Cond) ∈ GW := gwm 255 (by decide +kernel) (by decide +kernel)
theorem w_256 : (.selects "GemPits$Tape" ⟨"GemPits$Tape", "hasRoom", "()Z"⟩ ⟨"GemPits$Tape", "hasRoom", "()Z"⟩ : Cond) ∈ GW := gwm 256 (by decide +kernel) (by decide +kernel)
theorem w_257 : (.code ⟨"GemPits$Tape", "hasRoom", "()Z"⟩ prog_11_method_3_code 1 (Option.some .boolean) : Cond) ∈ GW := gwm 257 (by decide +kernel) (by decide +kernel)
theorem w_258 : (.methodLink "GemPits" 45 ⟨"GemPits$Tape", "put", "(I)V"⟩ : Cond) ∈ GW := gwm 258 (by decide +kernel) (by decide +kernel)
theorem w_259 : (.instanceMethod ⟨"GemPits$Tape", "put", "(I)V"⟩ : Cond) ∈ GW := gwm 259 (by decide +kernel) (by decide +kernel)
theorem w_260 : (.selects "GemPits$Tape" ⟨"GemPits$Tape", "put", "(I)V"⟩ ⟨"GemPits$Tape", "put", "(I)V"⟩ : Cond) ∈ GW := gwm 260 (by decide +kernel) (by decide +kernel)
theorem w_261 : (.code ⟨"GemPits$Tape", "put", "(I)V"⟩ prog_11_method_4_code 3 (Option.none : Option Jvm.ClassFile.FieldType) : Cond) ∈ GW := gwm 261 (by decide +kernel) (by decide +kernel)
theorem w_262 : (.methodLink "GemPits" 49 ⟨"GemPits$Tape", "length", "()I"⟩ : Cond) ∈ GW := gwm 262 (by decide +kernel) (by decide +kernel)
theorem w_263 : (.instanceMethod ⟨"GemPits$Tape", "length", "()I"⟩ : Cond) ∈ GW := gwm 263 (by decide +kernel) (by decide +kernel)
theorem w_264 : (.selects "GemPits$Tape" ⟨"GemPits$Tape", "length", "()I"⟩ ⟨"GemPits$Tape", "length", "()I"⟩ : Cond) ∈ GW := gwm 264 (by decide +kernel) (by decide +kernel)
theorem w_265 : (.code ⟨"GemPits$Tape", "length", "()I"⟩ prog_11_method_2_code 1 (Option.some .int) : Cond) ∈ GW := gwm 265 (by decide +kernel) (by decide +kernel)
theorem w_266 : (.methodLink "GemPitsLaw" 86 ⟨"GemPits", "end", "(I)Z"⟩ : Cond) ∈ GW := gwm 266 (by decide +kernel) (by decide +kernel)
theorem w_267 : (.instanceMethod ⟨"GemPits", "end", "(I)Z"⟩ : Cond) ∈ GW := gwm 267 (by decide +kernel) (by decide +kernel)
theorem w_268 : (.selects "GemPits" ⟨"GemPits", "end", "(I)Z"⟩ ⟨"GemPits", "end", "(I)Z"⟩ : Cond) ∈ GW := gwm 268 (by decide +kernel) (by decide +kernel)
theorem w_269 : (.code ⟨"GemPits", "end", "(I)Z"⟩ prog_1_method_3_code 2 (Option.some .boolean) : Cond) ∈ GW := gwm 269 (by decide +kernel) (by decide +kernel)
theorem w_270 : (.methodLink "GemPits" 53 ⟨"GemPits$Tape", "shorten", "(I)Z"⟩ : Cond) ∈ GW := gwm 270 (by decide +kernel) (by decide +kernel)
theorem w_271 : (.instanceMethod ⟨"GemPits$Tape", "shorten", "(I)Z"⟩ : Cond) ∈ GW := gwm 271 (by decide +kernel) (by decide +kernel)
theorem w_272 : (.selects "GemPits$Tape" ⟨"GemPits$Tape", "shorten", "(I)Z"⟩ ⟨"GemPits$Tape", "shorten", "(I)Z"⟩ : Cond) ∈ GW := gwm 272 (by decide +kernel) (by decide +kernel)
theorem w_273 : (.code ⟨"GemPits$Tape", "shorten", "(I)Z"⟩ prog_11_method_5_code 2 (Option.some .boolean) : Cond) ∈ GW := gwm 273 (by decide +kernel) (by decide +kernel)
theorem w_274 : (.methodLink "GemPitsLaw" 106 ⟨"GemPits", "fault", "()I"⟩ : Cond) ∈ GW := gwm 274 (by decide +kernel) (by decide +kernel)
theorem w_275 : (.instanceMethod ⟨"GemPits", "fault", "()I"⟩ : Cond) ∈ GW := gwm 275 (by decide +kernel) (by decide +kernel)
theorem w_276 : (.selects "GemPits" ⟨"GemPits", "fault", "()I"⟩ ⟨"GemPits", "fault", "()I"⟩ : Cond) ∈ GW := gwm 276 (by decide +kernel) (by decide +kernel)
theorem w_277 : (.code ⟨"GemPits", "fault", "()I"⟩ prog_1_method_7_code 1 (Option.some .int) : Cond) ∈ GW := gwm 277 (by decide +kernel) (by decide +kernel)
theorem w_278 : (.methodLink "GemPitsLaw" 128 ⟨"GemPits", "best", "()I"⟩ : Cond) ∈ GW := gwm 278 (by decide +kernel) (by decide +kernel)
theorem w_279 : (.instanceMethod ⟨"GemPits", "best", "()I"⟩ : Cond) ∈ GW := gwm 279 (by decide +kernel) (by decide +kernel)
theorem w_280 : (.selects "GemPits" ⟨"GemPits", "best", "()I"⟩ ⟨"GemPits", "best", "()I"⟩ : Cond) ∈ GW := gwm 280 (by decide +kernel) (by decide +kernel)
theorem w_281 : (.code ⟨"GemPits", "best", "()I"⟩ prog_1_method_13_code 1 (Option.some .int) : Cond) ∈ GW := gwm 281 (by decide +kernel) (by decide +kernel)
theorem w_282 : (.methodLink "GemPits" 145 ⟨"GemPits$Ground", "bestSquare", "()I"⟩ : Cond) ∈ GW := gwm 282 (by decide +kernel) (by decide +kernel)
theorem w_283 : (.instanceMethod ⟨"GemPits$Ground", "bestSquare", "()I"⟩ : Cond) ∈ GW := gwm 283 (by decide +kernel) (by decide +kernel)
theorem w_284 : (.selects "GemPits$Ground" ⟨"GemPits$Ground", "bestSquare", "()I"⟩ ⟨"GemPits$Ground", "bestSquare", "()I"⟩ : Cond) ∈ GW := gwm 284 (by decide +kernel) (by decide +kernel)
theorem w_285 : (.code ⟨"GemPits$Ground", "bestSquare", "()I"⟩ prog_4_method_15_code 7 (Option.some .int) : Cond) ∈ GW := gwm 285 (by decide +kernel) (by decide +kernel)
theorem w_286 : (.methodLink "GemPits$Ground" 88 ⟨"GemPits$Ground", "hasSpan", "(I)Z"⟩ : Cond) ∈ GW := gwm 286 (by decide +kernel) (by decide +kernel)
theorem w_287 : (.instanceMethod ⟨"GemPits$Ground", "hasSpan", "(I)Z"⟩ : Cond) ∈ GW := gwm 287 (by decide +kernel) (by decide +kernel)
theorem w_288 : (.selects "GemPits$Ground" ⟨"GemPits$Ground", "hasSpan", "(I)Z"⟩ ⟨"GemPits$Ground", "hasSpan", "(I)Z"⟩ : Cond) ∈ GW := gwm 288 (by decide +kernel) (by decide +kernel)
theorem w_289 : (.code ⟨"GemPits$Ground", "hasSpan", "(I)Z"⟩ prog_4_method_14_code 2 (Option.some .boolean) : Cond) ∈ GW := gwm 289 (by decide +kernel) (by decide +kernel)
theorem w_290 : (.methodLink "GemPits$Ground" 92 ⟨"GemPits$Ground", "maySink", "(I)Z"⟩ : Cond) ∈ GW := gwm 290 (by decide +kernel) (by decide +kernel)
theorem w_291 : (.instanceMethod ⟨"GemPits$Ground", "maySink", "(I)Z"⟩ : Cond) ∈ GW := gwm 291 (by decide +kernel) (by decide +kernel)
theorem w_292 : (.selects "GemPits$Ground" ⟨"GemPits$Ground", "maySink", "(I)Z"⟩ ⟨"GemPits$Ground", "maySink", "(I)Z"⟩ : Cond) ∈ GW := gwm 292 (by decide +kernel) (by decide +kernel)
theorem w_293 : (.code ⟨"GemPits$Ground", "maySink", "(I)Z"⟩ prog_4_method_9_code 4 (Option.some .boolean) : Cond) ∈ GW := gwm 293 (by decide +kernel) (by decide +kernel)
theorem w_294 : (.methodLink "GemPits$Ground" 45 ⟨"java/util/ArrayList", "size", "()I"⟩ : Cond) ∈ GW := gwm 294 (by decide +kernel) (by decide +kernel)
theorem w_295 : (.instanceMethod ⟨"java/util/ArrayList", "size", "()I"⟩ : Cond) ∈ GW := gwm 295 (by decide +kernel) (by decide +kernel)
theorem w_296 : (.selects "java/util/ArrayList" ⟨"java/util/ArrayList", "size", "()I"⟩ ⟨"java/util/ArrayList", "size", "()I"⟩ : Cond) ∈ GW := gwm 296 (by decide +kernel) (by decide +kernel)
theorem w_297 : (.code ⟨"java/util/ArrayList", "size", "()I"⟩ prog_35_method_8_code 1 (Option.some .int) : Cond) ∈ GW := gwm 297 (by decide +kernel) (by decide +kernel)
theorem w_298 : (.methodLink "GemPits$Ground" 49 ⟨"java/util/ArrayList", "get", "(I)Ljava/lang/Object;"⟩ : Cond) ∈ GW := gwm 298 (by decide +kernel) (by decide +kernel)
theorem w_299 : (.instanceMethod ⟨"java/util/ArrayList", "get", "(I)Ljava/lang/Object;"⟩ : Cond) ∈ GW := gwm 299 (by decide +kernel) (by decide +kernel)
theorem w_300 : (.selects "java/util/ArrayList" ⟨"java/util/ArrayList", "get", "(I)Ljava/lang/Object;"⟩ ⟨"java/util/ArrayList", "get", "(I)Ljava/lang/Object;"⟩ : Cond) ∈ GW := gwm 300 (by decide +kernel) (by decide +kernel)
theorem w_301 : (.code ⟨"java/util/ArrayList", "get", "(I)Ljava/lang/Object;"⟩ prog_35_method_20_code 2 (Option.some (.object "java/lang/Object")) : Cond) ∈ GW := gwm 301 (by decide +kernel) (by decide +kernel)
theorem w_302 : (.methodLink "java/util/ArrayList" 118 ⟨"java/util/Objects", "checkIndex", "(II)I"⟩ : Cond) ∈ GW := gwm 302 (by decide +kernel) (by decide +kernel)
theorem w_303 : (.static ⟨"java/util/Objects", "checkIndex", "(II)I"⟩ : Cond) ∈ GW := gwm 303 (by decide +kernel) (by decide +kernel)
theorem w_304 : (.code ⟨"java/util/Objects", "checkIndex", "(II)I"⟩ prog_40_method_17_code 2 (Option.some .int) : Cond) ∈ GW := gwm 304 (by decide +kernel) (by decide +kernel)
theorem w_305 : (.methodLink "java/util/Objects" 105 ⟨"jdk/internal/util/Preconditions", "checkIndex", "(IILjava/util/function/BiFunction;)I"⟩ : Cond) ∈ GW := gwm 305 (by decide +kernel) (by decide +kernel)
theorem w_306 : (.static ⟨"jdk/internal/util/Preconditions", "checkIndex", "(IILjava/util/function/BiFunction;)I"⟩ : Cond) ∈ GW := gwm 306 (by decide +kernel) (by decide +kernel)
theorem w_307 : (.code ⟨"jdk/internal/util/Preconditions", "checkIndex", "(IILjava/util/function/BiFunction;)I"⟩ prog_44_method_11_code 3 (Option.some .int) : Cond) ∈ GW := gwm 307 (by decide +kernel) (by decide +kernel)
theorem w_308 : (.methodLink "java/util/ArrayList" 123 ⟨"java/util/ArrayList", "elementData", "(I)Ljava/lang/Object;"⟩ : Cond) ∈ GW := gwm 308 (by decide +kernel) (by decide +kernel)
theorem w_309 : (.instanceMethod ⟨"java/util/ArrayList", "elementData", "(I)Ljava/lang/Object;"⟩ : Cond) ∈ GW := gwm 309 (by decide +kernel) (by decide +kernel)
theorem w_310 : (.selects "java/util/ArrayList" ⟨"java/util/ArrayList", "elementData", "(I)Ljava/lang/Object;"⟩ ⟨"java/util/ArrayList", "elementData", "(I)Ljava/lang/Object;"⟩ : Cond) ∈ GW := gwm 310 (by decide +kernel) (by decide +kernel)
theorem w_311 : (.code ⟨"java/util/ArrayList", "elementData", "(I)Ljava/lang/Object;"⟩ prog_35_method_18_code 2 (Option.some (.object "java/lang/Object")) : Cond) ∈ GW := gwm 311 (by decide +kernel) (by decide +kernel)
theorem w_312 : (.classLink "GemPits$Ground" 53 "GemPits$Pit" : Cond) ∈ GW := gwm 312 (by decide +kernel) (by decide +kernel)
theorem w_313 : (.methodLink "GemPits$Ground" 68 ⟨"GemPits$Pit", "isFilled", "()Z"⟩ : Cond) ∈ GW := gwm 313 (by decide +kernel) (by decide +kernel)
theorem w_314 : (.instanceMethod ⟨"GemPits$Pit", "isFilled", "()Z"⟩ : Cond) ∈ GW := gwm 314 (by decide +kernel) (by decide +kernel)
theorem w_315 : (.selects "GemPits$Pit" ⟨"GemPits$Pit", "isFilled", "()Z"⟩ ⟨"GemPits$Pit", "isFilled", "()Z"⟩ : Cond) ∈ GW := gwm 315 (by decide +kernel) (by decide +kernel)
theorem w_316 : (.code ⟨"GemPits$Pit", "isFilled", "()Z"⟩ prog_7_method_2_code 1 (Option.some .boolean) : Cond) ∈ GW := gwm 316 (by decide +kernel) (by decide +kernel)
theorem w_317 : (.methodLink "GemPits$Ground" 72 ⟨"GemPits$Ground", "stepsApart", "(II)I"⟩ : Cond) ∈ GW := gwm 317 (by decide +kernel) (by decide +kernel)
theorem w_318 : (.static ⟨"GemPits$Ground", "stepsApart", "(II)I"⟩ : Cond) ∈ GW := gwm 318 (by decide +kernel) (by decide +kernel)
theorem w_319 : (.code ⟨"GemPits$Ground", "stepsApart", "(II)I"⟩ prog_4_method_21_code 4 (Option.some .int) : Cond) ∈ GW := gwm 319 (by decide +kernel) (by decide +kernel)
theorem w_320 : (.methodLink "GemPits$Ground" 105 ⟨"java/lang/Math", "abs", "(I)I"⟩ : Cond) ∈ GW := gwm 320 (by decide +kernel) (by decide +kernel)
theorem w_321 : (.static ⟨"java/lang/Math", "abs", "(I)I"⟩ : Cond) ∈ GW := gwm 321 (by decide +kernel) (by decide +kernel)
theorem w_322 : (.code ⟨"java/lang/Math", "abs", "(I)I"⟩ prog_23_method_59_code 1 (Option.some .int) : Cond) ∈ GW := gwm 322 (by decide +kernel) (by decide +kernel)
theorem w_323 : (.methodLink "GemPits$Ground" 102 ⟨"java/lang/Math", "max", "(II)I"⟩ : Cond) ∈ GW := gwm 323 (by decide +kernel) (by decide +kernel)
theorem w_324 : (.static ⟨"java/lang/Math", "max", "(II)I"⟩ : Cond) ∈ GW := gwm 324 (by decide +kernel) (by decide +kernel)
theorem w_325 : (.code ⟨"java/lang/Math", "max", "(II)I"⟩ prog_23_method_65_code 2 (Option.some .int) : Cond) ∈ GW := gwm 325 (by decide +kernel) (by decide +kernel)
theorem w_326 : (.methodLink "GemPitsLaw" 159 ⟨"GemPits", "most", "()I"⟩ : Cond) ∈ GW := gwm 326 (by decide +kernel) (by decide +kernel)
theorem w_327 : (.instanceMethod ⟨"GemPits", "most", "()I"⟩ : Cond) ∈ GW := gwm 327 (by decide +kernel) (by decide +kernel)
theorem w_328 : (.selects "GemPits" ⟨"GemPits", "most", "()I"⟩ ⟨"GemPits", "most", "()I"⟩ : Cond) ∈ GW := gwm 328 (by decide +kernel) (by decide +kernel)
theorem w_329 : (.code ⟨"GemPits", "most", "()I"⟩ prog_1_method_22_code 1 (Option.some .int) : Cond) ∈ GW := gwm 329 (by decide +kernel) (by decide +kernel)
theorem w_330 : (.methodLink "GemPits" 258 ⟨"GemPits$Rough", "greatestWorth", "()I"⟩ : Cond) ∈ GW := gwm 330 (by decide +kernel) (by decide +kernel)
theorem w_331 : (.instanceMethod ⟨"GemPits$Rough", "greatestWorth", "()I"⟩ : Cond) ∈ GW := gwm 331 (by decide +kernel) (by decide +kernel)
theorem w_332 : (.selects "GemPits$Rough" ⟨"GemPits$Rough", "greatestWorth", "()I"⟩ ⟨"GemPits$Rough", "greatestWorth", "()I"⟩ : Cond) ∈ GW := gwm 332 (by decide +kernel) (by decide +kernel)
theorem w_333 : (.code ⟨"GemPits$Rough", "greatestWorth", "()I"⟩ prog_9_method_5_code 1 (Option.some .int) : Cond) ∈ GW := gwm 333 (by decide +kernel) (by decide +kernel)
theorem w_334 : (.methodLink "GemPits$Rough" 34 ⟨"GemPits$Rough", "weighAll", "()V"⟩ : Cond) ∈ GW := gwm 334 (by decide +kernel) (by decide +kernel)
theorem w_336 : (.instanceMethod ⟨"GemPits$Rough", "weighAll", "()V"⟩ : Cond) ∈ GW := gwm 336 (by decide +kernel) (by decide +kernel)
theorem w_337 : (.code ⟨"GemPits$Rough", "weighAll", "()V"⟩ prog_9_method_7_code 5 (Option.none : Option Jvm.ClassFile.FieldType) : Cond) ∈ GW := gwm 337 (by decide +kernel) (by decide +kernel)
theorem w_338 : (.methodLink "GemPits$Rough" 41 ⟨"GemPits$Rough", "weigh", "(IIII)V"⟩ : Cond) ∈ GW := gwm 338 (by decide +kernel) (by decide +kernel)
theorem w_340 : (.instanceMethod ⟨"GemPits$Rough", "weigh", "(IIII)V"⟩ : Cond) ∈ GW := gwm 340 (by decide +kernel) (by decide +kernel)
theorem w_341 : (.code ⟨"GemPits$Rough", "weigh", "(IIII)V"⟩ prog_9_method_8_code 8 (Option.none : Option Jvm.ClassFile.FieldType) : Cond) ∈ GW := gwm 341 (by decide +kernel) (by decide +kernel)
theorem w_342 : (.methodLink "GemPits$Rough" 37 ⟨"GemPits$Rough", "place", "(IIII)I"⟩ : Cond) ∈ GW := gwm 342 (by decide +kernel) (by decide +kernel)
theorem w_343 : (.static ⟨"GemPits$Rough", "place", "(IIII)I"⟩ : Cond) ∈ GW := gwm 343 (by decide +kernel) (by decide +kernel)
theorem w_344 : (.code ⟨"GemPits$Rough", "place", "(IIII)I"⟩ prog_9_method_11_code 4 (Option.some .int) : Cond) ∈ GW := gwm 344 (by decide +kernel) (by decide +kernel)
theorem w_345 : (.methodLink "GemPits$Rough" 53 ⟨"GemPits$Rough", "runOf", "(II)I"⟩ : Cond) ∈ GW := gwm 345 (by decide +kernel) (by decide +kernel)
theorem w_346 : (.static ⟨"GemPits$Rough", "runOf", "(II)I"⟩ : Cond) ∈ GW := gwm 346 (by decide +kernel) (by decide +kernel)
theorem w_347 : (.code ⟨"GemPits$Rough", "runOf", "(II)I"⟩ prog_9_method_12_code 2 (Option.some .int) : Cond) ∈ GW := gwm 347 (by decide +kernel) (by decide +kernel)
theorem w_348 : (.methodLink "GemPits$Rough" 45 ⟨"GemPits$Rough", "isClear", "(IIII)Z"⟩ : Cond) ∈ GW := gwm 348 (by decide +kernel) (by decide +kernel)
theorem w_350 : (.instanceMethod ⟨"GemPits$Rough", "isClear", "(IIII)Z"⟩ : Cond) ∈ GW := gwm 350 (by decide +kernel) (by decide +kernel)
theorem w_351 : (.code ⟨"GemPits$Rough", "isClear", "(IIII)Z"⟩ prog_9_method_9_code 5 (Option.some .boolean) : Cond) ∈ GW := gwm 351 (by decide +kernel) (by decide +kernel)
theorem w_352 : (.methodLink "GemPits$Rough" 49 ⟨"GemPits$Rough", "tryCut", "(III)V"⟩ : Cond) ∈ GW := gwm 352 (by decide +kernel) (by decide +kernel)
theorem w_354 : (.instanceMethod ⟨"GemPits$Rough", "tryCut", "(III)V"⟩ : Cond) ∈ GW := gwm 354 (by decide +kernel) (by decide +kernel)
theorem w_355 : (.code ⟨"GemPits$Rough", "tryCut", "(III)V"⟩ prog_9_method_10_code 6 (Option.none : Option Jvm.ClassFile.FieldType) : Cond) ∈ GW := gwm 355 (by decide +kernel) (by decide +kernel)
theorem w_356 : (.methodLink "GemPitsLaw" 163 ⟨"GemPits", "cuts", "()I"⟩ : Cond) ∈ GW := gwm 356 (by decide +kernel) (by decide +kernel)
theorem w_357 : (.instanceMethod ⟨"GemPits", "cuts", "()I"⟩ : Cond) ∈ GW := gwm 357 (by decide +kernel) (by decide +kernel)
theorem w_358 : (.selects "GemPits" ⟨"GemPits", "cuts", "()I"⟩ ⟨"GemPits", "cuts", "()I"⟩ : Cond) ∈ GW := gwm 358 (by decide +kernel) (by decide +kernel)
theorem w_359 : (.code ⟨"GemPits", "cuts", "()I"⟩ prog_1_method_23_code 1 (Option.some .int) : Cond) ∈ GW := gwm 359 (by decide +kernel) (by decide +kernel)
theorem w_360 : (.methodLink "GemPits" 261 ⟨"GemPits$Rough", "fewestCuts", "()I"⟩ : Cond) ∈ GW := gwm 360 (by decide +kernel) (by decide +kernel)
theorem w_361 : (.instanceMethod ⟨"GemPits$Rough", "fewestCuts", "()I"⟩ : Cond) ∈ GW := gwm 361 (by decide +kernel) (by decide +kernel)
theorem w_362 : (.selects "GemPits$Rough" ⟨"GemPits$Rough", "fewestCuts", "()I"⟩ ⟨"GemPits$Rough", "fewestCuts", "()I"⟩ : Cond) ∈ GW := gwm 362 (by decide +kernel) (by decide +kernel)
theorem w_363 : (.code ⟨"GemPits$Rough", "fewestCuts", "()I"⟩ prog_9_method_6_code 1 (Option.some .int) : Cond) ∈ GW := gwm 363 (by decide +kernel) (by decide +kernel)
theorem w_364 : (.methodLink "GemPitsLaw" 167 ⟨"GemPits", "count", "(I)I"⟩ : Cond) ∈ GW := gwm 364 (by decide +kernel) (by decide +kernel)
theorem w_365 : (.instanceMethod ⟨"GemPits", "count", "(I)I"⟩ : Cond) ∈ GW := gwm 365 (by decide +kernel) (by decide +kernel)
theorem w_366 : (.selects "GemPits" ⟨"GemPits", "count", "(I)I"⟩ ⟨"GemPits", "count", "(I)I"⟩ : Cond) ∈ GW := gwm 366 (by decide +kernel) (by decide +kernel)
theorem w_367 : (.code ⟨"GemPits", "count", "(I)I"⟩ prog_1_method_24_code 2 (Option.some .int) : Cond) ∈ GW := gwm 367 (by decide +kernel) (by decide +kernel)
theorem w_368 : (.methodLink "GemPits" 123 ⟨"GemPits$Ground", "today", "()I"⟩ : Cond) ∈ GW := gwm 368 (by decide +kernel) (by decide +kernel)
theorem w_369 : (.instanceMethod ⟨"GemPits$Ground", "today", "()I"⟩ : Cond) ∈ GW := gwm 369 (by decide +kernel) (by decide +kernel)
theorem w_370 : (.selects "GemPits$Ground" ⟨"GemPits$Ground", "today", "()I"⟩ ⟨"GemPits$Ground", "today", "()I"⟩ : Cond) ∈ GW := gwm 370 (by decide +kernel) (by decide +kernel)
theorem w_371 : (.code ⟨"GemPits$Ground", "today", "()I"⟩ prog_4_method_5_code 1 (Option.some .int) : Cond) ∈ GW := gwm 371 (by decide +kernel) (by decide +kernel)
theorem w_372 : (.methodLink "GemPits" 98 ⟨"GemPits$Ground", "pits", "()I"⟩ : Cond) ∈ GW := gwm 372 (by decide +kernel) (by decide +kernel)
theorem w_373 : (.instanceMethod ⟨"GemPits$Ground", "pits", "()I"⟩ : Cond) ∈ GW := gwm 373 (by decide +kernel) (by decide +kernel)
theorem w_374 : (.selects "GemPits$Ground" ⟨"GemPits$Ground", "pits", "()I"⟩ ⟨"GemPits$Ground", "pits", "()I"⟩ : Cond) ∈ GW := gwm 374 (by decide +kernel) (by decide +kernel)
theorem w_375 : (.code ⟨"GemPits$Ground", "pits", "()I"⟩ prog_4_method_7_code 1 (Option.some .int) : Cond) ∈ GW := gwm 375 (by decide +kernel) (by decide +kernel)
theorem w_376 : (.methodLink "GemPits" 264 ⟨"GemPits$Ground", "openPits", "()I"⟩ : Cond) ∈ GW := gwm 376 (by decide +kernel) (by decide +kernel)
theorem w_377 : (.instanceMethod ⟨"GemPits$Ground", "openPits", "()I"⟩ : Cond) ∈ GW := gwm 377 (by decide +kernel) (by decide +kernel)
theorem w_378 : (.selects "GemPits$Ground" ⟨"GemPits$Ground", "openPits", "()I"⟩ ⟨"GemPits$Ground", "openPits", "()I"⟩ : Cond) ∈ GW := gwm 378 (by decide +kernel) (by decide +kernel)
theorem w_379 : (.code ⟨"GemPits$Ground", "openPits", "()I"⟩ prog_4_method_18_code 3 (Option.some .int) : Cond) ∈ GW := gwm 379 (by decide +kernel) (by decide +kernel)
theorem w_380 : (.methodLink "GemPits" 178 ⟨"GemPits$Market", "stones", "()I"⟩ : Cond) ∈ GW := gwm 380 (by decide +kernel) (by decide +kernel)
theorem w_381 : (.instanceMethod ⟨"GemPits$Market", "stones", "()I"⟩ : Cond) ∈ GW := gwm 381 (by decide +kernel) (by decide +kernel)
theorem w_382 : (.selects "GemPits$Market" ⟨"GemPits$Market", "stones", "()I"⟩ ⟨"GemPits$Market", "stones", "()I"⟩ : Cond) ∈ GW := gwm 382 (by decide +kernel) (by decide +kernel)
theorem w_383 : (.code ⟨"GemPits$Market", "stones", "()I"⟩ prog_6_method_3_code 1 (Option.some .int) : Cond) ∈ GW := gwm 383 (by decide +kernel) (by decide +kernel)
theorem w_384 : (.methodLink "GemPits$Market" 36 ⟨"java/util/ArrayList", "size", "()I"⟩ : Cond) ∈ GW := gwm 384 (by decide +kernel) (by decide +kernel)
theorem w_385 : (.methodLink "GemPits" 267 ⟨"GemPits$Market", "sold", "()I"⟩ : Cond) ∈ GW := gwm 385 (by decide +kernel) (by decide +kernel)
theorem w_386 : (.instanceMethod ⟨"GemPits$Market", "sold", "()I"⟩ : Cond) ∈ GW := gwm 386 (by decide +kernel) (by decide +kernel)
theorem w_387 : (.selects "GemPits$Market" ⟨"GemPits$Market", "sold", "()I"⟩ ⟨"GemPits$Market", "sold", "()I"⟩ : Cond) ∈ GW := gwm 387 (by decide +kernel) (by decide +kernel)
theorem w_388 : (.code ⟨"GemPits$Market", "sold", "()I"⟩ prog_6_method_6_code 1 (Option.some .int) : Cond) ∈ GW := gwm 388 (by decide +kernel) (by decide +kernel)
theorem w_389 : (.methodLink "GemPits" 188 ⟨"GemPits$Market", "costs", "()I"⟩ : Cond) ∈ GW := gwm 389 (by decide +kernel) (by decide +kernel)
theorem w_390 : (.instanceMethod ⟨"GemPits$Market", "costs", "()I"⟩ : Cond) ∈ GW := gwm 390 (by decide +kernel) (by decide +kernel)
theorem w_391 : (.selects "GemPits$Market" ⟨"GemPits$Market", "costs", "()I"⟩ ⟨"GemPits$Market", "costs", "()I"⟩ : Cond) ∈ GW := gwm 391 (by decide +kernel) (by decide +kernel)
theorem w_392 : (.code ⟨"GemPits$Market", "costs", "()I"⟩ prog_6_method_7_code 1 (Option.some .int) : Cond) ∈ GW := gwm 392 (by decide +kernel) (by decide +kernel)
theorem w_393 : (.methodLink "GemPits" 270 ⟨"GemPits$Market", "hadBy", "(I)I"⟩ : Cond) ∈ GW := gwm 393 (by decide +kernel) (by decide +kernel)
theorem w_394 : (.instanceMethod ⟨"GemPits$Market", "hadBy", "(I)I"⟩ : Cond) ∈ GW := gwm 394 (by decide +kernel) (by decide +kernel)
theorem w_395 : (.selects "GemPits$Market" ⟨"GemPits$Market", "hadBy", "(I)I"⟩ ⟨"GemPits$Market", "hadBy", "(I)I"⟩ : Cond) ∈ GW := gwm 395 (by decide +kernel) (by decide +kernel)
theorem w_396 : (.code ⟨"GemPits$Market", "hadBy", "(I)I"⟩ prog_6_method_9_code 2 (Option.some .int) : Cond) ∈ GW := gwm 396 (by decide +kernel) (by decide +kernel)
theorem w_397 : (.methodLink "GemPits" 273 ⟨"GemPits$Ground", "bonds", "(I)I"⟩ : Cond) ∈ GW := gwm 397 (by decide +kernel) (by decide +kernel)
theorem w_398 : (.instanceMethod ⟨"GemPits$Ground", "bonds", "(I)I"⟩ : Cond) ∈ GW := gwm 398 (by decide +kernel) (by decide +kernel)
theorem w_399 : (.selects "GemPits$Ground" ⟨"GemPits$Ground", "bonds", "(I)I"⟩ ⟨"GemPits$Ground", "bonds", "(I)I"⟩ : Cond) ∈ GW := gwm 399 (by decide +kernel) (by decide +kernel)
theorem w_400 : (.code ⟨"GemPits$Ground", "bonds", "(I)I"⟩ prog_4_method_19_code 5 (Option.some .int) : Cond) ∈ GW := gwm 400 (by decide +kernel) (by decide +kernel)
theorem w_401 : (.methodLink "GemPits$Ground" 95 ⟨"GemPits$Pit", "bondState", "(I)I"⟩ : Cond) ∈ GW := gwm 401 (by decide +kernel) (by decide +kernel)
theorem w_402 : (.instanceMethod ⟨"GemPits$Pit", "bondState", "(I)I"⟩ : Cond) ∈ GW := gwm 402 (by decide +kernel) (by decide +kernel)
theorem w_403 : (.selects "GemPits$Pit" ⟨"GemPits$Pit", "bondState", "(I)I"⟩ ⟨"GemPits$Pit", "bondState", "(I)I"⟩ : Cond) ∈ GW := gwm 403 (by decide +kernel) (by decide +kernel)
theorem w_404 : (.code ⟨"GemPits$Pit", "bondState", "(I)I"⟩ prog_7_method_4_code 3 (Option.some .int) : Cond) ∈ GW := gwm 404 (by decide +kernel) (by decide +kernel)
theorem w_405 : (.methodLink "GemPits$Pit" 36 ⟨"GemPits$Pit", "isFilled", "()Z"⟩ : Cond) ∈ GW := gwm 405 (by decide +kernel) (by decide +kernel)
theorem w_406 : (.methodLink "GemPits" 276 ⟨"GemPits$Ground", "squaresOfOneAmount", "()I"⟩ : Cond) ∈ GW := gwm 406 (by decide +kernel) (by decide +kernel)
theorem w_407 : (.instanceMethod ⟨"GemPits$Ground", "squaresOfOneAmount", "()I"⟩ : Cond) ∈ GW := gwm 407 (by decide +kernel) (by decide +kernel)
theorem w_408 : (.selects "GemPits$Ground" ⟨"GemPits$Ground", "squaresOfOneAmount", "()I"⟩ ⟨"GemPits$Ground", "squaresOfOneAmount", "()I"⟩ : Cond) ∈ GW := gwm 408 (by decide +kernel) (by decide +kernel)
theorem w_409 : (.code ⟨"GemPits$Ground", "squaresOfOneAmount", "()I"⟩ prog_4_method_16_code 3 (Option.some .int) : Cond) ∈ GW := gwm 409 (by decide +kernel) (by decide +kernel)
theorem w_410 : (.methodLink "GemPits" 279 ⟨"GemPits$Ground", "squaresWithoutSpan", "()I"⟩ : Cond) ∈ GW := gwm 410 (by decide +kernel) (by decide +kernel)
theorem w_411 : (.instanceMethod ⟨"GemPits$Ground", "squaresWithoutSpan", "()I"⟩ : Cond) ∈ GW := gwm 411 (by decide +kernel) (by decide +kernel)
theorem w_412 : (.selects "GemPits$Ground" ⟨"GemPits$Ground", "squaresWithoutSpan", "()I"⟩ ⟨"GemPits$Ground", "squaresWithoutSpan", "()I"⟩ : Cond) ∈ GW := gwm 412 (by decide +kernel) (by decide +kernel)
theorem w_413 : (.code ⟨"GemPits$Ground", "squaresWithoutSpan", "()I"⟩ prog_4_method_17_code 3 (Option.some .int) : Cond) ∈ GW := gwm 413 (by decide +kernel) (by decide +kernel)
theorem w_414 : (.methodLink "GemPitsLaw" 90 ⟨"GemPitsLaw", "step", "(LGemPits;I)I"⟩ : Cond) ∈ GW := gwm 414 (by decide +kernel) (by decide +kernel)
theorem w_415 : (.static ⟨"GemPitsLaw", "step", "(LGemPits;I)I"⟩ : Cond) ∈ GW := gwm 415 (by decide +kernel) (by decide +kernel)
theorem w_416 : (.codeWith ⟨"GemPitsLaw", "step", "(LGemPits;I)I"⟩ method_3_code 3 (Option.some .int) [(0, 5, 8, 13)] : Cond) ∈ GW := gwm 416 (by decide +kernel) (by decide +kernel)
theorem w_417 : (.classLink "GemPitsLaw" 13 "java/lang/IllegalArgumentException" : Cond) ∈ GW := gwm 417 (by decide +kernel) (by decide +kernel)
theorem w_418 : (.methodLink "GemPitsLaw" 7 ⟨"GemPits", "step", "(I)V"⟩ : Cond) ∈ GW := gwm 418 (by decide +kernel) (by decide +kernel)
theorem w_419 : (.instanceMethod ⟨"GemPits", "step", "(I)V"⟩ : Cond) ∈ GW := gwm 419 (by decide +kernel) (by decide +kernel)
theorem w_420 : (.selects "GemPits" ⟨"GemPits", "step", "(I)V"⟩ ⟨"GemPits", "step", "(I)V"⟩ : Cond) ∈ GW := gwm 420 (by decide +kernel) (by decide +kernel)
theorem w_421 : (.code ⟨"GemPits", "step", "(I)V"⟩ prog_1_method_4_code 2 (Option.none : Option Jvm.ClassFile.FieldType) : Cond) ∈ GW := gwm 421 (by decide +kernel) (by decide +kernel)
theorem w_422 : (.classLink "GemPits" 57 "java/lang/IllegalArgumentException" : Cond) ∈ GW := gwm 422 (by decide +kernel) (by decide +kernel)
theorem w_423 : (.instantiable "java/lang/IllegalArgumentException" 6 : Cond) ∈ GW := gwm 423 (by decide +kernel) (by decide +kernel)
theorem w_431 : (.selects "java/lang/IllegalArgumentException" ⟨"java/lang/Throwable", "fillInStackTrace", "(I)Ljava/lang/Throwable;"⟩ ⟨"java/lang/Throwable", "fillInStackTrace", "(I)Ljava/lang/Throwable;"⟩ : Cond) ∈ GW := gwm 431 (by decide +kernel) (by decide +kernel)
theorem w_432 : (.selects "java/lang/IllegalArgumentException" ⟨"java/lang/Throwable", "fillInStackTrace", "()Ljava/lang/Throwable;"⟩ ⟨"java/lang/Throwable", "fillInStackTrace", "()Ljava/lang/Throwable;"⟩ : Cond) ∈ GW := gwm 432 (by decide +kernel) (by decide +kernel)
theorem w_433 : (.lays "java/lang/IllegalArgumentException" "java/lang/Throwable" "cause" "Ljava/lang/Throwable;" : Cond) ∈ GW := gwm 433 (by decide +kernel) (by decide +kernel)
theorem w_434 : (.lays "java/lang/Throwable" "java/lang/Throwable" "cause" "Ljava/lang/Throwable;" : Cond) ∈ GW := gwm 434 (by decide +kernel) (by decide +kernel)
theorem w_435 : (.lays "java/lang/IllegalArgumentException" "java/lang/Throwable" "stackTrace" "[Ljava/lang/StackTraceElement;" : Cond) ∈ GW := gwm 435 (by decide +kernel) (by decide +kernel)
theorem w_436 : (.lays "java/lang/Throwable" "java/lang/Throwable" "stackTrace" "[Ljava/lang/StackTraceElement;" : Cond) ∈ GW := gwm 436 (by decide +kernel) (by decide +kernel)
theorem w_437 : (.lays "java/lang/IllegalArgumentException" "java/lang/Throwable" "suppressedExceptions" "Ljava/util/List;" : Cond) ∈ GW := gwm 437 (by decide +kernel) (by decide +kernel)
theorem w_438 : (.lays "java/lang/Throwable" "java/lang/Throwable" "suppressedExceptions" "Ljava/util/List;" : Cond) ∈ GW := gwm 438 (by decide +kernel) (by decide +kernel)
theorem w_439 : (.lays "java/lang/IllegalArgumentException" "java/lang/Throwable" "detailMessage" "Ljava/lang/String;" : Cond) ∈ GW := gwm 439 (by decide +kernel) (by decide +kernel)
theorem w_440 : (.lays "java/lang/Throwable" "java/lang/Throwable" "detailMessage" "Ljava/lang/String;" : Cond) ∈ GW := gwm 440 (by decide +kernel) (by decide +kernel)
theorem w_441 : (.lays "java/lang/IllegalArgumentException" "java/lang/Throwable" "backtrace" "Ljava/lang/Object;" : Cond) ∈ GW := gwm 441 (by decide +kernel) (by decide +kernel)
theorem w_442 : (.lays "java/lang/Throwable" "java/lang/Throwable" "backtrace" "Ljava/lang/Object;" : Cond) ∈ GW := gwm 442 (by decide +kernel) (by decide +kernel)
theorem w_443 : (.fieldLink "java/lang/Throwable" 198 "java/lang/Throwable" "backtrace" "Ljava/lang/Object;" : Cond) ∈ GW := gwm 443 (by decide +kernel) (by decide +kernel)
theorem w_444 : (.superclass "java/lang/Throwable" "java/lang/Object" : Cond) ∈ GW := gwm 444 (by decide +kernel) (by decide +kernel)
theorem w_445 : (.instanceMethod ⟨"java/lang/Throwable", "<init>", "()V"⟩ : Cond) ∈ GW := gwm 445 (by decide +kernel) (by decide +kernel)
theorem w_446 : (.code ⟨"java/lang/Throwable", "<init>", "()V"⟩ prog_29_method_1_code 1 (Option.none : Option Jvm.ClassFile.FieldType) : Cond) ∈ GW := gwm 446 (by decide +kernel) (by decide +kernel)
theorem w_447 : (.methodLink "java/lang/Throwable" 1 ⟨"java/lang/Object", "<init>", "()V"⟩ : Cond) ∈ GW := gwm 447 (by decide +kernel) (by decide +kernel)
theorem w_448 : (.fieldLink "java/lang/Throwable" 13 "java/lang/Throwable" "UNASSIGNED_STACK" "[Ljava/lang/StackTraceElement;" : Cond) ∈ GW := gwm 448 (by decide +kernel) (by decide +kernel)
theorem w_450 : (.fieldLink "java/lang/Throwable" 20 "java/lang/Throwable" "SUPPRESSED_SENTINEL" "Ljava/util/List;" : Cond) ∈ GW := gwm 450 (by decide +kernel) (by decide +kernel)
theorem w_452 : (.methodLink "java/lang/Throwable" 27 ⟨"java/lang/Throwable", "fillInStackTrace", "()Ljava/lang/Throwable;"⟩ : Cond) ∈ GW := gwm 452 (by decide +kernel) (by decide +kernel)
theorem w_453 : (.instanceMethod ⟨"java/lang/Throwable", "fillInStackTrace", "()Ljava/lang/Throwable;"⟩ : Cond) ∈ GW := gwm 453 (by decide +kernel) (by decide +kernel)
theorem w_454 : (.sameMethod "java/lang/Throwable" "java/lang/Throwable" "fillInStackTrace" "()Ljava/lang/Throwable;" : Cond) ∈ GW := gwm 454 (by decide +kernel) (by decide +kernel)
theorem w_455 : (.selects "java/lang/IllegalStateException" ⟨"java/lang/Throwable", "fillInStackTrace", "()Ljava/lang/Throwable;"⟩ ⟨"java/lang/Throwable", "fillInStackTrace", "()Ljava/lang/Throwable;"⟩ : Cond) ∈ GW := gwm 455 (by decide +kernel) (by decide +kernel)
theorem w_456 : (.selects "java/lang/IndexOutOfBoundsException" ⟨"java/lang/Throwable", "fillInStackTrace", "()Ljava/lang/Throwable;"⟩ ⟨"java/lang/Throwable", "fillInStackTrace", "()Ljava/lang/Throwable;"⟩ : Cond) ∈ GW := gwm 456 (by decide +kernel) (by decide +kernel)
theorem w_457 : (.selects "java/lang/UnsupportedOperationException" ⟨"java/lang/Throwable", "fillInStackTrace", "()Ljava/lang/Throwable;"⟩ ⟨"java/lang/Throwable", "fillInStackTrace", "()Ljava/lang/Throwable;"⟩ : Cond) ∈ GW := gwm 457 (by decide +kernel) (by decide +kernel)
theorem w_458 : (.selects "java/util/NoSuchElementException" ⟨"java/lang/Throwable", "fillInStackTrace", "()Ljava/lang/Throwable;"⟩ ⟨"java/lang/Throwable", "fillInStackTrace", "()Ljava/lang/Throwable;"⟩ : Cond) ∈ GW := gwm 458 (by decide +kernel) (by decide +kernel)
theorem w_459 : (.codeSync ⟨"java/lang/Throwable", "fillInStackTrace", "()Ljava/lang/Throwable;"⟩ prog_29_method_18_code 1 (Option.some (.object "java/lang/Throwable")) : Cond) ∈ GW := gwm 459 (by decide +kernel) (by decide +kernel)
theorem w_460 : (.methodLink "java/lang/Throwable" 202 ⟨"java/lang/Throwable", "fillInStackTrace", "(I)Ljava/lang/Throwable;"⟩ : Cond) ∈ GW := gwm 460 (by decide +kernel) (by decide +kernel)
theorem w_462 : (.instanceMethod ⟨"java/lang/Throwable", "fillInStackTrace", "(I)Ljava/lang/Throwable;"⟩ : Cond) ∈ GW := gwm 462 (by decide +kernel) (by decide +kernel)
theorem w_463 : (.instantiable "java/lang/Throwable" 6 : Cond) ∈ GW := gwm 463 (by decide +kernel) (by decide +kernel)
theorem w_464 : (.native ⟨"java/lang/Throwable", "fillInStackTrace", "(I)Ljava/lang/Throwable;"⟩ : Cond) ∈ GW := gwm 464 (by decide +kernel) (by decide +kernel)
theorem w_466 : (.methodLink "GemPits" 61 ⟨"java/lang/IllegalArgumentException", "<init>", "(Ljava/lang/String;)V"⟩ : Cond) ∈ GW := gwm 466 (by decide +kernel) (by decide +kernel)
theorem w_467 : (.instanceMethod ⟨"java/lang/IllegalArgumentException", "<init>", "(Ljava/lang/String;)V"⟩ : Cond) ∈ GW := gwm 467 (by decide +kernel) (by decide +kernel)
theorem w_468 : (.code ⟨"java/lang/IllegalArgumentException", "<init>", "(Ljava/lang/String;)V"⟩ prog_19_method_2_code 2 (Option.none : Option Jvm.ClassFile.FieldType) : Cond) ∈ GW := gwm 468 (by decide +kernel) (by decide +kernel)
theorem w_469 : (.methodLink "java/lang/IllegalArgumentException" 7 ⟨"java/lang/RuntimeException", "<init>", "(Ljava/lang/String;)V"⟩ : Cond) ∈ GW := gwm 469 (by decide +kernel) (by decide +kernel)
theorem w_470 : (.instanceMethod ⟨"java/lang/RuntimeException", "<init>", "(Ljava/lang/String;)V"⟩ : Cond) ∈ GW := gwm 470 (by decide +kernel) (by decide +kernel)
theorem w_471 : (.code ⟨"java/lang/RuntimeException", "<init>", "(Ljava/lang/String;)V"⟩ prog_24_method_2_code 2 (Option.none : Option Jvm.ClassFile.FieldType) : Cond) ∈ GW := gwm 471 (by decide +kernel) (by decide +kernel)
theorem w_472 : (.methodLink "java/lang/RuntimeException" 7 ⟨"java/lang/Exception", "<init>", "(Ljava/lang/String;)V"⟩ : Cond) ∈ GW := gwm 472 (by decide +kernel) (by decide +kernel)
theorem w_473 : (.instanceMethod ⟨"java/lang/Exception", "<init>", "(Ljava/lang/String;)V"⟩ : Cond) ∈ GW := gwm 473 (by decide +kernel) (by decide +kernel)
theorem w_474 : (.code ⟨"java/lang/Exception", "<init>", "(Ljava/lang/String;)V"⟩ prog_18_method_2_code 2 (Option.none : Option Jvm.ClassFile.FieldType) : Cond) ∈ GW := gwm 474 (by decide +kernel) (by decide +kernel)
theorem w_475 : (.methodLink "java/lang/Exception" 7 ⟨"java/lang/Throwable", "<init>", "(Ljava/lang/String;)V"⟩ : Cond) ∈ GW := gwm 475 (by decide +kernel) (by decide +kernel)
theorem w_476 : (.instanceMethod ⟨"java/lang/Throwable", "<init>", "(Ljava/lang/String;)V"⟩ : Cond) ∈ GW := gwm 476 (by decide +kernel) (by decide +kernel)
theorem w_477 : (.code ⟨"java/lang/Throwable", "<init>", "(Ljava/lang/String;)V"⟩ prog_29_method_2_code 2 (Option.none : Option Jvm.ClassFile.FieldType) : Cond) ∈ GW := gwm 477 (by decide +kernel) (by decide +kernel)
theorem w_478 : (.fieldLink "java/lang/Throwable" 198 "java/lang/Throwable" "backtrace" "Ljava/lang/Object;" : Cond) ∈ GW := gwm 478 (by decide +kernel) (by decide +kernel)
theorem w_479 : (.fieldLink "java/lang/Throwable" 31 "java/lang/Throwable" "detailMessage" "Ljava/lang/String;" : Cond) ∈ GW := gwm 479 (by decide +kernel) (by decide +kernel)
theorem w_480 : (.fieldLink "java/lang/Throwable" 7 "java/lang/Throwable" "cause" "Ljava/lang/Throwable;" : Cond) ∈ GW := gwm 480 (by decide +kernel) (by decide +kernel)
theorem w_481 : (.fieldLink "java/lang/Throwable" 17 "java/lang/Throwable" "stackTrace" "[Ljava/lang/StackTraceElement;" : Cond) ∈ GW := gwm 481 (by decide +kernel) (by decide +kernel)
theorem w_482 : (.fieldLink "java/lang/Throwable" 24 "java/lang/Throwable" "suppressedExceptions" "Ljava/util/List;" : Cond) ∈ GW := gwm 482 (by decide +kernel) (by decide +kernel)
theorem w_483 : (.soleField "java/lang/Throwable" "backtrace" : Cond) ∈ GW := gwm 483 (by decide +kernel) (by decide +kernel)
theorem w_484 : (.soleField "java/lang/Throwable" "detailMessage" : Cond) ∈ GW := gwm 484 (by decide +kernel) (by decide +kernel)
theorem w_485 : (.soleField "java/lang/Throwable" "cause" : Cond) ∈ GW := gwm 485 (by decide +kernel) (by decide +kernel)
theorem w_486 : (.soleField "java/lang/Throwable" "stackTrace" : Cond) ∈ GW := gwm 486 (by decide +kernel) (by decide +kernel)
theorem w_487 : (.lays "java/lang/IllegalArgumentException" "java/lang/Throwable" "depth" "I" : Cond) ∈ GW := gwm 487 (by decide +kernel) (by decide +kernel)
theorem w_488 : (.soleField "java/lang/Throwable" "depth" : Cond) ∈ GW := gwm 488 (by decide +kernel) (by decide +kernel)
theorem w_489 : (.soleField "java/lang/Throwable" "suppressedExceptions" : Cond) ∈ GW := gwm 489 (by decide +kernel) (by decide +kernel)
theorem w_490 : (.superclass "java/lang/IllegalArgumentException" "java/lang/RuntimeException" : Cond) ∈ GW := gwm 490 (by decide +kernel) (by decide +kernel)
theorem w_491 : (.methodLink "GemPits" 64 ⟨"GemPits$Ground", "setStep", "(I)V"⟩ : Cond) ∈ GW := gwm 491 (by decide +kernel) (by decide +kernel)
theorem w_492 : (.instanceMethod ⟨"GemPits$Ground", "setStep", "(I)V"⟩ : Cond) ∈ GW := gwm 492 (by decide +kernel) (by decide +kernel)
theorem w_493 : (.selects "GemPits$Ground" ⟨"GemPits$Ground", "setStep", "(I)V"⟩ ⟨"GemPits$Ground", "setStep", "(I)V"⟩ : Cond) ∈ GW := gwm 493 (by decide +kernel) (by decide +kernel)
theorem w_494 : (.code ⟨"GemPits$Ground", "setStep", "(I)V"⟩ prog_4_method_4_code 3 (Option.none : Option Jvm.ClassFile.FieldType) : Cond) ∈ GW := gwm 494 (by decide +kernel) (by decide +kernel)
theorem w_495 : (.methodLink "GemPits$Ground" 55 ⟨"GemPits$Ground", "narrowSpans", "(LGemPits$Pit;)V"⟩ : Cond) ∈ GW := gwm 495 (by decide +kernel) (by decide +kernel)
theorem w_497 : (.instanceMethod ⟨"GemPits$Ground", "narrowSpans", "(LGemPits$Pit;)V"⟩ : Cond) ∈ GW := gwm 497 (by decide +kernel) (by decide +kernel)
theorem w_498 : (.code ⟨"GemPits$Ground", "narrowSpans", "(LGemPits$Pit;)V"⟩ prog_4_method_20_code 4 (Option.none : Option Jvm.ClassFile.FieldType) : Cond) ∈ GW := gwm 498 (by decide +kernel) (by decide +kernel)
theorem w_499 : (.methodLink "GemPits$Ground" 59 ⟨"java/lang/Math", "min", "(II)I"⟩ : Cond) ∈ GW := gwm 499 (by decide +kernel) (by decide +kernel)
theorem w_500 : (.static ⟨"java/lang/Math", "min", "(II)I"⟩ : Cond) ∈ GW := gwm 500 (by decide +kernel) (by decide +kernel)
theorem w_501 : (.code ⟨"java/lang/Math", "min", "(II)I"⟩ prog_23_method_69_code 2 (Option.some .int) : Cond) ∈ GW := gwm 501 (by decide +kernel) (by decide +kernel)
theorem w_502 : (.methodLink "GemPitsLaw" 99 ⟨"GemPitsLaw", "law", "(LGemPits;[J)I"⟩ : Cond) ∈ GW := gwm 502 (by decide +kernel) (by decide +kernel)
theorem w_503 : (.static ⟨"GemPitsLaw", "law", "(LGemPits;[J)I"⟩ : Cond) ∈ GW := gwm 503 (by decide +kernel) (by decide +kernel)
theorem w_504 : (.codeWith ⟨"GemPitsLaw", "law", "(LGemPits;[J)I"⟩ method_4_code 3 (Option.some .int) [(0, 8, 11, 13)] : Cond) ∈ GW := gwm 504 (by decide +kernel) (by decide +kernel)
theorem w_505 : (.methodLink "GemPitsLaw" 15 ⟨"GemPits", "law", "()I"⟩ : Cond) ∈ GW := gwm 505 (by decide +kernel) (by decide +kernel)
theorem w_506 : (.instanceMethod ⟨"GemPits", "law", "()I"⟩ : Cond) ∈ GW := gwm 506 (by decide +kernel) (by decide +kernel)
theorem w_507 : (.selects "GemPits" ⟨"GemPits", "law", "()I"⟩ ⟨"GemPits", "law", "()I"⟩ : Cond) ∈ GW := gwm 507 (by decide +kernel) (by decide +kernel)
theorem w_508 : (.code ⟨"GemPits", "law", "()I"⟩ prog_1_method_5_code 3 (Option.some .int) : Cond) ∈ GW := gwm 508 (by decide +kernel) (by decide +kernel)
theorem w_509 : (.methodLink "GemPits" 67 ⟨"GemPits$Ground", "lawNow", "()LGemPits$Law;"⟩ : Cond) ∈ GW := gwm 509 (by decide +kernel) (by decide +kernel)
theorem w_510 : (.instanceMethod ⟨"GemPits$Ground", "lawNow", "()LGemPits$Law;"⟩ : Cond) ∈ GW := gwm 510 (by decide +kernel) (by decide +kernel)
theorem w_511 : (.selects "GemPits$Ground" ⟨"GemPits$Ground", "lawNow", "()LGemPits$Law;"⟩ ⟨"GemPits$Ground", "lawNow", "()LGemPits$Law;"⟩ : Cond) ∈ GW := gwm 511 (by decide +kernel) (by decide +kernel)
theorem w_512 : (.code ⟨"GemPits$Ground", "lawNow", "()LGemPits$Law;"⟩ prog_4_method_2_code 1 (Option.some (.object "GemPits$Law")) : Cond) ∈ GW := gwm 512 (by decide +kernel) (by decide +kernel)
theorem w_513 : (.methodLink "GemPits" 71 ⟨"GemPits$Law", "copy", "()LGemPits$Law;"⟩ : Cond) ∈ GW := gwm 513 (by decide +kernel) (by decide +kernel)
theorem w_514 : (.instanceMethod ⟨"GemPits$Law", "copy", "()LGemPits$Law;"⟩ : Cond) ∈ GW := gwm 514 (by decide +kernel) (by decide +kernel)
theorem w_515 : (.selects "GemPits$Law" ⟨"GemPits$Law", "copy", "()LGemPits$Law;"⟩ ⟨"GemPits$Law", "copy", "()LGemPits$Law;"⟩ : Cond) ∈ GW := gwm 515 (by decide +kernel) (by decide +kernel)
theorem w_516 : (.code ⟨"GemPits$Law", "copy", "()LGemPits$Law;"⟩ prog_5_method_2_code 2 (Option.some (.object "GemPits$Law")) : Cond) ∈ GW := gwm 516 (by decide +kernel) (by decide +kernel)
theorem w_517 : (.classLink "GemPits$Law" 8 "GemPits$Law" : Cond) ∈ GW := gwm 517 (by decide +kernel) (by decide +kernel)
theorem w_518 : (.methodLink "GemPits$Law" 19 ⟨"GemPits$Law", "<init>", "()V"⟩ : Cond) ∈ GW := gwm 518 (by decide +kernel) (by decide +kernel)
theorem w_519 : (.methodLink "GemPits" 76 ⟨"GemPits", "readTape", "(LGemPits$Clauses;)I"⟩ : Cond) ∈ GW := gwm 519 (by decide +kernel) (by decide +kernel)
theorem w_521 : (.instanceMethod ⟨"GemPits", "readTape", "(LGemPits$Clauses;)I"⟩ : Cond) ∈ GW := gwm 521 (by decide +kernel) (by decide +kernel)
theorem w_522 : (.code ⟨"GemPits", "readTape", "(LGemPits$Clauses;)I"⟩ prog_1_method_25_code 4 (Option.some .int) : Cond) ∈ GW := gwm 522 (by decide +kernel) (by decide +kernel)
theorem w_523 : (.classLink "GemPits" 282 "GemPits$Reader" : Cond) ∈ GW := gwm 523 (by decide +kernel) (by decide +kernel)
theorem w_524 : (.instantiable "GemPits$Reader" 3 : Cond) ∈ GW := gwm 524 (by decide +kernel) (by decide +kernel)
theorem w_525 : (.methodLink "GemPits" 284 ⟨"GemPits$Reader", "<init>", "(LGemPits$Tape;)V"⟩ : Cond) ∈ GW := gwm 525 (by decide +kernel) (by decide +kernel)
theorem w_526 : (.instanceMethod ⟨"GemPits$Reader", "<init>", "(LGemPits$Tape;)V"⟩ : Cond) ∈ GW := gwm 526 (by decide +kernel) (by decide +kernel)
theorem w_527 : (.code ⟨"GemPits$Reader", "<init>", "(LGemPits$Tape;)V"⟩ prog_8_method_1_code 2 (Option.none : Option Jvm.ClassFile.FieldType) : Cond) ∈ GW := gwm 527 (by decide +kernel) (by decide +kernel)
theorem w_528 : (.methodLink "GemPits$Reader" 3 ⟨"java/lang/Object", "<init>", "()V"⟩ : Cond) ∈ GW := gwm 528 (by decide +kernel) (by decide +kernel)
theorem w_529 : (.methodLink "GemPits$Reader" 19 ⟨"GemPits$Reader", "goOnFrom", "(I)V"⟩ : Cond) ∈ GW := gwm 529 (by decide +kernel) (by decide +kernel)
theorem w_531 : (.instanceMethod ⟨"GemPits$Reader", "goOnFrom", "(I)V"⟩ : Cond) ∈ GW := gwm 531 (by decide +kernel) (by decide +kernel)
theorem w_532 : (.code ⟨"GemPits$Reader", "goOnFrom", "(I)V"⟩ prog_8_method_9_code 2 (Option.none : Option Jvm.ClassFile.FieldType) : Cond) ∈ GW := gwm 532 (by decide +kernel) (by decide +kernel)
theorem w_533 : (.methodLink "GemPits$Reader" 26 ⟨"GemPits$Tape", "length", "()I"⟩ : Cond) ∈ GW := gwm 533 (by decide +kernel) (by decide +kernel)
theorem w_534 : (.methodLink "GemPits$Reader" 32 ⟨"GemPits$Tape", "byteAt", "(I)I"⟩ : Cond) ∈ GW := gwm 534 (by decide +kernel) (by decide +kernel)
theorem w_535 : (.instanceMethod ⟨"GemPits$Tape", "byteAt", "(I)I"⟩ : Cond) ∈ GW := gwm 535 (by decide +kernel) (by decide +kernel)
theorem w_536 : (.selects "GemPits$Tape" ⟨"GemPits$Tape", "byteAt", "(I)I"⟩ ⟨"GemPits$Tape", "byteAt", "(I)I"⟩ : Cond) ∈ GW := gwm 536 (by decide +kernel) (by decide +kernel)
theorem w_537 : (.code ⟨"GemPits$Tape", "byteAt", "(I)I"⟩ prog_11_method_6_code 2 (Option.some .int) : Cond) ∈ GW := gwm 537 (by decide +kernel) (by decide +kernel)
theorem w_538 : (.fieldLink "GemPits$Reader" 9 "GemPits$Reader" "text" "LGemPits$Tape;" : Cond) ∈ GW := gwm 538 (by decide +kernel) (by decide +kernel)
theorem w_539 : (.fieldLink "GemPits$Reader" 23 "GemPits$Reader" "at" "I" : Cond) ∈ GW := gwm 539 (by decide +kernel) (by decide +kernel)
theorem w_540 : (.fieldLink "GemPits$Reader" 15 "GemPits$Reader" "firstFault" "I" : Cond) ∈ GW := gwm 540 (by decide +kernel) (by decide +kernel)
theorem w_541 : (.laysFinal "GemPits$Reader" "GemPits$Reader" "text" "LGemPits$Tape;" : Cond) ∈ GW := gwm 541 (by decide +kernel) (by decide +kernel)
theorem w_542 : (.soleField "GemPits$Reader" "text" : Cond) ∈ GW := gwm 542 (by decide +kernel) (by decide +kernel)
theorem w_543 : (.lays "GemPits$Reader" "GemPits$Reader" "at" "I" : Cond) ∈ GW := gwm 543 (by decide +kernel) (by decide +kernel)
theorem w_544 : (.soleField "GemPits$Reader" "at" : Cond) ∈ GW := gwm 544 (by decide +kernel) (by decide +kernel)
theorem w_545 : (.lays "GemPits$Reader" "GemPits$Reader" "firstFault" "I" : Cond) ∈ GW := gwm 545 (by decide +kernel) (by decide +kernel)
theorem w_546 : (.soleField "GemPits$Reader" "firstFault" : Cond) ∈ GW := gwm 546 (by decide +kernel) (by decide +kernel)
theorem w_547 : (.superclass "GemPits$Reader" "java/lang/Object" : Cond) ∈ GW := gwm 547 (by decide +kernel) (by decide +kernel)
theorem w_548 : (.methodLink "GemPits" 287 ⟨"GemPits$Clauses", "readAll", "(LGemPits$Reader;)I"⟩ : Cond) ∈ GW := gwm 548 (by decide +kernel) (by decide +kernel)
theorem w_549 : (.instanceMethod ⟨"GemPits$Clauses", "readAll", "(LGemPits$Reader;)I"⟩ : Cond) ∈ GW := gwm 549 (by decide +kernel) (by decide +kernel)
theorem w_550 : (.sameMethod "GemPits$Clauses" "GemPits$Clauses" "readAll" "(LGemPits$Reader;)I" : Cond) ∈ GW := gwm 550 (by decide +kernel) (by decide +kernel)
theorem w_551 : (.selects "GemPits$Agreement" ⟨"GemPits$Clauses", "readAll", "(LGemPits$Reader;)I"⟩ ⟨"GemPits$Clauses", "readAll", "(LGemPits$Reader;)I"⟩ : Cond) ∈ GW := gwm 551 (by decide +kernel) (by decide +kernel)
theorem w_552 : (.selects "GemPits$Law" ⟨"GemPits$Clauses", "readAll", "(LGemPits$Reader;)I"⟩ ⟨"GemPits$Clauses", "readAll", "(LGemPits$Reader;)I"⟩ : Cond) ∈ GW := gwm 552 (by decide +kernel) (by decide +kernel)
theorem w_553 : (.code ⟨"GemPits$Clauses", "readAll", "(LGemPits$Reader;)I"⟩ prog_3_method_4_code 3 (Option.some .int) : Cond) ∈ GW := gwm 553 (by decide +kernel) (by decide +kernel)
theorem w_554 : (.methodLink "GemPits$Clauses" 11 ⟨"GemPits$Clauses", "readClause", "(LGemPits$Reader;)V"⟩ : Cond) ∈ GW := gwm 554 (by decide +kernel) (by decide +kernel)
theorem w_556 : (.sameMethod "GemPits$Clauses" "GemPits$Clauses" "readClause" "(LGemPits$Reader;)V" : Cond) ∈ GW := gwm 556 (by decide +kernel) (by decide +kernel)
theorem w_557 : (.selects "GemPits$Agreement" ⟨"GemPits$Clauses", "readClause", "(LGemPits$Reader;)V"⟩ ⟨"GemPits$Agreement", "readClause", "(LGemPits$Reader;)V"⟩ : Cond) ∈ GW := gwm 557 (by decide +kernel) (by decide +kernel)
theorem w_558 : (.instanceMethod ⟨"GemPits$Agreement", "readClause", "(LGemPits$Reader;)V"⟩ : Cond) ∈ GW := gwm 558 (by decide +kernel) (by decide +kernel)
theorem w_559 : (.code ⟨"GemPits$Agreement", "readClause", "(LGemPits$Reader;)V"⟩ prog_2_method_2_code 2 (Option.none : Option Jvm.ClassFile.FieldType) : Cond) ∈ GW := gwm 559 (by decide +kernel) (by decide +kernel)
theorem w_561 : (.methodLink "GemPits$Agreement" 17 ⟨"GemPits$Reader", "takeWord", "(Ljava/lang/String;)Z"⟩ : Cond) ∈ GW := gwm 561 (by decide +kernel) (by decide +kernel)
theorem w_562 : (.instanceMethod ⟨"GemPits$Reader", "takeWord", "(Ljava/lang/String;)Z"⟩ : Cond) ∈ GW := gwm 562 (by decide +kernel) (by decide +kernel)
theorem w_563 : (.selects "GemPits$Reader" ⟨"GemPits$Reader", "takeWord", "(Ljava/lang/String;)Z"⟩ ⟨"GemPits$Reader", "takeWord", "(Ljava/lang/String;)Z"⟩ : Cond) ∈ GW := gwm 563 (by decide +kernel) (by decide +kernel)
theorem w_564 : (.code ⟨"GemPits$Reader", "takeWord", "(Ljava/lang/String;)Z"⟩ prog_8_method_4_code 4 (Option.some .boolean) : Cond) ∈ GW := gwm 564 (by decide +kernel) (by decide +kernel)
theorem w_565 : (.methodLink "GemPits$Reader" 36 ⟨"GemPits$Reader", "isLetter", "(I)Z"⟩ : Cond) ∈ GW := gwm 565 (by decide +kernel) (by decide +kernel)
theorem w_566 : (.static ⟨"GemPits$Reader", "isLetter", "(I)Z"⟩ : Cond) ∈ GW := gwm 566 (by decide +kernel) (by decide +kernel)
theorem w_567 : (.code ⟨"GemPits$Reader", "isLetter", "(I)Z"⟩ prog_8_method_10_code 1 (Option.some .boolean) : Cond) ∈ GW := gwm 567 (by decide +kernel) (by decide +kernel)
theorem w_568 : (.methodLink "GemPits$Reader" 40 ⟨"java/lang/String", "length", "()I"⟩ : Cond) ∈ GW := gwm 568 (by decide +kernel) (by decide +kernel)
theorem w_569 : (.instanceMethod ⟨"java/lang/String", "length", "()I"⟩ : Cond) ∈ GW := gwm 569 (by decide +kernel) (by decide +kernel)
theorem w_570 : (.selects "java/lang/String" ⟨"java/lang/String", "length", "()I"⟩ ⟨"java/lang/String", "length", "()I"⟩ : Cond) ∈ GW := gwm 570 (by decide +kernel) (by decide +kernel)
theorem w_571 : (.code ⟨"java/lang/String", "length", "()I"⟩ prog_25_method_54_code 1 (Option.some .int) : Cond) ∈ GW := gwm 571 (by decide +kernel) (by decide +kernel)
theorem w_572 : (.methodLink "java/lang/String" 335 ⟨"java/lang/String", "coder", "()B"⟩ : Cond) ∈ GW := gwm 572 (by decide +kernel) (by decide +kernel)
theorem w_573 : (.instanceMethod ⟨"java/lang/String", "coder", "()B"⟩ : Cond) ∈ GW := gwm 573 (by decide +kernel) (by decide +kernel)
theorem w_574 : (.selects "java/lang/String" ⟨"java/lang/String", "coder", "()B"⟩ ⟨"java/lang/String", "coder", "()B"⟩ : Cond) ∈ GW := gwm 574 (by decide +kernel) (by decide +kernel)
theorem w_575 : (.code ⟨"java/lang/String", "coder", "()B"⟩ prog_25_method_152_code 1 (Option.some .byte) : Cond) ∈ GW := gwm 575 (by decide +kernel) (by decide +kernel)
theorem w_576 : (.fieldLink "java/lang/String" 38 "java/lang/String" "COMPACT_STRINGS" "Z" : Cond) ∈ GW := gwm 576 (by decide +kernel) (by decide +kernel)
theorem w_578 : (.methodLink "GemPits$Reader" 43 ⟨"java/lang/String", "charAt", "(I)C"⟩ : Cond) ∈ GW := gwm 578 (by decide +kernel) (by decide +kernel)
theorem w_579 : (.instanceMethod ⟨"java/lang/String", "charAt", "(I)C"⟩ : Cond) ∈ GW := gwm 579 (by decide +kernel) (by decide +kernel)
theorem w_580 : (.selects "java/lang/String" ⟨"java/lang/String", "charAt", "(I)C"⟩ ⟨"java/lang/String", "charAt", "(I)C"⟩ : Cond) ∈ GW := gwm 580 (by decide +kernel) (by decide +kernel)
theorem w_581 : (.code ⟨"java/lang/String", "charAt", "(I)C"⟩ prog_25_method_56_code 2 (Option.some .char) : Cond) ∈ GW := gwm 581 (by decide +kernel) (by decide +kernel)
theorem w_582 : (.methodLink "java/lang/String" 492 ⟨"java/lang/String", "isLatin1", "()Z"⟩ : Cond) ∈ GW := gwm 582 (by decide +kernel) (by decide +kernel)
theorem w_583 : (.instanceMethod ⟨"java/lang/String", "isLatin1", "()Z"⟩ : Cond) ∈ GW := gwm 583 (by decide +kernel) (by decide +kernel)
theorem w_584 : (.selects "java/lang/String" ⟨"java/lang/String", "isLatin1", "()Z"⟩ ⟨"java/lang/String", "isLatin1", "()Z"⟩ : Cond) ∈ GW := gwm 584 (by decide +kernel) (by decide +kernel)
theorem w_585 : (.code ⟨"java/lang/String", "isLatin1", "()Z"⟩ prog_25_method_154_code 1 (Option.some .boolean) : Cond) ∈ GW := gwm 585 (by decide +kernel) (by decide +kernel)
theorem w_586 : (.methodLink "java/lang/String" 495 ⟨"java/lang/StringLatin1", "charAt", "([BI)C"⟩ : Cond) ∈ GW := gwm 586 (by decide +kernel) (by decide +kernel)
theorem w_587 : (.static ⟨"java/lang/StringLatin1", "charAt", "([BI)C"⟩ : Cond) ∈ GW := gwm 587 (by decide +kernel) (by decide +kernel)
theorem w_588 : (.code ⟨"java/lang/StringLatin1", "charAt", "([BI)C"⟩ prog_26_method_2_code 2 (Option.some .char) : Cond) ∈ GW := gwm 588 (by decide +kernel) (by decide +kernel)
theorem w_589 : (.methodLink "java/lang/StringLatin1" 9 ⟨"java/lang/String", "checkIndex", "(II)V"⟩ : Cond) ∈ GW := gwm 589 (by decide +kernel) (by decide +kernel)
theorem w_590 : (.static ⟨"java/lang/String", "checkIndex", "(II)V"⟩ : Cond) ∈ GW := gwm 590 (by decide +kernel) (by decide +kernel)
theorem w_591 : (.code ⟨"java/lang/String", "checkIndex", "(II)V"⟩ prog_25_method_155_code 2 (Option.none : Option Jvm.ClassFile.FieldType) : Cond) ∈ GW := gwm 591 (by decide +kernel) (by decide +kernel)
theorem w_592 : (.fieldLink "java/lang/String" 1053 "jdk/internal/util/Preconditions" "SIOOBE_FORMATTER" "Ljava/util/function/BiFunction;" : Cond) ∈ GW := gwm 592 (by decide +kernel) (by decide +kernel)
theorem w_594 : (.methodLink "java/lang/String" 1059 ⟨"jdk/internal/util/Preconditions", "checkIndex", "(IILjava/util/function/BiFunction;)I"⟩ : Cond) ∈ GW := gwm 594 (by decide +kernel) (by decide +kernel)
theorem w_595 : (.methodLink "java/lang/String" 498 ⟨"java/lang/StringUTF16", "charAt", "([BI)C"⟩ : Cond) ∈ GW := gwm 595 (by decide +kernel) (by decide +kernel)
theorem w_596 : (.static ⟨"java/lang/StringUTF16", "charAt", "([BI)C"⟩ : Cond) ∈ GW := gwm 596 (by decide +kernel) (by decide +kernel)
theorem w_597 : (.code ⟨"java/lang/StringUTF16", "charAt", "([BI)C"⟩ prog_27_method_83_code 2 (Option.some .char) : Cond) ∈ GW := gwm 597 (by decide +kernel) (by decide +kernel)
theorem w_598 : (.methodLink "java/lang/StringUTF16" 67 ⟨"java/lang/StringUTF16", "checkIndex", "(I[B)V"⟩ : Cond) ∈ GW := gwm 598 (by decide +kernel) (by decide +kernel)
theorem w_599 : (.static ⟨"java/lang/StringUTF16", "checkIndex", "(I[B)V"⟩ : Cond) ∈ GW := gwm 599 (by decide +kernel) (by decide +kernel)
theorem w_600 : (.code ⟨"java/lang/StringUTF16", "checkIndex", "(I[B)V"⟩ prog_27_method_91_code 2 (Option.none : Option Jvm.ClassFile.FieldType) : Cond) ∈ GW := gwm 600 (by decide +kernel) (by decide +kernel)
theorem w_601 : (.methodLink "java/lang/StringUTF16" 48 ⟨"java/lang/StringUTF16", "length", "([B)I"⟩ : Cond) ∈ GW := gwm 601 (by decide +kernel) (by decide +kernel)
theorem w_602 : (.static ⟨"java/lang/StringUTF16", "length", "([B)I"⟩ : Cond) ∈ GW := gwm 602 (by decide +kernel) (by decide +kernel)
theorem w_603 : (.code ⟨"java/lang/StringUTF16", "length", "([B)I"⟩ prog_27_method_6_code 1 (Option.some .int) : Cond) ∈ GW := gwm 603 (by decide +kernel) (by decide +kernel)
theorem w_604 : (.methodLink "java/lang/StringUTF16" 414 ⟨"java/lang/String", "checkIndex", "(II)V"⟩ : Cond) ∈ GW := gwm 604 (by decide +kernel) (by decide +kernel)
theorem w_605 : (.methodLink "java/lang/StringUTF16" 71 ⟨"java/lang/StringUTF16", "getChar", "([BI)C"⟩ : Cond) ∈ GW := gwm 605 (by decide +kernel) (by decide +kernel)
theorem w_606 : (.static ⟨"java/lang/StringUTF16", "getChar", "([BI)C"⟩ : Cond) ∈ GW := gwm 606 (by decide +kernel) (by decide +kernel)
theorem w_607 : (.code ⟨"java/lang/StringUTF16", "getChar", "([BI)C"⟩ prog_27_method_5_code 2 (Option.some .char) : Cond) ∈ GW := gwm 607 (by decide +kernel) (by decide +kernel)
theorem w_608 : (.fieldLink "java/lang/StringUTF16" 44 "java/lang/StringUTF16" "$assertionsDisabled" "Z" : Cond) ∈ GW := gwm 608 (by decide +kernel) (by decide +kernel)
theorem w_610 : (.fieldLink "java/lang/StringUTF16" 59 "java/lang/StringUTF16" "HI_BYTE_SHIFT" "I" : Cond) ∈ GW := gwm 610 (by decide +kernel) (by decide +kernel)
theorem w_612 : (.fieldLink "java/lang/StringUTF16" 63 "java/lang/StringUTF16" "LO_BYTE_SHIFT" "I" : Cond) ∈ GW := gwm 612 (by decide +kernel) (by decide +kernel)
theorem w_615 : (.methodLink "GemPits$Agreement" 25 ⟨"GemPits$Reader", "expectWord", "(Ljava/lang/String;)V"⟩ : Cond) ∈ GW := gwm 615 (by decide +kernel) (by decide +kernel)
theorem w_616 : (.instanceMethod ⟨"GemPits$Reader", "expectWord", "(Ljava/lang/String;)V"⟩ : Cond) ∈ GW := gwm 616 (by decide +kernel) (by decide +kernel)
theorem w_617 : (.selects "GemPits$Reader" ⟨"GemPits$Reader", "expectWord", "(Ljava/lang/String;)V"⟩ ⟨"GemPits$Reader", "expectWord", "(Ljava/lang/String;)V"⟩ : Cond) ∈ GW := gwm 617 (by decide +kernel) (by decide +kernel)
theorem w_618 : (.code ⟨"GemPits$Reader", "expectWord", "(Ljava/lang/String;)V"⟩ prog_8_method_5_code 2 (Option.none : Option Jvm.ClassFile.FieldType) : Cond) ∈ GW := gwm 618 (by decide +kernel) (by decide +kernel)
theorem w_619 : (.methodLink "GemPits$Reader" 47 ⟨"GemPits$Reader", "takeWord", "(Ljava/lang/String;)Z"⟩ : Cond) ∈ GW := gwm 619 (by decide +kernel) (by decide +kernel)
theorem w_620 : (.methodLink "GemPits$Reader" 51 ⟨"GemPits$Reader", "refuse", "()V"⟩ : Cond) ∈ GW := gwm 620 (by decide +kernel) (by decide +kernel)
theorem w_621 : (.instanceMethod ⟨"GemPits$Reader", "refuse", "()V"⟩ : Cond) ∈ GW := gwm 621 (by decide +kernel) (by decide +kernel)
theorem w_622 : (.selects "GemPits$Reader" ⟨"GemPits$Reader", "refuse", "()V"⟩ ⟨"GemPits$Reader", "refuse", "()V"⟩ : Cond) ∈ GW := gwm 622 (by decide +kernel) (by decide +kernel)
theorem w_623 : (.code ⟨"GemPits$Reader", "refuse", "()V"⟩ prog_8_method_3_code 1 (Option.none : Option Jvm.ClassFile.FieldType) : Cond) ∈ GW := gwm 623 (by decide +kernel) (by decide +kernel)
theorem w_625 : (.methodLink "GemPits$Agreement" 35 ⟨"GemPits$Reader", "expectNumber", "(II)I"⟩ : Cond) ∈ GW := gwm 625 (by decide +kernel) (by decide +kernel)
theorem w_626 : (.instanceMethod ⟨"GemPits$Reader", "expectNumber", "(II)I"⟩ : Cond) ∈ GW := gwm 626 (by decide +kernel) (by decide +kernel)
theorem w_627 : (.selects "GemPits$Reader" ⟨"GemPits$Reader", "expectNumber", "(II)I"⟩ ⟨"GemPits$Reader", "expectNumber", "(II)I"⟩ : Cond) ∈ GW := gwm 627 (by decide +kernel) (by decide +kernel)
theorem w_628 : (.code ⟨"GemPits$Reader", "expectNumber", "(II)I"⟩ prog_8_method_6_code 6 (Option.some .int) : Cond) ∈ GW := gwm 628 (by decide +kernel) (by decide +kernel)
theorem w_629 : (.methodLink "GemPits$Reader" 54 ⟨"GemPits$Reader", "isDigit", "(I)Z"⟩ : Cond) ∈ GW := gwm 629 (by decide +kernel) (by decide +kernel)
theorem w_630 : (.static ⟨"GemPits$Reader", "isDigit", "(I)Z"⟩ : Cond) ∈ GW := gwm 630 (by decide +kernel) (by decide +kernel)
theorem w_631 : (.code ⟨"GemPits$Reader", "isDigit", "(I)Z"⟩ prog_8_method_11_code 1 (Option.some .boolean) : Cond) ∈ GW := gwm 631 (by decide +kernel) (by decide +kernel)
theorem w_635 : (.constant "GemPits$Agreement" 45 (999999 : Int32) : Cond) ∈ GW := gwm 635 (by decide +kernel) (by decide +kernel)
theorem w_638 : (.methodLink "GemPits$Agreement" 53 ⟨"GemPits$Reader", "refuse", "()V"⟩ : Cond) ∈ GW := gwm 638 (by decide +kernel) (by decide +kernel)
theorem w_639 : (.selects "GemPits$Law" ⟨"GemPits$Clauses", "readClause", "(LGemPits$Reader;)V"⟩ ⟨"GemPits$Law", "readClause", "(LGemPits$Reader;)V"⟩ : Cond) ∈ GW := gwm 639 (by decide +kernel) (by decide +kernel)
theorem w_640 : (.instanceMethod ⟨"GemPits$Law", "readClause", "(LGemPits$Reader;)V"⟩ : Cond) ∈ GW := gwm 640 (by decide +kernel) (by decide +kernel)
theorem w_641 : (.code ⟨"GemPits$Law", "readClause", "(LGemPits$Reader;)V"⟩ prog_5_method_3_code 2 (Option.none : Option Jvm.ClassFile.FieldType) : Cond) ∈ GW := gwm 641 (by decide +kernel) (by decide +kernel)
theorem w_643 : (.methodLink "GemPits$Law" 21 ⟨"GemPits$Reader", "takeWord", "(Ljava/lang/String;)Z"⟩ : Cond) ∈ GW := gwm 643 (by decide +kernel) (by decide +kernel)
theorem w_644 : (.methodLink "GemPits$Law" 27 ⟨"GemPits$Reader", "expectNumber", "(II)I"⟩ : Cond) ∈ GW := gwm 644 (by decide +kernel) (by decide +kernel)
theorem w_647 : (.constant "GemPits$Law" 34 (100000 : Int32) : Cond) ∈ GW := gwm 647 (by decide +kernel) (by decide +kernel)
theorem w_648 : (.methodLink "GemPits$Law" 35 ⟨"GemPits$Reader", "refuse", "()V"⟩ : Cond) ∈ GW := gwm 648 (by decide +kernel) (by decide +kernel)
theorem w_649 : (.methodLink "GemPits$Clauses" 17 ⟨"GemPits$Reader", "firstFault", "()I"⟩ : Cond) ∈ GW := gwm 649 (by decide +kernel) (by decide +kernel)
theorem w_650 : (.instanceMethod ⟨"GemPits$Reader", "firstFault", "()I"⟩ : Cond) ∈ GW := gwm 650 (by decide +kernel) (by decide +kernel)
theorem w_651 : (.selects "GemPits$Reader" ⟨"GemPits$Reader", "firstFault", "()I"⟩ ⟨"GemPits$Reader", "firstFault", "()I"⟩ : Cond) ∈ GW := gwm 651 (by decide +kernel) (by decide +kernel)
theorem w_652 : (.code ⟨"GemPits$Reader", "firstFault", "()I"⟩ prog_8_method_2_code 1 (Option.some .int) : Cond) ∈ GW := gwm 652 (by decide +kernel) (by decide +kernel)
theorem w_653 : (.methodLink "GemPits$Clauses" 23 ⟨"GemPits$Reader", "takeSemicolon", "()Z"⟩ : Cond) ∈ GW := gwm 653 (by decide +kernel) (by decide +kernel)
theorem w_654 : (.instanceMethod ⟨"GemPits$Reader", "takeSemicolon", "()Z"⟩ : Cond) ∈ GW := gwm 654 (by decide +kernel) (by decide +kernel)
theorem w_655 : (.selects "GemPits$Reader" ⟨"GemPits$Reader", "takeSemicolon", "()Z"⟩ ⟨"GemPits$Reader", "takeSemicolon", "()Z"⟩ : Cond) ∈ GW := gwm 655 (by decide +kernel) (by decide +kernel)
theorem w_656 : (.code ⟨"GemPits$Reader", "takeSemicolon", "()Z"⟩ prog_8_method_7_code 1 (Option.some .boolean) : Cond) ∈ GW := gwm 656 (by decide +kernel) (by decide +kernel)
theorem w_657 : (.methodLink "GemPits$Clauses" 27 ⟨"GemPits$Clauses", "finish", "(LGemPits$Reader;)V"⟩ : Cond) ∈ GW := gwm 657 (by decide +kernel) (by decide +kernel)
theorem w_659 : (.instanceMethod ⟨"GemPits$Clauses", "finish", "(LGemPits$Reader;)V"⟩ : Cond) ∈ GW := gwm 659 (by decide +kernel) (by decide +kernel)
theorem w_660 : (.code ⟨"GemPits$Clauses", "finish", "(LGemPits$Reader;)V"⟩ prog_3_method_5_code 2 (Option.none : Option Jvm.ClassFile.FieldType) : Cond) ∈ GW := gwm 660 (by decide +kernel) (by decide +kernel)
theorem w_661 : (.methodLink "GemPits$Clauses" 30 ⟨"GemPits$Reader", "expectEnd", "()V"⟩ : Cond) ∈ GW := gwm 661 (by decide +kernel) (by decide +kernel)
theorem w_662 : (.instanceMethod ⟨"GemPits$Reader", "expectEnd", "()V"⟩ : Cond) ∈ GW := gwm 662 (by decide +kernel) (by decide +kernel)
theorem w_663 : (.selects "GemPits$Reader" ⟨"GemPits$Reader", "expectEnd", "()V"⟩ ⟨"GemPits$Reader", "expectEnd", "()V"⟩ : Cond) ∈ GW := gwm 663 (by decide +kernel) (by decide +kernel)
theorem w_664 : (.code ⟨"GemPits$Reader", "expectEnd", "()V"⟩ prog_8_method_8_code 1 (Option.none : Option Jvm.ClassFile.FieldType) : Cond) ∈ GW := gwm 664 (by decide +kernel) (by decide +kernel)
theorem w_665 : (.methodLink "GemPits$Clauses" 33 ⟨"GemPits$Clauses", "agrees", "()Z"⟩ : Cond) ∈ GW := gwm 665 (by decide +kernel) (by decide +kernel)
theorem w_667 : (.sameMethod "GemPits$Clauses" "GemPits$Clauses" "agrees" "()Z" : Cond) ∈ GW := gwm 667 (by decide +kernel) (by decide +kernel)
theorem w_668 : (.selects "GemPits$Agreement" ⟨"GemPits$Clauses", "agrees", "()Z"⟩ ⟨"GemPits$Agreement", "agrees", "()Z"⟩ : Cond) ∈ GW := gwm 668 (by decide +kernel) (by decide +kernel)
theorem w_669 : (.instanceMethod ⟨"GemPits$Agreement", "agrees", "()Z"⟩ : Cond) ∈ GW := gwm 669 (by decide +kernel) (by decide +kernel)
theorem w_670 : (.code ⟨"GemPits$Agreement", "agrees", "()Z"⟩ prog_2_method_3_code 6 (Option.some .boolean) : Cond) ∈ GW := gwm 670 (by decide +kernel) (by decide +kernel)
theorem w_671 : (.selects "GemPits$Law" ⟨"GemPits$Clauses", "agrees", "()Z"⟩ ⟨"GemPits$Law", "agrees", "()Z"⟩ : Cond) ∈ GW := gwm 671 (by decide +kernel) (by decide +kernel)
theorem w_672 : (.instanceMethod ⟨"GemPits$Law", "agrees", "()Z"⟩ : Cond) ∈ GW := gwm 672 (by decide +kernel) (by decide +kernel)
theorem w_673 : (.code ⟨"GemPits$Law", "agrees", "()Z"⟩ prog_5_method_4_code 1 (Option.some .boolean) : Cond) ∈ GW := gwm 673 (by decide +kernel) (by decide +kernel)
theorem w_674 : (.methodLink "GemPits$Clauses" 36 ⟨"GemPits$Reader", "refuse", "()V"⟩ : Cond) ∈ GW := gwm 674 (by decide +kernel) (by decide +kernel)
theorem w_675 : (.methodLink "GemPits" 293 ⟨"GemPits$Reader", "firstFault", "()I"⟩ : Cond) ∈ GW := gwm 675 (by decide +kernel) (by decide +kernel)
theorem w_677 : (.methodLink "GemPits" 82 ⟨"GemPits$Ground", "setLaw", "(LGemPits$Law;)V"⟩ : Cond) ∈ GW := gwm 677 (by decide +kernel) (by decide +kernel)
theorem w_678 : (.instanceMethod ⟨"GemPits$Ground", "setLaw", "(LGemPits$Law;)V"⟩ : Cond) ∈ GW := gwm 678 (by decide +kernel) (by decide +kernel)
theorem w_679 : (.selects "GemPits$Ground" ⟨"GemPits$Ground", "setLaw", "(LGemPits$Law;)V"⟩ ⟨"GemPits$Ground", "setLaw", "(LGemPits$Law;)V"⟩ : Cond) ∈ GW := gwm 679 (by decide +kernel) (by decide +kernel)
theorem w_680 : (.code ⟨"GemPits$Ground", "setLaw", "(LGemPits$Law;)V"⟩ prog_4_method_3_code 2 (Option.none : Option Jvm.ClassFile.FieldType) : Cond) ∈ GW := gwm 680 (by decide +kernel) (by decide +kernel)
theorem w_681 : (.methodLink "GemPitsLaw" 103 ⟨"GemPitsLaw", "agreement", "(LGemPits;[J)I"⟩ : Cond) ∈ GW := gwm 681 (by decide +kernel) (by decide +kernel)
theorem w_682 : (.static ⟨"GemPitsLaw", "agreement", "(LGemPits;[J)I"⟩ : Cond) ∈ GW := gwm 682 (by decide +kernel) (by decide +kernel)
theorem w_683 : (.codeWith ⟨"GemPitsLaw", "agreement", "(LGemPits;[J)I"⟩ method_5_code 3 (Option.some .int) [(0, 8, 11, 13)] : Cond) ∈ GW := gwm 683 (by decide +kernel) (by decide +kernel)
theorem w_684 : (.methodLink "GemPitsLaw" 19 ⟨"GemPits", "agreement", "()I"⟩ : Cond) ∈ GW := gwm 684 (by decide +kernel) (by decide +kernel)
theorem w_685 : (.instanceMethod ⟨"GemPits", "agreement", "()I"⟩ : Cond) ∈ GW := gwm 685 (by decide +kernel) (by decide +kernel)
theorem w_686 : (.selects "GemPits" ⟨"GemPits", "agreement", "()I"⟩ ⟨"GemPits", "agreement", "()I"⟩ : Cond) ∈ GW := gwm 686 (by decide +kernel) (by decide +kernel)
theorem w_687 : (.code ⟨"GemPits", "agreement", "()I"⟩ prog_1_method_6_code 3 (Option.some .int) : Cond) ∈ GW := gwm 687 (by decide +kernel) (by decide +kernel)
theorem w_688 : (.classLink "GemPits" 86 "GemPits$Agreement" : Cond) ∈ GW := gwm 688 (by decide +kernel) (by decide +kernel)
theorem w_691 : (.methodLink "GemPits" 91 ⟨"GemPits$Market", "setAgreement", "(LGemPits$Agreement;)V"⟩ : Cond) ∈ GW := gwm 691 (by decide +kernel) (by decide +kernel)
theorem w_692 : (.instanceMethod ⟨"GemPits$Market", "setAgreement", "(LGemPits$Agreement;)V"⟩ : Cond) ∈ GW := gwm 692 (by decide +kernel) (by decide +kernel)
theorem w_693 : (.selects "GemPits$Market" ⟨"GemPits$Market", "setAgreement", "(LGemPits$Agreement;)V"⟩ ⟨"GemPits$Market", "setAgreement", "(LGemPits$Agreement;)V"⟩ : Cond) ∈ GW := gwm 693 (by decide +kernel) (by decide +kernel)
theorem w_694 : (.code ⟨"GemPits$Market", "setAgreement", "(LGemPits$Agreement;)V"⟩ prog_6_method_2_code 2 (Option.none : Option Jvm.ClassFile.FieldType) : Cond) ∈ GW := gwm 694 (by decide +kernel) (by decide +kernel)
theorem w_695 : (.methodLink "GemPitsLaw" 110 ⟨"GemPitsLaw", "sink", "(LGemPits;I[J)I"⟩ : Cond) ∈ GW := gwm 695 (by decide +kernel) (by decide +kernel)
theorem w_696 : (.static ⟨"GemPitsLaw", "sink", "(LGemPits;I[J)I"⟩ : Cond) ∈ GW := gwm 696 (by decide +kernel) (by decide +kernel)
theorem w_697 : (.codeWith ⟨"GemPitsLaw", "sink", "(LGemPits;I[J)I"⟩ method_6_code 4 (Option.some .int) [(0, 9, 12, 26), (0, 9, 15, 28)] : Cond) ∈ GW := gwm 697 (by decide +kernel) (by decide +kernel)
theorem w_698 : (.classLink "GemPitsLaw" 26 "java/lang/IndexOutOfBoundsException" : Cond) ∈ GW := gwm 698 (by decide +kernel) (by decide +kernel)
theorem w_699 : (.classLink "GemPitsLaw" 28 "java/lang/UnsupportedOperationException" : Cond) ∈ GW := gwm 699 (by decide +kernel) (by decide +kernel)
theorem w_700 : (.methodLink "GemPitsLaw" 22 ⟨"GemPits", "sink", "(I)I"⟩ : Cond) ∈ GW := gwm 700 (by decide +kernel) (by decide +kernel)
theorem w_701 : (.instanceMethod ⟨"GemPits", "sink", "(I)I"⟩ : Cond) ∈ GW := gwm 701 (by decide +kernel) (by decide +kernel)
theorem w_702 : (.selects "GemPits" ⟨"GemPits", "sink", "(I)I"⟩ ⟨"GemPits", "sink", "(I)I"⟩ : Cond) ∈ GW := gwm 702 (by decide +kernel) (by decide +kernel)
theorem w_703 : (.code ⟨"GemPits", "sink", "(I)I"⟩ prog_1_method_8_code 2 (Option.some .int) : Cond) ∈ GW := gwm 703 (by decide +kernel) (by decide +kernel)
theorem w_704 : (.methodLink "GemPits" 95 ⟨"GemPits", "checkSquare", "(I)V"⟩ : Cond) ∈ GW := gwm 704 (by decide +kernel) (by decide +kernel)
theorem w_705 : (.static ⟨"GemPits", "checkSquare", "(I)V"⟩ : Cond) ∈ GW := gwm 705 (by decide +kernel) (by decide +kernel)
theorem w_706 : (.code ⟨"GemPits", "checkSquare", "(I)V"⟩ prog_1_method_28_code 1 (Option.none : Option Jvm.ClassFile.FieldType) : Cond) ∈ GW := gwm 706 (by decide +kernel) (by decide +kernel)
theorem w_707 : (.classLink "GemPits" 201 "java/lang/IndexOutOfBoundsException" : Cond) ∈ GW := gwm 707 (by decide +kernel) (by decide +kernel)
theorem w_708 : (.instantiable "java/lang/IndexOutOfBoundsException" 6 : Cond) ∈ GW := gwm 708 (by decide +kernel) (by decide +kernel)
theorem w_710 : (.selects "java/lang/IndexOutOfBoundsException" ⟨"java/lang/Throwable", "fillInStackTrace", "(I)Ljava/lang/Throwable;"⟩ ⟨"java/lang/Throwable", "fillInStackTrace", "(I)Ljava/lang/Throwable;"⟩ : Cond) ∈ GW := gwm 710 (by decide +kernel) (by decide +kernel)
theorem w_711 : (.lays "java/lang/IndexOutOfBoundsException" "java/lang/Throwable" "cause" "Ljava/lang/Throwable;" : Cond) ∈ GW := gwm 711 (by decide +kernel) (by decide +kernel)
theorem w_712 : (.lays "java/lang/IndexOutOfBoundsException" "java/lang/Throwable" "stackTrace" "[Ljava/lang/StackTraceElement;" : Cond) ∈ GW := gwm 712 (by decide +kernel) (by decide +kernel)
theorem w_713 : (.lays "java/lang/IndexOutOfBoundsException" "java/lang/Throwable" "suppressedExceptions" "Ljava/util/List;" : Cond) ∈ GW := gwm 713 (by decide +kernel) (by decide +kernel)
theorem w_714 : (.lays "java/lang/IndexOutOfBoundsException" "java/lang/Throwable" "detailMessage" "Ljava/lang/String;" : Cond) ∈ GW := gwm 714 (by decide +kernel) (by decide +kernel)
theorem w_715 : (.lays "java/lang/IndexOutOfBoundsException" "java/lang/Throwable" "backtrace" "Ljava/lang/Object;" : Cond) ∈ GW := gwm 715 (by decide +kernel) (by decide +kernel)
theorem w_717 : (.methodLink "GemPits" 205 ⟨"java/lang/IndexOutOfBoundsException", "<init>", "(Ljava/lang/String;)V"⟩ : Cond) ∈ GW := gwm 717 (by decide +kernel) (by decide +kernel)
theorem w_718 : (.instanceMethod ⟨"java/lang/IndexOutOfBoundsException", "<init>", "(Ljava/lang/String;)V"⟩ : Cond) ∈ GW := gwm 718 (by decide +kernel) (by decide +kernel)
theorem w_719 : (.code ⟨"java/lang/IndexOutOfBoundsException", "<init>", "(Ljava/lang/String;)V"⟩ prog_21_method_2_code 2 (Option.none : Option Jvm.ClassFile.FieldType) : Cond) ∈ GW := gwm 719 (by decide +kernel) (by decide +kernel)
theorem w_720 : (.methodLink "java/lang/IndexOutOfBoundsException" 7 ⟨"java/lang/RuntimeException", "<init>", "(Ljava/lang/String;)V"⟩ : Cond) ∈ GW := gwm 720 (by decide +kernel) (by decide +kernel)
theorem w_721 : (.lays "java/lang/IndexOutOfBoundsException" "java/lang/Throwable" "depth" "I" : Cond) ∈ GW := gwm 721 (by decide +kernel) (by decide +kernel)
theorem w_722 : (.superclass "java/lang/IndexOutOfBoundsException" "java/lang/RuntimeException" : Cond) ∈ GW := gwm 722 (by decide +kernel) (by decide +kernel)
theorem w_723 : (.classLink "GemPits" 101 "java/lang/UnsupportedOperationException" : Cond) ∈ GW := gwm 723 (by decide +kernel) (by decide +kernel)
theorem w_724 : (.instantiable "java/lang/UnsupportedOperationException" 6 : Cond) ∈ GW := gwm 724 (by decide +kernel) (by decide +kernel)
theorem w_726 : (.selects "java/lang/UnsupportedOperationException" ⟨"java/lang/Throwable", "fillInStackTrace", "(I)Ljava/lang/Throwable;"⟩ ⟨"java/lang/Throwable", "fillInStackTrace", "(I)Ljava/lang/Throwable;"⟩ : Cond) ∈ GW := gwm 726 (by decide +kernel) (by decide +kernel)
theorem w_727 : (.lays "java/lang/UnsupportedOperationException" "java/lang/Throwable" "cause" "Ljava/lang/Throwable;" : Cond) ∈ GW := gwm 727 (by decide +kernel) (by decide +kernel)
theorem w_728 : (.lays "java/lang/UnsupportedOperationException" "java/lang/Throwable" "stackTrace" "[Ljava/lang/StackTraceElement;" : Cond) ∈ GW := gwm 728 (by decide +kernel) (by decide +kernel)
theorem w_729 : (.lays "java/lang/UnsupportedOperationException" "java/lang/Throwable" "suppressedExceptions" "Ljava/util/List;" : Cond) ∈ GW := gwm 729 (by decide +kernel) (by decide +kernel)
theorem w_730 : (.lays "java/lang/UnsupportedOperationException" "java/lang/Throwable" "detailMessage" "Ljava/lang/String;" : Cond) ∈ GW := gwm 730 (by decide +kernel) (by decide +kernel)
theorem w_731 : (.lays "java/lang/UnsupportedOperationException" "java/lang/Throwable" "backtrace" "Ljava/lang/Object;" : Cond) ∈ GW := gwm 731 (by decide +kernel) (by decide +kernel)
theorem w_733 : (.methodLink "GemPits" 105 ⟨"java/lang/UnsupportedOperationException", "<init>", "(Ljava/lang/String;)V"⟩ : Cond) ∈ GW := gwm 733 (by decide +kernel) (by decide +kernel)
theorem w_734 : (.instanceMethod ⟨"java/lang/UnsupportedOperationException", "<init>", "(Ljava/lang/String;)V"⟩ : Cond) ∈ GW := gwm 734 (by decide +kernel) (by decide +kernel)
theorem w_735 : (.code ⟨"java/lang/UnsupportedOperationException", "<init>", "(Ljava/lang/String;)V"⟩ prog_30_method_2_code 2 (Option.none : Option Jvm.ClassFile.FieldType) : Cond) ∈ GW := gwm 735 (by decide +kernel) (by decide +kernel)
theorem w_736 : (.methodLink "java/lang/UnsupportedOperationException" 7 ⟨"java/lang/RuntimeException", "<init>", "(Ljava/lang/String;)V"⟩ : Cond) ∈ GW := gwm 736 (by decide +kernel) (by decide +kernel)
theorem w_737 : (.lays "java/lang/UnsupportedOperationException" "java/lang/Throwable" "depth" "I" : Cond) ∈ GW := gwm 737 (by decide +kernel) (by decide +kernel)
theorem w_738 : (.superclass "java/lang/UnsupportedOperationException" "java/lang/RuntimeException" : Cond) ∈ GW := gwm 738 (by decide +kernel) (by decide +kernel)
theorem w_739 : (.methodLink "GemPits" 106 ⟨"GemPits$Ground", "maySink", "(I)Z"⟩ : Cond) ∈ GW := gwm 739 (by decide +kernel) (by decide +kernel)
theorem w_740 : (.methodLink "GemPits" 109 ⟨"GemPits$Ground", "sinkAt", "(I)I"⟩ : Cond) ∈ GW := gwm 740 (by decide +kernel) (by decide +kernel)
theorem w_741 : (.instanceMethod ⟨"GemPits$Ground", "sinkAt", "(I)I"⟩ : Cond) ∈ GW := gwm 741 (by decide +kernel) (by decide +kernel)
theorem w_742 : (.selects "GemPits$Ground" ⟨"GemPits$Ground", "sinkAt", "(I)I"⟩ ⟨"GemPits$Ground", "sinkAt", "(I)I"⟩ : Cond) ∈ GW := gwm 742 (by decide +kernel) (by decide +kernel)
theorem w_743 : (.code ⟨"GemPits$Ground", "sinkAt", "(I)I"⟩ prog_4_method_10_code 2 (Option.some .int) : Cond) ∈ GW := gwm 743 (by decide +kernel) (by decide +kernel)
theorem w_744 : (.instantiable "GemPits$Pit" 6 : Cond) ∈ GW := gwm 744 (by decide +kernel) (by decide +kernel)
theorem w_745 : (.methodLink "GemPits$Ground" 78 ⟨"GemPits$Pit", "<init>", "(IILGemPits$Law;)V"⟩ : Cond) ∈ GW := gwm 745 (by decide +kernel) (by decide +kernel)
theorem w_746 : (.instanceMethod ⟨"GemPits$Pit", "<init>", "(IILGemPits$Law;)V"⟩ : Cond) ∈ GW := gwm 746 (by decide +kernel) (by decide +kernel)
theorem w_747 : (.code ⟨"GemPits$Pit", "<init>", "(IILGemPits$Law;)V"⟩ prog_7_method_1_code 4 (Option.none : Option Jvm.ClassFile.FieldType) : Cond) ∈ GW := gwm 747 (by decide +kernel) (by decide +kernel)
theorem w_748 : (.methodLink "GemPits$Pit" 3 ⟨"java/lang/Object", "<init>", "()V"⟩ : Cond) ∈ GW := gwm 748 (by decide +kernel) (by decide +kernel)
theorem w_749 : (.fieldLink "GemPits$Pit" 9 "GemPits$Pit" "square" "I" : Cond) ∈ GW := gwm 749 (by decide +kernel) (by decide +kernel)
theorem w_750 : (.fieldLink "GemPits$Ground" 65 "GemPits$Pit" "square" "I" : Cond) ∈ GW := gwm 750 (by decide +kernel) (by decide +kernel)
theorem w_751 : (.fieldLink "GemPits" 148 "GemPits$Pit" "square" "I" : Cond) ∈ GW := gwm 751 (by decide +kernel) (by decide +kernel)
theorem w_752 : (.fieldLink "GemPits$Pit" 15 "GemPits$Pit" "sunkOn" "I" : Cond) ∈ GW := gwm 752 (by decide +kernel) (by decide +kernel)
theorem w_753 : (.fieldLink "GemPits" 151 "GemPits$Pit" "sunkOn" "I" : Cond) ∈ GW := gwm 753 (by decide +kernel) (by decide +kernel)
theorem w_754 : (.fieldLink "GemPits$Pit" 23 "GemPits$Pit" "lastDay" "I" : Cond) ∈ GW := gwm 754 (by decide +kernel) (by decide +kernel)
theorem w_755 : (.fieldLink "GemPits" 163 "GemPits$Pit" "lastDay" "I" : Cond) ∈ GW := gwm 755 (by decide +kernel) (by decide +kernel)
theorem w_756 : (.fieldLink "GemPits$Pit" 29 "GemPits$Pit" "bond" "I" : Cond) ∈ GW := gwm 756 (by decide +kernel) (by decide +kernel)
theorem w_757 : (.fieldLink "GemPits$Ground" 99 "GemPits$Pit" "bond" "I" : Cond) ∈ GW := gwm 757 (by decide +kernel) (by decide +kernel)
theorem w_758 : (.fieldLink "GemPits$Pit" 30 "GemPits$Pit" "found" "I" : Cond) ∈ GW := gwm 758 (by decide +kernel) (by decide +kernel)
theorem w_759 : (.fieldLink "GemPits$Ground" 85 "GemPits$Pit" "found" "I" : Cond) ∈ GW := gwm 759 (by decide +kernel) (by decide +kernel)
theorem w_760 : (.fieldLink "GemPits" 154 "GemPits$Pit" "found" "I" : Cond) ∈ GW := gwm 760 (by decide +kernel) (by decide +kernel)
theorem w_761 : (.fieldLink "GemPits$Pit" 33 "GemPits$Pit" "filledOn" "I" : Cond) ∈ GW := gwm 761 (by decide +kernel) (by decide +kernel)
theorem w_762 : (.fieldLink "GemPits" 157 "GemPits$Pit" "filledOn" "I" : Cond) ∈ GW := gwm 762 (by decide +kernel) (by decide +kernel)
theorem w_763 : (.laysFinal "GemPits$Pit" "GemPits$Pit" "square" "I" : Cond) ∈ GW := gwm 763 (by decide +kernel) (by decide +kernel)
theorem w_764 : (.soleField "GemPits$Pit" "square" : Cond) ∈ GW := gwm 764 (by decide +kernel) (by decide +kernel)
theorem w_765 : (.laysFinal "GemPits$Pit" "GemPits$Pit" "sunkOn" "I" : Cond) ∈ GW := gwm 765 (by decide +kernel) (by decide +kernel)
theorem w_766 : (.soleField "GemPits$Pit" "sunkOn" : Cond) ∈ GW := gwm 766 (by decide +kernel) (by decide +kernel)
theorem w_767 : (.laysFinal "GemPits$Pit" "GemPits$Pit" "lastDay" "I" : Cond) ∈ GW := gwm 767 (by decide +kernel) (by decide +kernel)
theorem w_768 : (.soleField "GemPits$Pit" "lastDay" : Cond) ∈ GW := gwm 768 (by decide +kernel) (by decide +kernel)
theorem w_769 : (.laysFinal "GemPits$Pit" "GemPits$Pit" "bond" "I" : Cond) ∈ GW := gwm 769 (by decide +kernel) (by decide +kernel)
theorem w_770 : (.soleField "GemPits$Pit" "bond" : Cond) ∈ GW := gwm 770 (by decide +kernel) (by decide +kernel)
theorem w_771 : (.lays "GemPits$Pit" "GemPits$Pit" "found" "I" : Cond) ∈ GW := gwm 771 (by decide +kernel) (by decide +kernel)
theorem w_772 : (.soleField "GemPits$Pit" "found" : Cond) ∈ GW := gwm 772 (by decide +kernel) (by decide +kernel)
theorem w_773 : (.lays "GemPits$Pit" "GemPits$Pit" "filledOn" "I" : Cond) ∈ GW := gwm 773 (by decide +kernel) (by decide +kernel)
theorem w_774 : (.soleField "GemPits$Pit" "filledOn" : Cond) ∈ GW := gwm 774 (by decide +kernel) (by decide +kernel)
theorem w_775 : (.superclass "GemPits$Pit" "java/lang/Object" : Cond) ∈ GW := gwm 775 (by decide +kernel) (by decide +kernel)
theorem w_776 : (.methodLink "GemPits$Ground" 81 ⟨"java/util/ArrayList", "add", "(Ljava/lang/Object;)Z"⟩ : Cond) ∈ GW := gwm 776 (by decide +kernel) (by decide +kernel)
theorem w_777 : (.instanceMethod ⟨"java/util/ArrayList", "add", "(Ljava/lang/Object;)Z"⟩ : Cond) ∈ GW := gwm 777 (by decide +kernel) (by decide +kernel)
theorem w_778 : (.selects "java/util/ArrayList" ⟨"java/util/ArrayList", "add", "(Ljava/lang/Object;)Z"⟩ ⟨"java/util/ArrayList", "add", "(Ljava/lang/Object;)Z"⟩ : Cond) ∈ GW := gwm 778 (by decide +kernel) (by decide +kernel)
theorem w_779 : (.code ⟨"java/util/ArrayList", "add", "(Ljava/lang/Object;)Z"⟩ prog_35_method_25_code 2 (Option.some .boolean) : Cond) ∈ GW := gwm 779 (by decide +kernel) (by decide +kernel)
theorem w_780 : (.methodLink "java/util/ArrayList" 131 ⟨"java/util/ArrayList", "add", "(Ljava/lang/Object;[Ljava/lang/Object;I)V"⟩ : Cond) ∈ GW := gwm 780 (by decide +kernel) (by decide +kernel)
theorem w_782 : (.instanceMethod ⟨"java/util/ArrayList", "add", "(Ljava/lang/Object;[Ljava/lang/Object;I)V"⟩ : Cond) ∈ GW := gwm 782 (by decide +kernel) (by decide +kernel)
theorem w_783 : (.code ⟨"java/util/ArrayList", "add", "(Ljava/lang/Object;[Ljava/lang/Object;I)V"⟩ prog_35_method_24_code 4 (Option.none : Option Jvm.ClassFile.FieldType) : Cond) ∈ GW := gwm 783 (by decide +kernel) (by decide +kernel)
theorem w_784 : (.methodLink "java/util/ArrayList" 129 ⟨"java/util/ArrayList", "grow", "()[Ljava/lang/Object;"⟩ : Cond) ∈ GW := gwm 784 (by decide +kernel) (by decide +kernel)
theorem w_786 : (.instanceMethod ⟨"java/util/ArrayList", "grow", "()[Ljava/lang/Object;"⟩ : Cond) ∈ GW := gwm 786 (by decide +kernel) (by decide +kernel)
theorem w_787 : (.code ⟨"java/util/ArrayList", "grow", "()[Ljava/lang/Object;"⟩ prog_35_method_7_code 1 (Option.some (.array (.object "java/lang/Object"))) : Cond) ∈ GW := gwm 787 (by decide +kernel) (by decide +kernel)
theorem w_788 : (.methodLink "java/util/ArrayList" 69 ⟨"java/util/ArrayList", "grow", "(I)[Ljava/lang/Object;"⟩ : Cond) ∈ GW := gwm 788 (by decide +kernel) (by decide +kernel)
theorem w_790 : (.instanceMethod ⟨"java/util/ArrayList", "grow", "(I)[Ljava/lang/Object;"⟩ : Cond) ∈ GW := gwm 790 (by decide +kernel) (by decide +kernel)
theorem w_791 : (.code ⟨"java/util/ArrayList", "grow", "(I)[Ljava/lang/Object;"⟩ prog_35_method_6_code 4 (Option.some (.array (.object "java/lang/Object"))) : Cond) ∈ GW := gwm 791 (by decide +kernel) (by decide +kernel)
theorem w_792 : (.methodLink "java/util/ArrayList" 73 ⟨"jdk/internal/util/ArraysSupport", "newLength", "(III)I"⟩ : Cond) ∈ GW := gwm 792 (by decide +kernel) (by decide +kernel)
theorem w_793 : (.static ⟨"jdk/internal/util/ArraysSupport", "newLength", "(III)I"⟩ : Cond) ∈ GW := gwm 793 (by decide +kernel) (by decide +kernel)
theorem w_794 : (.code ⟨"jdk/internal/util/ArraysSupport", "newLength", "(III)I"⟩ prog_43_method_27_code 4 (Option.some .int) : Cond) ∈ GW := gwm 794 (by decide +kernel) (by decide +kernel)
theorem w_795 : (.methodLink "jdk/internal/util/ArraysSupport" 194 ⟨"java/lang/Math", "max", "(II)I"⟩ : Cond) ∈ GW := gwm 795 (by decide +kernel) (by decide +kernel)
theorem w_796 : (.constant "jdk/internal/util/ArraysSupport" 200 (2147483639 : Int32) : Cond) ∈ GW := gwm 796 (by decide +kernel) (by decide +kernel)
theorem w_797 : (.methodLink "jdk/internal/util/ArraysSupport" 201 ⟨"jdk/internal/util/ArraysSupport", "hugeLength", "(II)I"⟩ : Cond) ∈ GW := gwm 797 (by decide +kernel) (by decide +kernel)
theorem w_798 : (.static ⟨"jdk/internal/util/ArraysSupport", "hugeLength", "(II)I"⟩ : Cond) ∈ GW := gwm 798 (by decide +kernel) (by decide +kernel)
theorem w_799 : (.code ⟨"jdk/internal/util/ArraysSupport", "hugeLength", "(II)I"⟩ prog_43_method_28_code 3 (Option.some .int) : Cond) ∈ GW := gwm 799 (by decide +kernel) (by decide +kernel)
theorem w_800 : (.methodLink "java/util/ArrayList" 66 ⟨"java/util/Arrays", "copyOf", "([Ljava/lang/Object;I)[Ljava/lang/Object;"⟩ : Cond) ∈ GW := gwm 800 (by decide +kernel) (by decide +kernel)
theorem w_801 : (.static ⟨"java/util/Arrays", "copyOf", "([Ljava/lang/Object;I)[Ljava/lang/Object;"⟩ : Cond) ∈ GW := gwm 801 (by decide +kernel) (by decide +kernel)
theorem w_802 : (.code ⟨"java/util/Arrays", "copyOf", "([Ljava/lang/Object;I)[Ljava/lang/Object;"⟩ prog_36_method_119_code 2 (Option.some (.array (.object "java/lang/Object"))) : Cond) ∈ GW := gwm 802 (by decide +kernel) (by decide +kernel)
theorem w_803 : (.methodLink "java/util/Arrays" 86 ⟨"java/lang/Object", "getClass", "()Ljava/lang/Class;"⟩ : Cond) ∈ GW := gwm 803 (by decide +kernel) (by decide +kernel)
theorem w_804 : (.instanceMethod ⟨"java/lang/Object", "getClass", "()Ljava/lang/Class;"⟩ : Cond) ∈ GW := gwm 804 (by decide +kernel) (by decide +kernel)
theorem w_805 : (.sameMethod "java/lang/Object" "java/lang/Object" "getClass" "()Ljava/lang/Class;" : Cond) ∈ GW := gwm 805 (by decide +kernel) (by decide +kernel)
theorem w_806 : (.selects "GemPits" ⟨"java/lang/Object", "getClass", "()Ljava/lang/Class;"⟩ ⟨"java/lang/Object", "getClass", "()Ljava/lang/Class;"⟩ : Cond) ∈ GW := gwm 806 (by decide +kernel) (by decide +kernel)
theorem w_807 : (.selects "GemPits$Agreement" ⟨"java/lang/Object", "getClass", "()Ljava/lang/Class;"⟩ ⟨"java/lang/Object", "getClass", "()Ljava/lang/Class;"⟩ : Cond) ∈ GW := gwm 807 (by decide +kernel) (by decide +kernel)
theorem w_808 : (.selects "GemPits$Ground" ⟨"java/lang/Object", "getClass", "()Ljava/lang/Class;"⟩ ⟨"java/lang/Object", "getClass", "()Ljava/lang/Class;"⟩ : Cond) ∈ GW := gwm 808 (by decide +kernel) (by decide +kernel)
theorem w_809 : (.selects "GemPits$Law" ⟨"java/lang/Object", "getClass", "()Ljava/lang/Class;"⟩ ⟨"java/lang/Object", "getClass", "()Ljava/lang/Class;"⟩ : Cond) ∈ GW := gwm 809 (by decide +kernel) (by decide +kernel)
theorem w_810 : (.selects "GemPits$Market" ⟨"java/lang/Object", "getClass", "()Ljava/lang/Class;"⟩ ⟨"java/lang/Object", "getClass", "()Ljava/lang/Class;"⟩ : Cond) ∈ GW := gwm 810 (by decide +kernel) (by decide +kernel)
theorem w_811 : (.selects "GemPits$Pit" ⟨"java/lang/Object", "getClass", "()Ljava/lang/Class;"⟩ ⟨"java/lang/Object", "getClass", "()Ljava/lang/Class;"⟩ : Cond) ∈ GW := gwm 811 (by decide +kernel) (by decide +kernel)
theorem w_812 : (.selects "GemPits$Reader" ⟨"java/lang/Object", "getClass", "()Ljava/lang/Class;"⟩ ⟨"java/lang/Object", "getClass", "()Ljava/lang/Class;"⟩ : Cond) ∈ GW := gwm 812 (by decide +kernel) (by decide +kernel)
theorem w_813 : (.selects "GemPits$Rough" ⟨"java/lang/Object", "getClass", "()Ljava/lang/Class;"⟩ ⟨"java/lang/Object", "getClass", "()Ljava/lang/Class;"⟩ : Cond) ∈ GW := gwm 813 (by decide +kernel) (by decide +kernel)
theorem w_814 : (.selects "GemPits$Stone" ⟨"java/lang/Object", "getClass", "()Ljava/lang/Class;"⟩ ⟨"java/lang/Object", "getClass", "()Ljava/lang/Class;"⟩ : Cond) ∈ GW := gwm 814 (by decide +kernel) (by decide +kernel)
theorem w_815 : (.selects "GemPits$Tape" ⟨"java/lang/Object", "getClass", "()Ljava/lang/Class;"⟩ ⟨"java/lang/Object", "getClass", "()Ljava/lang/Class;"⟩ : Cond) ∈ GW := gwm 815 (by decide +kernel) (by decide +kernel)
theorem w_816 : (.selects "GemPitsModel" ⟨"java/lang/Object", "getClass", "()Ljava/lang/Class;"⟩ ⟨"java/lang/Object", "getClass", "()Ljava/lang/Class;"⟩ : Cond) ∈ GW := gwm 816 (by decide +kernel) (by decide +kernel)
theorem w_817 : (.selects "java/lang/IllegalArgumentException" ⟨"java/lang/Object", "getClass", "()Ljava/lang/Class;"⟩ ⟨"java/lang/Object", "getClass", "()Ljava/lang/Class;"⟩ : Cond) ∈ GW := gwm 817 (by decide +kernel) (by decide +kernel)
theorem w_818 : (.selects "java/lang/IllegalStateException" ⟨"java/lang/Object", "getClass", "()Ljava/lang/Class;"⟩ ⟨"java/lang/Object", "getClass", "()Ljava/lang/Class;"⟩ : Cond) ∈ GW := gwm 818 (by decide +kernel) (by decide +kernel)
theorem w_819 : (.selects "java/lang/IndexOutOfBoundsException" ⟨"java/lang/Object", "getClass", "()Ljava/lang/Class;"⟩ ⟨"java/lang/Object", "getClass", "()Ljava/lang/Class;"⟩ : Cond) ∈ GW := gwm 819 (by decide +kernel) (by decide +kernel)
theorem w_820 : (.selects "java/lang/UnsupportedOperationException" ⟨"java/lang/Object", "getClass", "()Ljava/lang/Class;"⟩ ⟨"java/lang/Object", "getClass", "()Ljava/lang/Class;"⟩ : Cond) ∈ GW := gwm 820 (by decide +kernel) (by decide +kernel)
theorem w_821 : (.selects "java/util/ArrayList" ⟨"java/lang/Object", "getClass", "()Ljava/lang/Class;"⟩ ⟨"java/lang/Object", "getClass", "()Ljava/lang/Class;"⟩ : Cond) ∈ GW := gwm 821 (by decide +kernel) (by decide +kernel)
theorem w_822 : (.selects "java/util/NoSuchElementException" ⟨"java/lang/Object", "getClass", "()Ljava/lang/Class;"⟩ ⟨"java/lang/Object", "getClass", "()Ljava/lang/Class;"⟩ : Cond) ∈ GW := gwm 822 (by decide +kernel) (by decide +kernel)
theorem w_823 : (.native ⟨"java/lang/Object", "getClass", "()Ljava/lang/Class;"⟩ : Cond) ∈ GW := gwm 823 (by decide +kernel) (by decide +kernel)
theorem w_824 : (.methodLink "java/util/Arrays" 300 ⟨"java/util/Arrays", "copyOf", "([Ljava/lang/Object;ILjava/lang/Class;)[Ljava/lang/Object;"⟩ : Cond) ∈ GW := gwm 824 (by decide +kernel) (by decide +kernel)
theorem w_825 : (.static ⟨"java/util/Arrays", "copyOf", "([Ljava/lang/Object;ILjava/lang/Class;)[Ljava/lang/Object;"⟩ : Cond) ∈ GW := gwm 825 (by decide +kernel) (by decide +kernel)
theorem w_826 : (.code ⟨"java/util/Arrays", "copyOf", "([Ljava/lang/Object;ILjava/lang/Class;)[Ljava/lang/Object;"⟩ prog_36_method_120_code 4 (Option.some (.array (.object "java/lang/Object"))) : Cond) ∈ GW := gwm 826 (by decide +kernel) (by decide +kernel)
theorem w_827 : (.classLink "java/util/Arrays" 110 "[Ljava/lang/Object;" : Cond) ∈ GW := gwm 827 (by decide +kernel) (by decide +kernel)
theorem w_829 : (.classLink "java/util/Arrays" 2 "java/lang/Object" : Cond) ∈ GW := gwm 829 (by decide +kernel) (by decide +kernel)
theorem w_830 : (.methodLink "java/util/Arrays" 304 ⟨"java/lang/Math", "min", "(II)I"⟩ : Cond) ∈ GW := gwm 830 (by decide +kernel) (by decide +kernel)
theorem w_831 : (.methodLink "java/util/Arrays" 150 ⟨"java/lang/System", "arraycopy", "(Ljava/lang/Object;ILjava/lang/Object;II)V"⟩ : Cond) ∈ GW := gwm 831 (by decide +kernel) (by decide +kernel)
theorem w_832 : (.static ⟨"java/lang/System", "arraycopy", "(Ljava/lang/Object;ILjava/lang/Object;II)V"⟩ : Cond) ∈ GW := gwm 832 (by decide +kernel) (by decide +kernel)
theorem w_833 : (.native ⟨"java/lang/System", "arraycopy", "(Ljava/lang/Object;ILjava/lang/Object;II)V"⟩ : Cond) ∈ GW := gwm 833 (by decide +kernel) (by decide +kernel)
theorem w_834 : (.methodLink "java/util/ArrayList" 79 ⟨"java/lang/Math", "max", "(II)I"⟩ : Cond) ∈ GW := gwm 834 (by decide +kernel) (by decide +kernel)
theorem w_835 : (.classLink "java/util/ArrayList" 7 "java/lang/Object" : Cond) ∈ GW := gwm 835 (by decide +kernel) (by decide +kernel)
theorem w_836 : (.methodLink "GemPitsLaw" 114 ⟨"GemPitsLaw", "wash", "(LGemPits;II[J)I"⟩ : Cond) ∈ GW := gwm 836 (by decide +kernel) (by decide +kernel)
theorem w_837 : (.static ⟨"GemPitsLaw", "wash", "(LGemPits;II[J)I"⟩ : Cond) ∈ GW := gwm 837 (by decide +kernel) (by decide +kernel)
theorem w_838 : (.codeWith ⟨"GemPitsLaw", "wash", "(LGemPits;II[J)I"⟩ method_7_code 5 (Option.some .int) [(0, 17, 20, 26), (0, 17, 24, 13)] : Cond) ∈ GW := gwm 838 (by decide +kernel) (by decide +kernel)
theorem w_839 : (.methodLink "GemPitsLaw" 30 ⟨"GemPits", "wash", "(II)Z"⟩ : Cond) ∈ GW := gwm 839 (by decide +kernel) (by decide +kernel)
theorem w_840 : (.instanceMethod ⟨"GemPits", "wash", "(II)Z"⟩ : Cond) ∈ GW := gwm 840 (by decide +kernel) (by decide +kernel)
theorem w_841 : (.selects "GemPits" ⟨"GemPits", "wash", "(II)Z"⟩ ⟨"GemPits", "wash", "(II)Z"⟩ : Cond) ∈ GW := gwm 841 (by decide +kernel) (by decide +kernel)
theorem w_842 : (.code ⟨"GemPits", "wash", "(II)Z"⟩ prog_1_method_9_code 4 (Option.some .boolean) : Cond) ∈ GW := gwm 842 (by decide +kernel) (by decide +kernel)
theorem w_843 : (.methodLink "GemPits" 113 ⟨"GemPits", "pitOf", "(I)LGemPits$Pit;"⟩ : Cond) ∈ GW := gwm 843 (by decide +kernel) (by decide +kernel)
theorem w_845 : (.instanceMethod ⟨"GemPits", "pitOf", "(I)LGemPits$Pit;"⟩ : Cond) ∈ GW := gwm 845 (by decide +kernel) (by decide +kernel)
theorem w_846 : (.code ⟨"GemPits", "pitOf", "(I)LGemPits$Pit;"⟩ prog_1_method_26_code 2 (Option.some (.object "GemPits$Pit")) : Cond) ∈ GW := gwm 846 (by decide +kernel) (by decide +kernel)
theorem w_848 : (.methodLink "GemPits" 298 ⟨"GemPits$Ground", "pitAt", "(I)LGemPits$Pit;"⟩ : Cond) ∈ GW := gwm 848 (by decide +kernel) (by decide +kernel)
theorem w_849 : (.instanceMethod ⟨"GemPits$Ground", "pitAt", "(I)LGemPits$Pit;"⟩ : Cond) ∈ GW := gwm 849 (by decide +kernel) (by decide +kernel)
theorem w_850 : (.selects "GemPits$Ground" ⟨"GemPits$Ground", "pitAt", "(I)LGemPits$Pit;"⟩ ⟨"GemPits$Ground", "pitAt", "(I)LGemPits$Pit;"⟩ : Cond) ∈ GW := gwm 850 (by decide +kernel) (by decide +kernel)
theorem w_851 : (.code ⟨"GemPits$Ground", "pitAt", "(I)LGemPits$Pit;"⟩ prog_4_method_8_code 2 (Option.some (.object "GemPits$Pit")) : Cond) ∈ GW := gwm 851 (by decide +kernel) (by decide +kernel)
theorem w_853 : (.methodLink "GemPits" 119 ⟨"GemPits$Ground", "tellFound", "(LGemPits$Pit;I)Z"⟩ : Cond) ∈ GW := gwm 853 (by decide +kernel) (by decide +kernel)
theorem w_854 : (.instanceMethod ⟨"GemPits$Ground", "tellFound", "(LGemPits$Pit;I)Z"⟩ : Cond) ∈ GW := gwm 854 (by decide +kernel) (by decide +kernel)
theorem w_855 : (.selects "GemPits$Ground" ⟨"GemPits$Ground", "tellFound", "(LGemPits$Pit;I)Z"⟩ ⟨"GemPits$Ground", "tellFound", "(LGemPits$Pit;I)Z"⟩ : Cond) ∈ GW := gwm 855 (by decide +kernel) (by decide +kernel)
theorem w_856 : (.code ⟨"GemPits$Ground", "tellFound", "(LGemPits$Pit;I)Z"⟩ prog_4_method_11_code 3 (Option.some .boolean) : Cond) ∈ GW := gwm 856 (by decide +kernel) (by decide +kernel)
theorem w_857 : (.methodLink "GemPitsLaw" 118 ⟨"GemPitsLaw", "fill", "(LGemPits;I[J)I"⟩ : Cond) ∈ GW := gwm 857 (by decide +kernel) (by decide +kernel)
theorem w_858 : (.static ⟨"GemPitsLaw", "fill", "(LGemPits;I[J)I"⟩ : Cond) ∈ GW := gwm 858 (by decide +kernel) (by decide +kernel)
theorem w_859 : (.codeWith ⟨"GemPitsLaw", "fill", "(LGemPits;I[J)I"⟩ method_8_code 4 (Option.some .int) [(0, 16, 19, 26)] : Cond) ∈ GW := gwm 859 (by decide +kernel) (by decide +kernel)
theorem w_860 : (.methodLink "GemPitsLaw" 34 ⟨"GemPits", "fill", "(I)Z"⟩ : Cond) ∈ GW := gwm 860 (by decide +kernel) (by decide +kernel)
theorem w_861 : (.instanceMethod ⟨"GemPits", "fill", "(I)Z"⟩ : Cond) ∈ GW := gwm 861 (by decide +kernel) (by decide +kernel)
theorem w_862 : (.selects "GemPits" ⟨"GemPits", "fill", "(I)Z"⟩ ⟨"GemPits", "fill", "(I)Z"⟩ : Cond) ∈ GW := gwm 862 (by decide +kernel) (by decide +kernel)
theorem w_863 : (.code ⟨"GemPits", "fill", "(I)Z"⟩ prog_1_method_10_code 2 (Option.some .boolean) : Cond) ∈ GW := gwm 863 (by decide +kernel) (by decide +kernel)
theorem w_864 : (.methodLink "GemPits" 126 ⟨"GemPits$Pit", "fillOn", "(I)Z"⟩ : Cond) ∈ GW := gwm 864 (by decide +kernel) (by decide +kernel)
theorem w_865 : (.instanceMethod ⟨"GemPits$Pit", "fillOn", "(I)Z"⟩ : Cond) ∈ GW := gwm 865 (by decide +kernel) (by decide +kernel)
theorem w_866 : (.selects "GemPits$Pit" ⟨"GemPits$Pit", "fillOn", "(I)Z"⟩ ⟨"GemPits$Pit", "fillOn", "(I)Z"⟩ : Cond) ∈ GW := gwm 866 (by decide +kernel) (by decide +kernel)
theorem w_867 : (.code ⟨"GemPits$Pit", "fillOn", "(I)Z"⟩ prog_7_method_3_code 2 (Option.some .boolean) : Cond) ∈ GW := gwm 867 (by decide +kernel) (by decide +kernel)
theorem w_868 : (.methodLink "GemPitsLaw" 121 ⟨"GemPitsLaw", "days", "(LGemPits;I[J)I"⟩ : Cond) ∈ GW := gwm 868 (by decide +kernel) (by decide +kernel)
theorem w_869 : (.static ⟨"GemPitsLaw", "days", "(LGemPits;I[J)I"⟩ : Cond) ∈ GW := gwm 869 (by decide +kernel) (by decide +kernel)
theorem w_870 : (.codeWith ⟨"GemPitsLaw", "days", "(LGemPits;I[J)I"⟩ method_9_code 4 (Option.some .int) [(0, 9, 12, 13)] : Cond) ∈ GW := gwm 870 (by decide +kernel) (by decide +kernel)
theorem w_871 : (.methodLink "GemPitsLaw" 38 ⟨"GemPits", "days", "(I)I"⟩ : Cond) ∈ GW := gwm 871 (by decide +kernel) (by decide +kernel)
theorem w_872 : (.instanceMethod ⟨"GemPits", "days", "(I)I"⟩ : Cond) ∈ GW := gwm 872 (by decide +kernel) (by decide +kernel)
theorem w_873 : (.selects "GemPits" ⟨"GemPits", "days", "(I)I"⟩ ⟨"GemPits", "days", "(I)I"⟩ : Cond) ∈ GW := gwm 873 (by decide +kernel) (by decide +kernel)
theorem w_874 : (.code ⟨"GemPits", "days", "(I)I"⟩ prog_1_method_11_code 2 (Option.some .int) : Cond) ∈ GW := gwm 874 (by decide +kernel) (by decide +kernel)
theorem w_876 : (.methodLink "GemPits" 133 ⟨"GemPits$Ground", "passDays", "(I)V"⟩ : Cond) ∈ GW := gwm 876 (by decide +kernel) (by decide +kernel)
theorem w_877 : (.instanceMethod ⟨"GemPits$Ground", "passDays", "(I)V"⟩ : Cond) ∈ GW := gwm 877 (by decide +kernel) (by decide +kernel)
theorem w_878 : (.selects "GemPits$Ground" ⟨"GemPits$Ground", "passDays", "(I)V"⟩ ⟨"GemPits$Ground", "passDays", "(I)V"⟩ : Cond) ∈ GW := gwm 878 (by decide +kernel) (by decide +kernel)
theorem w_879 : (.code ⟨"GemPits$Ground", "passDays", "(I)V"⟩ prog_4_method_6_code 2 (Option.none : Option Jvm.ClassFile.FieldType) : Cond) ∈ GW := gwm 879 (by decide +kernel) (by decide +kernel)
theorem w_880 : (.methodLink "GemPitsLaw" 124 ⟨"GemPitsLaw", "span", "(LGemPits;IZ[J)I"⟩ : Cond) ∈ GW := gwm 880 (by decide +kernel) (by decide +kernel)
theorem w_881 : (.static ⟨"GemPitsLaw", "span", "(LGemPits;IZ[J)I"⟩ : Cond) ∈ GW := gwm 881 (by decide +kernel) (by decide +kernel)
theorem w_882 : (.codeWith ⟨"GemPitsLaw", "span", "(LGemPits;IZ[J)I"⟩ method_10_code 5 (Option.some .int) [(0, 10, 13, 26)] : Cond) ∈ GW := gwm 882 (by decide +kernel) (by decide +kernel)
theorem w_883 : (.methodLink "GemPitsLaw" 41 ⟨"GemPits", "span", "(IZ)I"⟩ : Cond) ∈ GW := gwm 883 (by decide +kernel) (by decide +kernel)
theorem w_884 : (.instanceMethod ⟨"GemPits", "span", "(IZ)I"⟩ : Cond) ∈ GW := gwm 884 (by decide +kernel) (by decide +kernel)
theorem w_885 : (.selects "GemPits" ⟨"GemPits", "span", "(IZ)I"⟩ ⟨"GemPits", "span", "(IZ)I"⟩ : Cond) ∈ GW := gwm 885 (by decide +kernel) (by decide +kernel)
theorem w_886 : (.code ⟨"GemPits", "span", "(IZ)I"⟩ prog_1_method_12_code 3 (Option.some .int) : Cond) ∈ GW := gwm 886 (by decide +kernel) (by decide +kernel)
theorem w_887 : (.methodLink "GemPits" 136 ⟨"GemPits$Ground", "hasSpan", "(I)Z"⟩ : Cond) ∈ GW := gwm 887 (by decide +kernel) (by decide +kernel)
theorem w_888 : (.methodLink "GemPits" 139 ⟨"GemPits$Ground", "greatestAt", "(I)I"⟩ : Cond) ∈ GW := gwm 888 (by decide +kernel) (by decide +kernel)
theorem w_889 : (.instanceMethod ⟨"GemPits$Ground", "greatestAt", "(I)I"⟩ : Cond) ∈ GW := gwm 889 (by decide +kernel) (by decide +kernel)
theorem w_890 : (.selects "GemPits$Ground" ⟨"GemPits$Ground", "greatestAt", "(I)I"⟩ ⟨"GemPits$Ground", "greatestAt", "(I)I"⟩ : Cond) ∈ GW := gwm 890 (by decide +kernel) (by decide +kernel)
theorem w_891 : (.code ⟨"GemPits$Ground", "greatestAt", "(I)I"⟩ prog_4_method_13_code 2 (Option.some .int) : Cond) ∈ GW := gwm 891 (by decide +kernel) (by decide +kernel)
theorem w_892 : (.methodLink "GemPits" 142 ⟨"GemPits$Ground", "leastAt", "(I)I"⟩ : Cond) ∈ GW := gwm 892 (by decide +kernel) (by decide +kernel)
theorem w_893 : (.instanceMethod ⟨"GemPits$Ground", "leastAt", "(I)I"⟩ : Cond) ∈ GW := gwm 893 (by decide +kernel) (by decide +kernel)
theorem w_894 : (.selects "GemPits$Ground" ⟨"GemPits$Ground", "leastAt", "(I)I"⟩ ⟨"GemPits$Ground", "leastAt", "(I)I"⟩ : Cond) ∈ GW := gwm 894 (by decide +kernel) (by decide +kernel)
theorem w_895 : (.code ⟨"GemPits$Ground", "leastAt", "(I)I"⟩ prog_4_method_12_code 2 (Option.some .int) : Cond) ∈ GW := gwm 895 (by decide +kernel) (by decide +kernel)
theorem w_896 : (.methodLink "GemPitsLaw" 132 ⟨"GemPitsLaw", "look", "(LGemPits;II[J)I"⟩ : Cond) ∈ GW := gwm 896 (by decide +kernel) (by decide +kernel)
theorem w_897 : (.static ⟨"GemPitsLaw", "look", "(LGemPits;II[J)I"⟩ : Cond) ∈ GW := gwm 897 (by decide +kernel) (by decide +kernel)
theorem w_898 : (.codeWith ⟨"GemPitsLaw", "look", "(LGemPits;II[J)I"⟩ method_11_code 5 (Option.some .int) [(0, 10, 13, 26), (0, 10, 17, 49)] : Cond) ∈ GW := gwm 898 (by decide +kernel) (by decide +kernel)
theorem w_899 : (.classLink "GemPitsLaw" 49 "java/util/NoSuchElementException" : Cond) ∈ GW := gwm 899 (by decide +kernel) (by decide +kernel)
theorem w_900 : (.methodLink "GemPitsLaw" 45 ⟨"GemPits", "look", "(II)I"⟩ : Cond) ∈ GW := gwm 900 (by decide +kernel) (by decide +kernel)
theorem w_901 : (.instanceMethod ⟨"GemPits", "look", "(II)I"⟩ : Cond) ∈ GW := gwm 901 (by decide +kernel) (by decide +kernel)
theorem w_902 : (.selects "GemPits" ⟨"GemPits", "look", "(II)I"⟩ ⟨"GemPits", "look", "(II)I"⟩ : Cond) ∈ GW := gwm 902 (by decide +kernel) (by decide +kernel)
theorem w_903 : (.code ⟨"GemPits", "look", "(II)I"⟩ prog_1_method_14_code 4 (Option.some .int) : Cond) ∈ GW := gwm 903 (by decide +kernel) (by decide +kernel)
theorem w_904 : (.methodLink "GemPits" 160 ⟨"GemPits$Pit", "bondState", "(I)I"⟩ : Cond) ∈ GW := gwm 904 (by decide +kernel) (by decide +kernel)
theorem w_905 : (.classLink "GemPits" 166 "java/util/NoSuchElementException" : Cond) ∈ GW := gwm 905 (by decide +kernel) (by decide +kernel)
theorem w_906 : (.instantiable "java/util/NoSuchElementException" 6 : Cond) ∈ GW := gwm 906 (by decide +kernel) (by decide +kernel)
theorem w_908 : (.selects "java/util/NoSuchElementException" ⟨"java/lang/Throwable", "fillInStackTrace", "(I)Ljava/lang/Throwable;"⟩ ⟨"java/lang/Throwable", "fillInStackTrace", "(I)Ljava/lang/Throwable;"⟩ : Cond) ∈ GW := gwm 908 (by decide +kernel) (by decide +kernel)
theorem w_909 : (.lays "java/util/NoSuchElementException" "java/lang/Throwable" "cause" "Ljava/lang/Throwable;" : Cond) ∈ GW := gwm 909 (by decide +kernel) (by decide +kernel)
theorem w_910 : (.lays "java/util/NoSuchElementException" "java/lang/Throwable" "stackTrace" "[Ljava/lang/StackTraceElement;" : Cond) ∈ GW := gwm 910 (by decide +kernel) (by decide +kernel)
theorem w_911 : (.lays "java/util/NoSuchElementException" "java/lang/Throwable" "suppressedExceptions" "Ljava/util/List;" : Cond) ∈ GW := gwm 911 (by decide +kernel) (by decide +kernel)
theorem w_912 : (.lays "java/util/NoSuchElementException" "java/lang/Throwable" "detailMessage" "Ljava/lang/String;" : Cond) ∈ GW := gwm 912 (by decide +kernel) (by decide +kernel)
theorem w_913 : (.lays "java/util/NoSuchElementException" "java/lang/Throwable" "backtrace" "Ljava/lang/Object;" : Cond) ∈ GW := gwm 913 (by decide +kernel) (by decide +kernel)
theorem w_915 : (.methodLink "GemPits" 170 ⟨"java/util/NoSuchElementException", "<init>", "(Ljava/lang/String;)V"⟩ : Cond) ∈ GW := gwm 915 (by decide +kernel) (by decide +kernel)
theorem w_916 : (.instanceMethod ⟨"java/util/NoSuchElementException", "<init>", "(Ljava/lang/String;)V"⟩ : Cond) ∈ GW := gwm 916 (by decide +kernel) (by decide +kernel)
theorem w_917 : (.code ⟨"java/util/NoSuchElementException", "<init>", "(Ljava/lang/String;)V"⟩ prog_39_method_4_code 2 (Option.none : Option Jvm.ClassFile.FieldType) : Cond) ∈ GW := gwm 917 (by decide +kernel) (by decide +kernel)
theorem w_918 : (.methodLink "java/util/NoSuchElementException" 13 ⟨"java/lang/RuntimeException", "<init>", "(Ljava/lang/String;)V"⟩ : Cond) ∈ GW := gwm 918 (by decide +kernel) (by decide +kernel)
theorem w_919 : (.lays "java/util/NoSuchElementException" "java/lang/Throwable" "depth" "I" : Cond) ∈ GW := gwm 919 (by decide +kernel) (by decide +kernel)
theorem w_920 : (.superclass "java/util/NoSuchElementException" "java/lang/RuntimeException" : Cond) ∈ GW := gwm 920 (by decide +kernel) (by decide +kernel)
theorem w_921 : (.methodLink "GemPitsLaw" 135 ⟨"GemPitsLaw", "stone", "(LGemPits;II[J)I"⟩ : Cond) ∈ GW := gwm 921 (by decide +kernel) (by decide +kernel)
theorem w_922 : (.static ⟨"GemPitsLaw", "stone", "(LGemPits;II[J)I"⟩ : Cond) ∈ GW := gwm 922 (by decide +kernel) (by decide +kernel)
theorem w_923 : (.codeWith ⟨"GemPitsLaw", "stone", "(LGemPits;II[J)I"⟩ method_12_code 5 (Option.some .int) [(0, 10, 13, 26), (0, 10, 17, 13), (0, 10, 21, 54), (0, 10, 25, 28)] : Cond) ∈ GW := gwm 923 (by decide +kernel) (by decide +kernel)
theorem w_924 : (.classLink "GemPitsLaw" 54 "java/lang/IllegalStateException" : Cond) ∈ GW := gwm 924 (by decide +kernel) (by decide +kernel)
theorem w_925 : (.methodLink "GemPitsLaw" 51 ⟨"GemPits", "stone", "(II)I"⟩ : Cond) ∈ GW := gwm 925 (by decide +kernel) (by decide +kernel)
theorem w_926 : (.instanceMethod ⟨"GemPits", "stone", "(II)I"⟩ : Cond) ∈ GW := gwm 926 (by decide +kernel) (by decide +kernel)
theorem w_927 : (.selects "GemPits" ⟨"GemPits", "stone", "(II)I"⟩ ⟨"GemPits", "stone", "(II)I"⟩ : Cond) ∈ GW := gwm 927 (by decide +kernel) (by decide +kernel)
theorem w_928 : (.code ⟨"GemPits", "stone", "(II)I"⟩ prog_1_method_15_code 4 (Option.some .int) : Cond) ∈ GW := gwm 928 (by decide +kernel) (by decide +kernel)
theorem w_930 : (.classLink "GemPits" 173 "java/lang/IllegalStateException" : Cond) ∈ GW := gwm 930 (by decide +kernel) (by decide +kernel)
theorem w_931 : (.instantiable "java/lang/IllegalStateException" 6 : Cond) ∈ GW := gwm 931 (by decide +kernel) (by decide +kernel)
theorem w_933 : (.selects "java/lang/IllegalStateException" ⟨"java/lang/Throwable", "fillInStackTrace", "(I)Ljava/lang/Throwable;"⟩ ⟨"java/lang/Throwable", "fillInStackTrace", "(I)Ljava/lang/Throwable;"⟩ : Cond) ∈ GW := gwm 933 (by decide +kernel) (by decide +kernel)
theorem w_934 : (.lays "java/lang/IllegalStateException" "java/lang/Throwable" "cause" "Ljava/lang/Throwable;" : Cond) ∈ GW := gwm 934 (by decide +kernel) (by decide +kernel)
theorem w_935 : (.lays "java/lang/IllegalStateException" "java/lang/Throwable" "stackTrace" "[Ljava/lang/StackTraceElement;" : Cond) ∈ GW := gwm 935 (by decide +kernel) (by decide +kernel)
theorem w_936 : (.lays "java/lang/IllegalStateException" "java/lang/Throwable" "suppressedExceptions" "Ljava/util/List;" : Cond) ∈ GW := gwm 936 (by decide +kernel) (by decide +kernel)
theorem w_937 : (.lays "java/lang/IllegalStateException" "java/lang/Throwable" "detailMessage" "Ljava/lang/String;" : Cond) ∈ GW := gwm 937 (by decide +kernel) (by decide +kernel)
theorem w_938 : (.lays "java/lang/IllegalStateException" "java/lang/Throwable" "backtrace" "Ljava/lang/Object;" : Cond) ∈ GW := gwm 938 (by decide +kernel) (by decide +kernel)
theorem w_940 : (.methodLink "GemPits" 177 ⟨"java/lang/IllegalStateException", "<init>", "(Ljava/lang/String;)V"⟩ : Cond) ∈ GW := gwm 940 (by decide +kernel) (by decide +kernel)
theorem w_941 : (.instanceMethod ⟨"java/lang/IllegalStateException", "<init>", "(Ljava/lang/String;)V"⟩ : Cond) ∈ GW := gwm 941 (by decide +kernel) (by decide +kernel)
theorem w_942 : (.code ⟨"java/lang/IllegalStateException", "<init>", "(Ljava/lang/String;)V"⟩ prog_20_method_2_code 2 (Option.none : Option Jvm.ClassFile.FieldType) : Cond) ∈ GW := gwm 942 (by decide +kernel) (by decide +kernel)
theorem w_943 : (.methodLink "java/lang/IllegalStateException" 7 ⟨"java/lang/RuntimeException", "<init>", "(Ljava/lang/String;)V"⟩ : Cond) ∈ GW := gwm 943 (by decide +kernel) (by decide +kernel)
theorem w_944 : (.lays "java/lang/IllegalStateException" "java/lang/Throwable" "depth" "I" : Cond) ∈ GW := gwm 944 (by decide +kernel) (by decide +kernel)
theorem w_945 : (.superclass "java/lang/IllegalStateException" "java/lang/RuntimeException" : Cond) ∈ GW := gwm 945 (by decide +kernel) (by decide +kernel)
theorem w_947 : (.methodLink "GemPits" 183 ⟨"GemPits$Market", "addStone", "(II)I"⟩ : Cond) ∈ GW := gwm 947 (by decide +kernel) (by decide +kernel)
theorem w_948 : (.instanceMethod ⟨"GemPits$Market", "addStone", "(II)I"⟩ : Cond) ∈ GW := gwm 948 (by decide +kernel) (by decide +kernel)
theorem w_949 : (.selects "GemPits$Market" ⟨"GemPits$Market", "addStone", "(II)I"⟩ ⟨"GemPits$Market", "addStone", "(II)I"⟩ : Cond) ∈ GW := gwm 949 (by decide +kernel) (by decide +kernel)
theorem w_950 : (.code ⟨"GemPits$Market", "addStone", "(II)I"⟩ prog_6_method_5_code 3 (Option.some .int) : Cond) ∈ GW := gwm 950 (by decide +kernel) (by decide +kernel)
theorem w_951 : (.classLink "GemPits$Market" 44 "GemPits$Stone" : Cond) ∈ GW := gwm 951 (by decide +kernel) (by decide +kernel)
theorem w_952 : (.instantiable "GemPits$Stone" 6 : Cond) ∈ GW := gwm 952 (by decide +kernel) (by decide +kernel)
theorem w_953 : (.methodLink "GemPits$Market" 46 ⟨"GemPits$Stone", "<init>", "(II)V"⟩ : Cond) ∈ GW := gwm 953 (by decide +kernel) (by decide +kernel)
theorem w_954 : (.instanceMethod ⟨"GemPits$Stone", "<init>", "(II)V"⟩ : Cond) ∈ GW := gwm 954 (by decide +kernel) (by decide +kernel)
theorem w_955 : (.code ⟨"GemPits$Stone", "<init>", "(II)V"⟩ prog_10_method_1_code 3 (Option.none : Option Jvm.ClassFile.FieldType) : Cond) ∈ GW := gwm 955 (by decide +kernel) (by decide +kernel)
theorem w_956 : (.methodLink "GemPits$Stone" 3 ⟨"java/lang/Object", "<init>", "()V"⟩ : Cond) ∈ GW := gwm 956 (by decide +kernel) (by decide +kernel)
theorem w_957 : (.methodLink "GemPits$Stone" 25 ⟨"java/util/Arrays", "fill", "([II)V"⟩ : Cond) ∈ GW := gwm 957 (by decide +kernel) (by decide +kernel)
theorem w_958 : (.fieldLink "GemPits$Stone" 18 "GemPits$Stone" "pit" "I" : Cond) ∈ GW := gwm 958 (by decide +kernel) (by decide +kernel)
theorem w_959 : (.fieldLink "GemPits" 225 "GemPits$Stone" "pit" "I" : Cond) ∈ GW := gwm 959 (by decide +kernel) (by decide +kernel)
theorem w_960 : (.fieldLink "GemPits$Stone" 22 "GemPits$Stone" "basket" "I" : Cond) ∈ GW := gwm 960 (by decide +kernel) (by decide +kernel)
theorem w_961 : (.fieldLink "GemPits" 228 "GemPits$Stone" "basket" "I" : Cond) ∈ GW := gwm 961 (by decide +kernel) (by decide +kernel)
theorem w_962 : (.fieldLink "GemPits$Stone" 9 "GemPits$Stone" "hands" "[I" : Cond) ∈ GW := gwm 962 (by decide +kernel) (by decide +kernel)
theorem w_963 : (.fieldLink "GemPits$Market" 56 "GemPits$Stone" "hands" "[I" : Cond) ∈ GW := gwm 963 (by decide +kernel) (by decide +kernel)
theorem w_964 : (.fieldLink "GemPits$Stone" 15 "GemPits$Stone" "shares" "[I" : Cond) ∈ GW := gwm 964 (by decide +kernel) (by decide +kernel)
theorem w_965 : (.fieldLink "GemPits$Market" 62 "GemPits$Stone" "shares" "[I" : Cond) ∈ GW := gwm 965 (by decide +kernel) (by decide +kernel)
theorem w_966 : (.fieldLink "GemPits" 239 "GemPits$Stone" "shares" "[I" : Cond) ∈ GW := gwm 966 (by decide +kernel) (by decide +kernel)
theorem w_967 : (.fieldLink "GemPits$Stone" 31 "GemPits$Stone" "buyer" "I" : Cond) ∈ GW := gwm 967 (by decide +kernel) (by decide +kernel)
theorem w_968 : (.fieldLink "GemPits$Market" 53 "GemPits$Stone" "buyer" "I" : Cond) ∈ GW := gwm 968 (by decide +kernel) (by decide +kernel)
theorem w_969 : (.fieldLink "GemPits" 231 "GemPits$Stone" "buyer" "I" : Cond) ∈ GW := gwm 969 (by decide +kernel) (by decide +kernel)
theorem w_970 : (.fieldLink "GemPits$Stone" 34 "GemPits$Stone" "price" "I" : Cond) ∈ GW := gwm 970 (by decide +kernel) (by decide +kernel)
theorem w_971 : (.fieldLink "GemPits$Market" 59 "GemPits$Stone" "price" "I" : Cond) ∈ GW := gwm 971 (by decide +kernel) (by decide +kernel)
theorem w_972 : (.fieldLink "GemPits" 234 "GemPits$Stone" "price" "I" : Cond) ∈ GW := gwm 972 (by decide +kernel) (by decide +kernel)
theorem w_973 : (.laysFinal "GemPits$Stone" "GemPits$Stone" "pit" "I" : Cond) ∈ GW := gwm 973 (by decide +kernel) (by decide +kernel)
theorem w_974 : (.soleField "GemPits$Stone" "pit" : Cond) ∈ GW := gwm 974 (by decide +kernel) (by decide +kernel)
theorem w_975 : (.laysFinal "GemPits$Stone" "GemPits$Stone" "basket" "I" : Cond) ∈ GW := gwm 975 (by decide +kernel) (by decide +kernel)
theorem w_976 : (.soleField "GemPits$Stone" "basket" : Cond) ∈ GW := gwm 976 (by decide +kernel) (by decide +kernel)
theorem w_977 : (.laysFinal "GemPits$Stone" "GemPits$Stone" "hands" "[I" : Cond) ∈ GW := gwm 977 (by decide +kernel) (by decide +kernel)
theorem w_978 : (.soleField "GemPits$Stone" "hands" : Cond) ∈ GW := gwm 978 (by decide +kernel) (by decide +kernel)
theorem w_979 : (.laysFinal "GemPits$Stone" "GemPits$Stone" "shares" "[I" : Cond) ∈ GW := gwm 979 (by decide +kernel) (by decide +kernel)
theorem w_980 : (.soleField "GemPits$Stone" "shares" : Cond) ∈ GW := gwm 980 (by decide +kernel) (by decide +kernel)
theorem w_981 : (.lays "GemPits$Stone" "GemPits$Stone" "buyer" "I" : Cond) ∈ GW := gwm 981 (by decide +kernel) (by decide +kernel)
theorem w_982 : (.soleField "GemPits$Stone" "buyer" : Cond) ∈ GW := gwm 982 (by decide +kernel) (by decide +kernel)
theorem w_983 : (.lays "GemPits$Stone" "GemPits$Stone" "price" "I" : Cond) ∈ GW := gwm 983 (by decide +kernel) (by decide +kernel)
theorem w_984 : (.soleField "GemPits$Stone" "price" : Cond) ∈ GW := gwm 984 (by decide +kernel) (by decide +kernel)
theorem w_985 : (.superclass "GemPits$Stone" "java/lang/Object" : Cond) ∈ GW := gwm 985 (by decide +kernel) (by decide +kernel)
theorem w_986 : (.methodLink "GemPits$Market" 49 ⟨"java/util/ArrayList", "add", "(Ljava/lang/Object;)Z"⟩ : Cond) ∈ GW := gwm 986 (by decide +kernel) (by decide +kernel)
theorem w_987 : (.methodLink "GemPitsLaw" 138 ⟨"GemPitsLaw", "lay", "(LGemPits;I[J)I"⟩ : Cond) ∈ GW := gwm 987 (by decide +kernel) (by decide +kernel)
theorem w_988 : (.static ⟨"GemPitsLaw", "lay", "(LGemPits;I[J)I"⟩ : Cond) ∈ GW := gwm 988 (by decide +kernel) (by decide +kernel)
theorem w_989 : (.codeWith ⟨"GemPitsLaw", "lay", "(LGemPits;I[J)I"⟩ method_13_code 4 (Option.some .int) [(0, 9, 12, 13)] : Cond) ∈ GW := gwm 989 (by decide +kernel) (by decide +kernel)
theorem w_990 : (.methodLink "GemPitsLaw" 56 ⟨"GemPits", "lay", "(I)I"⟩ : Cond) ∈ GW := gwm 990 (by decide +kernel) (by decide +kernel)
theorem w_991 : (.instanceMethod ⟨"GemPits", "lay", "(I)I"⟩ : Cond) ∈ GW := gwm 991 (by decide +kernel) (by decide +kernel)
theorem w_992 : (.selects "GemPits" ⟨"GemPits", "lay", "(I)I"⟩ ⟨"GemPits", "lay", "(I)I"⟩ : Cond) ∈ GW := gwm 992 (by decide +kernel) (by decide +kernel)
theorem w_993 : (.code ⟨"GemPits", "lay", "(I)I"⟩ prog_1_method_16_code 2 (Option.some .int) : Cond) ∈ GW := gwm 993 (by decide +kernel) (by decide +kernel)
theorem w_994 : (.constant "GemPits" 187 (100000 : Int32) : Cond) ∈ GW := gwm 994 (by decide +kernel) (by decide +kernel)
theorem w_995 : (.constant "GemPits" 191 (10000000 : Int32) : Cond) ∈ GW := gwm 995 (by decide +kernel) (by decide +kernel)
theorem w_997 : (.methodLink "GemPits" 194 ⟨"GemPits$Market", "layOut", "(I)V"⟩ : Cond) ∈ GW := gwm 997 (by decide +kernel) (by decide +kernel)
theorem w_998 : (.instanceMethod ⟨"GemPits$Market", "layOut", "(I)V"⟩ : Cond) ∈ GW := gwm 998 (by decide +kernel) (by decide +kernel)
theorem w_999 : (.selects "GemPits$Market" ⟨"GemPits$Market", "layOut", "(I)V"⟩ ⟨"GemPits$Market", "layOut", "(I)V"⟩ : Cond) ∈ GW := gwm 999 (by decide +kernel) (by decide +kernel)
theorem w_1000 : (.code ⟨"GemPits$Market", "layOut", "(I)V"⟩ prog_6_method_8_code 2 (Option.none : Option Jvm.ClassFile.FieldType) : Cond) ∈ GW := gwm 1000 (by decide +kernel) (by decide +kernel)
theorem w_1001 : (.methodLink "GemPitsLaw" 141 ⟨"GemPitsLaw", "hand", "(LGemPits;III[J)I"⟩ : Cond) ∈ GW := gwm 1001 (by decide +kernel) (by decide +kernel)
theorem w_1002 : (.static ⟨"GemPitsLaw", "hand", "(LGemPits;III[J)I"⟩ : Cond) ∈ GW := gwm 1002 (by decide +kernel) (by decide +kernel)
theorem w_1003 : (.codeWith ⟨"GemPitsLaw", "hand", "(LGemPits;III[J)I"⟩ method_14_code 6 (Option.some .int) [(0, 19, 22, 26), (0, 19, 26, 13)] : Cond) ∈ GW := gwm 1003 (by decide +kernel) (by decide +kernel)
theorem w_1004 : (.methodLink "GemPitsLaw" 59 ⟨"GemPits", "hand", "(III)Z"⟩ : Cond) ∈ GW := gwm 1004 (by decide +kernel) (by decide +kernel)
theorem w_1005 : (.instanceMethod ⟨"GemPits", "hand", "(III)Z"⟩ : Cond) ∈ GW := gwm 1005 (by decide +kernel) (by decide +kernel)
theorem w_1006 : (.selects "GemPits" ⟨"GemPits", "hand", "(III)Z"⟩ ⟨"GemPits", "hand", "(III)Z"⟩ : Cond) ∈ GW := gwm 1006 (by decide +kernel) (by decide +kernel)
theorem w_1007 : (.code ⟨"GemPits", "hand", "(III)Z"⟩ prog_1_method_17_code 5 (Option.some .boolean) : Cond) ∈ GW := gwm 1007 (by decide +kernel) (by decide +kernel)
theorem w_1008 : (.methodLink "GemPits" 197 ⟨"GemPits", "stoneOf", "(I)LGemPits$Stone;"⟩ : Cond) ∈ GW := gwm 1008 (by decide +kernel) (by decide +kernel)
theorem w_1010 : (.instanceMethod ⟨"GemPits", "stoneOf", "(I)LGemPits$Stone;"⟩ : Cond) ∈ GW := gwm 1010 (by decide +kernel) (by decide +kernel)
theorem w_1011 : (.code ⟨"GemPits", "stoneOf", "(I)LGemPits$Stone;"⟩ prog_1_method_27_code 2 (Option.some (.object "GemPits$Stone")) : Cond) ∈ GW := gwm 1011 (by decide +kernel) (by decide +kernel)
theorem w_1013 : (.methodLink "GemPits" 303 ⟨"GemPits$Market", "stoneAt", "(I)LGemPits$Stone;"⟩ : Cond) ∈ GW := gwm 1013 (by decide +kernel) (by decide +kernel)
theorem w_1014 : (.instanceMethod ⟨"GemPits$Market", "stoneAt", "(I)LGemPits$Stone;"⟩ : Cond) ∈ GW := gwm 1014 (by decide +kernel) (by decide +kernel)
theorem w_1015 : (.selects "GemPits$Market" ⟨"GemPits$Market", "stoneAt", "(I)LGemPits$Stone;"⟩ ⟨"GemPits$Market", "stoneAt", "(I)LGemPits$Stone;"⟩ : Cond) ∈ GW := gwm 1015 (by decide +kernel) (by decide +kernel)
theorem w_1016 : (.code ⟨"GemPits$Market", "stoneAt", "(I)LGemPits$Stone;"⟩ prog_6_method_4_code 2 (Option.some (.object "GemPits$Stone")) : Cond) ∈ GW := gwm 1016 (by decide +kernel) (by decide +kernel)
theorem w_1017 : (.methodLink "GemPits$Market" 40 ⟨"java/util/ArrayList", "get", "(I)Ljava/lang/Object;"⟩ : Cond) ∈ GW := gwm 1017 (by decide +kernel) (by decide +kernel)
theorem w_1019 : (.methodLink "GemPits" 206 ⟨"GemPits", "checkMoney", "(I)V"⟩ : Cond) ∈ GW := gwm 1019 (by decide +kernel) (by decide +kernel)
theorem w_1020 : (.static ⟨"GemPits", "checkMoney", "(I)V"⟩ : Cond) ∈ GW := gwm 1020 (by decide +kernel) (by decide +kernel)
theorem w_1021 : (.code ⟨"GemPits", "checkMoney", "(I)V"⟩ prog_1_method_29_code 1 (Option.none : Option Jvm.ClassFile.FieldType) : Cond) ∈ GW := gwm 1021 (by decide +kernel) (by decide +kernel)
theorem w_1022 : (.constant "GemPits" 308 (1000000 : Int32) : Cond) ∈ GW := gwm 1022 (by decide +kernel) (by decide +kernel)
theorem w_1024 : (.methodLink "GemPits" 209 ⟨"GemPits$Stone", "takeHand", "(II)Z"⟩ : Cond) ∈ GW := gwm 1024 (by decide +kernel) (by decide +kernel)
theorem w_1025 : (.instanceMethod ⟨"GemPits$Stone", "takeHand", "(II)Z"⟩ : Cond) ∈ GW := gwm 1025 (by decide +kernel) (by decide +kernel)
theorem w_1026 : (.selects "GemPits$Stone" ⟨"GemPits$Stone", "takeHand", "(II)Z"⟩ ⟨"GemPits$Stone", "takeHand", "(II)Z"⟩ : Cond) ∈ GW := gwm 1026 (by decide +kernel) (by decide +kernel)
theorem w_1027 : (.code ⟨"GemPits$Stone", "takeHand", "(II)Z"⟩ prog_10_method_3_code 3 (Option.some .boolean) : Cond) ∈ GW := gwm 1027 (by decide +kernel) (by decide +kernel)
theorem w_1028 : (.methodLink "GemPits$Stone" 37 ⟨"GemPits$Stone", "isSold", "()Z"⟩ : Cond) ∈ GW := gwm 1028 (by decide +kernel) (by decide +kernel)
theorem w_1029 : (.instanceMethod ⟨"GemPits$Stone", "isSold", "()Z"⟩ : Cond) ∈ GW := gwm 1029 (by decide +kernel) (by decide +kernel)
theorem w_1030 : (.selects "GemPits$Stone" ⟨"GemPits$Stone", "isSold", "()Z"⟩ ⟨"GemPits$Stone", "isSold", "()Z"⟩ : Cond) ∈ GW := gwm 1030 (by decide +kernel) (by decide +kernel)
theorem w_1031 : (.code ⟨"GemPits$Stone", "isSold", "()Z"⟩ prog_10_method_2_code 1 (Option.some .boolean) : Cond) ∈ GW := gwm 1031 (by decide +kernel) (by decide +kernel)
theorem w_1032 : (.methodLink "GemPitsLaw" 145 ⟨"GemPitsLaw", "sell", "(LGemPits;II[J)I"⟩ : Cond) ∈ GW := gwm 1032 (by decide +kernel) (by decide +kernel)
theorem w_1033 : (.static ⟨"GemPitsLaw", "sell", "(LGemPits;II[J)I"⟩ : Cond) ∈ GW := gwm 1033 (by decide +kernel) (by decide +kernel)
theorem w_1034 : (.codeWith ⟨"GemPitsLaw", "sell", "(LGemPits;II[J)I"⟩ method_15_code 5 (Option.some .int) [(0, 10, 13, 26), (0, 10, 17, 13)] : Cond) ∈ GW := gwm 1034 (by decide +kernel) (by decide +kernel)
theorem w_1035 : (.methodLink "GemPitsLaw" 63 ⟨"GemPits", "sell", "(II)I"⟩ : Cond) ∈ GW := gwm 1035 (by decide +kernel) (by decide +kernel)
theorem w_1036 : (.instanceMethod ⟨"GemPits", "sell", "(II)I"⟩ : Cond) ∈ GW := gwm 1036 (by decide +kernel) (by decide +kernel)
theorem w_1037 : (.selects "GemPits" ⟨"GemPits", "sell", "(II)I"⟩ ⟨"GemPits", "sell", "(II)I"⟩ : Cond) ∈ GW := gwm 1037 (by decide +kernel) (by decide +kernel)
theorem w_1038 : (.code ⟨"GemPits", "sell", "(II)I"⟩ prog_1_method_18_code 5 (Option.some .int) : Cond) ∈ GW := gwm 1038 (by decide +kernel) (by decide +kernel)
theorem w_1039 : (.methodLink "GemPits" 215 ⟨"GemPits$Stone", "isSold", "()Z"⟩ : Cond) ∈ GW := gwm 1039 (by decide +kernel) (by decide +kernel)
theorem w_1040 : (.methodLink "GemPits" 218 ⟨"GemPits$Stone", "buyerFor", "(I)I"⟩ : Cond) ∈ GW := gwm 1040 (by decide +kernel) (by decide +kernel)
theorem w_1041 : (.instanceMethod ⟨"GemPits$Stone", "buyerFor", "(I)I"⟩ : Cond) ∈ GW := gwm 1041 (by decide +kernel) (by decide +kernel)
theorem w_1042 : (.selects "GemPits$Stone" ⟨"GemPits$Stone", "buyerFor", "(I)I"⟩ ⟨"GemPits$Stone", "buyerFor", "(I)I"⟩ : Cond) ∈ GW := gwm 1042 (by decide +kernel) (by decide +kernel)
theorem w_1043 : (.code ⟨"GemPits$Stone", "buyerFor", "(I)I"⟩ prog_10_method_4_code 5 (Option.some .int) : Cond) ∈ GW := gwm 1043 (by decide +kernel) (by decide +kernel)
theorem w_1044 : (.methodLink "GemPits" 221 ⟨"GemPits$Market", "sellTo", "(LGemPits$Stone;I)V"⟩ : Cond) ∈ GW := gwm 1044 (by decide +kernel) (by decide +kernel)
theorem w_1045 : (.instanceMethod ⟨"GemPits$Market", "sellTo", "(LGemPits$Stone;I)V"⟩ : Cond) ∈ GW := gwm 1045 (by decide +kernel) (by decide +kernel)
theorem w_1046 : (.selects "GemPits$Market" ⟨"GemPits$Market", "sellTo", "(LGemPits$Stone;I)V"⟩ ⟨"GemPits$Market", "sellTo", "(LGemPits$Stone;I)V"⟩ : Cond) ∈ GW := gwm 1046 (by decide +kernel) (by decide +kernel)
theorem w_1047 : (.code ⟨"GemPits$Market", "sellTo", "(LGemPits$Stone;I)V"⟩ prog_6_method_10_code 4 (Option.none : Option Jvm.ClassFile.FieldType) : Cond) ∈ GW := gwm 1047 (by decide +kernel) (by decide +kernel)
theorem w_1048 : (.methodLink "GemPits$Market" 65 ⟨"GemPits$Agreement", "partPrice", "(III[I)V"⟩ : Cond) ∈ GW := gwm 1048 (by decide +kernel) (by decide +kernel)
theorem w_1049 : (.instanceMethod ⟨"GemPits$Agreement", "partPrice", "(III[I)V"⟩ : Cond) ∈ GW := gwm 1049 (by decide +kernel) (by decide +kernel)
theorem w_1050 : (.selects "GemPits$Agreement" ⟨"GemPits$Agreement", "partPrice", "(III[I)V"⟩ ⟨"GemPits$Agreement", "partPrice", "(III[I)V"⟩ : Cond) ∈ GW := gwm 1050 (by decide +kernel) (by decide +kernel)
theorem w_1051 : (.code ⟨"GemPits$Agreement", "partPrice", "(III[I)V"⟩ prog_2_method_4_code 7 (Option.none : Option Jvm.ClassFile.FieldType) : Cond) ∈ GW := gwm 1051 (by decide +kernel) (by decide +kernel)
theorem w_1052 : (.methodLink "GemPits$Agreement" 56 ⟨"java/lang/Math", "min", "(II)I"⟩ : Cond) ∈ GW := gwm 1052 (by decide +kernel) (by decide +kernel)
theorem w_1053 : (.methodLink "GemPits$Agreement" 61 ⟨"java/lang/Math", "max", "(II)I"⟩ : Cond) ∈ GW := gwm 1053 (by decide +kernel) (by decide +kernel)
theorem w_1054 : (.methodLink "GemPits$Agreement" 64 ⟨"GemPits$Agreement", "shareOf", "(II)I"⟩ : Cond) ∈ GW := gwm 1054 (by decide +kernel) (by decide +kernel)
theorem w_1056 : (.instanceMethod ⟨"GemPits$Agreement", "shareOf", "(II)I"⟩ : Cond) ∈ GW := gwm 1056 (by decide +kernel) (by decide +kernel)
theorem w_1057 : (.code ⟨"GemPits$Agreement", "shareOf", "(II)I"⟩ prog_2_method_5_code 3 (Option.some .int) : Cond) ∈ GW := gwm 1057 (by decide +kernel) (by decide +kernel)
theorem w_1058 : (.methodLink "GemPitsLaw" 148 ⟨"GemPitsLaw", "part", "(LGemPits;II[J)I"⟩ : Cond) ∈ GW := gwm 1058 (by decide +kernel) (by decide +kernel)
theorem w_1059 : (.static ⟨"GemPitsLaw", "part", "(LGemPits;II[J)I"⟩ : Cond) ∈ GW := gwm 1059 (by decide +kernel) (by decide +kernel)
theorem w_1060 : (.codeWith ⟨"GemPitsLaw", "part", "(LGemPits;II[J)I"⟩ method_16_code 5 (Option.some .int) [(0, 10, 13, 26), (0, 10, 17, 49)] : Cond) ∈ GW := gwm 1060 (by decide +kernel) (by decide +kernel)
theorem w_1061 : (.methodLink "GemPitsLaw" 66 ⟨"GemPits", "part", "(II)I"⟩ : Cond) ∈ GW := gwm 1061 (by decide +kernel) (by decide +kernel)
theorem w_1062 : (.instanceMethod ⟨"GemPits", "part", "(II)I"⟩ : Cond) ∈ GW := gwm 1062 (by decide +kernel) (by decide +kernel)
theorem w_1063 : (.selects "GemPits" ⟨"GemPits", "part", "(II)I"⟩ ⟨"GemPits", "part", "(II)I"⟩ : Cond) ∈ GW := gwm 1063 (by decide +kernel) (by decide +kernel)
theorem w_1064 : (.code ⟨"GemPits", "part", "(II)I"⟩ prog_1_method_19_code 4 (Option.some .int) : Cond) ∈ GW := gwm 1064 (by decide +kernel) (by decide +kernel)
theorem w_1066 : (.methodLink "GemPitsLaw" 151 ⟨"GemPitsLaw", "rough", "(LGemPits;II)I"⟩ : Cond) ∈ GW := gwm 1066 (by decide +kernel) (by decide +kernel)
theorem w_1067 : (.static ⟨"GemPitsLaw", "rough", "(LGemPits;II)I"⟩ : Cond) ∈ GW := gwm 1067 (by decide +kernel) (by decide +kernel)
theorem w_1068 : (.codeWith ⟨"GemPitsLaw", "rough", "(LGemPits;II)I"⟩ method_17_code 4 (Option.some .int) [(0, 6, 9, 13)] : Cond) ∈ GW := gwm 1068 (by decide +kernel) (by decide +kernel)
theorem w_1069 : (.methodLink "GemPitsLaw" 69 ⟨"GemPits", "rough", "(II)V"⟩ : Cond) ∈ GW := gwm 1069 (by decide +kernel) (by decide +kernel)
theorem w_1070 : (.instanceMethod ⟨"GemPits", "rough", "(II)V"⟩ : Cond) ∈ GW := gwm 1070 (by decide +kernel) (by decide +kernel)
theorem w_1071 : (.selects "GemPits" ⟨"GemPits", "rough", "(II)V"⟩ ⟨"GemPits", "rough", "(II)V"⟩ : Cond) ∈ GW := gwm 1071 (by decide +kernel) (by decide +kernel)
theorem w_1072 : (.code ⟨"GemPits", "rough", "(II)V"⟩ prog_1_method_20_code 3 (Option.none : Option Jvm.ClassFile.FieldType) : Cond) ∈ GW := gwm 1072 (by decide +kernel) (by decide +kernel)
theorem w_1074 : (.methodLink "GemPits" 245 ⟨"GemPits$Rough", "begin", "(II)V"⟩ : Cond) ∈ GW := gwm 1074 (by decide +kernel) (by decide +kernel)
theorem w_1075 : (.instanceMethod ⟨"GemPits$Rough", "begin", "(II)V"⟩ : Cond) ∈ GW := gwm 1075 (by decide +kernel) (by decide +kernel)
theorem w_1076 : (.selects "GemPits$Rough" ⟨"GemPits$Rough", "begin", "(II)V"⟩ ⟨"GemPits$Rough", "begin", "(II)V"⟩ : Cond) ∈ GW := gwm 1076 (by decide +kernel) (by decide +kernel)
theorem w_1077 : (.code ⟨"GemPits$Rough", "begin", "(II)V"⟩ prog_9_method_2_code 4 (Option.none : Option Jvm.ClassFile.FieldType) : Cond) ∈ GW := gwm 1077 (by decide +kernel) (by decide +kernel)
theorem w_1078 : (.methodLink "GemPitsLaw" 155 ⟨"GemPitsLaw", "flaw", "(LGemPits;IIZ[J)I"⟩ : Cond) ∈ GW := gwm 1078 (by decide +kernel) (by decide +kernel)
theorem w_1079 : (.static ⟨"GemPitsLaw", "flaw", "(LGemPits;IIZ[J)I"⟩ : Cond) ∈ GW := gwm 1079 (by decide +kernel) (by decide +kernel)
theorem w_1080 : (.codeWith ⟨"GemPitsLaw", "flaw", "(LGemPits;IIZ[J)I"⟩ method_18_code 6 (Option.some .int) [(0, 19, 22, 26)] : Cond) ∈ GW := gwm 1080 (by decide +kernel) (by decide +kernel)
theorem w_1081 : (.methodLink "GemPitsLaw" 73 ⟨"GemPits", "flaw", "(IIZ)Z"⟩ : Cond) ∈ GW := gwm 1081 (by decide +kernel) (by decide +kernel)
theorem w_1082 : (.instanceMethod ⟨"GemPits", "flaw", "(IIZ)Z"⟩ : Cond) ∈ GW := gwm 1082 (by decide +kernel) (by decide +kernel)
theorem w_1083 : (.selects "GemPits" ⟨"GemPits", "flaw", "(IIZ)Z"⟩ ⟨"GemPits", "flaw", "(IIZ)Z"⟩ : Cond) ∈ GW := gwm 1083 (by decide +kernel) (by decide +kernel)
theorem w_1084 : (.code ⟨"GemPits", "flaw", "(IIZ)Z"⟩ prog_1_method_21_code 4 (Option.some .boolean) : Cond) ∈ GW := gwm 1084 (by decide +kernel) (by decide +kernel)
theorem w_1085 : (.methodLink "GemPits" 249 ⟨"GemPits$Rough", "hasCell", "(II)Z"⟩ : Cond) ∈ GW := gwm 1085 (by decide +kernel) (by decide +kernel)
theorem w_1086 : (.instanceMethod ⟨"GemPits$Rough", "hasCell", "(II)Z"⟩ : Cond) ∈ GW := gwm 1086 (by decide +kernel) (by decide +kernel)
theorem w_1087 : (.selects "GemPits$Rough" ⟨"GemPits$Rough", "hasCell", "(II)Z"⟩ ⟨"GemPits$Rough", "hasCell", "(II)Z"⟩ : Cond) ∈ GW := gwm 1087 (by decide +kernel) (by decide +kernel)
theorem w_1088 : (.code ⟨"GemPits$Rough", "hasCell", "(II)Z"⟩ prog_9_method_3_code 3 (Option.some .boolean) : Cond) ∈ GW := gwm 1088 (by decide +kernel) (by decide +kernel)
theorem w_1090 : (.methodLink "GemPits" 254 ⟨"GemPits$Rough", "setFlaw", "(IIZ)Z"⟩ : Cond) ∈ GW := gwm 1090 (by decide +kernel) (by decide +kernel)
theorem w_1091 : (.instanceMethod ⟨"GemPits$Rough", "setFlaw", "(IIZ)Z"⟩ : Cond) ∈ GW := gwm 1091 (by decide +kernel) (by decide +kernel)
theorem w_1092 : (.selects "GemPits$Rough" ⟨"GemPits$Rough", "setFlaw", "(IIZ)Z"⟩ ⟨"GemPits$Rough", "setFlaw", "(IIZ)Z"⟩ : Cond) ∈ GW := gwm 1092 (by decide +kernel) (by decide +kernel)
theorem w_1093 : (.code ⟨"GemPits$Rough", "setFlaw", "(IIZ)Z"⟩ prog_9_method_4_code 5 (Option.some .boolean) : Cond) ∈ GW := gwm 1093 (by decide +kernel) (by decide +kernel)
theorem w_1094 : (.classLink "GemPitsLaw" 78 "GemPitsModel" : Cond) ∈ GW := gwm 1094 (by decide +kernel) (by decide +kernel)
theorem w_1095 : (.instantiable "GemPitsModel" 31 : Cond) ∈ GW := gwm 1095 (by decide +kernel) (by decide +kernel)
theorem w_1096 : (.methodLink "GemPitsLaw" 80 ⟨"GemPitsModel", "<init>", "()V"⟩ : Cond) ∈ GW := gwm 1096 (by decide +kernel) (by decide +kernel)
theorem w_1097 : (.instanceMethod ⟨"GemPitsModel", "<init>", "()V"⟩ : Cond) ∈ GW := gwm 1097 (by decide +kernel) (by decide +kernel)
theorem w_1098 : (.code ⟨"GemPitsModel", "<init>", "()V"⟩ prog_13_method_1_code 1 (Option.none : Option Jvm.ClassFile.FieldType) : Cond) ∈ GW := gwm 1098 (by decide +kernel) (by decide +kernel)
theorem w_1099 : (.methodLink "GemPitsModel" 1 ⟨"java/lang/Object", "<init>", "()V"⟩ : Cond) ∈ GW := gwm 1099 (by decide +kernel) (by decide +kernel)
theorem w_1100 : (.fieldLink "GemPitsModel" 76 "GemPitsModel" "thrown" "I" : Cond) ∈ GW := gwm 1100 (by decide +kernel) (by decide +kernel)
theorem w_1101 : (.fieldLink "GemPitsModel" 189 "GemPitsModel" "today" "I" : Cond) ∈ GW := gwm 1101 (by decide +kernel) (by decide +kernel)
theorem w_1102 : (.fieldLink "GemPitsModel" 7 "GemPitsModel" "step" "I" : Cond) ∈ GW := gwm 1102 (by decide +kernel) (by decide +kernel)
theorem w_1103 : (.fieldLink "GemPitsModel" 13 "GemPitsModel" "square" "[I" : Cond) ∈ GW := gwm 1103 (by decide +kernel) (by decide +kernel)
theorem w_1104 : (.fieldLink "GemPitsModel" 17 "GemPitsModel" "sunk" "[I" : Cond) ∈ GW := gwm 1104 (by decide +kernel) (by decide +kernel)
theorem w_1105 : (.fieldLink "GemPitsModel" 20 "GemPitsModel" "found" "[I" : Cond) ∈ GW := gwm 1105 (by decide +kernel) (by decide +kernel)
theorem w_1106 : (.fieldLink "GemPitsModel" 23 "GemPitsModel" "filled" "[I" : Cond) ∈ GW := gwm 1106 (by decide +kernel) (by decide +kernel)
theorem w_1107 : (.fieldLink "GemPitsModel" 26 "GemPitsModel" "fillBy" "[I" : Cond) ∈ GW := gwm 1107 (by decide +kernel) (by decide +kernel)
theorem w_1108 : (.fieldLink "GemPitsModel" 29 "GemPitsModel" "bond" "[I" : Cond) ∈ GW := gwm 1108 (by decide +kernel) (by decide +kernel)
theorem w_1109 : (.fieldLink "GemPitsModel" 83 "GemPitsModel" "pits" "I" : Cond) ∈ GW := gwm 1109 (by decide +kernel) (by decide +kernel)
theorem w_1110 : (.fieldLink "GemPitsModel" 32 "GemPitsModel" "law" "[I" : Cond) ∈ GW := gwm 1110 (by decide +kernel) (by decide +kernel)
theorem w_1111 : (.fieldLink "GemPitsModel" 35 "GemPitsModel" "agreed" "[I" : Cond) ∈ GW := gwm 1111 (by decide +kernel) (by decide +kernel)
theorem w_1112 : (.fieldLink "GemPitsModel" 38 "GemPitsModel" "draft" "[I" : Cond) ∈ GW := gwm 1112 (by decide +kernel) (by decide +kernel)
theorem w_1113 : (.fieldLink "GemPitsModel" 166 "GemPitsModel" "isAgreed" "Z" : Cond) ∈ GW := gwm 1113 (by decide +kernel) (by decide +kernel)
theorem w_1114 : (.fieldLink "GemPitsModel" 41 "GemPitsModel" "tape" "[B" : Cond) ∈ GW := gwm 1114 (by decide +kernel) (by decide +kernel)
theorem w_1115 : (.fieldLink "GemPitsModel" 89 "GemPitsModel" "taped" "I" : Cond) ∈ GW := gwm 1115 (by decide +kernel) (by decide +kernel)
theorem w_1116 : (.fieldLink "GemPitsModel" 92 "GemPitsModel" "point" "I" : Cond) ∈ GW := gwm 1116 (by decide +kernel) (by decide +kernel)
theorem w_1117 : (.fieldLink "GemPitsModel" 95 "GemPitsModel" "end" "I" : Cond) ∈ GW := gwm 1117 (by decide +kernel) (by decide +kernel)
theorem w_1118 : (.fieldLink "GemPitsModel" 102 "GemPitsModel" "begin" "I" : Cond) ∈ GW := gwm 1118 (by decide +kernel) (by decide +kernel)
theorem w_1119 : (.fieldLink "GemPitsModel" 45 "GemPitsModel" "faultAt" "I" : Cond) ∈ GW := gwm 1119 (by decide +kernel) (by decide +kernel)
theorem w_1120 : (.fieldLink "GemPitsModel" 48 "GemPitsModel" "five" "[I" : Cond) ∈ GW := gwm 1120 (by decide +kernel) (by decide +kernel)
theorem w_1121 : (.fieldLink "GemPitsModel" 51 "GemPitsModel" "stone" "[I" : Cond) ∈ GW := gwm 1121 (by decide +kernel) (by decide +kernel)
theorem w_1122 : (.fieldLink "GemPitsModel" 54 "GemPitsModel" "hand" "[I" : Cond) ∈ GW := gwm 1122 (by decide +kernel) (by decide +kernel)
theorem w_1123 : (.fieldLink "GemPitsModel" 86 "GemPitsModel" "stones" "I" : Cond) ∈ GW := gwm 1123 (by decide +kernel) (by decide +kernel)
theorem w_1124 : (.fieldLink "GemPitsModel" 206 "GemPitsModel" "costs" "I" : Cond) ∈ GW := gwm 1124 (by decide +kernel) (by decide +kernel)
theorem w_1125 : (.fieldLink "GemPitsModel" 57 "GemPitsModel" "had" "[I" : Cond) ∈ GW := gwm 1125 (by decide +kernel) (by decide +kernel)
theorem w_1126 : (.fieldLink "GemPitsModel" 60 "GemPitsModel" "wide" "I" : Cond) ∈ GW := gwm 1126 (by decide +kernel) (by decide +kernel)
theorem w_1127 : (.fieldLink "GemPitsModel" 63 "GemPitsModel" "high" "I" : Cond) ∈ GW := gwm 1127 (by decide +kernel) (by decide +kernel)
theorem w_1128 : (.fieldLink "GemPitsModel" 66 "GemPitsModel" "isFlaw" "[Z" : Cond) ∈ GW := gwm 1128 (by decide +kernel) (by decide +kernel)
theorem w_1129 : (.fieldLink "GemPitsModel" 70 "GemPitsModel" "worth" "[I" : Cond) ∈ GW := gwm 1129 (by decide +kernel) (by decide +kernel)
theorem w_1130 : (.fieldLink "GemPitsModel" 73 "GemPitsModel" "cuts" "[I" : Cond) ∈ GW := gwm 1130 (by decide +kernel) (by decide +kernel)
theorem w_1131 : (.lays "GemPitsModel" "GemPitsModel" "thrown" "I" : Cond) ∈ GW := gwm 1131 (by decide +kernel) (by decide +kernel)
theorem w_1132 : (.soleField "GemPitsModel" "thrown" : Cond) ∈ GW := gwm 1132 (by decide +kernel) (by decide +kernel)
theorem w_1133 : (.lays "GemPitsModel" "GemPitsModel" "today" "I" : Cond) ∈ GW := gwm 1133 (by decide +kernel) (by decide +kernel)
theorem w_1134 : (.soleField "GemPitsModel" "today" : Cond) ∈ GW := gwm 1134 (by decide +kernel) (by decide +kernel)
theorem w_1135 : (.lays "GemPitsModel" "GemPitsModel" "step" "I" : Cond) ∈ GW := gwm 1135 (by decide +kernel) (by decide +kernel)
theorem w_1136 : (.soleField "GemPitsModel" "step" : Cond) ∈ GW := gwm 1136 (by decide +kernel) (by decide +kernel)
theorem w_1137 : (.laysFinal "GemPitsModel" "GemPitsModel" "square" "[I" : Cond) ∈ GW := gwm 1137 (by decide +kernel) (by decide +kernel)
theorem w_1138 : (.soleField "GemPitsModel" "square" : Cond) ∈ GW := gwm 1138 (by decide +kernel) (by decide +kernel)
theorem w_1139 : (.laysFinal "GemPitsModel" "GemPitsModel" "sunk" "[I" : Cond) ∈ GW := gwm 1139 (by decide +kernel) (by decide +kernel)
theorem w_1140 : (.soleField "GemPitsModel" "sunk" : Cond) ∈ GW := gwm 1140 (by decide +kernel) (by decide +kernel)
theorem w_1141 : (.laysFinal "GemPitsModel" "GemPitsModel" "found" "[I" : Cond) ∈ GW := gwm 1141 (by decide +kernel) (by decide +kernel)
theorem w_1142 : (.soleField "GemPitsModel" "found" : Cond) ∈ GW := gwm 1142 (by decide +kernel) (by decide +kernel)
theorem w_1143 : (.laysFinal "GemPitsModel" "GemPitsModel" "filled" "[I" : Cond) ∈ GW := gwm 1143 (by decide +kernel) (by decide +kernel)
theorem w_1144 : (.soleField "GemPitsModel" "filled" : Cond) ∈ GW := gwm 1144 (by decide +kernel) (by decide +kernel)
theorem w_1145 : (.laysFinal "GemPitsModel" "GemPitsModel" "fillBy" "[I" : Cond) ∈ GW := gwm 1145 (by decide +kernel) (by decide +kernel)
theorem w_1146 : (.soleField "GemPitsModel" "fillBy" : Cond) ∈ GW := gwm 1146 (by decide +kernel) (by decide +kernel)
theorem w_1147 : (.laysFinal "GemPitsModel" "GemPitsModel" "bond" "[I" : Cond) ∈ GW := gwm 1147 (by decide +kernel) (by decide +kernel)
theorem w_1148 : (.soleField "GemPitsModel" "bond" : Cond) ∈ GW := gwm 1148 (by decide +kernel) (by decide +kernel)
theorem w_1149 : (.lays "GemPitsModel" "GemPitsModel" "pits" "I" : Cond) ∈ GW := gwm 1149 (by decide +kernel) (by decide +kernel)
theorem w_1150 : (.soleField "GemPitsModel" "pits" : Cond) ∈ GW := gwm 1150 (by decide +kernel) (by decide +kernel)
theorem w_1151 : (.laysFinal "GemPitsModel" "GemPitsModel" "law" "[I" : Cond) ∈ GW := gwm 1151 (by decide +kernel) (by decide +kernel)
theorem w_1152 : (.soleField "GemPitsModel" "law" : Cond) ∈ GW := gwm 1152 (by decide +kernel) (by decide +kernel)
theorem w_1153 : (.laysFinal "GemPitsModel" "GemPitsModel" "agreed" "[I" : Cond) ∈ GW := gwm 1153 (by decide +kernel) (by decide +kernel)
theorem w_1154 : (.soleField "GemPitsModel" "agreed" : Cond) ∈ GW := gwm 1154 (by decide +kernel) (by decide +kernel)
theorem w_1155 : (.laysFinal "GemPitsModel" "GemPitsModel" "draft" "[I" : Cond) ∈ GW := gwm 1155 (by decide +kernel) (by decide +kernel)
theorem w_1156 : (.soleField "GemPitsModel" "draft" : Cond) ∈ GW := gwm 1156 (by decide +kernel) (by decide +kernel)
theorem w_1157 : (.lays "GemPitsModel" "GemPitsModel" "isAgreed" "Z" : Cond) ∈ GW := gwm 1157 (by decide +kernel) (by decide +kernel)
theorem w_1158 : (.soleField "GemPitsModel" "isAgreed" : Cond) ∈ GW := gwm 1158 (by decide +kernel) (by decide +kernel)
theorem w_1159 : (.laysFinal "GemPitsModel" "GemPitsModel" "tape" "[B" : Cond) ∈ GW := gwm 1159 (by decide +kernel) (by decide +kernel)
theorem w_1160 : (.soleField "GemPitsModel" "tape" : Cond) ∈ GW := gwm 1160 (by decide +kernel) (by decide +kernel)
theorem w_1161 : (.lays "GemPitsModel" "GemPitsModel" "taped" "I" : Cond) ∈ GW := gwm 1161 (by decide +kernel) (by decide +kernel)
theorem w_1162 : (.soleField "GemPitsModel" "taped" : Cond) ∈ GW := gwm 1162 (by decide +kernel) (by decide +kernel)
theorem w_1163 : (.lays "GemPitsModel" "GemPitsModel" "point" "I" : Cond) ∈ GW := gwm 1163 (by decide +kernel) (by decide +kernel)
theorem w_1164 : (.soleField "GemPitsModel" "point" : Cond) ∈ GW := gwm 1164 (by decide +kernel) (by decide +kernel)
theorem w_1165 : (.lays "GemPitsModel" "GemPitsModel" "end" "I" : Cond) ∈ GW := gwm 1165 (by decide +kernel) (by decide +kernel)
theorem w_1166 : (.soleField "GemPitsModel" "end" : Cond) ∈ GW := gwm 1166 (by decide +kernel) (by decide +kernel)
theorem w_1167 : (.lays "GemPitsModel" "GemPitsModel" "begin" "I" : Cond) ∈ GW := gwm 1167 (by decide +kernel) (by decide +kernel)
theorem w_1168 : (.soleField "GemPitsModel" "begin" : Cond) ∈ GW := gwm 1168 (by decide +kernel) (by decide +kernel)
theorem w_1169 : (.lays "GemPitsModel" "GemPitsModel" "faultAt" "I" : Cond) ∈ GW := gwm 1169 (by decide +kernel) (by decide +kernel)
theorem w_1170 : (.soleField "GemPitsModel" "faultAt" : Cond) ∈ GW := gwm 1170 (by decide +kernel) (by decide +kernel)
theorem w_1171 : (.laysFinal "GemPitsModel" "GemPitsModel" "five" "[I" : Cond) ∈ GW := gwm 1171 (by decide +kernel) (by decide +kernel)
theorem w_1172 : (.soleField "GemPitsModel" "five" : Cond) ∈ GW := gwm 1172 (by decide +kernel) (by decide +kernel)
theorem w_1173 : (.laysFinal "GemPitsModel" "GemPitsModel" "stone" "[I" : Cond) ∈ GW := gwm 1173 (by decide +kernel) (by decide +kernel)
theorem w_1174 : (.soleField "GemPitsModel" "stone" : Cond) ∈ GW := gwm 1174 (by decide +kernel) (by decide +kernel)
theorem w_1175 : (.laysFinal "GemPitsModel" "GemPitsModel" "hand" "[I" : Cond) ∈ GW := gwm 1175 (by decide +kernel) (by decide +kernel)
theorem w_1176 : (.soleField "GemPitsModel" "hand" : Cond) ∈ GW := gwm 1176 (by decide +kernel) (by decide +kernel)
theorem w_1177 : (.lays "GemPitsModel" "GemPitsModel" "stones" "I" : Cond) ∈ GW := gwm 1177 (by decide +kernel) (by decide +kernel)
theorem w_1178 : (.soleField "GemPitsModel" "stones" : Cond) ∈ GW := gwm 1178 (by decide +kernel) (by decide +kernel)
theorem w_1179 : (.lays "GemPitsModel" "GemPitsModel" "costs" "I" : Cond) ∈ GW := gwm 1179 (by decide +kernel) (by decide +kernel)
theorem w_1180 : (.soleField "GemPitsModel" "costs" : Cond) ∈ GW := gwm 1180 (by decide +kernel) (by decide +kernel)
theorem w_1181 : (.laysFinal "GemPitsModel" "GemPitsModel" "had" "[I" : Cond) ∈ GW := gwm 1181 (by decide +kernel) (by decide +kernel)
theorem w_1182 : (.soleField "GemPitsModel" "had" : Cond) ∈ GW := gwm 1182 (by decide +kernel) (by decide +kernel)
theorem w_1183 : (.lays "GemPitsModel" "GemPitsModel" "wide" "I" : Cond) ∈ GW := gwm 1183 (by decide +kernel) (by decide +kernel)
theorem w_1184 : (.soleField "GemPitsModel" "wide" : Cond) ∈ GW := gwm 1184 (by decide +kernel) (by decide +kernel)
theorem w_1185 : (.lays "GemPitsModel" "GemPitsModel" "high" "I" : Cond) ∈ GW := gwm 1185 (by decide +kernel) (by decide +kernel)
theorem w_1186 : (.soleField "GemPitsModel" "high" : Cond) ∈ GW := gwm 1186 (by decide +kernel) (by decide +kernel)
theorem w_1187 : (.laysFinal "GemPitsModel" "GemPitsModel" "isFlaw" "[Z" : Cond) ∈ GW := gwm 1187 (by decide +kernel) (by decide +kernel)
theorem w_1188 : (.soleField "GemPitsModel" "isFlaw" : Cond) ∈ GW := gwm 1188 (by decide +kernel) (by decide +kernel)
theorem w_1189 : (.laysFinal "GemPitsModel" "GemPitsModel" "worth" "[I" : Cond) ∈ GW := gwm 1189 (by decide +kernel) (by decide +kernel)
theorem w_1190 : (.soleField "GemPitsModel" "worth" : Cond) ∈ GW := gwm 1190 (by decide +kernel) (by decide +kernel)
theorem w_1191 : (.laysFinal "GemPitsModel" "GemPitsModel" "cuts" "[I" : Cond) ∈ GW := gwm 1191 (by decide +kernel) (by decide +kernel)
theorem w_1192 : (.soleField "GemPitsModel" "cuts" : Cond) ∈ GW := gwm 1192 (by decide +kernel) (by decide +kernel)
theorem w_1193 : (.superclass "GemPitsModel" "java/lang/Object" : Cond) ∈ GW := gwm 1193 (by decide +kernel) (by decide +kernel)
theorem w_1194 : (.methodLink "GemPitsLaw" 96 ⟨"GemPitsModel", "thrown", "()I"⟩ : Cond) ∈ GW := gwm 1194 (by decide +kernel) (by decide +kernel)
theorem w_1195 : (.instanceMethod ⟨"GemPitsModel", "thrown", "()I"⟩ : Cond) ∈ GW := gwm 1195 (by decide +kernel) (by decide +kernel)
theorem w_1196 : (.selects "GemPitsModel" ⟨"GemPitsModel", "thrown", "()I"⟩ ⟨"GemPitsModel", "thrown", "()I"⟩ : Cond) ∈ GW := gwm 1196 (by decide +kernel) (by decide +kernel)
theorem w_1197 : (.code ⟨"GemPitsModel", "thrown", "()I"⟩ prog_13_method_2_code 1 (Option.some .int) : Cond) ∈ GW := gwm 1197 (by decide +kernel) (by decide +kernel)
theorem w_1198 : (.methodLink "GemPitsLaw" 85 ⟨"GemPitsModel", "feed", "(IIIII)I"⟩ : Cond) ∈ GW := gwm 1198 (by decide +kernel) (by decide +kernel)
theorem w_1199 : (.instanceMethod ⟨"GemPitsModel", "feed", "(IIIII)I"⟩ : Cond) ∈ GW := gwm 1199 (by decide +kernel) (by decide +kernel)
theorem w_1200 : (.selects "GemPitsModel" ⟨"GemPitsModel", "feed", "(IIIII)I"⟩ ⟨"GemPitsModel", "feed", "(IIIII)I"⟩ : Cond) ∈ GW := gwm 1200 (by decide +kernel) (by decide +kernel)
theorem w_1201 : (.code ⟨"GemPitsModel", "feed", "(IIIII)I"⟩ prog_13_method_8_code 7 (Option.some .int) : Cond) ∈ GW := gwm 1201 (by decide +kernel) (by decide +kernel)
theorem w_1202 : (.methodLink "GemPitsLaw" 89 ⟨"GemPitsModel", "end", "(I)Z"⟩ : Cond) ∈ GW := gwm 1202 (by decide +kernel) (by decide +kernel)
theorem w_1203 : (.instanceMethod ⟨"GemPitsModel", "end", "(I)Z"⟩ : Cond) ∈ GW := gwm 1203 (by decide +kernel) (by decide +kernel)
theorem w_1204 : (.selects "GemPitsModel" ⟨"GemPitsModel", "end", "(I)Z"⟩ ⟨"GemPitsModel", "end", "(I)Z"⟩ : Cond) ∈ GW := gwm 1204 (by decide +kernel) (by decide +kernel)
theorem w_1205 : (.code ⟨"GemPitsModel", "end", "(I)Z"⟩ prog_13_method_9_code 2 (Option.some .boolean) : Cond) ∈ GW := gwm 1205 (by decide +kernel) (by decide +kernel)
theorem w_1206 : (.methodLink "GemPitsLaw" 102 ⟨"GemPitsModel", "law", "()I"⟩ : Cond) ∈ GW := gwm 1206 (by decide +kernel) (by decide +kernel)
theorem w_1207 : (.instanceMethod ⟨"GemPitsModel", "law", "()I"⟩ : Cond) ∈ GW := gwm 1207 (by decide +kernel) (by decide +kernel)
theorem w_1208 : (.selects "GemPitsModel" ⟨"GemPitsModel", "law", "()I"⟩ ⟨"GemPitsModel", "law", "()I"⟩ : Cond) ∈ GW := gwm 1208 (by decide +kernel) (by decide +kernel)
theorem w_1209 : (.code ⟨"GemPitsModel", "law", "()I"⟩ prog_13_method_18_code 3 (Option.some .int) : Cond) ∈ GW := gwm 1209 (by decide +kernel) (by decide +kernel)
theorem w_1210 : (.methodLink "GemPitsModel" 158 ⟨"GemPitsModel", "readAll", "(Z)I"⟩ : Cond) ∈ GW := gwm 1210 (by decide +kernel) (by decide +kernel)
theorem w_1212 : (.instanceMethod ⟨"GemPitsModel", "readAll", "(Z)I"⟩ : Cond) ∈ GW := gwm 1212 (by decide +kernel) (by decide +kernel)
theorem w_1213 : (.code ⟨"GemPitsModel", "readAll", "(Z)I"⟩ prog_13_method_17_code 3 (Option.some .int) : Cond) ∈ GW := gwm 1213 (by decide +kernel) (by decide +kernel)
theorem w_1214 : (.methodLink "GemPitsModel" 151 ⟨"GemPitsModel", "readTerm", "()Z"⟩ : Cond) ∈ GW := gwm 1214 (by decide +kernel) (by decide +kernel)
theorem w_1216 : (.instanceMethod ⟨"GemPitsModel", "readTerm", "()Z"⟩ : Cond) ∈ GW := gwm 1216 (by decide +kernel) (by decide +kernel)
theorem w_1217 : (.code ⟨"GemPitsModel", "readTerm", "()Z"⟩ prog_13_method_15_code 1 (Option.some .boolean) : Cond) ∈ GW := gwm 1217 (by decide +kernel) (by decide +kernel)
theorem w_1218 : (.methodLink "GemPitsModel" 118 ⟨"GemPitsModel", "word", "()V"⟩ : Cond) ∈ GW := gwm 1218 (by decide +kernel) (by decide +kernel)
theorem w_1220 : (.instanceMethod ⟨"GemPitsModel", "word", "()V"⟩ : Cond) ∈ GW := gwm 1220 (by decide +kernel) (by decide +kernel)
theorem w_1221 : (.code ⟨"GemPitsModel", "word", "()V"⟩ prog_13_method_12_code 1 (Option.none : Option Jvm.ClassFile.FieldType) : Cond) ∈ GW := gwm 1221 (by decide +kernel) (by decide +kernel)
theorem w_1222 : (.methodLink "GemPitsModel" 105 ⟨"GemPitsModel", "blanks", "()V"⟩ : Cond) ∈ GW := gwm 1222 (by decide +kernel) (by decide +kernel)
theorem w_1224 : (.instanceMethod ⟨"GemPitsModel", "blanks", "()V"⟩ : Cond) ∈ GW := gwm 1224 (by decide +kernel) (by decide +kernel)
theorem w_1225 : (.code ⟨"GemPitsModel", "blanks", "()V"⟩ prog_13_method_11_code 1 (Option.none : Option Jvm.ClassFile.FieldType) : Cond) ∈ GW := gwm 1225 (by decide +kernel) (by decide +kernel)
theorem w_1226 : (.methodLink "GemPitsModel" 98 ⟨"GemPitsModel", "isAt", "(II)Z"⟩ : Cond) ∈ GW := gwm 1226 (by decide +kernel) (by decide +kernel)
theorem w_1228 : (.instanceMethod ⟨"GemPitsModel", "isAt", "(II)Z"⟩ : Cond) ∈ GW := gwm 1228 (by decide +kernel) (by decide +kernel)
theorem w_1229 : (.code ⟨"GemPitsModel", "isAt", "(II)Z"⟩ prog_13_method_10_code 3 (Option.some .boolean) : Cond) ∈ GW := gwm 1229 (by decide +kernel) (by decide +kernel)
theorem w_1231 : (.methodLink "GemPitsModel" 123 ⟨"GemPitsModel", "isWord", "(Ljava/lang/String;)Z"⟩ : Cond) ∈ GW := gwm 1231 (by decide +kernel) (by decide +kernel)
theorem w_1233 : (.instanceMethod ⟨"GemPitsModel", "isWord", "(Ljava/lang/String;)Z"⟩ : Cond) ∈ GW := gwm 1233 (by decide +kernel) (by decide +kernel)
theorem w_1234 : (.code ⟨"GemPitsModel", "isWord", "(Ljava/lang/String;)Z"⟩ prog_13_method_13_code 4 (Option.some .boolean) : Cond) ∈ GW := gwm 1234 (by decide +kernel) (by decide +kernel)
theorem w_1235 : (.methodLink "GemPitsModel" 108 ⟨"java/lang/String", "length", "()I"⟩ : Cond) ∈ GW := gwm 1235 (by decide +kernel) (by decide +kernel)
theorem w_1236 : (.methodLink "GemPitsModel" 114 ⟨"java/lang/String", "charAt", "(I)C"⟩ : Cond) ∈ GW := gwm 1236 (by decide +kernel) (by decide +kernel)
theorem w_1237 : (.methodLink "GemPitsModel" 127 ⟨"GemPitsModel", "number", "(III)Z"⟩ : Cond) ∈ GW := gwm 1237 (by decide +kernel) (by decide +kernel)
theorem w_1239 : (.instanceMethod ⟨"GemPitsModel", "number", "(III)Z"⟩ : Cond) ∈ GW := gwm 1239 (by decide +kernel) (by decide +kernel)
theorem w_1240 : (.code ⟨"GemPitsModel", "number", "(III)Z"⟩ prog_13_method_14_code 5 (Option.some .boolean) : Cond) ∈ GW := gwm 1240 (by decide +kernel) (by decide +kernel)
theorem w_1243 : (.constant "GemPitsModel" 133 (100000 : Int32) : Cond) ∈ GW := gwm 1243 (by decide +kernel) (by decide +kernel)
theorem w_1244 : (.methodLink "GemPitsModel" 155 ⟨"GemPitsModel", "readPart", "()Z"⟩ : Cond) ∈ GW := gwm 1244 (by decide +kernel) (by decide +kernel)
theorem w_1246 : (.instanceMethod ⟨"GemPitsModel", "readPart", "()Z"⟩ : Cond) ∈ GW := gwm 1246 (by decide +kernel) (by decide +kernel)
theorem w_1247 : (.code ⟨"GemPitsModel", "readPart", "()Z"⟩ prog_13_method_16_code 1 (Option.some .boolean) : Cond) ∈ GW := gwm 1247 (by decide +kernel) (by decide +kernel)
theorem w_1256 : (.constant "GemPitsModel" 150 (999999 : Int32) : Cond) ∈ GW := gwm 1256 (by decide +kernel) (by decide +kernel)
theorem w_1257 : (.methodLink "GemPitsModel" 162 ⟨"GemPitsModel", "throwsIf", "(ZI)Z"⟩ : Cond) ∈ GW := gwm 1257 (by decide +kernel) (by decide +kernel)
theorem w_1259 : (.instanceMethod ⟨"GemPitsModel", "throwsIf", "(ZI)Z"⟩ : Cond) ∈ GW := gwm 1259 (by decide +kernel) (by decide +kernel)
theorem w_1260 : (.code ⟨"GemPitsModel", "throwsIf", "(ZI)Z"⟩ prog_13_method_3_code 3 (Option.some .boolean) : Cond) ∈ GW := gwm 1260 (by decide +kernel) (by decide +kernel)
theorem w_1261 : (.methodLink "GemPitsLaw" 105 ⟨"GemPitsModel", "agreement", "()I"⟩ : Cond) ∈ GW := gwm 1261 (by decide +kernel) (by decide +kernel)
theorem w_1262 : (.instanceMethod ⟨"GemPitsModel", "agreement", "()I"⟩ : Cond) ∈ GW := gwm 1262 (by decide +kernel) (by decide +kernel)
theorem w_1263 : (.selects "GemPitsModel" ⟨"GemPitsModel", "agreement", "()I"⟩ ⟨"GemPitsModel", "agreement", "()I"⟩ : Cond) ∈ GW := gwm 1263 (by decide +kernel) (by decide +kernel)
theorem w_1264 : (.code ⟨"GemPitsModel", "agreement", "()I"⟩ prog_13_method_19_code 3 (Option.some .int) : Cond) ∈ GW := gwm 1264 (by decide +kernel) (by decide +kernel)
theorem w_1265 : (.methodLink "GemPitsLaw" 109 ⟨"GemPitsModel", "fault", "()I"⟩ : Cond) ∈ GW := gwm 1265 (by decide +kernel) (by decide +kernel)
theorem w_1266 : (.instanceMethod ⟨"GemPitsModel", "fault", "()I"⟩ : Cond) ∈ GW := gwm 1266 (by decide +kernel) (by decide +kernel)
theorem w_1267 : (.selects "GemPitsModel" ⟨"GemPitsModel", "fault", "()I"⟩ ⟨"GemPitsModel", "fault", "()I"⟩ : Cond) ∈ GW := gwm 1267 (by decide +kernel) (by decide +kernel)
theorem w_1268 : (.code ⟨"GemPitsModel", "fault", "()I"⟩ prog_13_method_20_code 1 (Option.some .int) : Cond) ∈ GW := gwm 1268 (by decide +kernel) (by decide +kernel)
theorem w_1269 : (.methodLink "GemPitsLaw" 95 ⟨"GemPitsModel", "step", "(I)V"⟩ : Cond) ∈ GW := gwm 1269 (by decide +kernel) (by decide +kernel)
theorem w_1270 : (.instanceMethod ⟨"GemPitsModel", "step", "(I)V"⟩ : Cond) ∈ GW := gwm 1270 (by decide +kernel) (by decide +kernel)
theorem w_1271 : (.selects "GemPitsModel" ⟨"GemPitsModel", "step", "(I)V"⟩ ⟨"GemPitsModel", "step", "(I)V"⟩ : Cond) ∈ GW := gwm 1271 (by decide +kernel) (by decide +kernel)
theorem w_1272 : (.code ⟨"GemPitsModel", "step", "(I)V"⟩ prog_13_method_21_code 2 (Option.none : Option Jvm.ClassFile.FieldType) : Cond) ∈ GW := gwm 1272 (by decide +kernel) (by decide +kernel)
theorem w_1273 : (.methodLink "GemPitsModel" 79 ⟨"GemPitsModel", "in", "(III)Z"⟩ : Cond) ∈ GW := gwm 1273 (by decide +kernel) (by decide +kernel)
theorem w_1274 : (.static ⟨"GemPitsModel", "in", "(III)Z"⟩ : Cond) ∈ GW := gwm 1274 (by decide +kernel) (by decide +kernel)
theorem w_1275 : (.code ⟨"GemPitsModel", "in", "(III)Z"⟩ prog_13_method_4_code 3 (Option.some .boolean) : Cond) ∈ GW := gwm 1275 (by decide +kernel) (by decide +kernel)
theorem w_1276 : (.methodLink "GemPitsLaw" 113 ⟨"GemPitsModel", "sink", "(I)I"⟩ : Cond) ∈ GW := gwm 1276 (by decide +kernel) (by decide +kernel)
theorem w_1277 : (.instanceMethod ⟨"GemPitsModel", "sink", "(I)I"⟩ : Cond) ∈ GW := gwm 1277 (by decide +kernel) (by decide +kernel)
theorem w_1278 : (.selects "GemPitsModel" ⟨"GemPitsModel", "sink", "(I)I"⟩ ⟨"GemPitsModel", "sink", "(I)I"⟩ : Cond) ∈ GW := gwm 1278 (by decide +kernel) (by decide +kernel)
theorem w_1279 : (.code ⟨"GemPitsModel", "sink", "(I)I"⟩ prog_13_method_24_code 2 (Option.some .int) : Cond) ∈ GW := gwm 1279 (by decide +kernel) (by decide +kernel)
theorem w_1280 : (.methodLink "GemPitsModel" 182 ⟨"GemPitsModel", "noSquare", "(I)Z"⟩ : Cond) ∈ GW := gwm 1280 (by decide +kernel) (by decide +kernel)
theorem w_1281 : (.static ⟨"GemPitsModel", "noSquare", "(I)Z"⟩ : Cond) ∈ GW := gwm 1281 (by decide +kernel) (by decide +kernel)
theorem w_1282 : (.code ⟨"GemPitsModel", "noSquare", "(I)Z"⟩ prog_13_method_5_code 1 (Option.some .boolean) : Cond) ∈ GW := gwm 1282 (by decide +kernel) (by decide +kernel)
theorem w_1283 : (.methodLink "GemPitsModel" 186 ⟨"GemPitsModel", "mayBeSunk", "(I)Z"⟩ : Cond) ∈ GW := gwm 1283 (by decide +kernel) (by decide +kernel)
theorem w_1285 : (.instanceMethod ⟨"GemPitsModel", "mayBeSunk", "(I)Z"⟩ : Cond) ∈ GW := gwm 1285 (by decide +kernel) (by decide +kernel)
theorem w_1286 : (.code ⟨"GemPitsModel", "mayBeSunk", "(I)Z"⟩ prog_13_method_23_code 4 (Option.some .boolean) : Cond) ∈ GW := gwm 1286 (by decide +kernel) (by decide +kernel)
theorem w_1287 : (.methodLink "GemPitsModel" 180 ⟨"GemPitsModel", "apart", "(II)I"⟩ : Cond) ∈ GW := gwm 1287 (by decide +kernel) (by decide +kernel)
theorem w_1288 : (.static ⟨"GemPitsModel", "apart", "(II)I"⟩ : Cond) ∈ GW := gwm 1288 (by decide +kernel) (by decide +kernel)
theorem w_1289 : (.code ⟨"GemPitsModel", "apart", "(II)I"⟩ prog_13_method_22_code 2 (Option.some .int) : Cond) ∈ GW := gwm 1289 (by decide +kernel) (by decide +kernel)
theorem w_1290 : (.methodLink "GemPitsModel" 170 ⟨"java/lang/Math", "abs", "(I)I"⟩ : Cond) ∈ GW := gwm 1290 (by decide +kernel) (by decide +kernel)
theorem w_1291 : (.methodLink "GemPitsModel" 176 ⟨"java/lang/Math", "max", "(II)I"⟩ : Cond) ∈ GW := gwm 1291 (by decide +kernel) (by decide +kernel)
theorem w_1292 : (.methodLink "GemPitsLaw" 117 ⟨"GemPitsModel", "wash", "(II)Z"⟩ : Cond) ∈ GW := gwm 1292 (by decide +kernel) (by decide +kernel)
theorem w_1293 : (.instanceMethod ⟨"GemPitsModel", "wash", "(II)Z"⟩ : Cond) ∈ GW := gwm 1293 (by decide +kernel) (by decide +kernel)
theorem w_1294 : (.selects "GemPitsModel" ⟨"GemPitsModel", "wash", "(II)Z"⟩ ⟨"GemPitsModel", "wash", "(II)Z"⟩ : Cond) ∈ GW := gwm 1294 (by decide +kernel) (by decide +kernel)
theorem w_1295 : (.code ⟨"GemPitsModel", "wash", "(II)Z"⟩ prog_13_method_25_code 3 (Option.some .boolean) : Cond) ∈ GW := gwm 1295 (by decide +kernel) (by decide +kernel)
theorem w_1296 : (.methodLink "GemPitsModel" 192 ⟨"GemPitsModel", "noPit", "(I)Z"⟩ : Cond) ∈ GW := gwm 1296 (by decide +kernel) (by decide +kernel)
theorem w_1298 : (.instanceMethod ⟨"GemPitsModel", "noPit", "(I)Z"⟩ : Cond) ∈ GW := gwm 1298 (by decide +kernel) (by decide +kernel)
theorem w_1299 : (.code ⟨"GemPitsModel", "noPit", "(I)Z"⟩ prog_13_method_6_code 2 (Option.some .boolean) : Cond) ∈ GW := gwm 1299 (by decide +kernel) (by decide +kernel)
theorem w_1300 : (.methodLink "GemPitsLaw" 120 ⟨"GemPitsModel", "fill", "(I)Z"⟩ : Cond) ∈ GW := gwm 1300 (by decide +kernel) (by decide +kernel)
theorem w_1301 : (.instanceMethod ⟨"GemPitsModel", "fill", "(I)Z"⟩ : Cond) ∈ GW := gwm 1301 (by decide +kernel) (by decide +kernel)
theorem w_1302 : (.selects "GemPitsModel" ⟨"GemPitsModel", "fill", "(I)Z"⟩ ⟨"GemPitsModel", "fill", "(I)Z"⟩ : Cond) ∈ GW := gwm 1302 (by decide +kernel) (by decide +kernel)
theorem w_1303 : (.code ⟨"GemPitsModel", "fill", "(I)Z"⟩ prog_13_method_26_code 2 (Option.some .boolean) : Cond) ∈ GW := gwm 1303 (by decide +kernel) (by decide +kernel)
theorem w_1304 : (.methodLink "GemPitsLaw" 123 ⟨"GemPitsModel", "days", "(I)I"⟩ : Cond) ∈ GW := gwm 1304 (by decide +kernel) (by decide +kernel)
theorem w_1305 : (.instanceMethod ⟨"GemPitsModel", "days", "(I)I"⟩ : Cond) ∈ GW := gwm 1305 (by decide +kernel) (by decide +kernel)
theorem w_1306 : (.selects "GemPitsModel" ⟨"GemPitsModel", "days", "(I)I"⟩ ⟨"GemPitsModel", "days", "(I)I"⟩ : Cond) ∈ GW := gwm 1306 (by decide +kernel) (by decide +kernel)
theorem w_1307 : (.code ⟨"GemPitsModel", "days", "(I)I"⟩ prog_13_method_27_code 2 (Option.some .int) : Cond) ∈ GW := gwm 1307 (by decide +kernel) (by decide +kernel)
theorem w_1308 : (.methodLink "GemPitsModel" 195 ⟨"java/lang/Math", "min", "(II)I"⟩ : Cond) ∈ GW := gwm 1308 (by decide +kernel) (by decide +kernel)
theorem w_1309 : (.methodLink "GemPitsLaw" 127 ⟨"GemPitsModel", "span", "(IZ)I"⟩ : Cond) ∈ GW := gwm 1309 (by decide +kernel) (by decide +kernel)
theorem w_1310 : (.instanceMethod ⟨"GemPitsModel", "span", "(IZ)I"⟩ : Cond) ∈ GW := gwm 1310 (by decide +kernel) (by decide +kernel)
theorem w_1311 : (.selects "GemPitsModel" ⟨"GemPitsModel", "span", "(IZ)I"⟩ ⟨"GemPitsModel", "span", "(IZ)I"⟩ : Cond) ∈ GW := gwm 1311 (by decide +kernel) (by decide +kernel)
theorem w_1312 : (.code ⟨"GemPitsModel", "span", "(IZ)I"⟩ prog_13_method_30_code 5 (Option.some .int) : Cond) ∈ GW := gwm 1312 (by decide +kernel) (by decide +kernel)
theorem w_1313 : (.methodLink "GemPitsModel" 198 ⟨"GemPitsModel", "low", "(I)I"⟩ : Cond) ∈ GW := gwm 1313 (by decide +kernel) (by decide +kernel)
theorem w_1315 : (.instanceMethod ⟨"GemPitsModel", "low", "(I)I"⟩ : Cond) ∈ GW := gwm 1315 (by decide +kernel) (by decide +kernel)
theorem w_1316 : (.code ⟨"GemPitsModel", "low", "(I)I"⟩ prog_13_method_28_code 4 (Option.some .int) : Cond) ∈ GW := gwm 1316 (by decide +kernel) (by decide +kernel)
theorem w_1317 : (.methodLink "GemPitsModel" 201 ⟨"GemPitsModel", "high", "(I)I"⟩ : Cond) ∈ GW := gwm 1317 (by decide +kernel) (by decide +kernel)
theorem w_1319 : (.instanceMethod ⟨"GemPitsModel", "high", "(I)I"⟩ : Cond) ∈ GW := gwm 1319 (by decide +kernel) (by decide +kernel)
theorem w_1320 : (.code ⟨"GemPitsModel", "high", "(I)I"⟩ prog_13_method_29_code 4 (Option.some .int) : Cond) ∈ GW := gwm 1320 (by decide +kernel) (by decide +kernel)
theorem w_1321 : (.methodLink "GemPitsLaw" 131 ⟨"GemPitsModel", "best", "()I"⟩ : Cond) ∈ GW := gwm 1321 (by decide +kernel) (by decide +kernel)
theorem w_1322 : (.instanceMethod ⟨"GemPitsModel", "best", "()I"⟩ : Cond) ∈ GW := gwm 1322 (by decide +kernel) (by decide +kernel)
theorem w_1323 : (.selects "GemPitsModel" ⟨"GemPitsModel", "best", "()I"⟩ ⟨"GemPitsModel", "best", "()I"⟩ : Cond) ∈ GW := gwm 1323 (by decide +kernel) (by decide +kernel)
theorem w_1324 : (.code ⟨"GemPitsModel", "best", "()I"⟩ prog_13_method_31_code 6 (Option.some .int) : Cond) ∈ GW := gwm 1324 (by decide +kernel) (by decide +kernel)
theorem w_1325 : (.methodLink "GemPitsLaw" 134 ⟨"GemPitsModel", "look", "(II)I"⟩ : Cond) ∈ GW := gwm 1325 (by decide +kernel) (by decide +kernel)
theorem w_1326 : (.instanceMethod ⟨"GemPitsModel", "look", "(II)I"⟩ : Cond) ∈ GW := gwm 1326 (by decide +kernel) (by decide +kernel)
theorem w_1327 : (.selects "GemPitsModel" ⟨"GemPitsModel", "look", "(II)I"⟩ ⟨"GemPitsModel", "look", "(II)I"⟩ : Cond) ∈ GW := gwm 1327 (by decide +kernel) (by decide +kernel)
theorem w_1328 : (.code ⟨"GemPitsModel", "look", "(II)I"⟩ prog_13_method_33_code 3 (Option.some .int) : Cond) ∈ GW := gwm 1328 (by decide +kernel) (by decide +kernel)
theorem w_1329 : (.methodLink "GemPitsModel" 203 ⟨"GemPitsModel", "bondOf", "(I)I"⟩ : Cond) ∈ GW := gwm 1329 (by decide +kernel) (by decide +kernel)
theorem w_1331 : (.instanceMethod ⟨"GemPitsModel", "bondOf", "(I)I"⟩ : Cond) ∈ GW := gwm 1331 (by decide +kernel) (by decide +kernel)
theorem w_1332 : (.code ⟨"GemPitsModel", "bondOf", "(I)I"⟩ prog_13_method_32_code 3 (Option.some .int) : Cond) ∈ GW := gwm 1332 (by decide +kernel) (by decide +kernel)
theorem w_1333 : (.methodLink "GemPitsLaw" 137 ⟨"GemPitsModel", "stone", "(II)I"⟩ : Cond) ∈ GW := gwm 1333 (by decide +kernel) (by decide +kernel)
theorem w_1334 : (.instanceMethod ⟨"GemPitsModel", "stone", "(II)I"⟩ : Cond) ∈ GW := gwm 1334 (by decide +kernel) (by decide +kernel)
theorem w_1335 : (.selects "GemPitsModel" ⟨"GemPitsModel", "stone", "(II)I"⟩ ⟨"GemPitsModel", "stone", "(II)I"⟩ : Cond) ∈ GW := gwm 1335 (by decide +kernel) (by decide +kernel)
theorem w_1336 : (.code ⟨"GemPitsModel", "stone", "(II)I"⟩ prog_13_method_34_code 4 (Option.some .int) : Cond) ∈ GW := gwm 1336 (by decide +kernel) (by decide +kernel)
theorem w_1337 : (.methodLink "GemPitsLaw" 140 ⟨"GemPitsModel", "lay", "(I)I"⟩ : Cond) ∈ GW := gwm 1337 (by decide +kernel) (by decide +kernel)
theorem w_1338 : (.instanceMethod ⟨"GemPitsModel", "lay", "(I)I"⟩ : Cond) ∈ GW := gwm 1338 (by decide +kernel) (by decide +kernel)
theorem w_1339 : (.selects "GemPitsModel" ⟨"GemPitsModel", "lay", "(I)I"⟩ ⟨"GemPitsModel", "lay", "(I)I"⟩ : Cond) ∈ GW := gwm 1339 (by decide +kernel) (by decide +kernel)
theorem w_1340 : (.code ⟨"GemPitsModel", "lay", "(I)I"⟩ prog_13_method_35_code 2 (Option.some .int) : Cond) ∈ GW := gwm 1340 (by decide +kernel) (by decide +kernel)
theorem w_1341 : (.constant "GemPitsModel" 208 (10000000 : Int32) : Cond) ∈ GW := gwm 1341 (by decide +kernel) (by decide +kernel)
theorem w_1342 : (.methodLink "GemPitsLaw" 144 ⟨"GemPitsModel", "hand", "(III)Z"⟩ : Cond) ∈ GW := gwm 1342 (by decide +kernel) (by decide +kernel)
theorem w_1343 : (.instanceMethod ⟨"GemPitsModel", "hand", "(III)Z"⟩ : Cond) ∈ GW := gwm 1343 (by decide +kernel) (by decide +kernel)
theorem w_1344 : (.selects "GemPitsModel" ⟨"GemPitsModel", "hand", "(III)Z"⟩ ⟨"GemPitsModel", "hand", "(III)Z"⟩ : Cond) ∈ GW := gwm 1344 (by decide +kernel) (by decide +kernel)
theorem w_1345 : (.code ⟨"GemPitsModel", "hand", "(III)Z"⟩ prog_13_method_36_code 4 (Option.some .boolean) : Cond) ∈ GW := gwm 1345 (by decide +kernel) (by decide +kernel)
theorem w_1346 : (.methodLink "GemPitsModel" 209 ⟨"GemPitsModel", "noStone", "(I)Z"⟩ : Cond) ∈ GW := gwm 1346 (by decide +kernel) (by decide +kernel)
theorem w_1348 : (.instanceMethod ⟨"GemPitsModel", "noStone", "(I)Z"⟩ : Cond) ∈ GW := gwm 1348 (by decide +kernel) (by decide +kernel)
theorem w_1349 : (.code ⟨"GemPitsModel", "noStone", "(I)Z"⟩ prog_13_method_7_code 2 (Option.some .boolean) : Cond) ∈ GW := gwm 1349 (by decide +kernel) (by decide +kernel)
theorem w_1350 : (.constant "GemPitsModel" 212 (1000000 : Int32) : Cond) ∈ GW := gwm 1350 (by decide +kernel) (by decide +kernel)
theorem w_1351 : (.methodLink "GemPitsLaw" 147 ⟨"GemPitsModel", "sell", "(II)I"⟩ : Cond) ∈ GW := gwm 1351 (by decide +kernel) (by decide +kernel)
theorem w_1352 : (.instanceMethod ⟨"GemPitsModel", "sell", "(II)I"⟩ : Cond) ∈ GW := gwm 1352 (by decide +kernel) (by decide +kernel)
theorem w_1353 : (.selects "GemPitsModel" ⟨"GemPitsModel", "sell", "(II)I"⟩ ⟨"GemPitsModel", "sell", "(II)I"⟩ : Cond) ∈ GW := gwm 1353 (by decide +kernel) (by decide +kernel)
theorem w_1354 : (.code ⟨"GemPitsModel", "sell", "(II)I"⟩ prog_13_method_38_code 6 (Option.some .int) : Cond) ∈ GW := gwm 1354 (by decide +kernel) (by decide +kernel)
theorem w_1355 : (.methodLink "GemPitsModel" 213 ⟨"GemPitsModel", "parts", "(II)V"⟩ : Cond) ∈ GW := gwm 1355 (by decide +kernel) (by decide +kernel)
theorem w_1357 : (.instanceMethod ⟨"GemPitsModel", "parts", "(II)V"⟩ : Cond) ∈ GW := gwm 1357 (by decide +kernel) (by decide +kernel)
theorem w_1358 : (.code ⟨"GemPitsModel", "parts", "(II)V"⟩ prog_13_method_37_code 7 (Option.none : Option Jvm.ClassFile.FieldType) : Cond) ∈ GW := gwm 1358 (by decide +kernel) (by decide +kernel)
theorem w_1359 : (.methodLink "GemPitsLaw" 150 ⟨"GemPitsModel", "part", "(II)I"⟩ : Cond) ∈ GW := gwm 1359 (by decide +kernel) (by decide +kernel)
theorem w_1360 : (.instanceMethod ⟨"GemPitsModel", "part", "(II)I"⟩ : Cond) ∈ GW := gwm 1360 (by decide +kernel) (by decide +kernel)
theorem w_1361 : (.selects "GemPitsModel" ⟨"GemPitsModel", "part", "(II)I"⟩ ⟨"GemPitsModel", "part", "(II)I"⟩ : Cond) ∈ GW := gwm 1361 (by decide +kernel) (by decide +kernel)
theorem w_1362 : (.code ⟨"GemPitsModel", "part", "(II)I"⟩ prog_13_method_39_code 3 (Option.some .int) : Cond) ∈ GW := gwm 1362 (by decide +kernel) (by decide +kernel)
theorem w_1363 : (.methodLink "GemPitsLaw" 154 ⟨"GemPitsModel", "rough", "(II)V"⟩ : Cond) ∈ GW := gwm 1363 (by decide +kernel) (by decide +kernel)
theorem w_1364 : (.instanceMethod ⟨"GemPitsModel", "rough", "(II)V"⟩ : Cond) ∈ GW := gwm 1364 (by decide +kernel) (by decide +kernel)
theorem w_1365 : (.selects "GemPitsModel" ⟨"GemPitsModel", "rough", "(II)V"⟩ ⟨"GemPitsModel", "rough", "(II)V"⟩ : Cond) ∈ GW := gwm 1365 (by decide +kernel) (by decide +kernel)
theorem w_1366 : (.code ⟨"GemPitsModel", "rough", "(II)V"⟩ prog_13_method_40_code 4 (Option.none : Option Jvm.ClassFile.FieldType) : Cond) ∈ GW := gwm 1366 (by decide +kernel) (by decide +kernel)
theorem w_1367 : (.methodLink "GemPitsLaw" 158 ⟨"GemPitsModel", "flaw", "(IIZ)Z"⟩ : Cond) ∈ GW := gwm 1367 (by decide +kernel) (by decide +kernel)
theorem w_1368 : (.instanceMethod ⟨"GemPitsModel", "flaw", "(IIZ)Z"⟩ : Cond) ∈ GW := gwm 1368 (by decide +kernel) (by decide +kernel)
theorem w_1369 : (.selects "GemPitsModel" ⟨"GemPitsModel", "flaw", "(IIZ)Z"⟩ ⟨"GemPitsModel", "flaw", "(IIZ)Z"⟩ : Cond) ∈ GW := gwm 1369 (by decide +kernel) (by decide +kernel)
theorem w_1370 : (.code ⟨"GemPitsModel", "flaw", "(IIZ)Z"⟩ prog_13_method_41_code 5 (Option.some .boolean) : Cond) ∈ GW := gwm 1370 (by decide +kernel) (by decide +kernel)
theorem w_1371 : (.methodLink "GemPitsLaw" 162 ⟨"GemPitsModel", "most", "()I"⟩ : Cond) ∈ GW := gwm 1371 (by decide +kernel) (by decide +kernel)
theorem w_1372 : (.instanceMethod ⟨"GemPitsModel", "most", "()I"⟩ : Cond) ∈ GW := gwm 1372 (by decide +kernel) (by decide +kernel)
theorem w_1373 : (.selects "GemPitsModel" ⟨"GemPitsModel", "most", "()I"⟩ ⟨"GemPitsModel", "most", "()I"⟩ : Cond) ∈ GW := gwm 1373 (by decide +kernel) (by decide +kernel)
theorem w_1374 : (.code ⟨"GemPitsModel", "most", "()I"⟩ prog_13_method_46_code 1 (Option.some .int) : Cond) ∈ GW := gwm 1374 (by decide +kernel) (by decide +kernel)
theorem w_1375 : (.methodLink "GemPitsModel" 229 ⟨"GemPitsModel", "weighs", "()V"⟩ : Cond) ∈ GW := gwm 1375 (by decide +kernel) (by decide +kernel)
theorem w_1377 : (.instanceMethod ⟨"GemPitsModel", "weighs", "()V"⟩ : Cond) ∈ GW := gwm 1377 (by decide +kernel) (by decide +kernel)
theorem w_1378 : (.code ⟨"GemPitsModel", "weighs", "()V"⟩ prog_13_method_45_code 8 (Option.none : Option Jvm.ClassFile.FieldType) : Cond) ∈ GW := gwm 1378 (by decide +kernel) (by decide +kernel)
theorem w_1379 : (.methodLink "GemPitsModel" 217 ⟨"GemPitsModel", "placeOf", "(IIII)I"⟩ : Cond) ∈ GW := gwm 1379 (by decide +kernel) (by decide +kernel)
theorem w_1380 : (.static ⟨"GemPitsModel", "placeOf", "(IIII)I"⟩ : Cond) ∈ GW := gwm 1380 (by decide +kernel) (by decide +kernel)
theorem w_1381 : (.code ⟨"GemPitsModel", "placeOf", "(IIII)I"⟩ prog_13_method_42_code 4 (Option.some .int) : Cond) ∈ GW := gwm 1381 (by decide +kernel) (by decide +kernel)
theorem w_1382 : (.methodLink "GemPitsModel" 221 ⟨"GemPitsModel", "isClear", "(IIII)Z"⟩ : Cond) ∈ GW := gwm 1382 (by decide +kernel) (by decide +kernel)
theorem w_1384 : (.instanceMethod ⟨"GemPitsModel", "isClear", "(IIII)Z"⟩ : Cond) ∈ GW := gwm 1384 (by decide +kernel) (by decide +kernel)
theorem w_1385 : (.code ⟨"GemPitsModel", "isClear", "(IIII)Z"⟩ prog_13_method_43_code 8 (Option.some .boolean) : Cond) ∈ GW := gwm 1385 (by decide +kernel) (by decide +kernel)
theorem w_1386 : (.methodLink "GemPitsModel" 225 ⟨"GemPitsModel", "better", "(III)V"⟩ : Cond) ∈ GW := gwm 1386 (by decide +kernel) (by decide +kernel)
theorem w_1388 : (.instanceMethod ⟨"GemPitsModel", "better", "(III)V"⟩ : Cond) ∈ GW := gwm 1388 (by decide +kernel) (by decide +kernel)
theorem w_1389 : (.code ⟨"GemPitsModel", "better", "(III)V"⟩ prog_13_method_44_code 6 (Option.none : Option Jvm.ClassFile.FieldType) : Cond) ∈ GW := gwm 1389 (by decide +kernel) (by decide +kernel)
theorem w_1390 : (.methodLink "GemPitsLaw" 166 ⟨"GemPitsModel", "cuts", "()I"⟩ : Cond) ∈ GW := gwm 1390 (by decide +kernel) (by decide +kernel)
theorem w_1391 : (.instanceMethod ⟨"GemPitsModel", "cuts", "()I"⟩ : Cond) ∈ GW := gwm 1391 (by decide +kernel) (by decide +kernel)
theorem w_1392 : (.selects "GemPitsModel" ⟨"GemPitsModel", "cuts", "()I"⟩ ⟨"GemPitsModel", "cuts", "()I"⟩ : Cond) ∈ GW := gwm 1392 (by decide +kernel) (by decide +kernel)
theorem w_1393 : (.code ⟨"GemPitsModel", "cuts", "()I"⟩ prog_13_method_47_code 1 (Option.some .int) : Cond) ∈ GW := gwm 1393 (by decide +kernel) (by decide +kernel)
theorem w_1394 : (.methodLink "GemPitsLaw" 170 ⟨"GemPitsModel", "count", "(I)I"⟩ : Cond) ∈ GW := gwm 1394 (by decide +kernel) (by decide +kernel)
theorem w_1395 : (.instanceMethod ⟨"GemPitsModel", "count", "(I)I"⟩ : Cond) ∈ GW := gwm 1395 (by decide +kernel) (by decide +kernel)
theorem w_1396 : (.selects "GemPitsModel" ⟨"GemPitsModel", "count", "(I)I"⟩ ⟨"GemPitsModel", "count", "(I)I"⟩ : Cond) ∈ GW := gwm 1396 (by decide +kernel) (by decide +kernel)
theorem w_1397 : (.code ⟨"GemPitsModel", "count", "(I)I"⟩ prog_13_method_48_code 4 (Option.some .int) : Cond) ∈ GW := gwm 1397 (by decide +kernel) (by decide +kernel)
theorem w_1398 : (.arrayClass .long : Cond) ∈ GW := gwm 1398 (by decide +kernel) (by decide +kernel)
theorem w_1399 : (.sameMethod "java/lang/Throwable" "java/lang/Throwable" "fillInStackTrace" "(I)Ljava/lang/Throwable;" : Cond) ∈ GW := gwm 1399 (by decide +kernel) (by decide +kernel)
theorem w_1400 : (.sameMethod "GemPits$Clauses" "GemPits$Clauses" "finish" "(LGemPits$Reader;)V" : Cond) ∈ GW := gwm 1400 (by decide +kernel) (by decide +kernel)
theorem w_1420 : (.sameMethod "[Ljava/lang/Object;" "java/lang/Object" "getClass" "()Ljava/lang/Class;" : Cond) ∈ GW := gwm 1420 (by decide +kernel) (by decide +kernel)
theorem w_1421 : (.selects "[Ljava/lang/Object;" ⟨"java/lang/Object", "getClass", "()Ljava/lang/Class;"⟩ ⟨"java/lang/Object", "getClass", "()Ljava/lang/Class;"⟩ : Cond) ∈ GW := gwm 1421 (by decide +kernel) (by decide +kernel)
theorem w_1428 : (.fieldLink "java/lang/String" 9 "java/lang/String" "value" "[B" : Cond) ∈ GW := gwm 1428 (by decide +kernel) (by decide +kernel)
theorem w_1429 : (.fieldLink "java/lang/String" 15 "java/lang/String" "coder" "B" : Cond) ∈ GW := gwm 1429 (by decide +kernel) (by decide +kernel)
end
section
def SLEN : List Nat := [5, 4, 4, 5, 5, 4, 7, 6, 5, 7, 4]
def SBYT : List (List Int32) := [[97, 112, 97, 114, 116], [102, 105, 108, 108], [98, 111, 110, 100], [99, 111, 115, 116, 115], [102, 105, 114, 115, 116], [108, 97, 110, 100], [108, 105, 99, 101, 110, 99, 101], [108, 101, 110, 100, 101, 114], [117, 110, 116, 105, 108], [100, 105, 103, 103, 101, 114, 115], [112, 117, 109, 112]]
/-- the String constants: class, entry, text, where E keeps the address -/
def SREF : List (String × Nat × String × Nat) := [("GemPits", 59, "a step is 0 to 100", 200), ("GemPits$Agreement", 15, "costs", 23), ("GemPits$Agreement", 23, "first", 24), ("GemPits$Agreement", 33, "land", 25), ("GemPits$Agreement", 39, "licence", 26), ("GemPits$Agreement", 41, "lender", 27), ("GemPits$Agreement", 43, "until", 28), ("GemPits$Agreement", 49, "diggers", 29), ("GemPits$Agreement", 51, "pump", 30), ("GemPits$Law", 20, "apart", 20), ("GemPits$Law", 31, "fill", 21), ("GemPits$Law", 33, "bond", 22), ("GemPits", 80, "the text of the law is wrong", 201), ("GemPits", 89, "the text of the agreement is wrong", 202), ("GemPits", 306, "a square is 0 to 95", 203), ("GemPits", 103, "there are 30 pits", 204), ("GemPits", 296, "there is no such pit", 205), ("GemPits", 117, "gravel is 0 to 100", 206), ("GemPits", 131, "days are 0 to 1000", 207), ("GemPits", 168, "a pit tells 0 to 5", 208), ("GemPits", 171, "a basket is 0 to 99", 209), ("GemPits", 175, "the pit found nothing", 210), ("GemPits", 181, "there are 60 stones", 211), ("GemPits", 192, "money laid out is 0 to 100000, costs 10000000 at most", 212), ("GemPits", 301, "there is no such stone", 213), ("GemPits", 203, "a buyer is 0 to 5", 214), ("GemPits", 309, "money is 0 to 1000000", 215), ("GemPits", 237, "a stone tells 0 to 9", 216), ("GemPits", 243, "a rough is 1 to 10 wide and 1 to 8 high", 217), ("GemPits", 252, "the rough has no such cell", 218), ("GemPitsModel", 121, "apart", 20), ("GemPitsModel", 130, "fill", 21), ("GemPitsModel", 132, "bond", 22), ("GemPitsModel", 134, "costs", 23), ("GemPitsModel", 136, "first", 24), ("GemPitsModel", 138, "land", 25), ("GemPitsModel", 140, "licence", 26), ("GemPitsModel", 142, "diggers", 29), ("GemPitsModel", 144, "pump", 30), ("GemPitsModel", 146, "lender", 27), ("GemPitsModel", 148, "until", 28)]
/-! MY LAYER: abstract heaps (address to thing), one context a body (GX), a judgement G over both; rows that need nothing but the code -/
abbrev AH : Type := Nat → Option va_E
def hset (h : AH) (a : Nat) (e : va_E) : AH := fun b => if b = a then some e else h b
theorem hset_same (h : AH) (a : Nat) (e : va_E) : hset h a e a = some e := if_pos rfl
theorem hset_ne (h : AH) {a b : Nat} (e : va_E) (n : b ≠ a) : hset h a e b = h b := if_neg n
theorem hset_hset (h : AH) (a : Nat) (e e' : va_E) : hset (hset h a e) a e' = hset h a e' := by
  funext b
  unfold hset
  by_cases q : b = a
  · rw [if_pos q, if_pos q]
  · rw [if_neg q, if_neg q, if_neg q]
/-- the run's own numbers: where its heap begins, the classes' ids and slots, the arrays' classes and the constants' addresses -/
abbrev Ev : Type := Nat × va_G × (Nat → Nat)
def eA (E : Ev) : Nat → Prop := fun q => E.1 ≤ q
def eT (E : Ev) : List (ClassId × FieldType) := [(E.2.2 0, .byte), (E.2.2 1, .int), (E.2.2 2, .boolean), (E.2.2 3, .object "java/lang/Object"), (E.2.2 4, .long)]
def hOK (E : Ev) (h : AH) (H : Heap) : Prop := ∀ a e, h a = some e → va_at E.2.1 vwCl (a, e) H ∧ E.1 ≤ a
/-- words that only the tables speak of, which later tables keep -/
def tword : Cond → Bool
  | .castable _ _ => true
  | .declares _ => true
  | .methodLinkNest _ _ _ _ => true
  | _ => false
def TW : List Cond := lw_tbl.filter tword
theorem twm {w : Cond} (i : Nat) (h : lw_tbl[i]? = some w) (g : tword w = true) : w ∈ TW := List.mem_filter.mpr ⟨List.mem_of_getElem? h, g⟩
theorem tword_warm {s U : State} {w : Cond} (g : tword w = true) (hW : s.WarmedH U.vm) (h : va_Nw w s) : va_Nw w U := by
  cases w <;> first | exact va_Nw.warmC hW h | exact va_Nw.warmD hW h | exact va_Nw.warmM hW h | (exact (nomatch g)) | (simp [tword] at g)
def EXC : List String := ["java/lang/IllegalArgumentException", "java/lang/IndexOutOfBoundsException", "java/lang/UnsupportedOperationException", "java/util/NoSuchElementException", "java/lang/IllegalStateException"]
/-- what the start says of the machine's own things, and nobody changes -/
def zOK (E : Ev) (U : State) (H : Heap) : Prop :=
  vx_Zq Bundle.tN "UNASSIGNED_STACK" Bundle.steD (eA E) U H ∧ vx_Zq Bundle.tN "SUPPRESSED_SENTINEL" Bundle.listD (eA E) U H ∧
  va_Z "java/util/ArrayList" "DEFAULTCAPACITY_EMPTY_ELEMENTDATA" "[Ljava/lang/Object;" (.ref (E.2.2 10)) (eA E) U H ∧
  va_T (.object "java/lang/Object") (E.2.2 10) 0 (fun _ => .null) (eA E) U H ∧
  va_Z "java/lang/String" "COMPACT_STRINGS" "Z" (.int 1) (eA E) U H ∧
  va_Zq "jdk/internal/util/Preconditions" "SIOOBE_FORMATTER" "Ljava/util/function/BiFunction;" (eA E) U H ∧
  vk_S 11 SLEN SBYT (fun i => E.2.2 (20 + i)) (fun i => E.2.2 (40 + i)) (eA E) U H ∧
  (∀ q ∈ SREF, vk_R q.1 q.2.1 q.2.2.1 (E.2.2 q.2.2.2) U) ∧
  va_AO "java/lang/Object" U ∧ va_Mi "[Ljava/lang/Object;" (E.2.2 11) U ∧
  (∀ w ∈ TW, va_Nw w U) ∧
  (∀ a ∈ EXC, ∀ b ∈ EXC, a ≠ b → va_Nc a b U)
theorem zOK.go {E : Ev} {s U : State} {H0 H : Heap} (h : zOK E s H0) (hq : ∀ a : Nat, a < H0.size → ¬ eA E a → H[a]? = H0[a]?) (hW : s.WarmedH U.vm) : zOK E U H := by
  obtain ⟨h1, h2, h3, h4, h5, h6, h7, h8, h9, h10, h11, h12⟩ := h
  exact ⟨(h1.kept hq).moved hW.alike, (h2.kept hq).moved hW.alike, (h3.kept hq).moved hW.alike, (h4.kept hq).moved hW.alike, (h5.kept hq).moved hW.alike, (h6.kept hq).moved hW.alike, (h7.kept hq).moved hW.alike, fun q hq9 => vk_R.warm hW (h8 q hq9), h9.moved hW.alike, h10.moved hW.alike, fun w hw => tword_warm (List.mem_filter.mp hw).2 hW (h11 w hw), fun a ha b hb n => (h12 a ha b hb n).moved hW.alike⟩
/-- what a method is given: its heap holds h, from E.1 on -/
def wOK (E : Ev) (h : AH) (U : State) (H : Heap) : Prop := E.1 ≤ H.size ∧ hOK E h H ∧ va_K E.2.1 vwCl (eT E) U ∧ zOK E U H
theorem wOK.blind {E : Ev} {h : AH} {U : State} (q : wOK E h U U.heap) (g : JFrame) (mk : MethodId) (a : Array Value) : wOK E h (U.calling g mk a) (U.calling g mk a).heap :=
  ⟨q.1, q.2.1, va_K.moved (u := U) (U := U.calling g mk a) (Vm.Alike.refl U.vm) q.2.2.1, q.2.2.2.go (U := U.calling g mk a) (fun _ _ _ => rfl) (State.WarmedH.refl U)⟩
abbrev Cx : Type := Program × Launch × Env × Room × State × MethodId × Array Value × List Frame × Method × Code
abbrev kp (K : Cx) : Program := K.1
abbrev kl (K : Cx) : Launch := K.2.1
abbrev ke (K : Cx) : Env := K.2.2.1
abbrev kR (K : Cx) : Room := K.2.2.2.1
abbrev ks (K : Cx) : State := K.2.2.2.2.1
abbrev km (K : Cx) : MethodId := K.2.2.2.2.2.1
abbrev ka (K : Cx) : Array Value := K.2.2.2.2.2.2.1
abbrev kb (K : Cx) : List Frame := K.2.2.2.2.2.2.2.1
abbrev kM (K : Cx) : Method := K.2.2.2.2.2.2.2.2.1
abbrev kc (K : Cx) : Code := K.2.2.2.2.2.2.2.2.2
def GX (K : Cx) (E : Ev) (cc : ByteArray) (nL : Nat) (own : String) (ret : Option FieldType) (nm : String) : Prop :=
  (kp K).tables.exec = Jvm.exec ∧ (kc K).code = cc ∧ (kc K).maxLocals = nL ∧ (ks K).vm.findClass own = some (km K).cls ∧ (∀ w ∈ GW, w.before (ka K) (ks K) = true) ∧
  (kM K).sig.returnType = ret ∧ (kM K).locks = false ∧ (kM K).name = nm ∧ E.1 ≤ (ks K).heap.size ∧ va_K E.2.1 vwCl (eT E) (ks K) ∧ zOK E (ks K) (ks K).heap
def lvk (lv : List (Nat × Value)) (i : Nat) : Option Value := match lv with
  | [] => none
  | (j, v) :: r => if j = i then some v else lvk r i
/-- the locals: what the list says first of a place stands there; numbers of one slot and references alone -/
def lok (ls : Array Slot) (nL : Nat) (lv : List (Nat × Value)) : Prop := ls.size = nL ∧ lv_wf ls ∧ ∀ i v, lvk lv i = some v → ls[i]? = some (.val v) ∧ v.category = 1
def lvs (lv : List (Nat × Value)) (i : Nat) (v : Value) : List (Nat × Value) := (i, v) :: lv
theorem lvk_at {ls : Array Slot} {nL : Nat} {lv : List (Nat × Value)} (h : lok ls nL lv) {i : Nat} {v : Value} (e : lvk lv i = some v) : ls[i]? = some (.val v) := (h.2.2 i v e).1
def lvp (lv : List (Nat × Value)) (is : List Nat) : List (Nat × Value) := is.filterMap (fun i => (lvk lv i).map (fun v => (i, v)))
theorem lvp_mem {lv : List (Nat × Value)} {is : List Nat} {i : Nat} {v : Value} (h : (i, v) ∈ lvp lv is) : lvk lv i = some v := by
  obtain ⟨j, -, hj⟩ := List.mem_filterMap.mp h
  cases e : lvk lv j with
  | none => rw [e] at hj; cases hj
  | some w =>
    rw [e] at hj
    cases hj
    exact e
theorem lvk_mem {lv : List (Nat × Value)} {i : Nat} {v : Value} (h : lvk lv i = some v) : (i, v) ∈ lv := by
  induction lv with
  | nil => cases h
  | cons a r ih =>
    obtain ⟨j, w⟩ := a
    unfold lvk at h
    by_cases e : j = i
    · rw [if_pos e] at h
      cases h
      rw [e]
      exact List.mem_cons_self
    · rw [if_neg e] at h
      exact List.mem_cons_of_mem _ (ih h)
theorem lvp_has {ls : Array Slot} {nL : Nat} {lv : List (Nat × Value)} (h : lok ls nL lv) (is : List Nat) : lok ls nL (lvp lv is) := ⟨h.1, h.2.1, fun i v e => h.2.2 i v (lvp_mem (lvk_mem e))⟩
theorem lok_list {ls : Array Slot} {nL : Nat} {lv : List (Nat × Value)} (h : lok ls nL lv) : lv_has ls nL (lvp lv (List.range nL)) := ⟨h.1, h.2.1, fun q hq => (h.2.2 q.1 q.2 (lvp_mem hq)).1⟩
theorem lvp_in {ls : Array Slot} {nL : Nat} {lv : List (Nat × Value)} (h : lok ls nL lv) {i : Nat} {v : Value} (e : lvk lv i = some v) : (i, v) ∈ lvp lv (List.range nL) := by
  refine List.mem_filterMap.mpr ⟨i, List.mem_range.mpr ?_, by rw [e]; rfl⟩
  have := (Array.getElem?_eq_some_iff.mp (h.2.2 i v e).1).1
  rw [h.1] at this
  exact this
theorem lok_set {ls ls' : Array Slot} {nL : Nat} {lv : List (Nat × Value)} (h : lok ls nL lv) {i : Nat} {v : Value} (hc : v.category = 1) (h' : lv_has ls' nL ((i, v) :: (lvp lv (List.range nL)).filter (fun q => !(q.1 == i) && !(q.1 + 1 == i && q.2.category == 2)))) : lok ls' nL (lvs lv i v) := by
  refine ⟨h'.1, h'.2.1, fun j w e => ?_⟩
  unfold lvs lvk at e
  by_cases q : i = j
  · rw [if_pos q] at e
    cases e
    subst q
    exact ⟨h'.2.2 (i, v) List.mem_cons_self, hc⟩
  · rw [if_neg q] at e
    have hw := (h.2.2 j w e).2
    refine ⟨h'.2.2 (j, w) (List.mem_cons_of_mem _ (List.mem_filter.mpr ⟨lvp_in h e, ?_⟩)), hw⟩
    have q2 : (j == i) = false := beq_eq_false_iff_ne.mpr (fun z => q z.symm)
    show (!(j == i) && !(j + 1 == i && w.category == 2)) = true
    rw [q2, hw]
    simp
def G (K : Cx) (E : Ev) (nL : Nat) (Q : State → Prop) (cs ss pc : Nat) (lv : List (Nat × Value)) (st : List Value) (h : AH) : Prop :=
  ∀ (H : Heap) (locs : List Loc) (ls : Array Slot), hOK E h H → va_S (eA E) (ks K).heap H locs → lok ls nL lv →
    W (kp K) (kl K) (ke K) (kR K) (ks K) (km K) (ka K) (kb K) (kM K) (kc K) H locs cs ss Q (F0 (km K) pc ls st)
section GR
variable {K : Cx} {E : Ev} {cc : ByteArray} {nL : Nat} {own : String} {ret : Option FieldType} {nm : String} {Q : State → Prop} {cs ss pc : Nat} {lv : List (Nat × Value)} {st : List Value} {h : AH}
/-- fewer locals, told by their places -/
theorem g_lv (is : List Nat) {lv' : List (Nat × Value)} (e : lvp lv is = lv') (k : G K E nL Q cs ss pc lv' st h) : G K E nL Q cs ss pc lv st h := fun H locs ls hH hS hL => k H locs ls hH hS (e ▸ lvp_has hL is)
theorem g_wide {c' s' : Nat} (h1 : cs ≤ c') (h2 : ss ≤ s') (k : G K E nL Q c' s' pc lv st h) : G K E nL Q cs ss pc lv st h := fun H locs ls hH hS hL => W.widen h1 h2 (k H locs ls hH hS hL)
theorem GX.gw (C : GX K E cc nL own ret nm) {w : Cond} (hw : w ∈ GW) : w.before (ka K) (ks K) = true := C.2.2.2.2.1 w hw
theorem GX.ow (C : GX K E cc nL own ret nm) : (ks K).vm.findClass own = some (km K).cls := C.2.2.2.1
theorem GX.k (C : GX K E cc nL own ret nm) : va_K E.2.1 vwCl (eT E) (ks K) := C.2.2.2.2.2.2.2.2.2.1
theorem GX.z (C : GX K E cc nL own ret nm) : zOK E (ks K) (ks K).heap := C.2.2.2.2.2.2.2.2.2.2
theorem GX.n0 (C : GX K E cc nL own ret nm) : E.1 ≤ (ks K).heap.size := C.2.2.2.2.2.2.2.2.1
theorem GX.rt (C : GX K E cc nL own ret nm) : (kM K).sig.returnType = ret := C.2.2.2.2.2.1
theorem GX.locks (C : GX K E cc nL own ret nm) : (kM K).locks = false := C.2.2.2.2.2.2.1
theorem GX.name (C : GX K E cc nL own ret nm) : (kM K).name = nm := C.2.2.2.2.2.2.2.1
theorem GX.ml (C : GX K E cc nL own ret nm) : (kc K).maxLocals = nL := C.2.2.1
theorem eA_old (C : GX K E cc nL own ret nm) : ∀ q, (ks K).heap.size ≤ q → eA E q := fun q hq => Nat.le_trans C.n0 hq
theorem g_iconst {n : Nat} (C : GX K E cc nL own ret nm) {z : Int} {v : Int32} (hd : decode cc pc = .ok (.iconst z, 1)) (hn : pc + 1 = n) (hv : Int32.ofInt z = v) (k : G K E nL Q cs ss n lv (.int v :: st) h) : G K E nL Q cs ss pc lv (st) h := fun H locs ls hH hS hL => lv_iconst C.1 C.2.1 hd hv (by rw [hn]; exact k H locs ls hH hS hL)
theorem g_bipush {n : Nat} (C : GX K E cc nL own ret nm) {z : Int} {v : Int32} (hd : decode cc pc = .ok (.bipush z, 2)) (hn : pc + 2 = n) (hv : (Int8.ofInt z).toInt32 = v) (k : G K E nL Q cs ss n lv (.int v :: st) h) : G K E nL Q cs ss pc lv (st) h := fun H locs ls hH hS hL => lv_bipush C.1 C.2.1 hd hv (by rw [hn]; exact k H locs ls hH hS hL)
theorem g_sipush {n : Nat} (C : GX K E cc nL own ret nm) {z : Int} {v : Int32} (hd : decode cc pc = .ok (.sipush z, 3)) (hn : pc + 3 = n) (hv : (Int16.ofInt z).toInt32 = v) (k : G K E nL Q cs ss n lv (.int v :: st) h) : G K E nL Q cs ss pc lv (st) h := fun H locs ls hH hS hL => lv_sipush C.1 C.2.1 hd hv (by rw [hn]; exact k H locs ls hH hS hL)
theorem g_lconst {n : Nat} (C : GX K E cc nL own ret nm) {z : Fin 2} {v : Int64} (hd : decode cc pc = .ok (.lconst z, 1)) (hn : pc + 1 = n) (hv : Int64.ofNat (z : Nat) = v) (k : G K E nL Q cs ss n lv (.long v :: st) h) : G K E nL Q cs ss pc lv (st) h := fun H locs ls hH hS hL => lv_lconst C.1 C.2.1 hd hv (by rw [hn]; exact k H locs ls hH hS hL)
theorem g_null {n : Nat} (C : GX K E cc nL own ret nm)  (hd : decode cc pc = .ok (.aconst_null, 1)) (hn : pc + 1 = n)  (k : G K E nL Q cs ss n lv (.null :: st) h) : G K E nL Q cs ss pc lv (st) h := fun H locs ls hH hS hL => lv_null C.1 C.2.1 hd  (by rw [hn]; exact k H locs ls hH hS hL)
theorem g_ldc {n : Nat} (C : GX K E cc nL own ret nm) {i : Nat} {v : Int32} (hd : decode cc pc = .ok (.ldc i, 2)) (hn : pc + 2 = n) (hw : Cond.constant own i v ∈ GW) (k : G K E nL Q cs ss n lv (.int v :: st) h) : G K E nL Q cs ss pc lv (st) h := fun H locs ls hH hS hL => lv_ldc C.1 C.2.1 C.ow (C.gw hw) hd (by rw [hn]; exact k H locs ls hH hS hL)
theorem g_iload_n {n : Nat} (C : GX K E cc nL own ret nm) {i : Fin 4} {x : Int32} (hd : decode cc pc = .ok (.iload_n i, 1)) (hn : pc + 1 = n) (hl : lvk lv i.val = some (.int x)) (k : G K E nL Q cs ss n lv (.int x :: st) h) : G K E nL Q cs ss pc lv (st) h := fun H locs ls hH hS hL => lv_iload_n C.1 C.2.1 hd rfl (lvk_at hL hl) (by rw [hn]; exact k H locs ls hH hS hL)
theorem g_iload {n : Nat} (C : GX K E cc nL own ret nm) {i : Nat} {x : Int32} (hd : decode cc pc = .ok (.iload i, 2)) (hn : pc + 2 = n) (hl : lvk lv i = some (.int x)) (k : G K E nL Q cs ss n lv (.int x :: st) h) : G K E nL Q cs ss pc lv (st) h := fun H locs ls hH hS hL => lv_iload C.1 C.2.1 hd (lvk_at hL hl) (by rw [hn]; exact k H locs ls hH hS hL)
theorem g_aload_n {n : Nat} (C : GX K E cc nL own ret nm) {i : Fin 4} {x : Nat} (hd : decode cc pc = .ok (.aload_n i, 1)) (hn : pc + 1 = n) (hl : lvk lv i.val = some (.ref x)) (k : G K E nL Q cs ss n lv (.ref x :: st) h) : G K E nL Q cs ss pc lv (st) h := fun H locs ls hH hS hL => lv_aload_n C.1 C.2.1 hd rfl (lvk_at hL hl) (by rw [hn]; exact k H locs ls hH hS hL)
theorem g_aload {n : Nat} (C : GX K E cc nL own ret nm) {i : Nat} {x : Nat} (hd : decode cc pc = .ok (.aload i, 2)) (hn : pc + 2 = n) (hl : lvk lv i = some (.ref x)) (k : G K E nL Q cs ss n lv (.ref x :: st) h) : G K E nL Q cs ss pc lv (st) h := fun H locs ls hH hS hL => lv_aload C.1 C.2.1 hd (lvk_at hL hl) (by rw [hn]; exact k H locs ls hH hS hL)
theorem g_iadd {n : Nat} (C : GX K E cc nL own ret nm) {x y : Int32} (hd : decode cc pc = .ok (.iadd, 1)) (hn : pc + 1 = n)  (k : G K E nL Q cs ss n lv (.int (x + y) :: st) h) : G K E nL Q cs ss pc lv (.int y :: .int x :: st) h := fun H locs ls hH hS hL => lv_iadd C.1 C.2.1 hd  (by rw [hn]; exact k H locs ls hH hS hL)
theorem g_isub {n : Nat} (C : GX K E cc nL own ret nm) {x y : Int32} (hd : decode cc pc = .ok (.isub, 1)) (hn : pc + 1 = n)  (k : G K E nL Q cs ss n lv (.int (x - y) :: st) h) : G K E nL Q cs ss pc lv (.int y :: .int x :: st) h := fun H locs ls hH hS hL => lv_isub C.1 C.2.1 hd  (by rw [hn]; exact k H locs ls hH hS hL)
theorem g_imul {n : Nat} (C : GX K E cc nL own ret nm) {x y : Int32} (hd : decode cc pc = .ok (.imul, 1)) (hn : pc + 1 = n)  (k : G K E nL Q cs ss n lv (.int (x * y) :: st) h) : G K E nL Q cs ss pc lv (.int y :: .int x :: st) h := fun H locs ls hH hS hL => lv_imul C.1 C.2.1 hd  (by rw [hn]; exact k H locs ls hH hS hL)
theorem g_iand {n : Nat} (C : GX K E cc nL own ret nm) {x y : Int32} (hd : decode cc pc = .ok (.iand, 1)) (hn : pc + 1 = n)  (k : G K E nL Q cs ss n lv (.int (x &&& y) :: st) h) : G K E nL Q cs ss pc lv (.int y :: .int x :: st) h := fun H locs ls hH hS hL => lv_iand C.1 C.2.1 hd  (by rw [hn]; exact k H locs ls hH hS hL)
theorem g_ior {n : Nat} (C : GX K E cc nL own ret nm) {x y : Int32} (hd : decode cc pc = .ok (.ior, 1)) (hn : pc + 1 = n)  (k : G K E nL Q cs ss n lv (.int (x ||| y) :: st) h) : G K E nL Q cs ss pc lv (.int y :: .int x :: st) h := fun H locs ls hH hS hL => lv_ior C.1 C.2.1 hd  (by rw [hn]; exact k H locs ls hH hS hL)
theorem g_ishl {n : Nat} (C : GX K E cc nL own ret nm) {x y : Int32} (hd : decode cc pc = .ok (.ishl, 1)) (hn : pc + 1 = n)  (k : G K E nL Q cs ss n lv (.int (x <<< (y &&& 31)) :: st) h) : G K E nL Q cs ss pc lv (.int y :: .int x :: st) h := fun H locs ls hH hS hL => lv_ishl C.1 C.2.1 hd  (by rw [hn]; exact k H locs ls hH hS hL)
theorem g_ishr {n : Nat} (C : GX K E cc nL own ret nm) {x y : Int32} (hd : decode cc pc = .ok (.ishr, 1)) (hn : pc + 1 = n)  (k : G K E nL Q cs ss n lv (.int (x >>> (y &&& 31)) :: st) h) : G K E nL Q cs ss pc lv (.int y :: .int x :: st) h := fun H locs ls hH hS hL => lv_ishr C.1 C.2.1 hd  (by rw [hn]; exact k H locs ls hH hS hL)
theorem g_idiv {n : Nat} (C : GX K E cc nL own ret nm) {x y : Int32} (hd : decode cc pc = .ok (.idiv, 1)) (hn : pc + 1 = n) (hz : ¬ y = 0) (k : G K E nL Q cs ss n lv (.int (x / y) :: st) h) : G K E nL Q cs ss pc lv (.int y :: .int x :: st) h := fun H locs ls hH hS hL => lv_idiv C.1 C.2.1 hd hz (by rw [hn]; exact k H locs ls hH hS hL)
theorem g_irem {n : Nat} (C : GX K E cc nL own ret nm) {x y : Int32} (hd : decode cc pc = .ok (.irem, 1)) (hn : pc + 1 = n) (hz : ¬ y = 0) (k : G K E nL Q cs ss n lv (.int (x - x / y * y) :: st) h) : G K E nL Q cs ss pc lv (.int y :: .int x :: st) h := fun H locs ls hH hS hL => lv_irem C.1 C.2.1 hd hz (by rw [hn]; exact k H locs ls hH hS hL)
theorem g_ineg {n : Nat} (C : GX K E cc nL own ret nm) {x : Int32} (hd : decode cc pc = .ok (.ineg, 1)) (hn : pc + 1 = n)  (k : G K E nL Q cs ss n lv (.int (-x) :: st) h) : G K E nL Q cs ss pc lv (.int x :: st) h := fun H locs ls hH hS hL => lv_ineg C.1 C.2.1 hd  (by rw [hn]; exact k H locs ls hH hS hL)
theorem g_iushr {n : Nat} (C : GX K E cc nL own ret nm) {x y : Int32} (hd : decode cc pc = .ok (.iushr, 1)) (hn : pc + 1 = n)  (k : G K E nL Q cs ss n lv (.int ((x.toUInt32 >>> (y.toUInt32 &&& Int32.toUInt32 31)).toInt32) :: st) h) : G K E nL Q cs ss pc lv (.int y :: .int x :: st) h := fun H locs ls hH hS hL => lv_iushr C.1 C.2.1 hd rfl (by rw [hn]; exact k H locs ls hH hS hL)
theorem g_i2b {n : Nat} (C : GX K E cc nL own ret nm) {x : Int32} (hd : decode cc pc = .ok (.i2b, 1)) (hn : pc + 1 = n)  (k : G K E nL Q cs ss n lv (.int x.toInt8.toInt32 :: st) h) : G K E nL Q cs ss pc lv (.int x :: st) h := fun H locs ls hH hS hL => lv_i2b C.1 C.2.1 hd rfl (by rw [hn]; exact k H locs ls hH hS hL)
theorem g_i2c {n : Nat} (C : GX K E cc nL own ret nm) {x : Int32} (hd : decode cc pc = .ok (.i2c, 1)) (hn : pc + 1 = n)  (k : G K E nL Q cs ss n lv (.int (x.toUInt32 % 65536).toInt32 :: st) h) : G K E nL Q cs ss pc lv (.int x :: st) h := fun H locs ls hH hS hL => lv_i2c C.1 C.2.1 hd rfl (by rw [hn]; exact k H locs ls hH hS hL)
theorem g_i2l {n : Nat} (C : GX K E cc nL own ret nm) {x : Int32} (hd : decode cc pc = .ok (.i2l, 1)) (hn : pc + 1 = n)  (k : G K E nL Q cs ss n lv (.long x.toInt64 :: st) h) : G K E nL Q cs ss pc lv (.int x :: st) h := fun H locs ls hH hS hL => lv_i2l C.1 C.2.1 hd rfl (by rw [hn]; exact k H locs ls hH hS hL)
theorem g_lcmp {n : Nat} (C : GX K E cc nL own ret nm) {x y : Int64} (hd : decode cc pc = .ok (.lcmp, 1)) (hn : pc + 1 = n)  (k : G K E nL Q cs ss n lv (.int (lg_cmp x y) :: st) h) : G K E nL Q cs ss pc lv (.long y :: .long x :: st) h := fun H locs ls hH hS hL => W.lcmp C.1 C.2.1 hd  (by rw [hn]; exact k H locs ls hH hS hL)
theorem g_dup {n : Nat} (C : GX K E cc nL own ret nm) {a : Value} (hd : decode cc pc = .ok (.dup, 1)) (hn : pc + 1 = n) (hc : a.category = 1) (k : G K E nL Q cs ss n lv (a :: a :: st) h) : G K E nL Q cs ss pc lv (a :: st) h := fun H locs ls hH hS hL => lv_dup C.1 C.2.1 hd hc (by rw [hn]; exact k H locs ls hH hS hL)
theorem g_pop {n : Nat} (C : GX K E cc nL own ret nm) {a : Value} (hd : decode cc pc = .ok (.pop, 1)) (hn : pc + 1 = n) (hc : a.category = 1) (k : G K E nL Q cs ss n lv (st) h) : G K E nL Q cs ss pc lv (a :: st) h := fun H locs ls hH hS hL => lv_pop C.1 C.2.1 hd hc (by rw [hn]; exact k H locs ls hH hS hL)
theorem g_dup_x1 {n : Nat} (C : GX K E cc nL own ret nm) {a b : Value} (hd : decode cc pc = .ok (.dup_x1, 1)) (hn : pc + 1 = n) (hc : a.category = 1) (hc2 : b.category = 1) (k : G K E nL Q cs ss n lv (a :: b :: a :: st) h) : G K E nL Q cs ss pc lv (a :: b :: st) h := fun H locs ls hH hS hL => lv_dup_x1 C.1 C.2.1 hd hc hc2 (by rw [hn]; exact k H locs ls hH hS hL)
theorem g_dup2 {n : Nat} (C : GX K E cc nL own ret nm) {a b : Value} (hd : decode cc pc = .ok (.dup2, 1)) (hn : pc + 1 = n) (hc : a.category = 1) (hc2 : b.category = 1) (k : G K E nL Q cs ss n lv (a :: b :: a :: b :: st) h) : G K E nL Q cs ss pc lv (a :: b :: st) h := fun H locs ls hH hS hL => lv_dup2_11 C.1 C.2.1 hd hc hc2 (by rw [hn]; exact k H locs ls hH hS hL)
theorem g_istore_n {n : Nat} (C : GX K E cc nL own ret nm) {i : Fin 4} {x : Int32} (hd : decode cc pc = .ok (.istore_n i, 1)) (hn : pc + 1 = n) (hi : i.val < nL) (k : G K E nL Q cs ss n (lvs lv i.val (.int x)) st h) : G K E nL Q cs ss pc lv (.int x :: st) h := fun H locs ls hH hS hL => lv_istore_n C.1 C.2.1 hd rfl (lok_list hL) hi rfl (fun ls9 hL9 => by rw [hn]; exact k H locs ls9 hH hS (lok_set hL rfl hL9))
theorem g_istore {n : Nat} (C : GX K E cc nL own ret nm) {i : Nat} {x : Int32} (hd : decode cc pc = .ok (.istore i, 2)) (hn : pc + 2 = n) (hi : i < nL) (k : G K E nL Q cs ss n (lvs lv i (.int x)) st h) : G K E nL Q cs ss pc lv (.int x :: st) h := fun H locs ls hH hS hL => lv_istore C.1 C.2.1 hd  (lok_list hL) hi rfl (fun ls9 hL9 => by rw [hn]; exact k H locs ls9 hH hS (lok_set hL rfl hL9))
theorem g_astore_n {n : Nat} (C : GX K E cc nL own ret nm) {i : Fin 4} {x : Nat} (hd : decode cc pc = .ok (.astore_n i, 1)) (hn : pc + 1 = n) (hi : i.val < nL) (k : G K E nL Q cs ss n (lvs lv i.val (.ref x)) st h) : G K E nL Q cs ss pc lv (.ref x :: st) h := fun H locs ls hH hS hL => lv_astore_n C.1 C.2.1 hd rfl (lok_list hL) hi rfl (fun ls9 hL9 => by rw [hn]; exact k H locs ls9 hH hS (lok_set hL rfl hL9))
theorem g_astore {n : Nat} (C : GX K E cc nL own ret nm) {i : Nat} {x : Nat} (hd : decode cc pc = .ok (.astore i, 2)) (hn : pc + 2 = n) (hi : i < nL) (k : G K E nL Q cs ss n (lvs lv i (.ref x)) st h) : G K E nL Q cs ss pc lv (.ref x :: st) h := fun H locs ls hH hS hL => lv_astore C.1 C.2.1 hd  (lok_list hL) hi rfl (fun ls9 hL9 => by rw [hn]; exact k H locs ls9 hH hS (lok_set hL rfl hL9))
theorem g_iinc {n : Nat} (C : GX K E cc nL own ret nm) {i : Nat} {z : Int} {x v : Int32} (hd : decode cc pc = .ok (.iinc i z, 3)) (hn : pc + 3 = n) (hl : lvk lv i = some (.int x)) (hv : x + Int32.ofInt z = v) (hi : i < nL) (k : G K E nL Q cs ss n (lvs lv i (.int v)) st h) : G K E nL Q cs ss pc lv st h := fun H locs ls hH hS hL => by
  obtain ⟨q, hq⟩ := List.getElem?_of_mem (lvp_in hL hl)
  exact lv_iinc C.1 C.2.1 hd (lok_list hL) hq hv hi rfl (fun ls9 hL9 => by rw [hn]; exact k H locs ls9 hH hS (lok_set hL rfl hL9))
theorem g_if_eq {n t : Nat} (C : GX K E cc nL own ret nm) {off : Int} {x : Int32} (hd : decode cc pc = .ok (.ifCond .eq off, 3)) (hn : pc + 3 = n) (ht : (pc : Int) + off = (t : Int)) (kt : x = 0 → G K E nL Q cs ss t lv st h) (kf : ¬ x = 0 → G K E nL Q cs ss n lv st h) : G K E nL Q cs ss pc lv (.int x :: st) h := fun H locs ls hH hS hL => lv_if_eq C.1 C.2.1 hd ht (fun q => kt q H locs ls hH hS hL) (fun q => by rw [hn]; exact kf q H locs ls hH hS hL)
theorem g_if_lt {n t : Nat} (C : GX K E cc nL own ret nm) {off : Int} {x : Int32} (hd : decode cc pc = .ok (.ifCond .lt off, 3)) (hn : pc + 3 = n) (ht : (pc : Int) + off = (t : Int)) (kt : x < 0 → G K E nL Q cs ss t lv st h) (kf : ¬ x < 0 → G K E nL Q cs ss n lv st h) : G K E nL Q cs ss pc lv (.int x :: st) h := fun H locs ls hH hS hL => lv_if_lt C.1 C.2.1 hd ht (fun q => kt q H locs ls hH hS hL) (fun q => by rw [hn]; exact kf q H locs ls hH hS hL)
theorem g_if_ge {n t : Nat} (C : GX K E cc nL own ret nm) {off : Int} {x : Int32} (hd : decode cc pc = .ok (.ifCond .ge off, 3)) (hn : pc + 3 = n) (ht : (pc : Int) + off = (t : Int)) (kt : 0 ≤ x → G K E nL Q cs ss t lv st h) (kf : ¬ 0 ≤ x → G K E nL Q cs ss n lv st h) : G K E nL Q cs ss pc lv (.int x :: st) h := fun H locs ls hH hS hL => lv_if_ge C.1 C.2.1 hd ht (fun q => kt q H locs ls hH hS hL) (fun q => by rw [hn]; exact kf q H locs ls hH hS hL)
theorem g_if_gt {n t : Nat} (C : GX K E cc nL own ret nm) {off : Int} {x : Int32} (hd : decode cc pc = .ok (.ifCond .gt off, 3)) (hn : pc + 3 = n) (ht : (pc : Int) + off = (t : Int)) (kt : 0 < x → G K E nL Q cs ss t lv st h) (kf : ¬ 0 < x → G K E nL Q cs ss n lv st h) : G K E nL Q cs ss pc lv (.int x :: st) h := fun H locs ls hH hS hL => lv_if_gt C.1 C.2.1 hd ht (fun q => kt q H locs ls hH hS hL) (fun q => by rw [hn]; exact kf q H locs ls hH hS hL)
theorem g_if_le {n t : Nat} (C : GX K E cc nL own ret nm) {off : Int} {x : Int32} (hd : decode cc pc = .ok (.ifCond .le off, 3)) (hn : pc + 3 = n) (ht : (pc : Int) + off = (t : Int)) (kt : x ≤ 0 → G K E nL Q cs ss t lv st h) (kf : ¬ x ≤ 0 → G K E nL Q cs ss n lv st h) : G K E nL Q cs ss pc lv (.int x :: st) h := fun H locs ls hH hS hL => lv_if_le C.1 C.2.1 hd ht (fun q => kt q H locs ls hH hS hL) (fun q => by rw [hn]; exact kf q H locs ls hH hS hL)
theorem g_icmp_eq {n t : Nat} (C : GX K E cc nL own ret nm) {off : Int} {x y : Int32} (hd : decode cc pc = .ok (.if_icmp .eq off, 3)) (hn : pc + 3 = n) (ht : (pc : Int) + off = (t : Int)) (kt : x = y → G K E nL Q cs ss t lv st h) (kf : ¬ x = y → G K E nL Q cs ss n lv st h) : G K E nL Q cs ss pc lv (.int y :: .int x :: st) h := fun H locs ls hH hS hL => lv_icmp_eq C.1 C.2.1 hd ht (fun q => kt q H locs ls hH hS hL) (fun q => by rw [hn]; exact kf q H locs ls hH hS hL)
theorem g_icmp_lt {n t : Nat} (C : GX K E cc nL own ret nm) {off : Int} {x y : Int32} (hd : decode cc pc = .ok (.if_icmp .lt off, 3)) (hn : pc + 3 = n) (ht : (pc : Int) + off = (t : Int)) (kt : x < y → G K E nL Q cs ss t lv st h) (kf : ¬ x < y → G K E nL Q cs ss n lv st h) : G K E nL Q cs ss pc lv (.int y :: .int x :: st) h := fun H locs ls hH hS hL => lv_icmp_lt C.1 C.2.1 hd ht (fun q => kt q H locs ls hH hS hL) (fun q => by rw [hn]; exact kf q H locs ls hH hS hL)
theorem g_icmp_ge {n t : Nat} (C : GX K E cc nL own ret nm) {off : Int} {x y : Int32} (hd : decode cc pc = .ok (.if_icmp .ge off, 3)) (hn : pc + 3 = n) (ht : (pc : Int) + off = (t : Int)) (kt : y ≤ x → G K E nL Q cs ss t lv st h) (kf : ¬ y ≤ x → G K E nL Q cs ss n lv st h) : G K E nL Q cs ss pc lv (.int y :: .int x :: st) h := fun H locs ls hH hS hL => lv_icmp_ge C.1 C.2.1 hd ht (fun q => kt q H locs ls hH hS hL) (fun q => by rw [hn]; exact kf q H locs ls hH hS hL)
theorem g_icmp_gt {n t : Nat} (C : GX K E cc nL own ret nm) {off : Int} {x y : Int32} (hd : decode cc pc = .ok (.if_icmp .gt off, 3)) (hn : pc + 3 = n) (ht : (pc : Int) + off = (t : Int)) (kt : y < x → G K E nL Q cs ss t lv st h) (kf : ¬ y < x → G K E nL Q cs ss n lv st h) : G K E nL Q cs ss pc lv (.int y :: .int x :: st) h := fun H locs ls hH hS hL => lv_icmp_gt C.1 C.2.1 hd ht (fun q => kt q H locs ls hH hS hL) (fun q => by rw [hn]; exact kf q H locs ls hH hS hL)
theorem g_icmp_le {n t : Nat} (C : GX K E cc nL own ret nm) {off : Int} {x y : Int32} (hd : decode cc pc = .ok (.if_icmp .le off, 3)) (hn : pc + 3 = n) (ht : (pc : Int) + off = (t : Int)) (kt : x ≤ y → G K E nL Q cs ss t lv st h) (kf : ¬ x ≤ y → G K E nL Q cs ss n lv st h) : G K E nL Q cs ss pc lv (.int y :: .int x :: st) h := fun H locs ls hH hS hL => lv_icmp_le C.1 C.2.1 hd ht (fun q => kt q H locs ls hH hS hL) (fun q => by rw [hn]; exact kf q H locs ls hH hS hL)
theorem g_if_ne {n t : Nat} (C : GX K E cc nL own ret nm) {off : Int} {x : Int32} (hd : decode cc pc = .ok (.ifCond .ne off, 3)) (hn : pc + 3 = n) (ht : (pc : Int) + off = (t : Int)) (kt : ¬ x = 0 → G K E nL Q cs ss t lv st h) (kf : x = 0 → G K E nL Q cs ss n lv st h) : G K E nL Q cs ss pc lv (.int x :: st) h := fun H locs ls hH hS hL => lv_if_ne C.1 C.2.1 hd ht (fun q => kt q H locs ls hH hS hL) (fun q => by rw [hn]; exact kf q H locs ls hH hS hL)
theorem g_icmp_ne {n t : Nat} (C : GX K E cc nL own ret nm) {off : Int} {x y : Int32} (hd : decode cc pc = .ok (.if_icmp .ne off, 3)) (hn : pc + 3 = n) (ht : (pc : Int) + off = (t : Int)) (kt : ¬ x = y → G K E nL Q cs ss t lv st h) (kf : x = y → G K E nL Q cs ss n lv st h) : G K E nL Q cs ss pc lv (.int y :: .int x :: st) h := fun H locs ls hH hS hL => lv_icmp_ne C.1 C.2.1 hd ht (fun q => kt q H locs ls hH hS hL) (fun q => by rw [hn]; exact kf q H locs ls hH hS hL)
theorem g_goto {t : Nat} (C : GX K E cc nL own ret nm) {off : Int} (hd : decode cc pc = .ok (.goto off, 3)) (ht : (pc : Int) + off = (t : Int)) (k : G K E nL Q cs ss t lv st h) : G K E nL Q cs ss pc lv st h := fun H locs ls hH hS hL => lv_goto C.1 C.2.1 hd ht (k H locs ls hH hS hL)
theorem g_tableOut {t : Nat} (C : GX K E cc nL own ret nm) {dflt lo hi : Int} {offs : Array Int} {len : Nat} {x : Int32} (hd : decode cc pc = .ok (.tableswitch dflt lo hi offs, len)) (hq : x.toInt < lo ∨ hi < x.toInt) (ht : (pc : Int) + dflt = (t : Int)) (k : G K E nL Q cs ss t lv st h) : G K E nL Q cs ss pc lv (.int x :: st) h := fun H locs ls hH hS hL => lv_tableOut C.1 C.2.1 hd hq ht (k H locs ls hH hS hL)
theorem g_tableIn {t : Nat} (C : GX K E cc nL own ret nm) {dflt lo hi : Int} {offs : Array Int} {len : Nat} {x : Int32} {off : Int} (hd : decode cc pc = .ok (.tableswitch dflt lo hi offs, len)) (h1 : ¬ x.toInt < lo) (h2 : ¬ hi < x.toInt) (ho : offs[(x.toInt - lo).toNat]? = some off) (ht : (pc : Int) + off = (t : Int)) (k : G K E nL Q cs ss t lv st h) : G K E nL Q cs ss pc lv (.int x :: st) h := fun H locs ls hH hS hL => lv_tableIn C.1 C.2.1 hd h1 h2 ho ht (k H locs ls hH hS hL)
/-- a field of an object -/
theorem g_get {n : Nat} (C : GX K E cc nL own ret nm) {a ci index : Nat} {ref Cn : String} {T : u_T} {N : Nat} {fs : List Value} {v : Value} (f : Nat) (hd : decode cc pc = .ok (.getfield index, 3)) (hn : pc + 3 = n) (he : h a = some (.inr (ci, fs))) (hv : fs[f]? = some v) (hc : vwCl[ci]? = some (Cn, T, N)) (hk : f < N) (hin : ∀ w ∈ u_ws Cn T N, w ∈ GW) (hlink : Cond.fieldLink own index ref (T f).2.1 (T f).2.2.1 ∈ GW) (href : (T f).1 = ref)
    (k : G K E nL Q cs ss n lv (v :: st) h) : G K E nL Q cs ss pc lv (.ref a :: st) h := fun H locs ls hH hS hL =>
  va_get (D := E.2.1) (cl := vwCl) (ws := [(a, .inr (ci, fs))]) (tys := eT E) C.1 C.2.1 C.2.2.2.2.1 hin C.ow C.k (fun j q hq => by
    have hj : j = 0 := by
      have := (List.getElem?_eq_some_iff.mp hq).1
      simpa using this
    subst hj
    cases hq
    exact (hH a _ he).1) 0 rfl hc f hk (C.gw hlink) (fun x hx => by rw [← href]; exact hx) hv hd (by rw [hn]; exact k H locs ls hH hS hL)
theorem hOK_set {h : AH} {H H1 : Heap} {a : Nat} {e0 e : va_E} (hH : hOK E h H) (he : h a = some e0) (h1 : va_at E.2.1 vwCl (a, e) H1) (oq : ∀ q : Nat, q ≠ a → H1[q]? = H[q]?) : hOK E (hset h a e) H1 := by
  intro b x hb
  by_cases q : b = a
  · subst q
    rw [hset_same] at hb
    cases hb
    exact ⟨h1, (hH b _ he).2⟩
  · rw [hset_ne h e q] at hb
    obtain ⟨g1, g2⟩ := hH b x hb
    exact ⟨g1.kept (oq b q), g2⟩
theorem hOK_new {h : AH} {H H1 : Heap} {a : Nat} {e : va_E} (hH : hOK E h H) (h1 : va_at E.2.1 vwCl (a, e) H1) (hN : E.1 ≤ a) (oq : ∀ q : Nat, q < H.size → H1[q]? = H[q]?) (ha : a = H.size) : hOK E (hset h a e) H1 := by
  intro b x hb
  by_cases q : b = a
  · subst q
    rw [hset_same] at hb
    cases hb
    exact ⟨h1, hN⟩
  · rw [hset_ne h e q] at hb
    obtain ⟨g1, g2⟩ := hH b x hb
    exact ⟨g1.kept (oq b g1.lt), g2⟩
theorem hOK_fresh {h : AH} {H : Heap} (hH : hOK E h H) : h H.size = none := by
  cases e : h H.size with
  | none => rfl
  | some x => exact absurd (hH _ x e).1.lt (Nat.lt_irrefl _)
/-- a field that isn't final -/
theorem g_put {n : Nat} (C : GX K E cc nL own ret nm) {a ci index : Nat} {ref Cn : String} {T : u_T} {N : Nat} {fs : List Value} {v : Value} {ty : FieldType} {ty0 : Nat → FieldType} (f : Nat) (hd : decode cc pc = .ok (.putfield index, 3)) (hn : pc + 3 = n) (he : h a = some (.inr (ci, fs))) (hc : vwCl[ci]? = some (Cn, T, N)) (hk : f < N) (hin : ∀ w ∈ u_ws Cn T N, w ∈ GW) (hlink : Cond.fieldLink own index ref (T f).2.1 (T f).2.2.1 ∈ GW) (href : (T f).1 = ref)
    (hty : ∀ k, k < N → parseFieldDescriptor (T k).2.2.1 = some (ty0 k)) (hnm : ∀ a, a < N → ∀ b, b < N → a ≠ b → (T a).2.1 ≠ (T b).2.1) (hfin : (T f).2.2.2 = false) (hdt : ty0 f = ty) (hnar : narrow ty v = v) (hfit : fits ty v = true) (hl : f < fs.length)
    (k : G K E nL Q cs ss n lv st (hset h a (.inr (ci, fs.set f v)))) : G K E nL Q cs ss pc lv (v :: .ref a :: st) h := by
  intro H locs ls hH hS hL
  have hts := C.2.2.2.2.1
  have hK := C.k
  have hap := va_apart (own := own) hts hin ty0 hty hnm hK hc
  obtain ⟨hat, hA⟩ := hH a _ he
  obtain ⟨r, h1, cell, q1, q2, q3, q4⟩ := hat
  have hr : r = (Cn, T, N) := Option.some.inj (h1.symm.trans hc)
  subst hr
  obtain ⟨hSl, hfc, kC, hkC, hkind⟩ := hK.1 ci _ hc
  obtain ⟨cf, kf, fi, fd, hi, hsl⟩ := hSl f hk
  have hlay := hts _ (hin _ (u_in_lay hk))
  unfold u_lay at hlay
  rw [if_neg (by rw [hfin]; decide)] at hlay
  have hst := (u_facts hfc hkC (u_lays hts hin hk) hi).1
  have h6 := u_store hfc hkC hkind hlay hi (by rw [← hdt]; exact hty f hk) hnar hfit
  refine W.putK C.1 C.2.1 (f := fd) ⟨C.ow, C.gw hlink, ⟨_, _, _, by rw [← href]; exact hi⟩, hst⟩ (by rw [q2]; exact h6) q1 q3 (by rw [hsl]; exact k2_hasslot (q4 f hk)) rfl rfl hd fun H' e1 e2 e3 => ?_
  rw [hsl] at e1 ⊢
  rw [hn]
  exact k H' _ ls (hOK_set hH he ⟨_, hc, t_OB.to (V := updV (vp_V fs) f v) ⟨_, e1, q2, q3, t_set q4 hap hk v⟩ (fun j _ => vp_updV_set hl v j)⟩ e3) (hS.put e2 e3 hA) hL
/-- a final field, in its class's constructor -/
theorem g_putF {n : Nat} (C : GX K E cc nL own ret nm) {a ci index : Nat} {ref Cn : String} {T : u_T} {N : Nat} {fs : List Value} {v : Value} {ty : FieldType} {ty0 : Nat → FieldType} (f : Nat) (hd : decode cc pc = .ok (.putfield index, 3)) (hn : pc + 3 = n) (he : h a = some (.inr (ci, fs))) (hc : vwCl[ci]? = some (Cn, T, N)) (hk : f < N) (hin : ∀ w ∈ u_ws Cn T N, w ∈ GW) (hlink : Cond.fieldLink own index ref (T f).2.1 (T f).2.2.1 ∈ GW) (href : (T f).1 = ref)
    (hty : ∀ k, k < N → parseFieldDescriptor (T k).2.2.1 = some (ty0 k)) (hnm : ∀ a, a < N → ∀ b, b < N → a ≠ b → (T a).2.1 ≠ (T b).2.1) (hfin : (T f).2.2.2 = true) (hin2 : nm = "<init>") (hdecl : (T f).1 = own) (hdt : ty0 f = ty) (hnar : narrow ty v = v) (hfit : fits ty v = true) (hl : f < fs.length)
    (k : G K E nL Q cs ss n lv st (hset h a (.inr (ci, fs.set f v)))) : G K E nL Q cs ss pc lv (v :: .ref a :: st) h := by
  intro H locs ls hH hS hL
  have hts := C.2.2.2.2.1
  have hK := C.k
  have hown := C.ow
  have hap := va_apart (own := own) hts hin ty0 hty hnm hK hc
  obtain ⟨hat, hA⟩ := hH a _ he
  obtain ⟨r, h1, cell, q1, q2, q3, q4⟩ := hat
  have hr : r = (Cn, T, N) := Option.some.inj (h1.symm.trans hc)
  subst hr
  obtain ⟨hSl, hfc, kC, hkC, hkind⟩ := hK.1 ci _ hc
  obtain ⟨cf, kf, fi, fd, hi, hsl⟩ := hSl f hk
  have hlay := hts _ (hin _ (u_in_lay hk))
  unfold u_lay at hlay
  rw [if_pos hfin] at hlay
  have hst := (u_facts hfc hkC (u_lays hts hin hk) hi).1
  have hcf : (km K).cls = cf := by
    obtain ⟨_, _, c', _, _, _, -, -, hf', -, -, -, hown2, -⟩ := Cond.laysFinal_spec hlay
    have e1 : c' = cf := by have := hi.symm.trans hf'; simp at this; exact this.1.symm
    rw [hdecl] at hown2
    rw [← e1]; exact Option.some.inj (hown.symm.trans hown2)
  have h6 := u_fits hfc hkC hkind (Or.inr hlay) hi (by rw [← hdt]; exact hty f hk) hnar hfit
  refine W.putFinK C.1 C.2.1 hown (C.gw hlink) (by rw [← href]; exact hi) hst hcf (C.name.trans hin2) (by rw [q2]; exact h6) q1 q3 (by rw [hsl]; exact k2_hasslot (q4 f hk)) rfl rfl hd fun H' e1 e2 e3 => ?_
  rw [hsl] at e1 ⊢
  rw [hn]
  exact k H' _ ls (hOK_set hH he ⟨_, hc, t_OB.to (V := updV (vp_V fs) f v) ⟨_, e1, q2, q3, t_set q4 hap hk v⟩ (fun j _ => vp_updV_set hl v j)⟩ e3) (hS.put e2 e3 hA) hL
theorem hOK_one {h : AH} {H : Heap} {a : Nat} {e : va_E} (hH : hOK E h H) (he : h a = some e) : va_P E.2.1 vwCl [(a, e)] H := fun j q hq => by
  have hj : j = 0 := by
    have := (List.getElem?_eq_some_iff.mp hq).1
    simpa using this
  subst hj
  cases hq
  exact (hH a _ he).1
theorem g_iald {n : Nat} (C : GX K E cc nL own ret nm) {a N : Nat} {f : Nat → Int32} {i : Int32} (hd : decode cc pc = .ok (.iaload, 1)) (hn : pc + 1 = n) (he : h a = some (.inl (E.2.2 1, N, .inl f))) (hin : vp_in i N)
    (k : G K E nL Q cs ss n lv (.int (f i.toNatClampNeg) :: st) h) : G K E nL Q cs ss pc lv (.int i :: .ref a :: st) h := fun H locs ls hH hS hL =>
  va_iald (D := E.2.1) (cl := vwCl) C.1 C.2.1 C.k (hOK_one hH he) 0 1 rfl rfl hin hd (by rw [hn]; exact k H locs ls hH hS hL)
theorem g_bald {n : Nat} (C : GX K E cc nL own ret nm) {a N : Nat} {f : Nat → Int32} {i : Int32} (hd : decode cc pc = .ok (.baload, 1)) (hn : pc + 1 = n) (he : h a = some (.inl (E.2.2 0, N, .inl f))) (hin : vp_in i N)
    (k : G K E nL Q cs ss n lv (.int (f i.toNatClampNeg) :: st) h) : G K E nL Q cs ss pc lv (.int i :: .ref a :: st) h := fun H locs ls hH hS hL =>
  va_bald (D := E.2.1) (cl := vwCl) C.1 C.2.1 C.k (hOK_one hH he) 0 0 rfl rfl hin hd (by rw [hn]; exact k H locs ls hH hS hL)
theorem g_zald {n : Nat} (C : GX K E cc nL own ret nm) {a N : Nat} {f : Nat → Int32} {i : Int32} (hd : decode cc pc = .ok (.baload, 1)) (hn : pc + 1 = n) (he : h a = some (.inl (E.2.2 2, N, .inl f))) (hin : vp_in i N)
    (k : G K E nL Q cs ss n lv (.int (f i.toNatClampNeg) :: st) h) : G K E nL Q cs ss pc lv (.int i :: .ref a :: st) h := fun H locs ls hH hS hL =>
  va_zald (D := E.2.1) (cl := vwCl) C.1 C.2.1 C.k (hOK_one hH he) 0 2 rfl rfl hin hd (by rw [hn]; exact k H locs ls hH hS hL)
theorem g_lald {n : Nat} (C : GX K E cc nL own ret nm) {a N : Nat} {f : Nat → Int64} {i : Int32} (hd : decode cc pc = .ok (.laload, 1)) (hn : pc + 1 = n) (he : h a = some (.inl (E.2.2 4, N, .inr (.inl f)))) (hin : vp_in i N)
    (k : G K E nL Q cs ss n lv (.long (f i.toNatClampNeg) :: st) h) : G K E nL Q cs ss pc lv (.int i :: .ref a :: st) h := fun H locs ls hH hS hL =>
  va_lald (D := E.2.1) (cl := vwCl) C.1 C.2.1 C.k (hOK_one hH he) 0 4 rfl rfl hin hd (by rw [hn]; exact k H locs ls hH hS hL)
theorem g_aald {n : Nat} (C : GX K E cc nL own ret nm) {a N : Nat} {f : Nat → Option Nat} {i : Int32} {b : Nat} (hd : decode cc pc = .ok (.aaload, 1)) (hn : pc + 1 = n) (he : h a = some (.inl (E.2.2 3, N, .inr (.inr (.inr (.inr f)))))) (hin : vp_in i N) (hb : f i.toNatClampNeg = some b)
    (k : G K E nL Q cs ss n lv (.ref b :: st) h) : G K E nL Q cs ss pc lv (.int i :: .ref a :: st) h := fun H locs ls hH hS hL =>
  va_aldq (D := E.2.1) (cl := vwCl) C.1 C.2.1 C.k (hOK_one hH he) 0 3 rfl rfl hin hd (by rw [hn, hb]; exact k H locs ls hH hS hL)
theorem g_alen {n : Nat} (C : GX K E cc nL own ret nm) {a : Nat} {cA : Nat} {x : vp_A} {v : Int32} (t0 : Nat) {ty : FieldType} (hd : decode cc pc = .ok (.arraylength, 1)) (hn : pc + 1 = n) (he : h a = some (.inl (cA, x))) (ht : (eT E)[t0]? = some (cA, ty)) (hv : Int32.ofNat x.1 = v)
    (k : G K E nL Q cs ss n lv (.int v :: st) h) : G K E nL Q cs ss pc lv (.ref a :: st) h := fun H locs ls hH hS hL =>
  va_alen (D := E.2.1) (cl := vwCl) C.1 C.2.1 C.k (hOK_one hH he) 0 t0 rfl ht hv hd (by rw [hn]; exact k H locs ls hH hS hL)
theorem vp_upd_i (cA : ClassId) (N : Nat) (f : Nat → Int32) (j : Nat) (x y : Int32) (hxy : Value.int y = .int x) : vp_cell cA (N, .inl (upd f j x)) = arrV cA N (updV (fun q => .int (f q)) j (.int y)) := by
  rw [vp_cell_i]
  congr 1
  funext q
  by_cases hq : q = j
  · subst hq
    simp [updV, upd, hxy]
  · simp [updV, upd, hq]
theorem g_iast {n : Nat} (C : GX K E cc nL own ret nm) {a N : Nat} {f : Nat → Int32} {i x : Int32} (hd : decode cc pc = .ok (.iastore, 1)) (hn : pc + 1 = n) (he : h a = some (.inl (E.2.2 1, N, .inl f))) (hin : vp_in i N)
    (k : G K E nL Q cs ss n lv st (hset h a (.inl (E.2.2 1, N, .inl (upd f i.toNatClampNeg x))))) : G K E nL Q cs ss pc lv (.int x :: .int i :: .ref a :: st) h := by
  intro H locs ls hH hS hL
  obtain ⟨hat, hA⟩ := hH a _ he
  refine W.iast C.1 C.2.1 hat ((C.k.2 1 _ rfl).1 N (fun j => .int (f j))) (fun q => by cases q) (by show ¬ (i < 0 ∨ (arrV _ _ _).slots.size ≤ _); rw [arrV_size]; exact hin) rfl rfl hd fun H1 e z oq => ?_
  rw [hn]
  refine k H1 _ ls (hOK_set hH he ?_ oq) (hS.put z oq hA) hL
  show H1[a]? = some (vp_cell _ _)
  rw [e, vp_cell_i, arrV_store, ← vp_upd_i _ _ _ _ _ _ rfl]
theorem g_bast {n : Nat} (C : GX K E cc nL own ret nm) {a N : Nat} {f : Nat → Int32} {i x : Int32} (hd : decode cc pc = .ok (.bastore, 1)) (hn : pc + 1 = n) (he : h a = some (.inl (E.2.2 0, N, .inl f))) (hin : vp_in i N)
    (k : G K E nL Q cs ss n lv st (hset h a (.inl (E.2.2 0, N, .inl (upd f i.toNatClampNeg (vp_nar .byte x)))))) : G K E nL Q cs ss pc lv (.int x :: .int i :: .ref a :: st) h := by
  intro H locs ls hH hS hL
  obtain ⟨hat, hA⟩ := hH a _ he
  refine W.bast C.1 C.2.1 hat ((C.k.2 0 _ rfl).1 N (fun j => .int (f j))) (fun q => by cases q) (by show ¬ (i < 0 ∨ (arrV _ _ _).slots.size ≤ _); rw [arrV_size]; exact hin) rfl rfl hd fun H1 e z oq => ?_
  rw [hn]
  refine k H1 _ ls (hOK_set hH he ?_ oq) (hS.put z oq hA) hL
  show H1[a]? = some (vp_cell _ _)
  rw [e, vp_cell_i, vp_cell_i, arrV_store]
  congr 2
  funext q
  by_cases hq : q = i.toNatClampNeg
  · subst hq
    simp [updV, upd, vp_nar]
    try rfl
  · simp [updV, upd, hq]
theorem g_zast {n : Nat} (C : GX K E cc nL own ret nm) {a N : Nat} {f : Nat → Int32} {i x : Int32} (hd : decode cc pc = .ok (.bastore, 1)) (hn : pc + 1 = n) (he : h a = some (.inl (E.2.2 2, N, .inl f))) (hin : vp_in i N)
    (k : G K E nL Q cs ss n lv st (hset h a (.inl (E.2.2 2, N, .inl (upd f i.toNatClampNeg (vp_nar .boolean x)))))) : G K E nL Q cs ss pc lv (.int x :: .int i :: .ref a :: st) h := by
  intro H locs ls hH hS hL
  obtain ⟨hat, hA⟩ := hH a _ he
  refine W.zast C.1 C.2.1 hat ((C.k.2 2 _ rfl).1 N (fun j => .int (f j))) (fun q => by cases q) (by show ¬ (i < 0 ∨ (arrV _ _ _).slots.size ≤ _); rw [arrV_size]; exact hin) rfl rfl hd fun H1 e z oq => ?_
  rw [hn]
  refine k H1 _ ls (hOK_set hH he ?_ oq) (hS.put z oq hA) hL
  show H1[a]? = some (vp_cell _ _)
  rw [e, vp_cell_i, vp_cell_i, arrV_store]
  congr 2
  funext q
  by_cases hq : q = i.toNatClampNeg
  · subst hq
    simp [updV, upd, vp_nar]
    try rfl
  · simp [updV, upd, hq]
theorem g_last {n : Nat} (C : GX K E cc nL own ret nm) {a N : Nat} {f : Nat → Int64} {i : Int32} {x : Int64} (hd : decode cc pc = .ok (.lastore, 1)) (hn : pc + 1 = n) (he : h a = some (.inl (E.2.2 4, N, .inr (.inl f)))) (hin : vp_in i N)
    (k : G K E nL Q cs ss n lv st (hset h a (.inl (E.2.2 4, N, .inr (.inl (vp_updL f i.toNatClampNeg x)))))) : G K E nL Q cs ss pc lv (.long x :: .int i :: .ref a :: st) h := by
  intro H locs ls hH hS hL
  obtain ⟨hat, hA⟩ := hH a _ he
  refine W.last C.1 C.2.1 hat ((C.k.2 4 _ rfl).1 N (fun j => .long (f j))) (fun q => by cases q) (by show ¬ (i < 0 ∨ (arrV _ _ _).slots.size ≤ _); rw [arrV_size]; exact hin) rfl rfl hd fun H1 e z oq => ?_
  rw [hn]
  refine k H1 _ ls (hOK_set hH he ?_ oq) (hS.put z oq hA) hL
  show H1[a]? = some (vp_cell _ _)
  rw [e, vp_cell_l, vp_cell_l, arrV_store]
  congr 2
  funext q
  by_cases hq : q = i.toNatClampNeg
  · subst hq
    simp [updV, vp_updL]
  · simp [updV, vp_updL, hq]
/-- a new object -/
theorem g_new {n : Nat} (C : GX K E cc nL own ret nm) {ci index : Nat} {Cn : String} {T : u_T} {N : Nat} {fs : List Value} {ty0 : Nat → FieldType} (hd : decode cc pc = .ok (.new index, 3)) (hn : pc + 3 = n) (hc : vwCl[ci]? = some (Cn, T, N)) (hin : ∀ w ∈ u_ws Cn T N, w ∈ GW) (hcl : Cond.classLink own index Cn ∈ GW) (hinst : Cond.instantiable Cn N ∈ GW) (hini : Cond.initialized Cn ∈ GW)
    (hty : ∀ k, k < N → parseFieldDescriptor (T k).2.2.1 = some (ty0 k)) (hfs : ∀ j, j < N → defaultValue (ty0 j) = vp_V fs j) (hcells : cs + 1 ≤ (kR K).cells) (hslots : ss + N ≤ (kR K).slots)
    (k : ∀ q : Nat, h q = none → E.1 ≤ q → G K E nL Q (cs + 1) (ss + N) n lv (.ref q :: st) (hset h q (.inr (ci, fs)))) : G K E nL Q cs ss pc lv st h := by
  intro H locs ls hH hS hL
  have hKn := C.k.1 ci _ hc
  have hA := eA_old C
  refine W.newcK C.1 C.2.1 C.ow (C.gw hcl) (C.gw hinst) (C.gw hini) rfl hd hcells hslots hKn.2.1 rfl fun H1 kC hkC e1 z1 o1 => ?_
  rw [hn]
  refine k H.size (hOK_fresh hH) (hA _ hS.1) H1 locs ls (hOK_new hH ?_ (hA _ hS.1) o1 rfl) ⟨Nat.le_trans hS.1 (by omega), fun x h1 h2 => (o1 x (Nat.lt_of_lt_of_le h1 hS.1)).trans (hS.2.1 x h1 h2), hS.2.2⟩ hL
  exact ⟨_, hc, (u_born ty0 C.2.2.2.2.1 hin hKn hkC e1 hty).to hfs⟩
theorem eT_at {t : Nat} {q : ClassId × FieldType} (C : GX K E cc nL own ret nm) (ht : (eT E)[t]? = some q) : va_RA (ks K) q.1 q.2 := (C.k.2 t q ht).2
/-- a new array of numbers -/
theorem g_newa {n : Nat} (C : GX K E cc nL own ret nm) {atype : ArrayType} {ty : FieldType} {cA : ClassId} (t0 : Nat) {N : Nat} {a0 : vp_A} {z : Int32} (hd : decode cc pc = .ok (.newarray atype, 2)) (hn : pc + 2 = n) (hty : newarray.typeOf atype = ty) (ht : (eT E)[t0]? = some (cA, ty)) (hnm : ∀ U : State, va_RA U cA ty → U.vm.findClass ("[" ++ ty.toString) = some cA) (hw : Cond.arrayClass ty ∈ GW)
    (ha : ∀ cA : ClassId, vp_cell cA a0 = arrV cA N (fun _ => defaultValue ty)) (hz : ¬ z < 0) (hN : z.toNatClampNeg = N) (hbytes : N * componentBytes ty ≤ 536870912) (hcells : cs + 1 ≤ (kR K).cells) (hslots : ss + N ≤ (kR K).slots)
    (k : ∀ q : Nat, h q = none → E.1 ≤ q → G K E nL Q (cs + 1) (ss + N) n lv (.ref q :: st) (hset h q (.inl (cA, a0)))) : G K E nL Q cs ss pc lv (.int z :: st) h := by
  intro H locs ls hH hS hL
  have hA := eA_old C
  subst hty
  refine va_newaK C.1 C.2.1 (C.gw hw) rfl hd rfl hz hN hbytes hcells hslots rfl fun H1 cB e1 z1 o1 hAr hNm => ?_
  have hcc : cB = cA := Option.some.inj (hNm.symm.trans (hnm _ (eT_at C ht)))
  subst hcc
  rw [hn]
  refine k H.size (hOK_fresh hH) (hA _ hS.1) H1 locs ls (hOK_new hH ?_ (hA _ hS.1) o1 rfl) ⟨Nat.le_trans hS.1 (by omega), fun x h1 h2 => (o1 x (Nat.lt_of_lt_of_le h1 hS.1)).trans (hS.2.1 x h1 h2), hS.2.2⟩ hL
  show H1[H.size]? = some (vp_cell _ _)
  rw [ha]
  exact e1

def rvo (ret : Option FieldType) (v : Value) : Option Value := match ret with
  | none => none
  | some _ => some v
/-- a method's end: it returns, P says what and over which heap -/
def Qt (E : Ev) (ret : Option FieldType) (P : Value → AH → Prop) : Array Value → State → Outcome → State → Prop := fun _ st oc t => (∃ (v : Value) (h' : AH), oc = .returned (rvo ret v) ∧ P v h' ∧ hOK E h' t.heap) ∧ va_F (eA E) st t
def rmk (fr lo mc ms : Nat) : Room := { frames := fr, cells := mc, slots := ms, locals := lo }
/-- a method's contract: from heap h with the values av it returns, and P holds of its answer and the heap behind it -/
def Mt (l : Launch) (E : Ev) (y : MethodName) (cc : ByteArray) (maxL : Nat) (ret : Option FieldType) (fr lo mc ms : Nat) (av : List Value) (h : AH) (P : Value → AH → Prop) : Prop :=
  Met l y (.code y cc maxL ret :: GW) (rmk fr lo mc ms) (va_Pc av (fun U => wOK E h U U.heap)) (Qt E ret P) mc ms (eA E)
/-- what a throw leaves: its class, the heap -/
def Xt (E : Ev) (PX : String → AH → Prop) : String → State → State → Prop := fun x st t => ∃ h' : AH, PX x h' ∧ hOK E h' t.heap ∧ va_F (eA E) st t
/-- .. returns or throws -/
def Mx (l : Launch) (E : Ev) (y : MethodName) (cc : ByteArray) (maxL : Nat) (ret : Option FieldType) (fr lo mc ms : Nat) (av : List Value) (h : AH) (P : Value → AH → Prop) (PX : String → AH → Prop) : Prop :=
  vx_Met l y (.code y cc maxL ret :: GW) (rmk fr lo mc ms) (va_Pc av (fun U => wOK E h U U.heap)) (Qt E ret P) (Xt E PX) mc ms (eA E)
theorem Qt.mono {E : Ev} {ret : Option FieldType} {P P' : Value → AH → Prop} (hp : ∀ v h, P v h → P' v h) {a : Array Value} {s : State} {o : Outcome} {t : State} (q : Qt E ret P a s o t) : Qt E ret P' a s o t := by
  obtain ⟨⟨v, h', h1, h2, h3⟩, h4⟩ := q
  exact ⟨⟨v, h', h1, hp v h' h2, h3⟩, h4⟩
theorem goodCW {y : MethodName} {cc : ByteArray} {maxL : Nat} {ret : Option FieldType} (hc : Cond.code y cc maxL ret ∈ GW) : GoodIn GW (.code y cc maxL ret :: GW) := fun w hw => (List.mem_cons.mp hw).elim (fun e => by rw [e]; exact gw_good hc) gw_good
theorem good5 {a b c d : Cond} {ws : List Cond} (ha : a ∈ GW) (hb : b ∈ GW) (hc : c ∈ GW) (hd : d ∈ GW) (hw : GoodIn GW ws) : GoodIn GW ([a, b, c, d] ++ ws) := fun w h => (List.mem_append.mp h).elim (fun q => by
  rcases List.mem_cons.mp q with e | q
  · rw [e]; exact gw_good ha
  rcases List.mem_cons.mp q with e | q
  · rw [e]; exact gw_good hb
  rcases List.mem_cons.mp q with e | q
  · rw [e]; exact gw_good hc
  rcases List.mem_cons.mp q with e | q
  · rw [e]; exact gw_good hd
  cases q) (hw w)
theorem good3 {a b c : Cond} {ws : List Cond} (ha : a ∈ GW) (hb : b ∈ GW) (hc : c ∈ GW) (hw : GoodIn GW ws) : GoodIn GW ([a, b, c] ++ ws) := fun w h => (List.mem_append.mp h).elim (fun q => by
  rcases List.mem_cons.mp q with e | q
  · rw [e]; exact gw_good ha
  rcases List.mem_cons.mp q with e | q
  · rw [e]; exact gw_good hb
  rcases List.mem_cons.mp q with e | q
  · rw [e]; exact gw_good hc
  cases q) (hw w)
theorem blindW (av : List Value) (h : AH) : FrameBlind (va_Pc av (fun U => wOK E h U U.heap)) := fun a U g mk q => ⟨q.1, q.2.blind g mk a⟩
/-- the callee's start, seen from the caller's state -/
theorem preW (C : GX K E cc nL own ret nm) {H : Heap} {locs : List Loc} (hH : hOK E h H) (hS : va_S (eA E) (ks K).heap H locs) (av : List Value) : ∀ U : State, U.heap = H → (ks K).WarmedH U.vm → va_Pc av (fun U => wOK E h U U.heap) av.toArray U := fun U hU hW =>
  ⟨rfl, by rw [hU]; exact Nat.le_trans C.n0 hS.1, by rw [hU]; exact hH, va_K.moved hW.alike C.k, by rw [hU]; exact C.z.go hS.2.1 hW⟩
theorem g_back {ret9 : Option FieldType} {mc ms : Nat} {rest : List Value} {a : Array Value} {P : Value → AH → Prop}
    (hr : ∀ (H : Heap) (locs : List Loc) (ls : Array Slot), hOK E h H → va_S (eA E) (ks K).heap H locs → lok ls nL lv → va_Run (kp K) (kl K) (ke K) (kR K) (ks K) (km K) (ka K) (kb K) (kM K) (kc K) H locs cs ss mc ms (F0 (km K) pc ls st) rest (Qt E ret9 P a) (eA E))
    (kk : ∀ v h', P v h' → G K E nL Q (cs + mc) (ss + ms) (pc + 3) lv ((rvo ret9 v).toList ++ rest) h') : G K E nL Q cs ss pc lv st h := by
  intro H locs ls hH hS hL T hT X
  obtain ⟨v, st₀, t, T', L, h0, X', hLf, e1, e2, ⟨⟨v', h', hv, hp, hh⟩, hz, hk⟩, hst⟩ := hr H locs ls hH hS hL T hT X
  cases hv
  rw [h0] at hz hk
  obtain ⟨t2, a1, b1⟩ := kk v' h' hp T'.heap (locs ++ L) ls (by rw [e1]; exact hh)
    ⟨Nat.le_trans hS.1 (by rw [e1]; exact hz), fun q h1 h2 => by rw [e1, hk q (Nat.lt_of_lt_of_le h1 hS.1) h2]; exact hS.2.1 q h1 h2, fun q hq => by
      rcases List.mem_append.mp hq with h | h
      · exact hS.2.2 q h
      · exact hLf q h⟩ hL T' rfl X'
  exact ⟨t2, hst t2 a1, b1⟩
/-- where a method's own words stand: its code, 'it is made of a class' .. -/
def mwV (y : MethodName) (cc : ByteArray) (maxL : Nat) (ret : Option FieldType) (n : Nat) : Prop := Cond.instanceMethod y ∈ GW ∧ Cond.selects y.cls y y ∈ GW ∧ Cond.initialized y.cls ∈ GW ∧ Cond.code y cc maxL ret ∈ GW ∧ y.cls ≠ "java/lang/invoke/MethodHandle" ∧ y.cls ≠ "java/lang/invoke/VarHandle" ∧ (parseMethodDescriptor y.desc).map (fun d => d.parameters.length) = some n
def mwS (y : MethodName) (cc : ByteArray) (maxL : Nat) (ret : Option FieldType) (n : Nat) : Prop := Cond.static y ∈ GW ∧ Cond.initialized y.cls ∈ GW ∧ Cond.code y cc maxL ret ∈ GW ∧ y.cls ≠ "java/lang/invoke/MethodHandle" ∧ y.cls ≠ "java/lang/invoke/VarHandle" ∧ (parseMethodDescriptor y.desc).map (fun d => d.parameters.length) = some n
def mwI (y : MethodName) (cc : ByteArray) (maxL : Nat) (n : Nat) : Prop := Cond.instanceMethod y ∈ GW ∧ Cond.initialized y.cls ∈ GW ∧ Cond.code y cc maxL none ∈ GW ∧ y.name = "<init>" ∧ y.cls ≠ "java/lang/invoke/MethodHandle" ∧ y.cls ≠ "java/lang/invoke/VarHandle" ∧ (parseMethodDescriptor y.desc).map (fun d => d.parameters.length) = some n
def roomOK (K : Cx) (cs ss fr lo mc ms maxL : Nat) (rest : List Value) : Prop := fr + 1 ≤ (kR K).frames ∧ 8 + (maxL + 11) + lo ≤ (kR K).locals ∧ cs + mc ≤ (kR K).cells ∧ ss + ms ≤ (kR K).slots ∧ (rest.map fun v => v.category).sum ≤ 8
theorem g_callV {y : MethodName} {bytes : ByteArray} {maxL idx n0 : Nat} {ret9 : Option FieldType} {fr lo mc ms : Nat} {b : Nat} {As rest : List Value} {n : Nat} (C : GX K E cc nL own ret nm) (hd : decode cc pc = .ok (.invokevirtual idx, 3)) (hn : pc + 3 = n) (hw : mwV y bytes maxL ret9 n0) (hl : Cond.methodLink own idx y ∈ GW) (hrc : ∀ (H : Heap) (locs : List Loc), hOK E h H → va_S (eA E) (ks K).heap H locs → ∃ cellB : Cell, H[b]? = some cellB ∧ cellB.vm.isStatics = false ∧ (ks K).vm.findClass y.cls = some cellB.cls)
    (hst : st = As.reverse ++ .ref b :: rest) (hlen : As.length = n0) (hR : roomOK K cs ss fr lo mc ms maxL rest) (hM : Mt (kl K) E y bytes maxL ret9 fr lo mc ms (.ref b :: As) h (fun v h' => G K E nL Q (cs + mc) (ss + ms) n lv ((rvo ret9 v).toList ++ rest) h')) : G K E nL Q cs ss pc lv st h := by
  subst hn
  obtain ⟨w1, w2, w3, w4, w5, w6, w7⟩ := hw
  obtain ⟨r1, r2, r3, r4, r5⟩ := hR
  refine g_back (ret9 := ret9) (mc := mc) (ms := ms) (rest := rest) (a := (Value.ref b :: As).toArray) (fun H locs ls hH hS hL => ?_) (fun v h' hp => hp)
  exact va_runV (Ts := GW) (C := y.cls) ⟨C.1, C.2.1, C.ml, C.ow, C.2.2.2.2.1⟩ hM (cwV n0 C.2.2.2.2.1 (good5 hl w1 w2 w3 (goodCW w4)) rfl rfl rfl ⟨rfl, w5, w6, w7⟩ ⟨r1, r2⟩) ⟨blindW _ _, hrc H locs hH hS, preW C hH hS _⟩ rfl hlen hL.1 hst (lv_room r5) hd ⟨r3, r4⟩
theorem g_recv (C : GX K E cc nL own ret nm) {b ci : Nat} {fs : List Value} {q : vw_C} (he : h b = some (.inr (ci, fs))) (hc : vwCl[ci]? = some q) : ∀ (H : Heap) (locs : List Loc), hOK E h H → va_S (eA E) (ks K).heap H locs → ∃ cellB : Cell, H[b]? = some cellB ∧ cellB.vm.isStatics = false ∧ (ks K).vm.findClass q.1 = some cellB.cls := fun H _ hH _ => va_recv C.k (hOK_one hH he) (q0 := 0) hc rfl
theorem g_callS {y : MethodName} {bytes : ByteArray} {maxL idx n0 : Nat} {ret9 : Option FieldType} {fr lo mc ms : Nat} {As rest : List Value} {n : Nat} (C : GX K E cc nL own ret nm) (hd : decode cc pc = .ok (.invokestatic idx, 3)) (hn : pc + 3 = n) (hw : mwS y bytes maxL ret9 n0) (hl : Cond.methodLink own idx y ∈ GW)
    (hst : st = As.reverse ++ rest) (hlen : As.length = n0) (hR : roomOK K cs ss fr lo mc ms maxL rest) (hM : Mt (kl K) E y bytes maxL ret9 fr lo mc ms As h (fun v h' => G K E nL Q (cs + mc) (ss + ms) n lv ((rvo ret9 v).toList ++ rest) h')) : G K E nL Q cs ss pc lv st h := by
  subst hn
  obtain ⟨w1, w2, w3, w4, w5, w6⟩ := hw
  obtain ⟨r1, r2, r3, r4, r5⟩ := hR
  refine g_back (ret9 := ret9) (mc := mc) (ms := ms) (rest := rest) (a := As.toArray) (fun H locs ls hH hS hL => ?_) (fun v h' hp => hp)
  exact va_runS (Ts := GW) ⟨C.1, C.2.1, C.ml, C.ow, C.2.2.2.2.1⟩ hM (va_cwS n0 C.2.2.2.2.1 (good3 hl w1 w2 (goodCW w3)) rfl rfl rfl ⟨w4, w5, w6⟩ ⟨r1, r2⟩) ⟨blindW _ _, preW C hH hS _⟩ rfl hlen hL.1 hst (lv_room r5) hd ⟨r3, r4⟩
theorem g_callI {y : MethodName} {bytes : ByteArray} {maxL idx n0 : Nat} {fr lo mc ms : Nat} {b : Nat} {As rest : List Value} {n : Nat} (C : GX K E cc nL own ret nm) (hd : decode cc pc = .ok (.invokespecial idx, 3)) (hn : pc + 3 = n) (hw : mwI y bytes maxL n0) (hl : Cond.methodLink own idx y ∈ GW)
    (hst : st = As.reverse ++ .ref b :: rest) (hlen : As.length = n0) (hR : roomOK K cs ss fr lo mc ms maxL rest) (hM : Mt (kl K) E y bytes maxL none fr lo mc ms (.ref b :: As) h (fun _ h' => G K E nL Q (cs + mc) (ss + ms) n lv rest h')) : G K E nL Q cs ss pc lv st h := by
  subst hn
  obtain ⟨w1, w2, w3, w4, w5, w6, w7⟩ := hw
  obtain ⟨r1, r2, r3, r4, r5⟩ := hR
  refine g_back (ret9 := none) (mc := mc) (ms := ms) (rest := rest) (a := (Value.ref b :: As).toArray) (fun H locs ls hH hS hL => ?_) (fun v h' hp => hp)
  exact va_runI (Ts := GW) ⟨C.1, C.2.1, C.ml, C.ow, C.2.2.2.2.1⟩ hM (cwI n0 C.2.2.2.2.1 (goodCW w3) rfl rfl rfl (C.gw w2) (C.gw hl) (C.gw w1) w4 ⟨w5, w6, w7⟩ ⟨r1, r2⟩) ⟨blindW _ _, preW C hH hS _⟩ rfl hlen hL.1 hst (lv_room r5) hd ⟨r3, r4⟩
theorem GX.tw (C : GX K E cc nL own ret nm) {w : Cond} (hw : w ∈ TW) : va_Nw w (ks K) := C.z.2.2.2.2.2.2.2.2.2.2.1 w hw
theorem g_callIN {y : MethodName} {bytes : ByteArray} {maxL idx n0 : Nat} {host : String} {fr lo mc ms : Nat} {b : Nat} {As rest : List Value} {n : Nat} (C : GX K E cc nL own ret nm) (hd : decode cc pc = .ok (.invokespecial idx, 3)) (hn : pc + 3 = n) (hw : mwI y bytes maxL n0) (hl : Cond.methodLinkNest own idx y host ∈ TW)
    (hst : st = As.reverse ++ .ref b :: rest) (hlen : As.length = n0) (hR : roomOK K cs ss fr lo mc ms maxL rest) (hM : Mt (kl K) E y bytes maxL none fr lo mc ms (.ref b :: As) h (fun _ h' => G K E nL Q (cs + mc) (ss + ms) n lv rest h')) : G K E nL Q cs ss pc lv st h := by
  subst hn
  obtain ⟨w1, w2, w3, w4, w5, w6, w7⟩ := hw
  obtain ⟨r1, r2, r3, r4, r5⟩ := hR
  refine g_back (ret9 := none) (mc := mc) (ms := ms) (rest := rest) (a := (Value.ref b :: As).toArray) (fun H locs ls hH hS hL => ?_) (fun v h' hp => hp)
  exact va_runIN (Ts := GW) ⟨C.1, C.2.1, C.ml, C.ow, C.2.2.2.2.1⟩ hM ⟨va_cnB n0 C.2.2.2.2.1 (goodCW w3) rfl rfl rfl (C.tw hl) (C.gw w2) ⟨w5, w6, w7⟩ ⟨r1, r2⟩, w4, C.gw w1⟩ ⟨blindW _ _, preW C hH hS _⟩ rfl hlen hL.1 hst (lv_room r5) hd ⟨r3, r4⟩
/-- java.lang.Object's own constructor -/
theorem g_objInit {n idx : Nat} {a : Nat} (C : GX K E cc nL own ret nm) (hd : decode cc pc = .ok (.invokespecial idx, 3)) (hn : pc + 3 = n) (hl : Cond.methodLink own idx Lib.objectInit ∈ GW) (hi : Cond.instanceMethod Lib.objectInit ∈ GW) (hc : Cond.code Lib.objectInit ⟨#[0xb1]⟩ 1 none ∈ GW) (hf : 1 ≤ (kR K).frames) (hlo : (st.map fun v => v.category).sum + 12 ≤ (kR K).locals) (k : G K E nL Q cs ss n lv st h) : G K E nL Q cs ss pc lv (.ref a :: st) h := fun H locs ls hH hS hL =>
  W.objInit C.1 C.2.1 C.ow (C.gw hl) (C.gw hi) (C.gw hc) rfl (by rw [C.ml]; exact hL.1) rfl hd hf (by show 2 * 0 + _ + 12 ≤ _; omega) (by subst hn; exact k H locs ls hH hS hL)
def mwM (y : MethodName) (cc : ByteArray) (maxL : Nat) : Prop := Cond.static y ∈ GW ∧ Cond.initialized "java/lang/Math" ∈ GW ∧ Cond.code y cc maxL (some .int) ∈ GW
theorem g_max {n idx : Nat} {x y : Int32} (C : GX K E cc nL own ret nm) (hd : decode cc pc = .ok (.invokestatic idx, 3)) (hn : pc + 3 = n) (hw : mwM Lib.Math.max.name Lib.Math.max.code 2) (hl : Cond.methodLink own idx Lib.Math.max.name ∈ GW) (hR : 1 ≤ (kR K).frames ∧ (st.map fun v => v.category).sum + 13 ≤ (kR K).locals ∧ cs ≤ (kR K).cells ∧ ss ≤ (kR K).slots) (k : G K E nL Q cs ss n lv (.int (if x < y then y else x) :: st) h) : G K E nL Q cs ss pc lv (.int y :: .int x :: st) h := fun H locs ls hH hS hL =>
  va_mmax C.1 C.2.1 (by rw [C.ml]; exact hL.1.symm) C.ow (C.gw hl) (C.gw hw.1) (C.gw hw.2.1) (C.gw hw.2.2) hR.1 hR.2.1 hR.2.2.1 hR.2.2.2 hd (by rw [hn]; exact k H locs ls hH hS hL)
theorem g_min {n idx : Nat} {x y : Int32} (C : GX K E cc nL own ret nm) (hd : decode cc pc = .ok (.invokestatic idx, 3)) (hn : pc + 3 = n) (hw : mwM Lib.Math.min.name Lib.Math.min.code 2) (hl : Cond.methodLink own idx Lib.Math.min.name ∈ GW) (hR : 1 ≤ (kR K).frames ∧ (st.map fun v => v.category).sum + 13 ≤ (kR K).locals ∧ cs ≤ (kR K).cells ∧ ss ≤ (kR K).slots) (k : G K E nL Q cs ss n lv (.int (if y < x then y else x) :: st) h) : G K E nL Q cs ss pc lv (.int y :: .int x :: st) h := fun H locs ls hH hS hL =>
  va_mmin C.1 C.2.1 (by rw [C.ml]; exact hL.1.symm) C.ow (C.gw hl) (C.gw hw.1) (C.gw hw.2.1) (C.gw hw.2.2) hR.1 hR.2.1 hR.2.2.1 hR.2.2.2 hd (by rw [hn]; exact k H locs ls hH hS hL)
theorem g_abs {n idx : Nat} {x : Int32} (C : GX K E cc nL own ret nm) (hd : decode cc pc = .ok (.invokestatic idx, 3)) (hn : pc + 3 = n) (hw : mwM Lib.Math.abs.name Lib.Math.abs.code 1) (hl : Cond.methodLink own idx Lib.Math.abs.name ∈ GW) (hR : 1 ≤ (kR K).frames ∧ (st.map fun v => v.category).sum + 13 ≤ (kR K).locals ∧ cs ≤ (kR K).cells ∧ ss ≤ (kR K).slots) (k : G K E nL Q cs ss n lv (.int (if 0 ≤ x then x else 0 - x) :: st) h) : G K E nL Q cs ss pc lv (.int x :: st) h := fun H locs ls hH hS hL =>
  va_mabs C.1 C.2.1 (by rw [C.ml]; exact hL.1.symm) C.ow (C.gw hl) (C.gw hw.1) (C.gw hw.2.1) (C.gw hw.2.2) hR.1 hR.2.1 hR.2.2.1 hR.2.2.2 hd (by rw [hn]; exact k H locs ls hH hS hL)
/-- the method's end, as its contract asks for -/
abbrev QM (K : Cx) (E : Ev) (ret : Option FieldType) (mc ms : Nat) (P : Value → AH → Prop) : State → Prop := MQ (kb K) (Qt E ret P) (ka K) (ks K) mc ms (eA E)
abbrev QX (K : Cx) (E : Ev) (ret : Option FieldType) (mc ms : Nat) (P : Value → AH → Prop) (PX : String → AH → Prop) : State → Prop := vx_MQ (kb K) (Qt E ret P) (Xt E PX) (ka K) (ks K) mc ms (eA E)
theorem Qt.mk9 {K : Cx} {E : Ev} {ret : Option FieldType} {v : Value} {h : AH} {P : Value → AH → Prop} {H : Heap} {locs : List Loc} (hp : P v h) (hH : hOK E h H) (hS : va_S (eA E) (ks K).heap H locs) {o : Outcome} (ho : o = .returned (rvo ret v)) : ∀ t : State, t.heap = H → (ks K).WarmedH t.vm → Qt E ret P (ka K) (ks K) o t := fun t ht _ => ⟨⟨v, h, ho, hp, by rw [ht]; exact hH⟩, hS.F ht⟩
theorem g_iret {v : Int32} {mc ms : Nat} {P : Value → AH → Prop} (C : GX K E cc nL own (some .int) nm) (hd : decode cc pc = .ok (.ireturn, 1)) (hc : cs ≤ mc) (hs : ss ≤ ms) (hp : P (.int v) h) : G K E nL (QM K E (some .int) mc ms P) cs ss pc lv [.int v] h := fun H locs ls hH hS hL =>
  W.widen hc hs (W.iret C.1 C.2.1 C.rt (Qt.mk9 hp hH hS rfl) hS.2.2 hd C.locks)
theorem g_zret {v : Int32} {mc ms : Nat} {ty : FieldType} {P : Value → AH → Prop} (C : GX K E cc nL own (some ty) nm) (hd : decode cc pc = .ok (.ireturn, 1)) (hc : cs ≤ mc) (hs : ss ≤ ms) (hnar : narrow ty (.int v) = .int v) (hp : P (.int v) h) : G K E nL (QM K E (some ty) mc ms P) cs ss pc lv [.int v] h := fun H locs ls hH hS hL =>
  W.widen hc hs (W.zret C.1 C.2.1 C.rt hnar (Qt.mk9 hp hH hS rfl) hS.2.2 hd C.locks)
theorem g_vret {mc ms : Nat} {P : Value → AH → Prop} (C : GX K E cc nL own none nm) (hd : decode cc pc = .ok (.return_, 1)) (hc : cs ≤ mc) (hs : ss ≤ ms) (hp : P .null h) : G K E nL (QM K E none mc ms P) cs ss pc lv [] h := fun H locs ls hH hS hL =>
  W.widen hc hs (W.vret C.1 C.2.1 C.rt (Qt.mk9 hp hH hS rfl) hS.2.2 hd C.locks)
theorem g_aret {a : Nat} {mc ms : Nat} {ty : FieldType} {P : Value → AH → Prop} (C : GX K E cc nL own (some ty) nm) (hd : decode cc pc = .ok (.areturn, 1)) (hrt : (∃ n, ty = .object n) ∨ ∃ t, ty = .array t) (hc : cs ≤ mc) (hs : ss ≤ ms) (hp : P (.ref a) h) : G K E nL (QM K E (some ty) mc ms P) cs ss pc lv [.ref a] h := fun H locs ls hH hS hL =>
  W.widen hc hs (W.aret C.1 C.2.1 C.rt hrt (Or.inr ⟨a, rfl⟩) (Qt.mk9 hp hH hS rfl) hS.2.2 hd C.locks)
theorem g_x {mc ms : Nat} {P : Value → AH → Prop} {PX : String → AH → Prop} (k : G K E nL (QM K E ret mc ms P) cs ss pc lv st h) : G K E nL (QX K E ret mc ms P PX) cs ss pc lv st h := fun H locs ls hH hS hL => vx_ret (k H locs ls hH hS hL)
end GR
theorem lok_of {ls : Array Slot} {nL : Nat} {lv : List (Nat × Value)} (h : lv_has ls nL lv) (hc : lv.all (fun q => q.2.category == 1) = true) : lok ls nL lv := ⟨h.1, h.2.1, fun i v e => ⟨h.2.2 (i, v) (lvk_mem e), by have := List.all_eq_true.mp hc (i, v) (lvk_mem e); simpa using this⟩⟩
/-- a contract, by the walk of the body -/
theorem Mt.of {l : Launch} {E : Ev} {y : MethodName} {cc : ByteArray} {maxL : Nat} {ret : Option FieldType} {fr lo mc ms : Nat} {av : List Value} {h : AH} {P : Value → AH → Prop} (hy : plainName y.cls = true) (hlen : (lg_sl av).length ≤ maxL)
    (body : ∀ K : Cx, kl K = l → kR K = rmk fr lo mc ms → GX K E cc maxL y.cls ret y.name → G K E maxL (QM K E ret mc ms P) 0 0 0 (lv_args 0 av) [] h) (hcat : (lv_args 0 av).all (fun q => q.2.category == 1) = true := by rfl) : Mt l E y cc maxL ret fr lo mc ms av h P := by
  refine Met.ofW (cc := cc) (maxL := maxL) (ret := ret) hy rfl ?_
  intro p e s m args below meth c s₁ B hml hv
  obtain ⟨rfl, hN, hH, hK, hZ⟩ := hv
  have hts := atoms_spec (ws := .code y cc maxL ret :: GW) B.pre
  have C : GX (p, l, e, rmk fr lo mc ms, s, m, av.toArray, below, meth, c) E cc maxL y.cls ret y.name := ⟨B.exec, B.bytes, hml, findClass_of_methodNamed B.named, fun w hw => hts w (List.mem_cons_of_mem _ hw), B.returns, B.notSynchronized, (name_of_methodNamed B.named B.method).1, hN, hK, hZ⟩
  have hl := lv_entry av (n := maxL) hlen
  rw [lg_entry_eq]
  exact body _ rfl rfl C s.heap [] _ hH va_S.rf (lok_of hl hcat)
theorem Mx.of {l : Launch} {E : Ev} {y : MethodName} {cc : ByteArray} {maxL : Nat} {ret : Option FieldType} {fr lo mc ms : Nat} {av : List Value} {h : AH} {P : Value → AH → Prop} {PX : String → AH → Prop} (hy : plainName y.cls = true) (hlen : (lg_sl av).length ≤ maxL)
    (body : ∀ K : Cx, kl K = l → kR K = rmk fr lo mc ms → (∀ x ∈ (kc K).exceptionTable.toList, False) → GX K E cc maxL y.cls ret y.name → G K E maxL (QX K E ret mc ms P PX) 0 0 0 (lv_args 0 av) [] h) (hcat : (lv_args 0 av).all (fun q => q.2.category == 1) = true := by rfl) : Mx l E y cc maxL ret fr lo mc ms av h P PX := by
  refine vx_ofW (cc := cc) (maxL := maxL) (ret := ret) hy rfl ?_
  intro p e s m args below meth c s₁ B hml ht hv
  obtain ⟨rfl, hN, hH, hK, hZ⟩ := hv
  have hts := atoms_spec (ws := .code y cc maxL ret :: GW) B.pre
  have C : GX (p, l, e, rmk fr lo mc ms, s, m, av.toArray, below, meth, c) E cc maxL y.cls ret y.name := ⟨B.exec, B.bytes, hml, findClass_of_methodNamed B.named, fun w hw => hts w (List.mem_cons_of_mem _ hw), B.returns, B.notSynchronized, (name_of_methodNamed B.named B.method).1, hN, hK, hZ⟩
  have hl := lv_entry av (n := maxL) hlen
  rw [lg_entry_eq]
  exact body _ rfl rfl ht C s.heap [] _ hH va_S.rf (lok_of hl hcat)
theorem Mt.mono {l : Launch} {E : Ev} {y : MethodName} {cc : ByteArray} {maxL : Nat} {ret : Option FieldType} {fr lo mc ms : Nat} {av : List Value} {h : AH} {P P' : Value → AH → Prop} (hp : ∀ v h, P v h → P' v h) (q : Mt l E y cc maxL ret fr lo mc ms av h P) : Mt l E y cc maxL ret fr lo mc ms av h P' := by
  unfold Mt Met at q ⊢
  exact MetFree.mono q (fun _ _ h => h) (fun _ _ _ _ _ h => h) (fun _ _ _ _ _ h => ⟨h.1.mono hp, h.2⟩)
section GXX
variable {K : Cx} {E : Ev} {cc : ByteArray} {nL : Nat} {own : String} {ret : Option FieldType} {nm : String} {Q : State → Prop} {cs ss pc : Nat} {lv : List (Nat × Value)} {st : List Value} {h : AH}
/-- the body's frame with something of class x thrown over it -/
def Gx (K : Cx) (E : Ev) (nL : Nat) (Q : State → Prop) (cs ss pc : Nat) (lv : List (Nat × Value)) (rest : List Value) (h : AH) (x : String) : Prop :=
  ∀ (H : Heap) (locs : List Loc) (ls : Array Slot) (q : Addr) (ce : Cell), hOK E h H → va_S (eA E) (ks K).heap H locs → lok ls nL lv → H[q]? = some ce → ce.vm = .none → (ks K).vm.findClass x = some ce.cls →
    vx_W (kp K) (kl K) (ke K) (kR K) (ks K) (km K) (ka K) (kb K) (kM K) (kc K) H locs cs ss Q (F0 (km K) pc ls rest) q
theorem g_backX {ret9 : Option FieldType} {mc ms : Nat} {rest : List Value} {a : Array Value} {P : Value → AH → Prop} {PX : String → AH → Prop}
    (hr : ∀ (H : Heap) (locs : List Loc) (ls : Array Slot), hOK E h H → va_S (eA E) (ks K).heap H locs → lok ls nL lv → vx_Run (kp K) (kl K) (ke K) (kR K) (ks K) (km K) (ka K) (kb K) (kM K) (kc K) H locs cs ss mc ms (F0 (km K) pc ls st) rest (Qt E ret9 P a) (Xt E PX) (eA E))
    (kk : ∀ v h', P v h' → G K E nL Q (cs + mc) (ss + ms) (pc + 3) lv ((rvo ret9 v).toList ++ rest) h') (kx : ∀ x h', PX x h' → Gx K E nL Q (cs + mc) (ss + ms) pc lv rest h' x) : G K E nL Q cs ss pc lv st h := by
  intro H locs ls hH hS hL T hT X
  have keep : ∀ (st₀ t T' : State) (L : List Loc), st₀.heap = H → T'.heap = t.heap → (∀ q ∈ L, eA E q.base) → va_F (eA E) st₀ t → va_S (eA E) (ks K).heap T'.heap (locs ++ L) := by
    intro st₀ t T' L h0 e1 hLf hF
    obtain ⟨hz, hk⟩ := hF
    rw [h0] at hz hk
    exact ⟨Nat.le_trans hS.1 (by rw [e1]; exact hz), fun q h1 h2 => by rw [e1, hk q (Nat.lt_of_lt_of_le h1 hS.1) h2]; exact hS.2.1 q h1 h2, fun q hq => by
      rcases List.mem_append.mp hq with h | h
      · exact hS.2.2 q h
      · exact hLf q h⟩
  rcases hr H locs ls hH hS hL T hT X with ⟨v, st₀, t, T', L, h0, X', hLf, e1, e2, ⟨⟨v', h', hv, hp, hh⟩, hF⟩, hst⟩ | ⟨q, st₀, t, T', L, x, ce, h0, X', hLf, e1, e2, ⟨h', hp, hh, hF⟩, hce, hcv, hcl, hst⟩
  · cases hv
    obtain ⟨t2, a1, b1⟩ := kk v' h' hp T'.heap (locs ++ L) ls (by rw [e1]; exact hh) (keep _ _ _ _ h0 e1 hLf hF) hL T' rfl X'
    exact ⟨t2, hst t2 a1, b1⟩
  · obtain ⟨t2, a1, b1⟩ := kx x h' hp T'.heap (locs ++ L) ls q ce (by rw [e1]; exact hh) (keep _ _ _ _ h0 e1 hLf hF) hL (by rw [e1]; exact hce) hcv hcl T' rfl X'
    exact ⟨t2, hst.trans a1, b1⟩
theorem g_callVx {y : MethodName} {bytes : ByteArray} {maxL idx n0 : Nat} {ret9 : Option FieldType} {fr lo mc ms : Nat} {b : Nat} {As rest : List Value} {n : Nat} (C : GX K E cc nL own ret nm) (hd : decode cc pc = .ok (.invokevirtual idx, 3)) (hn : pc + 3 = n) (hw : mwV y bytes maxL ret9 n0) (hl : Cond.methodLink own idx y ∈ GW) (hrc : ∀ (H : Heap) (locs : List Loc), hOK E h H → va_S (eA E) (ks K).heap H locs → ∃ cellB : Cell, H[b]? = some cellB ∧ cellB.vm.isStatics = false ∧ (ks K).vm.findClass y.cls = some cellB.cls)
    (hst : st = As.reverse ++ .ref b :: rest) (hlen : As.length = n0) (hR : roomOK K cs ss fr lo mc ms maxL rest) (hM : Mx (kl K) E y bytes maxL ret9 fr lo mc ms (.ref b :: As) h (fun v h' => G K E nL Q (cs + mc) (ss + ms) n lv ((rvo ret9 v).toList ++ rest) h') (fun x h' => Gx K E nL Q (cs + mc) (ss + ms) pc lv rest h' x)) : G K E nL Q cs ss pc lv st h := by
  subst hn
  obtain ⟨w1, w2, w3, w4, w5, w6, w7⟩ := hw
  obtain ⟨r1, r2, r3, r4, r5⟩ := hR
  refine g_backX (ret9 := ret9) (mc := mc) (ms := ms) (rest := rest) (a := (Value.ref b :: As).toArray) (fun H locs ls hH hS hL => ?_) (fun v h' hp => hp) (fun x h' hp => hp)
  exact vx_runV (Ts := GW) (C := y.cls) ⟨C.1, C.2.1, C.ml, C.ow, C.2.2.2.2.1⟩ hM (cwV n0 C.2.2.2.2.1 (good5 hl w1 w2 w3 (goodCW w4)) rfl rfl rfl ⟨rfl, w5, w6, w7⟩ ⟨r1, r2⟩) ⟨blindW _ _, hrc H locs hH hS, preW C hH hS _⟩ rfl hlen hL.1 hst (lv_room r5) hd ⟨r3, r4⟩
theorem g_callSx {y : MethodName} {bytes : ByteArray} {maxL idx n0 : Nat} {ret9 : Option FieldType} {fr lo mc ms : Nat} {As rest : List Value} {n : Nat} (C : GX K E cc nL own ret nm) (hd : decode cc pc = .ok (.invokestatic idx, 3)) (hn : pc + 3 = n) (hw : mwS y bytes maxL ret9 n0) (hl : Cond.methodLink own idx y ∈ GW)
    (hst : st = As.reverse ++ rest) (hlen : As.length = n0) (hR : roomOK K cs ss fr lo mc ms maxL rest) (hM : Mx (kl K) E y bytes maxL ret9 fr lo mc ms As h (fun v h' => G K E nL Q (cs + mc) (ss + ms) n lv ((rvo ret9 v).toList ++ rest) h') (fun x h' => Gx K E nL Q (cs + mc) (ss + ms) pc lv rest h' x)) : G K E nL Q cs ss pc lv st h := by
  subst hn
  obtain ⟨w1, w2, w3, w4, w5, w6⟩ := hw
  obtain ⟨r1, r2, r3, r4, r5⟩ := hR
  refine g_backX (ret9 := ret9) (mc := mc) (ms := ms) (rest := rest) (a := As.toArray) (fun H locs ls hH hS hL => ?_) (fun v h' hp => hp) (fun x h' hp => hp)
  exact vx_runS (Ts := GW) ⟨C.1, C.2.1, C.ml, C.ow, C.2.2.2.2.1⟩ hM (va_cwS n0 C.2.2.2.2.1 (good3 hl w1 w2 (goodCW w3)) rfl rfl rfl ⟨w4, w5, w6⟩ ⟨r1, r2⟩) ⟨blindW _ _, preW C hH hS _⟩ rfl hlen hL.1 hst (lv_room r5) hd ⟨r3, r4⟩
/-- what comes up isn't caught here -/
theorem g_out {mc ms : Nat} {P : Value → AH → Prop} {PX : String → AH → Prop} {rest : List Value} {x : String} (C : GX K E cc nL own ret nm) (htab : ∀ z ∈ (kc K).exceptionTable.toList, False) (hc : cs ≤ mc) (hs : ss ≤ ms) (hp : PX x h) : Gx K E nL (QX K E ret mc ms P PX) cs ss pc lv rest h x := fun H locs ls q ce hH hS hL hce hcv hcl =>
  vx_out (fun z hz => (htab z hz).elim) C.locks hce hcv hcl (fun t ht _ => ⟨h, hp, by rw [ht]; exact hH, hS.F ht⟩) hS.2.2 hc hs
theorem hOK_keep {h : AH} {H H1 : Heap} (hH : hOK E h H) (hk : ∀ q : Nat, q < H.size → H1[q]? = H[q]?) : hOK E h H1 := fun a e he => ⟨(hH a e he).1.kept (hk a (hH a e he).1.lt), (hH a e he).2⟩
/-- throw new x("text") -/
theorem g_throw {mc ms : Nat} {P : Value → AH → Prop} {PX : String → AH → Prop} {x text : String} {names : List String} {ik is ic key : Nat} {p3 p4 p6 p9 : Nat} (C : GX K E cc nL own ret nm) (hl : (kl K).stackTraces = false) (htab : ∀ z ∈ (kc K).exceptionTable.toList, False)
    (d0 : decode cc pc = .ok (.new ik, 3)) (h3 : pc + 3 = p3) (d3 : decode cc p3 = .ok (.dup, 1)) (h4 : pc + 4 = p4) (d4 : decode cc p4 = .ok (.ldc is, 2)) (h6 : pc + 6 = p6) (d6 : decode cc p6 = .ok (.invokespecial ic, 3)) (h9 : pc + 9 = p9) (d9 : decode cc p9 = .ok (.athrow, 1))
    (hx1 : Bundle.fit x = true) (hx2 : ∀ n ∈ names, Bundle.fit n = true) (hk : Cond.classLink own ik x ∈ GW) (hini : Cond.initialized x ∈ GW) (hstr : (own, is, text, key) ∈ SREF) (hat : ∀ w ∈ vx_atS own ic x names, w ∈ GW ∨ w ∈ TW) (hgood : ∀ w ∈ Cond.classLink own ik x :: Cond.initialized x :: vx_atS own ic x names, vx_ot w = true)
    (hR : names.length + 3 < (kR K).frames ∧ (st.map fun v => v.category).sum + (13 * (names.length + 1) + 43) ≤ (kR K).locals ∧ cs + 1 ≤ (kR K).cells ∧ ss + 6 ≤ (kR K).slots ∧ cs + 1 ≤ mc ∧ ss + 6 ≤ ms) (hp : PX x h) : G K E nL (QX K E ret mc ms P PX) cs ss pc lv st h := by
  subst h3 h4 h6 h9
  intro H locs ls hH hS hL
  refine vx_throwS (text := text) (sa := E.2.2 key) C.1 C.2.1 hl C.ow hx1 hx2 (C.gw hk) (C.gw hini) (C.z.2.2.2.2.2.2.2.1 _ hstr) (fun w hw => ?_) hgood C.z.1 C.z.2.1 hS (by rw [C.ml]; exact hL.1) d0 d3 d4 d6 d9 (fun z hz => (htab z hz).elim) hR.1 hR.2.1 hR.2.2.1 hR.2.2.2.1 C.locks (fun t _ hz hq => ?_) hS.2.2 hR.2.2.2.2.1 hR.2.2.2.2.2
  · rcases hat w hw with q | q
    · exact C.gw q
    · exact (C.tw q).use (by
        have g := (List.mem_filter.mp q).2
        cases w <;> first | rfl | (exact (nomatch g)) | (simp [tword] at g))
  · exact ⟨h, hp, hOK_keep hH hq, ⟨Nat.le_trans hS.1 hz, fun q h1 h2 => (hq q (Nat.lt_of_lt_of_le h1 hS.1)).trans (hS.2.1 q h1 h2)⟩⟩
/-- caught by a handler of this body, past rows that take other classes -/
theorem g_catch {rest : List Value} {x name : String} {n : Nat} (C : GX K E cc nL own ret nm) (pre : List ExceptionTableEntry) (z : ExceptionTableEntry) (suf : List ExceptionTableEntry) (hsplit : (kc K).exceptionTable.toList = pre ++ z :: suf)
    (hpass : ∀ w ∈ pre, w.catchType ≠ 0 ∧ ∃ nm9 : String, Cond.classLink own w.catchType nm9 ∈ GW ∧ va_Nc x nm9 (ks K)) (hz : covers z pc = true) (h0 : z.catchType ≠ 0) (hl : Cond.classLink own z.catchType name ∈ GW) (hcast : Cond.castable x name ∈ TW) (hn : z.handlerPc = n)
    (k : ∀ q : Nat, G K E nL Q cs ss n lv [.ref q] h) : Gx K E nL Q cs ss pc lv rest h x := fun H locs ls q ce hH hS hL hce hcv hcl =>
  vx_catch C.ow pre z suf hsplit (fun w hw => Or.inr ⟨(hpass w hw).1, (hpass w hw).2.choose, C.gw (hpass w hw).2.choose_spec.1, (hpass w hw).2.choose_spec.2⟩) hz h0 (C.gw hl) ((C.tw hcast).use rfl) hce hcv hcl (by rw [hn]; exact k q H locs ls hH hS hL)
end GXX
end
section
theorem room {K : Cx} {fr0 lo0 mc0 ms0 : Nat} (hR : kR K = rmk fr0 lo0 mc0 ms0) {cs ss fr lo mc ms maxL : Nat} {rest : List Value} (h : (Nat.ble (fr + 1) fr0 && Nat.ble (8 + (maxL + 11) + lo) lo0 && Nat.ble (cs + mc) mc0 && Nat.ble (ss + ms) ms0 && Nat.ble ((rest.map fun v => v.category).sum) 8) = true) : roomOK K cs ss fr lo mc ms maxL rest := by
  simp only [Bool.and_eq_true, Nat.ble_eq] at h
  obtain ⟨⟨⟨⟨h1, h2⟩, h3⟩, h4⟩, h5⟩ := h
  unfold roomOK
  rw [hR]
  exact ⟨h1, h2, h3, h4, h5⟩
theorem roomM {K : Cx} {fr0 lo0 mc0 ms0 : Nat} (hR : kR K = rmk fr0 lo0 mc0 ms0) {cs ss : Nat} {rest : List Value} (h : (Nat.ble 1 fr0 && Nat.ble ((rest.map fun v => v.category).sum + 13) lo0 && Nat.ble cs mc0 && Nat.ble ss ms0) = true) : 1 ≤ (kR K).frames ∧ (rest.map fun v => v.category).sum + 13 ≤ (kR K).locals ∧ cs ≤ (kR K).cells ∧ ss ≤ (kR K).slots := by
  simp only [Bool.and_eq_true, Nat.ble_eq] at h
  rw [hR]
  exact ⟨h.1.1.1, h.1.1.2, h.1.2, h.2⟩
theorem roomF {K : Cx} {fr0 lo0 mc0 ms0 : Nat} (hR : kR K = rmk fr0 lo0 mc0 ms0) (h : Nat.ble 1 fr0 = true) : 1 ≤ (kR K).frames := by
  rw [hR]; exact Nat.ble_eq.mp h
theorem roomL {K : Cx} {fr0 lo0 mc0 ms0 : Nat} (hR : kR K = rmk fr0 lo0 mc0 ms0) {rest : List Value} (h : Nat.ble ((rest.map fun v => v.category).sum + 12) lo0 = true) : (rest.map fun v => v.category).sum + 12 ≤ (kR K).locals := by
  rw [hR]; exact Nat.ble_eq.mp h
theorem roomC {K : Cx} {fr0 lo0 mc0 ms0 : Nat} (hR : kR K = rmk fr0 lo0 mc0 ms0) {n : Nat} (h : Nat.ble n mc0 = true) : n ≤ (kR K).cells := by
  rw [hR]; exact Nat.ble_eq.mp h
theorem roomS {K : Cx} {fr0 lo0 mc0 ms0 : Nat} (hR : kR K = rmk fr0 lo0 mc0 ms0) {n : Nat} (h : Nat.ble n ms0 = true) : n ≤ (kR K).slots := by
  rw [hR]; exact Nat.ble_eq.mp h
theorem roomT {K : Cx} {fr0 lo0 mc0 ms0 : Nat} (hR : kR K = rmk fr0 lo0 mc0 ms0) {cs ss k mc ms : Nat} {rest : List Value} (h : (Nat.ble (k + 4) fr0 && Nat.ble ((rest.map fun v => v.category).sum + (13 * (k + 1) + 43)) lo0 && Nat.ble (cs + 1) mc0 && Nat.ble (ss + 6) ms0 && Nat.ble (cs + 1) mc && Nat.ble (ss + 6) ms) = true) : k + 3 < (kR K).frames ∧ (rest.map fun v => v.category).sum + (13 * (k + 1) + 43) ≤ (kR K).locals ∧ cs + 1 ≤ (kR K).cells ∧ ss + 6 ≤ (kR K).slots ∧ cs + 1 ≤ mc ∧ ss + 6 ≤ ms := by
  simp only [Bool.and_eq_true, Nat.ble_eq] at h
  rw [hR]
  exact ⟨h.1.1.1.1.1, h.1.1.1.1.2, h.1.1.1.2, h.1.1.2, h.1.2, h.2⟩
theorem g_case {K : Cx} {E : Ev} {nL : Nat} {Q : State → Prop} {cs ss pc : Nat} {lv : List (Nat × Value)} {st : List Value} {h : AH} {x : Int32} (v : Int32) (kt : x = v → G K E nL Q cs ss pc lv (.int v :: st) h) (kf : ¬ x = v → G K E nL Q cs ss pc lv (.int x :: st) h) : G K E nL Q cs ss pc lv (.int x :: st) h := by
  by_cases q : x = v
  · have k := kt q
    rw [← q] at k
    exact k
  · exact kf q
theorem g_neI {x v : Int32} (h : ¬ x = v) {z : Int} (hz : v.toInt = z) : x.toInt ≠ z := fun q => h (Int32.toInt_inj.mp (q.trans hz.symm))
def imax (x y : Int32) : Int32 := if x < y then y else x
def imin (x y : Int32) : Int32 := if y < x then y else x
def iabs (x : Int32) : Int32 := if 0 ≤ x then x else 0 - x
def b2i (c : Prop) [Decidable c] : Int32 := if c then 1 else 0
theorem g_tout6 {x : Int32} (h0 : ¬ x = 0) (h1 : ¬ x = 1) (h2 : ¬ x = 2) (h3 : ¬ x = 3) (h4 : ¬ x = 4) (h5 : ¬ x = 5) : x.toInt < 0 ∨ 5 < x.toInt := by
  have q0 := g_neI h0 (z := 0) (by decide)
  have q1 := g_neI h1 (z := 1) (by decide)
  have q2 := g_neI h2 (z := 2) (by decide)
  have q3 := g_neI h3 (z := 3) (by decide)
  have q4 := g_neI h4 (z := 4) (by decide)
  have q5 := g_neI h5 (z := 5) (by decide)
  omega
theorem g_tout10 {x : Int32} (h0 : ¬ x = 0) (h1 : ¬ x = 1) (h2 : ¬ x = 2) (h3 : ¬ x = 3) (h4 : ¬ x = 4) (h5 : ¬ x = 5) (h6 : ¬ x = 6) (h7 : ¬ x = 7) (h8 : ¬ x = 8) (h9 : ¬ x = 9) : x.toInt < 0 ∨ 9 < x.toInt := by
  have q0 := g_neI h0 (z := 0) (by decide)
  have q1 := g_neI h1 (z := 1) (by decide)
  have q2 := g_neI h2 (z := 2) (by decide)
  have q3 := g_neI h3 (z := 3) (by decide)
  have q4 := g_neI h4 (z := 4) (by decide)
  have q5 := g_neI h5 (z := 5) (by decide)
  have q6 := g_neI h6 (z := 6) (by decide)
  have q7 := g_neI h7 (z := 7) (by decide)
  have q8 := g_neI h8 (z := 8) (by decide)
  have q9 := g_neI h9 (z := 9) (by decide)
  omega
theorem g_tout15 {x : Int32} (h0 : ¬ x = 0) (h1 : ¬ x = 1) (h2 : ¬ x = 2) (h3 : ¬ x = 3) (h4 : ¬ x = 4) (h5 : ¬ x = 5) (h6 : ¬ x = 6) (h7 : ¬ x = 7) (h8 : ¬ x = 8) (h9 : ¬ x = 9) (h10 : ¬ x = 10) (h11 : ¬ x = 11) (h12 : ¬ x = 12) (h13 : ¬ x = 13) (h14 : ¬ x = 14) : x.toInt < 0 ∨ 14 < x.toInt := by
  have q0 := g_neI h0 (z := 0) (by decide)
  have q1 := g_neI h1 (z := 1) (by decide)
  have q2 := g_neI h2 (z := 2) (by decide)
  have q3 := g_neI h3 (z := 3) (by decide)
  have q4 := g_neI h4 (z := 4) (by decide)
  have q5 := g_neI h5 (z := 5) (by decide)
  have q6 := g_neI h6 (z := 6) (by decide)
  have q7 := g_neI h7 (z := 7) (by decide)
  have q8 := g_neI h8 (z := 8) (by decide)
  have q9 := g_neI h9 (z := 9) (by decide)
  have q10 := g_neI h10 (z := 10) (by decide)
  have q11 := g_neI h11 (z := 11) (by decide)
  have q12 := g_neI h12 (z := 12) (by decide)
  have q13 := g_neI h13 (z := 13) (by decide)
  have q14 := g_neI h14 (z := 14) (by decide)
  omega
theorem g_tout23 {x : Int32} (h0 : ¬ x = 0) (h1 : ¬ x = 1) (h2 : ¬ x = 2) (h3 : ¬ x = 3) (h4 : ¬ x = 4) (h5 : ¬ x = 5) (h6 : ¬ x = 6) (h7 : ¬ x = 7) (h8 : ¬ x = 8) (h9 : ¬ x = 9) (h10 : ¬ x = 10) (h11 : ¬ x = 11) (h12 : ¬ x = 12) (h13 : ¬ x = 13) (h14 : ¬ x = 14) (h15 : ¬ x = 15) (h16 : ¬ x = 16) (h17 : ¬ x = 17) (h18 : ¬ x = 18) (h19 : ¬ x = 19) (h20 : ¬ x = 20) (h21 : ¬ x = 21) (h22 : ¬ x = 22) : x.toInt < 0 ∨ 22 < x.toInt := by
  have q0 := g_neI h0 (z := 0) (by decide)
  have q1 := g_neI h1 (z := 1) (by decide)
  have q2 := g_neI h2 (z := 2) (by decide)
  have q3 := g_neI h3 (z := 3) (by decide)
  have q4 := g_neI h4 (z := 4) (by decide)
  have q5 := g_neI h5 (z := 5) (by decide)
  have q6 := g_neI h6 (z := 6) (by decide)
  have q7 := g_neI h7 (z := 7) (by decide)
  have q8 := g_neI h8 (z := 8) (by decide)
  have q9 := g_neI h9 (z := 9) (by decide)
  have q10 := g_neI h10 (z := 10) (by decide)
  have q11 := g_neI h11 (z := 11) (by decide)
  have q12 := g_neI h12 (z := 12) (by decide)
  have q13 := g_neI h13 (z := 13) (by decide)
  have q14 := g_neI h14 (z := 14) (by decide)
  have q15 := g_neI h15 (z := 15) (by decide)
  have q16 := g_neI h16 (z := 16) (by decide)
  have q17 := g_neI h17 (z := 17) (by decide)
  have q18 := g_neI h18 (z := 18) (by decide)
  have q19 := g_neI h19 (z := 19) (by decide)
  have q20 := g_neI h20 (z := 20) (by decide)
  have q21 := g_neI h21 (z := 21) (by decide)
  have q22 := g_neI h22 (z := 22) (by decide)
  omega
theorem mwM_max : mwM Lib.Math.max.name Lib.Math.max.code 2 := ⟨w_324, w_53, w_325⟩
theorem mwM_min : mwM Lib.Math.min.name Lib.Math.min.code 2 := ⟨w_500, w_53, w_501⟩
theorem mwM_abs : mwM Lib.Math.abs.name Lib.Math.abs.code 1 := ⟨w_321, w_53, w_322⟩
theorem t_76 : (.methodLinkNest "GemPits" 9 ⟨"GemPits$Tape", "<init>", "()V"⟩ "GemPits" : Cond) ∈ TW := twm 76 (by decide +kernel) (by decide +kernel)
theorem t_122 : (.methodLinkNest "GemPits$Ground" 27 ⟨"GemPits$Law", "<init>", "()V"⟩ "GemPits" : Cond) ∈ TW := twm 122 (by decide +kernel) (by decide +kernel)
theorem t_125 : (.methodLinkNest "GemPits$Law" 1 ⟨"GemPits$Clauses", "<init>", "()V"⟩ "GemPits" : Cond) ∈ TW := twm 125 (by decide +kernel) (by decide +kernel)
theorem t_167 : (.methodLinkNest "GemPits" 25 ⟨"GemPits$Market", "<init>", "()V"⟩ "GemPits" : Cond) ∈ TW := twm 167 (by decide +kernel) (by decide +kernel)
theorem t_175 : (.methodLinkNest "GemPits$Market" 24 ⟨"GemPits$Agreement", "<init>", "()V"⟩ "GemPits" : Cond) ∈ TW := twm 175 (by decide +kernel) (by decide +kernel)
theorem t_178 : (.methodLinkNest "GemPits$Agreement" 3 ⟨"GemPits$Clauses", "<init>", "()V"⟩ "GemPits" : Cond) ∈ TW := twm 178 (by decide +kernel) (by decide +kernel)
theorem t_207 : (.methodLinkNest "GemPits" 32 ⟨"GemPits$Rough", "<init>", "()V"⟩ "GemPits" : Cond) ∈ TW := twm 207 (by decide +kernel) (by decide +kernel)
theorem t_424 : (.castable "java/lang/IllegalArgumentException" "java/lang/IllegalArgumentException" : Cond) ∈ TW := twm 424 (by decide +kernel) (by decide +kernel)
theorem t_425 : (.declares ⟨"java/lang/RuntimeException", "<init>", "()V"⟩ : Cond) ∈ TW := twm 425 (by decide +kernel) (by decide +kernel)
theorem t_426 : (.declares ⟨"java/lang/RuntimeException", "<init>", "(Ljava/lang/String;)V"⟩ : Cond) ∈ TW := twm 426 (by decide +kernel) (by decide +kernel)
theorem t_427 : (.declares ⟨"java/lang/Exception", "<init>", "()V"⟩ : Cond) ∈ TW := twm 427 (by decide +kernel) (by decide +kernel)
theorem t_428 : (.declares ⟨"java/lang/Exception", "<init>", "(Ljava/lang/String;)V"⟩ : Cond) ∈ TW := twm 428 (by decide +kernel) (by decide +kernel)
theorem t_429 : (.declares ⟨"java/lang/Throwable", "<init>", "()V"⟩ : Cond) ∈ TW := twm 429 (by decide +kernel) (by decide +kernel)
theorem t_430 : (.declares ⟨"java/lang/Throwable", "<init>", "(Ljava/lang/String;)V"⟩ : Cond) ∈ TW := twm 430 (by decide +kernel) (by decide +kernel)
theorem t_555 : (.declares ⟨"GemPits$Clauses", "readClause", "(LGemPits$Reader;)V"⟩ : Cond) ∈ TW := twm 555 (by decide +kernel) (by decide +kernel)
theorem t_666 : (.declares ⟨"GemPits$Clauses", "agrees", "()Z"⟩ : Cond) ∈ TW := twm 666 (by decide +kernel) (by decide +kernel)
theorem t_689 : (.methodLinkNest "GemPits" 88 ⟨"GemPits$Agreement", "<init>", "()V"⟩ "GemPits" : Cond) ∈ TW := twm 689 (by decide +kernel) (by decide +kernel)
theorem t_709 : (.castable "java/lang/IndexOutOfBoundsException" "java/lang/IndexOutOfBoundsException" : Cond) ∈ TW := twm 709 (by decide +kernel) (by decide +kernel)
theorem t_725 : (.castable "java/lang/UnsupportedOperationException" "java/lang/UnsupportedOperationException" : Cond) ∈ TW := twm 725 (by decide +kernel) (by decide +kernel)
theorem t_907 : (.castable "java/util/NoSuchElementException" "java/util/NoSuchElementException" : Cond) ∈ TW := twm 907 (by decide +kernel) (by decide +kernel)
theorem t_932 : (.castable "java/lang/IllegalStateException" "java/lang/IllegalStateException" : Cond) ∈ TW := twm 932 (by decide +kernel) (by decide +kernel)
theorem t_1401 : (.castable "GemPits" "java/lang/Object" : Cond) ∈ TW := twm 1401 (by decide +kernel) (by decide +kernel)
theorem t_1402 : (.castable "GemPits$Tape" "java/lang/Object" : Cond) ∈ TW := twm 1402 (by decide +kernel) (by decide +kernel)
theorem t_1403 : (.castable "GemPits$Ground" "java/lang/Object" : Cond) ∈ TW := twm 1403 (by decide +kernel) (by decide +kernel)
theorem t_1404 : (.castable "java/util/ArrayList" "java/lang/Object" : Cond) ∈ TW := twm 1404 (by decide +kernel) (by decide +kernel)
theorem t_1405 : (.castable "GemPits$Law" "java/lang/Object" : Cond) ∈ TW := twm 1405 (by decide +kernel) (by decide +kernel)
theorem t_1406 : (.castable "GemPits$Market" "java/lang/Object" : Cond) ∈ TW := twm 1406 (by decide +kernel) (by decide +kernel)
theorem t_1407 : (.castable "GemPits$Agreement" "java/lang/Object" : Cond) ∈ TW := twm 1407 (by decide +kernel) (by decide +kernel)
theorem t_1408 : (.castable "GemPits$Rough" "java/lang/Object" : Cond) ∈ TW := twm 1408 (by decide +kernel) (by decide +kernel)
theorem t_1409 : (.castable "GemPitsModel" "java/lang/Object" : Cond) ∈ TW := twm 1409 (by decide +kernel) (by decide +kernel)
theorem t_1410 : (.castable "java/lang/IllegalArgumentException" "java/lang/Object" : Cond) ∈ TW := twm 1410 (by decide +kernel) (by decide +kernel)
theorem t_1411 : (.castable "GemPits$Reader" "java/lang/Object" : Cond) ∈ TW := twm 1411 (by decide +kernel) (by decide +kernel)
theorem t_1412 : (.castable "java/lang/IndexOutOfBoundsException" "java/lang/Object" : Cond) ∈ TW := twm 1412 (by decide +kernel) (by decide +kernel)
theorem t_1413 : (.castable "java/lang/UnsupportedOperationException" "java/lang/Object" : Cond) ∈ TW := twm 1413 (by decide +kernel) (by decide +kernel)
theorem t_1414 : (.castable "GemPits$Pit" "java/lang/Object" : Cond) ∈ TW := twm 1414 (by decide +kernel) (by decide +kernel)
theorem t_1415 : (.castable "java/util/NoSuchElementException" "java/lang/Object" : Cond) ∈ TW := twm 1415 (by decide +kernel) (by decide +kernel)
theorem t_1416 : (.castable "java/lang/IllegalStateException" "java/lang/Object" : Cond) ∈ TW := twm 1416 (by decide +kernel) (by decide +kernel)
theorem t_1417 : (.castable "GemPits$Stone" "java/lang/Object" : Cond) ∈ TW := twm 1417 (by decide +kernel) (by decide +kernel)
theorem t_1418 : (.castable "java/lang/Throwable" "java/lang/Object" : Cond) ∈ TW := twm 1418 (by decide +kernel) (by decide +kernel)
theorem t_1419 : (.castable "java/lang/String" "java/lang/Object" : Cond) ∈ TW := twm 1419 (by decide +kernel) (by decide +kernel)
theorem t_1422 : (.declares ⟨"java/lang/Object", "getClass", "()Ljava/lang/Class;"⟩ : Cond) ∈ TW := twm 1422 (by decide +kernel) (by decide +kernel)
theorem t_1423 : (.castable "[B" "java/lang/Object" : Cond) ∈ TW := twm 1423 (by decide +kernel) (by decide +kernel)
theorem t_1424 : (.castable "[I" "java/lang/Object" : Cond) ∈ TW := twm 1424 (by decide +kernel) (by decide +kernel)
theorem t_1425 : (.castable "[Z" "java/lang/Object" : Cond) ∈ TW := twm 1425 (by decide +kernel) (by decide +kernel)
theorem t_1426 : (.castable "[Ljava/lang/Object;" "java/lang/Object" : Cond) ∈ TW := twm 1426 (by decide +kernel) (by decide +kernel)
theorem t_1427 : (.castable "[J" "java/lang/Object" : Cond) ∈ TW := twm 1427 (by decide +kernel) (by decide +kernel)
theorem inJx4a65c : ∀ w ∈ u_ws RJx4a65c TJx4a65c 3, w ∈ GW := by decide +kernel
theorem inX0 : ∀ w ∈ u_ws RX0 TX0 3, w ∈ GW := by decide +kernel
theorem inX2 : ∀ w ∈ u_ws RX2 TX2 6, w ∈ GW := by decide +kernel
theorem inX3 : ∀ w ∈ u_ws RX3 TX3 3, w ∈ GW := by decide +kernel
theorem inX4 : ∀ w ∈ u_ws RX4 TX4 5, w ∈ GW := by decide +kernel
theorem inX5 : ∀ w ∈ u_ws RX5 TX5 6, w ∈ GW := by decide +kernel
theorem inX6 : ∀ w ∈ u_ws RX6 TX6 3, w ∈ GW := by decide +kernel
theorem inX7 : ∀ w ∈ u_ws RX7 TX7 7, w ∈ GW := by decide +kernel
theorem inX8 : ∀ w ∈ u_ws RX8 TX8 6, w ∈ GW := by decide +kernel
theorem inX9 : ∀ w ∈ u_ws RX9 TX9 2, w ∈ GW := by decide +kernel
theorem inX10 : ∀ w ∈ u_ws RX10 TX10 5, w ∈ GW := by decide +kernel
theorem inX11 : ∀ w ∈ u_ws RX11 TX11 31, w ∈ GW := by decide +kernel
theorem mw_X0_init : mwI yX0_init cX0_init 1 0 := ⟨w_176, w_44, w_177, rfl, by decide, by decide, by decide +kernel⟩
theorem mw_X0_partPrice : mwV yX0_partPrice cX0_partPrice 7 none 4 := ⟨w_1049, w_1050, w_44, w_1051, by decide, by decide, by decide +kernel⟩
theorem mw_X0_shareOf : mwV yX0_shareOf cX0_shareOf 3 (some .int) 2 := ⟨w_1056, w_13, w_44, w_1057, by decide, by decide, by decide +kernel⟩
theorem mw_X1_init : mwI yX1_init cX1_init 1 0 := ⟨w_126, w_40, w_127, rfl, by decide, by decide, by decide +kernel⟩
theorem mw_X2_init : mwI yX2_init cX2_init 1 0 := ⟨w_91, w_36, w_92, rfl, by decide, by decide, by decide +kernel⟩
theorem mw_X2_lawNow : mwV yX2_lawNow cX2_lawNow 1 (some (.object "GemPits$Law")) 0 := ⟨w_510, w_511, w_36, w_512, by decide, by decide, by decide +kernel⟩
theorem mw_X2_setLaw : mwV yX2_setLaw cX2_setLaw 2 none 1 := ⟨w_678, w_679, w_36, w_680, by decide, by decide, by decide +kernel⟩
theorem mw_X2_setStep : mwV yX2_setStep cX2_setStep 3 none 1 := ⟨w_492, w_493, w_36, w_494, by decide, by decide, by decide +kernel⟩
theorem mw_X2_today : mwV yX2_today cX2_today 1 (some .int) 0 := ⟨w_369, w_370, w_36, w_371, by decide, by decide, by decide +kernel⟩
theorem mw_X2_passDays : mwV yX2_passDays cX2_passDays 2 none 1 := ⟨w_877, w_878, w_36, w_879, by decide, by decide, by decide +kernel⟩
theorem mw_X2_pits : mwV yX2_pits cX2_pits 1 (some .int) 0 := ⟨w_373, w_374, w_36, w_375, by decide, by decide, by decide +kernel⟩
theorem mw_X2_pitAt : mwV yX2_pitAt cX2_pitAt 2 (some (.object "GemPits$Pit")) 1 := ⟨w_849, w_850, w_36, w_851, by decide, by decide, by decide +kernel⟩
theorem mw_X2_maySink : mwV yX2_maySink cX2_maySink 4 (some .boolean) 1 := ⟨w_291, w_292, w_36, w_293, by decide, by decide, by decide +kernel⟩
theorem mw_X2_sinkAt : mwV yX2_sinkAt cX2_sinkAt 2 (some .int) 1 := ⟨w_741, w_742, w_36, w_743, by decide, by decide, by decide +kernel⟩
theorem mw_X2_tellFound : mwV yX2_tellFound cX2_tellFound 3 (some .boolean) 2 := ⟨w_854, w_855, w_36, w_856, by decide, by decide, by decide +kernel⟩
theorem mw_X2_leastAt : mwV yX2_leastAt cX2_leastAt 2 (some .int) 1 := ⟨w_893, w_894, w_36, w_895, by decide, by decide, by decide +kernel⟩
theorem mw_X2_greatestAt : mwV yX2_greatestAt cX2_greatestAt 2 (some .int) 1 := ⟨w_889, w_890, w_36, w_891, by decide, by decide, by decide +kernel⟩
theorem mw_X2_hasSpan : mwV yX2_hasSpan cX2_hasSpan 2 (some .boolean) 1 := ⟨w_287, w_288, w_36, w_289, by decide, by decide, by decide +kernel⟩
theorem mw_X2_bestSquare : mwV yX2_bestSquare cX2_bestSquare 7 (some .int) 0 := ⟨w_283, w_284, w_36, w_285, by decide, by decide, by decide +kernel⟩
theorem mw_X2_squaresOfOneAmount : mwV yX2_squaresOfOneAmount cX2_squaresOfOneAmount 3 (some .int) 0 := ⟨w_407, w_408, w_36, w_409, by decide, by decide, by decide +kernel⟩
theorem mw_X2_squaresWithoutSpan : mwV yX2_squaresWithoutSpan cX2_squaresWithoutSpan 3 (some .int) 0 := ⟨w_411, w_412, w_36, w_413, by decide, by decide, by decide +kernel⟩
theorem mw_X2_openPits : mwV yX2_openPits cX2_openPits 3 (some .int) 0 := ⟨w_377, w_378, w_36, w_379, by decide, by decide, by decide +kernel⟩
theorem mw_X2_bonds : mwV yX2_bonds cX2_bonds 5 (some .int) 1 := ⟨w_398, w_399, w_36, w_400, by decide, by decide, by decide +kernel⟩
theorem mw_X2_narrowSpans : mwV yX2_narrowSpans cX2_narrowSpans 4 none 1 := ⟨w_497, w_5, w_36, w_498, by decide, by decide, by decide +kernel⟩
theorem mw_X2_stepsApart : mwS yX2_stepsApart cX2_stepsApart 4 (some .int) 2 := ⟨w_318, w_36, w_319, by decide, by decide, by decide +kernel⟩
theorem mw_X3_init : mwI yX3_init cX3_init 1 0 := ⟨w_123, w_41, w_124, rfl, by decide, by decide, by decide +kernel⟩
theorem mw_X3_copy : mwV yX3_copy cX3_copy 2 (some (.object "GemPits$Law")) 0 := ⟨w_514, w_515, w_41, w_516, by decide, by decide, by decide +kernel⟩
theorem mw_X4_init : mwI yX4_init cX4_init 1 0 := ⟨w_168, w_43, w_169, rfl, by decide, by decide, by decide +kernel⟩
theorem mw_X4_setAgreement : mwV yX4_setAgreement cX4_setAgreement 2 none 1 := ⟨w_692, w_693, w_43, w_694, by decide, by decide, by decide +kernel⟩
theorem mw_X4_stones : mwV yX4_stones cX4_stones 1 (some .int) 0 := ⟨w_381, w_382, w_43, w_383, by decide, by decide, by decide +kernel⟩
theorem mw_X4_stoneAt : mwV yX4_stoneAt cX4_stoneAt 2 (some (.object "GemPits$Stone")) 1 := ⟨w_1014, w_1015, w_43, w_1016, by decide, by decide, by decide +kernel⟩
theorem mw_X4_addStone : mwV yX4_addStone cX4_addStone 3 (some .int) 2 := ⟨w_948, w_949, w_43, w_950, by decide, by decide, by decide +kernel⟩
theorem mw_X4_sold : mwV yX4_sold cX4_sold 1 (some .int) 0 := ⟨w_386, w_387, w_43, w_388, by decide, by decide, by decide +kernel⟩
theorem mw_X4_costs : mwV yX4_costs cX4_costs 1 (some .int) 0 := ⟨w_390, w_391, w_43, w_392, by decide, by decide, by decide +kernel⟩
theorem mw_X4_layOut : mwV yX4_layOut cX4_layOut 2 none 1 := ⟨w_998, w_999, w_43, w_1000, by decide, by decide, by decide +kernel⟩
theorem mw_X4_hadBy : mwV yX4_hadBy cX4_hadBy 2 (some .int) 1 := ⟨w_394, w_395, w_43, w_396, by decide, by decide, by decide +kernel⟩
theorem mw_X4_sellTo : mwV yX4_sellTo cX4_sellTo 4 none 2 := ⟨w_1045, w_1046, w_43, w_1047, by decide, by decide, by decide +kernel⟩
theorem mw_X5_init : mwI yX5_init cX5_init 4 3 := ⟨w_746, w_60, w_747, rfl, by decide, by decide, by decide +kernel⟩
theorem mw_X5_isFilled : mwV yX5_isFilled cX5_isFilled 1 (some .boolean) 0 := ⟨w_314, w_315, w_60, w_316, by decide, by decide, by decide +kernel⟩
theorem mw_X5_fillOn : mwV yX5_fillOn cX5_fillOn 2 (some .boolean) 1 := ⟨w_865, w_866, w_60, w_867, by decide, by decide, by decide +kernel⟩
theorem mw_X5_bondState : mwV yX5_bondState cX5_bondState 3 (some .int) 1 := ⟨w_402, w_403, w_60, w_404, by decide, by decide, by decide +kernel⟩
theorem mw_X6_init : mwI yX6_init cX6_init 2 1 := ⟨w_526, w_54, w_527, rfl, by decide, by decide, by decide +kernel⟩
theorem mw_X6_firstFault : mwV yX6_firstFault cX6_firstFault 1 (some .int) 0 := ⟨w_650, w_651, w_54, w_652, by decide, by decide, by decide +kernel⟩
theorem mw_X6_refuse : mwV yX6_refuse cX6_refuse 1 none 0 := ⟨w_621, w_622, w_54, w_623, by decide, by decide, by decide +kernel⟩
theorem mw_X6_takeWord : mwV yX6_takeWord cX6_takeWord 4 (some .boolean) 1 := ⟨w_562, w_563, w_54, w_564, by decide, by decide, by decide +kernel⟩
theorem mw_X6_expectWord : mwV yX6_expectWord cX6_expectWord 2 none 1 := ⟨w_616, w_617, w_54, w_618, by decide, by decide, by decide +kernel⟩
theorem mw_X6_expectNumber : mwV yX6_expectNumber cX6_expectNumber 6 (some .int) 2 := ⟨w_626, w_627, w_54, w_628, by decide, by decide, by decide +kernel⟩
theorem mw_X6_takeSemicolon : mwV yX6_takeSemicolon cX6_takeSemicolon 1 (some .boolean) 0 := ⟨w_654, w_655, w_54, w_656, by decide, by decide, by decide +kernel⟩
theorem mw_X6_expectEnd : mwV yX6_expectEnd cX6_expectEnd 1 none 0 := ⟨w_662, w_663, w_54, w_664, by decide, by decide, by decide +kernel⟩
theorem mw_X6_goOnFrom : mwV yX6_goOnFrom cX6_goOnFrom 2 none 1 := ⟨w_531, w_7, w_54, w_532, by decide, by decide, by decide +kernel⟩
theorem mw_X6_isLetter : mwS yX6_isLetter cX6_isLetter 1 (some .boolean) 1 := ⟨w_566, w_54, w_567, by decide, by decide, by decide +kernel⟩
theorem mw_X6_isDigit : mwS yX6_isDigit cX6_isDigit 1 (some .boolean) 1 := ⟨w_630, w_54, w_631, by decide, by decide, by decide +kernel⟩
theorem mw_X7_init : mwI yX7_init cX7_init 1 0 := ⟨w_208, w_45, w_209, rfl, by decide, by decide, by decide +kernel⟩
theorem mw_X7_begin : mwV yX7_begin cX7_begin 4 none 2 := ⟨w_1075, w_1076, w_45, w_1077, by decide, by decide, by decide +kernel⟩
theorem mw_X7_hasCell : mwV yX7_hasCell cX7_hasCell 3 (some .boolean) 2 := ⟨w_1086, w_1087, w_45, w_1088, by decide, by decide, by decide +kernel⟩
theorem mw_X7_setFlaw : mwV yX7_setFlaw cX7_setFlaw 5 (some .boolean) 3 := ⟨w_1091, w_1092, w_45, w_1093, by decide, by decide, by decide +kernel⟩
theorem mw_X7_greatestWorth : mwV yX7_greatestWorth cX7_greatestWorth 1 (some .int) 0 := ⟨w_331, w_332, w_45, w_333, by decide, by decide, by decide +kernel⟩
theorem mw_X7_fewestCuts : mwV yX7_fewestCuts cX7_fewestCuts 1 (some .int) 0 := ⟨w_361, w_362, w_45, w_363, by decide, by decide, by decide +kernel⟩
theorem mw_X7_weighAll : mwV yX7_weighAll cX7_weighAll 5 none 0 := ⟨w_336, w_0, w_45, w_337, by decide, by decide, by decide +kernel⟩
theorem mw_X7_weigh : mwV yX7_weigh cX7_weigh 8 none 4 := ⟨w_340, w_1, w_45, w_341, by decide, by decide, by decide +kernel⟩
theorem mw_X7_isClear : mwV yX7_isClear cX7_isClear 5 (some .boolean) 4 := ⟨w_350, w_2, w_45, w_351, by decide, by decide, by decide +kernel⟩
theorem mw_X7_tryCut : mwV yX7_tryCut cX7_tryCut 6 none 3 := ⟨w_354, w_3, w_45, w_355, by decide, by decide, by decide +kernel⟩
theorem mw_X7_place : mwS yX7_place cX7_place 4 (some .int) 4 := ⟨w_343, w_45, w_344, by decide, by decide, by decide +kernel⟩
theorem mw_X7_runOf : mwS yX7_runOf cX7_runOf 2 (some .int) 2 := ⟨w_346, w_45, w_347, by decide, by decide, by decide +kernel⟩
theorem mw_X8_init : mwI yX8_init cX8_init 3 2 := ⟨w_954, w_65, w_955, rfl, by decide, by decide, by decide +kernel⟩
theorem mw_X8_isSold : mwV yX8_isSold cX8_isSold 1 (some .boolean) 0 := ⟨w_1029, w_1030, w_65, w_1031, by decide, by decide, by decide +kernel⟩
theorem mw_X8_takeHand : mwV yX8_takeHand cX8_takeHand 3 (some .boolean) 2 := ⟨w_1025, w_1026, w_65, w_1027, by decide, by decide, by decide +kernel⟩
theorem mw_X8_buyerFor : mwV yX8_buyerFor cX8_buyerFor 5 (some .int) 1 := ⟨w_1041, w_1042, w_65, w_1043, by decide, by decide, by decide +kernel⟩
theorem mw_X9_init : mwI yX9_init cX9_init 1 0 := ⟨w_77, w_35, w_78, rfl, by decide, by decide, by decide +kernel⟩
theorem mw_X9_length : mwV yX9_length cX9_length 1 (some .int) 0 := ⟨w_263, w_264, w_35, w_265, by decide, by decide, by decide +kernel⟩
theorem mw_X9_hasRoom : mwV yX9_hasRoom cX9_hasRoom 1 (some .boolean) 0 := ⟨w_255, w_256, w_35, w_257, by decide, by decide, by decide +kernel⟩
theorem mw_X9_put : mwV yX9_put cX9_put 3 none 1 := ⟨w_259, w_260, w_35, w_261, by decide, by decide, by decide +kernel⟩
theorem mw_X9_shorten : mwV yX9_shorten cX9_shorten 2 (some .boolean) 1 := ⟨w_271, w_272, w_35, w_273, by decide, by decide, by decide +kernel⟩
theorem mw_X9_byteAt : mwV yX9_byteAt cX9_byteAt 2 (some .int) 1 := ⟨w_535, w_536, w_35, w_537, by decide, by decide, by decide +kernel⟩
theorem mw_X10_init : mwI yX10_init cX10_init 1 0 := ⟨w_69, w_34, w_70, rfl, by decide, by decide, by decide +kernel⟩
theorem mw_X10_feed : mwV yX10_feed cX10_feed 6 (some .int) 5 := ⟨w_251, w_252, w_34, w_253, by decide, by decide, by decide +kernel⟩
theorem mw_X10_end : mwV yX10_end cX10_end 2 (some .boolean) 1 := ⟨w_267, w_268, w_34, w_269, by decide, by decide, by decide +kernel⟩
theorem mw_X10_step : mwV yX10_step cX10_step 2 none 1 := ⟨w_419, w_420, w_34, w_421, by decide, by decide, by decide +kernel⟩
theorem mw_X10_law : mwV yX10_law cX10_law 3 (some .int) 0 := ⟨w_506, w_507, w_34, w_508, by decide, by decide, by decide +kernel⟩
theorem mw_X10_agreement : mwV yX10_agreement cX10_agreement 3 (some .int) 0 := ⟨w_685, w_686, w_34, w_687, by decide, by decide, by decide +kernel⟩
theorem mw_X10_fault : mwV yX10_fault cX10_fault 1 (some .int) 0 := ⟨w_275, w_276, w_34, w_277, by decide, by decide, by decide +kernel⟩
theorem mw_X10_sink : mwV yX10_sink cX10_sink 2 (some .int) 1 := ⟨w_701, w_702, w_34, w_703, by decide, by decide, by decide +kernel⟩
theorem mw_X10_wash : mwV yX10_wash cX10_wash 4 (some .boolean) 2 := ⟨w_840, w_841, w_34, w_842, by decide, by decide, by decide +kernel⟩
theorem mw_X10_fill : mwV yX10_fill cX10_fill 2 (some .boolean) 1 := ⟨w_861, w_862, w_34, w_863, by decide, by decide, by decide +kernel⟩
theorem mw_X10_days : mwV yX10_days cX10_days 2 (some .int) 1 := ⟨w_872, w_873, w_34, w_874, by decide, by decide, by decide +kernel⟩
theorem mw_X10_span : mwV yX10_span cX10_span 3 (some .int) 2 := ⟨w_884, w_885, w_34, w_886, by decide, by decide, by decide +kernel⟩
theorem mw_X10_best : mwV yX10_best cX10_best 1 (some .int) 0 := ⟨w_279, w_280, w_34, w_281, by decide, by decide, by decide +kernel⟩
theorem mw_X10_look : mwV yX10_look cX10_look 4 (some .int) 2 := ⟨w_901, w_902, w_34, w_903, by decide, by decide, by decide +kernel⟩
theorem mw_X10_stone : mwV yX10_stone cX10_stone 4 (some .int) 2 := ⟨w_926, w_927, w_34, w_928, by decide, by decide, by decide +kernel⟩
theorem mw_X10_lay : mwV yX10_lay cX10_lay 2 (some .int) 1 := ⟨w_991, w_992, w_34, w_993, by decide, by decide, by decide +kernel⟩
theorem mw_X10_hand : mwV yX10_hand cX10_hand 5 (some .boolean) 3 := ⟨w_1005, w_1006, w_34, w_1007, by decide, by decide, by decide +kernel⟩
theorem mw_X10_sell : mwV yX10_sell cX10_sell 5 (some .int) 2 := ⟨w_1036, w_1037, w_34, w_1038, by decide, by decide, by decide +kernel⟩
theorem mw_X10_part : mwV yX10_part cX10_part 4 (some .int) 2 := ⟨w_1062, w_1063, w_34, w_1064, by decide, by decide, by decide +kernel⟩
theorem mw_X10_rough : mwV yX10_rough cX10_rough 3 none 2 := ⟨w_1070, w_1071, w_34, w_1072, by decide, by decide, by decide +kernel⟩
theorem mw_X10_flaw : mwV yX10_flaw cX10_flaw 4 (some .boolean) 3 := ⟨w_1082, w_1083, w_34, w_1084, by decide, by decide, by decide +kernel⟩
theorem mw_X10_most : mwV yX10_most cX10_most 1 (some .int) 0 := ⟨w_327, w_328, w_34, w_329, by decide, by decide, by decide +kernel⟩
theorem mw_X10_cuts : mwV yX10_cuts cX10_cuts 1 (some .int) 0 := ⟨w_357, w_358, w_34, w_359, by decide, by decide, by decide +kernel⟩
theorem mw_X10_count : mwV yX10_count cX10_count 2 (some .int) 1 := ⟨w_365, w_366, w_34, w_367, by decide, by decide, by decide +kernel⟩
theorem mw_X10_readTape : mwV yX10_readTape cX10_readTape 4 (some .int) 1 := ⟨w_521, w_6, w_34, w_522, by decide, by decide, by decide +kernel⟩
theorem mw_X10_pitOf : mwV yX10_pitOf cX10_pitOf 2 (some (.object "GemPits$Pit")) 1 := ⟨w_845, w_11, w_34, w_846, by decide, by decide, by decide +kernel⟩
theorem mw_X10_stoneOf : mwV yX10_stoneOf cX10_stoneOf 2 (some (.object "GemPits$Stone")) 1 := ⟨w_1010, w_12, w_34, w_1011, by decide, by decide, by decide +kernel⟩
theorem mw_X10_checkSquare : mwS yX10_checkSquare cX10_checkSquare 1 none 1 := ⟨w_705, w_34, w_706, by decide, by decide, by decide +kernel⟩
theorem mw_X10_checkMoney : mwS yX10_checkMoney cX10_checkMoney 1 none 1 := ⟨w_1020, w_34, w_1021, by decide, by decide, by decide +kernel⟩
theorem mw_X11_init : mwI yX11_init cX11_init 1 0 := ⟨w_1097, w_46, w_1098, rfl, by decide, by decide, by decide +kernel⟩
theorem mw_X11_thrown : mwV yX11_thrown cX11_thrown 1 (some .int) 0 := ⟨w_1195, w_1196, w_46, w_1197, by decide, by decide, by decide +kernel⟩
theorem mw_X11_throwsIf : mwV yX11_throwsIf cX11_throwsIf 3 (some .boolean) 2 := ⟨w_1259, w_22, w_46, w_1260, by decide, by decide, by decide +kernel⟩
theorem mw_X11_in : mwS yX11_in cX11_in 3 (some .boolean) 3 := ⟨w_1274, w_46, w_1275, by decide, by decide, by decide +kernel⟩
theorem mw_X11_noSquare : mwS yX11_noSquare cX11_noSquare 1 (some .boolean) 1 := ⟨w_1281, w_46, w_1282, by decide, by decide, by decide +kernel⟩
theorem mw_X11_noPit : mwV yX11_noPit cX11_noPit 2 (some .boolean) 1 := ⟨w_1298, w_24, w_46, w_1299, by decide, by decide, by decide +kernel⟩
theorem mw_X11_noStone : mwV yX11_noStone cX11_noStone 2 (some .boolean) 1 := ⟨w_1348, w_28, w_46, w_1349, by decide, by decide, by decide +kernel⟩
theorem mw_X11_feed : mwV yX11_feed cX11_feed 7 (some .int) 5 := ⟨w_1199, w_1200, w_46, w_1201, by decide, by decide, by decide +kernel⟩
theorem mw_X11_end : mwV yX11_end cX11_end 2 (some .boolean) 1 := ⟨w_1203, w_1204, w_46, w_1205, by decide, by decide, by decide +kernel⟩
theorem mw_X11_isAt : mwV yX11_isAt cX11_isAt 3 (some .boolean) 2 := ⟨w_1228, w_18, w_46, w_1229, by decide, by decide, by decide +kernel⟩
theorem mw_X11_blanks : mwV yX11_blanks cX11_blanks 1 none 0 := ⟨w_1224, w_17, w_46, w_1225, by decide, by decide, by decide +kernel⟩
theorem mw_X11_word : mwV yX11_word cX11_word 1 none 0 := ⟨w_1220, w_16, w_46, w_1221, by decide, by decide, by decide +kernel⟩
theorem mw_X11_isWord : mwV yX11_isWord cX11_isWord 4 (some .boolean) 1 := ⟨w_1233, w_19, w_46, w_1234, by decide, by decide, by decide +kernel⟩
theorem mw_X11_number : mwV yX11_number cX11_number 5 (some .boolean) 3 := ⟨w_1239, w_20, w_46, w_1240, by decide, by decide, by decide +kernel⟩
theorem mw_X11_readTerm : mwV yX11_readTerm cX11_readTerm 1 (some .boolean) 0 := ⟨w_1216, w_15, w_46, w_1217, by decide, by decide, by decide +kernel⟩
theorem mw_X11_readPart : mwV yX11_readPart cX11_readPart 1 (some .boolean) 0 := ⟨w_1246, w_21, w_46, w_1247, by decide, by decide, by decide +kernel⟩
theorem mw_X11_readAll : mwV yX11_readAll cX11_readAll 3 (some .int) 1 := ⟨w_1212, w_14, w_46, w_1213, by decide, by decide, by decide +kernel⟩
theorem mw_X11_law : mwV yX11_law cX11_law 3 (some .int) 0 := ⟨w_1207, w_1208, w_46, w_1209, by decide, by decide, by decide +kernel⟩
theorem mw_X11_agreement : mwV yX11_agreement cX11_agreement 3 (some .int) 0 := ⟨w_1262, w_1263, w_46, w_1264, by decide, by decide, by decide +kernel⟩
theorem mw_X11_fault : mwV yX11_fault cX11_fault 1 (some .int) 0 := ⟨w_1266, w_1267, w_46, w_1268, by decide, by decide, by decide +kernel⟩
theorem mw_X11_step : mwV yX11_step cX11_step 2 none 1 := ⟨w_1270, w_1271, w_46, w_1272, by decide, by decide, by decide +kernel⟩
theorem mw_X11_apart : mwS yX11_apart cX11_apart 2 (some .int) 2 := ⟨w_1288, w_46, w_1289, by decide, by decide, by decide +kernel⟩
theorem mw_X11_mayBeSunk : mwV yX11_mayBeSunk cX11_mayBeSunk 4 (some .boolean) 1 := ⟨w_1285, w_23, w_46, w_1286, by decide, by decide, by decide +kernel⟩
theorem mw_X11_sink : mwV yX11_sink cX11_sink 2 (some .int) 1 := ⟨w_1277, w_1278, w_46, w_1279, by decide, by decide, by decide +kernel⟩
theorem mw_X11_wash : mwV yX11_wash cX11_wash 3 (some .boolean) 2 := ⟨w_1293, w_1294, w_46, w_1295, by decide, by decide, by decide +kernel⟩
theorem mw_X11_fill : mwV yX11_fill cX11_fill 2 (some .boolean) 1 := ⟨w_1301, w_1302, w_46, w_1303, by decide, by decide, by decide +kernel⟩
theorem mw_X11_days : mwV yX11_days cX11_days 2 (some .int) 1 := ⟨w_1305, w_1306, w_46, w_1307, by decide, by decide, by decide +kernel⟩
theorem mw_X11_low : mwV yX11_low cX11_low 4 (some .int) 1 := ⟨w_1315, w_25, w_46, w_1316, by decide, by decide, by decide +kernel⟩
theorem mw_X11_high : mwV yX11_high cX11_high 4 (some .int) 1 := ⟨w_1319, w_26, w_46, w_1320, by decide, by decide, by decide +kernel⟩
theorem mw_X11_span : mwV yX11_span cX11_span 5 (some .int) 2 := ⟨w_1310, w_1311, w_46, w_1312, by decide, by decide, by decide +kernel⟩
theorem mw_X11_best : mwV yX11_best cX11_best 6 (some .int) 0 := ⟨w_1322, w_1323, w_46, w_1324, by decide, by decide, by decide +kernel⟩
theorem mw_X11_bondOf : mwV yX11_bondOf cX11_bondOf 3 (some .int) 1 := ⟨w_1331, w_27, w_46, w_1332, by decide, by decide, by decide +kernel⟩
theorem mw_X11_look : mwV yX11_look cX11_look 3 (some .int) 2 := ⟨w_1326, w_1327, w_46, w_1328, by decide, by decide, by decide +kernel⟩
theorem mw_X11_stone : mwV yX11_stone cX11_stone 4 (some .int) 2 := ⟨w_1334, w_1335, w_46, w_1336, by decide, by decide, by decide +kernel⟩
theorem mw_X11_lay : mwV yX11_lay cX11_lay 2 (some .int) 1 := ⟨w_1338, w_1339, w_46, w_1340, by decide, by decide, by decide +kernel⟩
theorem mw_X11_hand : mwV yX11_hand cX11_hand 4 (some .boolean) 3 := ⟨w_1343, w_1344, w_46, w_1345, by decide, by decide, by decide +kernel⟩
theorem mw_X11_parts : mwV yX11_parts cX11_parts 7 none 2 := ⟨w_1357, w_29, w_46, w_1358, by decide, by decide, by decide +kernel⟩
theorem mw_X11_sell : mwV yX11_sell cX11_sell 6 (some .int) 2 := ⟨w_1352, w_1353, w_46, w_1354, by decide, by decide, by decide +kernel⟩
theorem mw_X11_part : mwV yX11_part cX11_part 3 (some .int) 2 := ⟨w_1360, w_1361, w_46, w_1362, by decide, by decide, by decide +kernel⟩
theorem mw_X11_rough : mwV yX11_rough cX11_rough 4 none 2 := ⟨w_1364, w_1365, w_46, w_1366, by decide, by decide, by decide +kernel⟩
theorem mw_X11_flaw : mwV yX11_flaw cX11_flaw 5 (some .boolean) 3 := ⟨w_1368, w_1369, w_46, w_1370, by decide, by decide, by decide +kernel⟩
theorem mw_X11_placeOf : mwS yX11_placeOf cX11_placeOf 4 (some .int) 4 := ⟨w_1380, w_46, w_1381, by decide, by decide, by decide +kernel⟩
theorem mw_X11_isClear : mwV yX11_isClear cX11_isClear 8 (some .boolean) 4 := ⟨w_1384, w_31, w_46, w_1385, by decide, by decide, by decide +kernel⟩
theorem mw_X11_better : mwV yX11_better cX11_better 6 none 3 := ⟨w_1388, w_32, w_46, w_1389, by decide, by decide, by decide +kernel⟩
theorem mw_X11_weighs : mwV yX11_weighs cX11_weighs 8 none 0 := ⟨w_1377, w_30, w_46, w_1378, by decide, by decide, by decide +kernel⟩
theorem mw_X11_most : mwV yX11_most cX11_most 1 (some .int) 0 := ⟨w_1372, w_1373, w_46, w_1374, by decide, by decide, by decide +kernel⟩
theorem mw_X11_cuts : mwV yX11_cuts cX11_cuts 1 (some .int) 0 := ⟨w_1391, w_1392, w_46, w_1393, by decide, by decide, by decide +kernel⟩
theorem mw_X11_count : mwV yX11_count cX11_count 4 (some .int) 1 := ⟨w_1395, w_1396, w_46, w_1397, by decide, by decide, by decide +kernel⟩
theorem mw_J0_length_8abf5 : mwV yJ0_length_8abf5 cJ0_length_8abf5 1 (some .int) 0 := ⟨w_569, w_570, w_55, w_571, by decide, by decide, by decide +kernel⟩
theorem mw_J0_charAt_5068e : mwV yJ0_charAt_5068e cJ0_charAt_5068e 2 (some .char) 1 := ⟨w_579, w_580, w_55, w_581, by decide, by decide, by decide +kernel⟩
theorem mw_J0_coder_7d493 : mwV yJ0_coder_7d493 cJ0_coder_7d493 1 (some .byte) 0 := ⟨w_573, w_574, w_55, w_575, by decide, by decide, by decide +kernel⟩
theorem mw_J0_isLatin1_aae02 : mwV yJ0_isLatin1_aae02 cJ0_isLatin1_aae02 1 (some .boolean) 0 := ⟨w_583, w_584, w_55, w_585, by decide, by decide, by decide +kernel⟩
theorem mw_J0_checkIndex_df160 : mwS yJ0_checkIndex_df160 cJ0_checkIndex_df160 2 none 2 := ⟨w_590, w_55, w_591, by decide, by decide, by decide +kernel⟩
theorem mw_J1_charAt_3b067 : mwS yJ1_charAt_3b067 cJ1_charAt_3b067 2 (some .char) 2 := ⟨w_587, w_56, w_588, by decide, by decide, by decide +kernel⟩
theorem mw_J2_getChar_3b067 : mwS yJ2_getChar_3b067 cJ2_getChar_3b067 2 (some .char) 2 := ⟨w_606, w_57, w_607, by decide, by decide, by decide +kernel⟩
theorem mw_J2_length_9d52b : mwS yJ2_length_9d52b cJ2_length_9d52b 1 (some .int) 1 := ⟨w_602, w_57, w_603, by decide, by decide, by decide +kernel⟩
theorem mw_J2_charAt_3b067 : mwS yJ2_charAt_3b067 cJ2_charAt_3b067 2 (some .char) 2 := ⟨w_596, w_57, w_597, by decide, by decide, by decide +kernel⟩
theorem mw_J2_checkIndex_2214a : mwS yJ2_checkIndex_2214a cJ2_checkIndex_2214a 2 none 2 := ⟨w_599, w_57, w_600, by decide, by decide, by decide +kernel⟩
theorem mw_Jxa1e45_init_da8c8 : mwI yJxa1e45_init_da8c8 cJxa1e45_init_da8c8 1 0 := ⟨w_103, w_37, w_104, rfl, by decide, by decide, by decide +kernel⟩
theorem mw_Jxc12de_init_da8c8 : mwI yJxc12de_init_da8c8 cJxc12de_init_da8c8 1 0 := ⟨w_100, w_38, w_101, rfl, by decide, by decide, by decide +kernel⟩
theorem mw_Jx4a65c_init_da8c8 : mwI yJx4a65c_init_da8c8 cJx4a65c_init_da8c8 1 0 := ⟨w_97, w_39, w_98, rfl, by decide, by decide, by decide +kernel⟩
theorem mw_Jx4a65c_grow_92f84 : mwV yJx4a65c_grow_92f84 cJx4a65c_grow_92f84 4 (some (.array (.object "java/lang/Object"))) 1 := ⟨w_790, w_10, w_39, w_791, by decide, by decide, by decide +kernel⟩
theorem mw_Jx4a65c_grow_d5877 : mwV yJx4a65c_grow_d5877 cJx4a65c_grow_d5877 1 (some (.array (.object "java/lang/Object"))) 0 := ⟨w_786, w_9, w_39, w_787, by decide, by decide, by decide +kernel⟩
theorem mw_Jx4a65c_size_8abf5 : mwV yJx4a65c_size_8abf5 cJx4a65c_size_8abf5 1 (some .int) 0 := ⟨w_295, w_296, w_39, w_297, by decide, by decide, by decide +kernel⟩
theorem mw_Jx4a65c_elementData_915e3 : mwV yJx4a65c_elementData_915e3 cJx4a65c_elementData_915e3 2 (some (.object "java/lang/Object")) 1 := ⟨w_309, w_310, w_39, w_311, by decide, by decide, by decide +kernel⟩
theorem mw_Jx4a65c_get_915e3 : mwV yJx4a65c_get_915e3 cJx4a65c_get_915e3 2 (some (.object "java/lang/Object")) 1 := ⟨w_299, w_300, w_39, w_301, by decide, by decide, by decide +kernel⟩
theorem mw_Jx4a65c_add_72be8 : mwV yJx4a65c_add_72be8 cJx4a65c_add_72be8 4 none 3 := ⟨w_782, w_8, w_39, w_783, by decide, by decide, by decide +kernel⟩
theorem mw_Jx4a65c_add_9ea2d : mwV yJx4a65c_add_9ea2d cJx4a65c_add_9ea2d 2 (some .boolean) 1 := ⟨w_777, w_778, w_39, w_779, by decide, by decide, by decide +kernel⟩
theorem mw_J7_fill_53178 : mwS yJ7_fill_53178 cJ7_fill_53178 4 none 2 := ⟨w_144, w_42, w_145, by decide, by decide, by decide +kernel⟩
theorem mw_J7_copyOf_1904c : mwS yJ7_copyOf_1904c cJ7_copyOf_1904c 2 (some (.array (.object "java/lang/Object"))) 2 := ⟨w_801, w_42, w_802, by decide, by decide, by decide +kernel⟩
theorem mw_J7_copyOf_6403c : mwS yJ7_copyOf_6403c cJ7_copyOf_6403c 4 (some (.array (.object "java/lang/Object"))) 3 := ⟨w_825, w_42, w_826, by decide, by decide, by decide +kernel⟩
theorem mw_J15_checkIndex_7cf53 : mwS yJ15_checkIndex_7cf53 cJ15_checkIndex_7cf53 2 (some .int) 2 := ⟨w_303, w_51, w_304, by decide, by decide, by decide +kernel⟩
theorem mw_J8_newLength_cabcc : mwS yJ8_newLength_cabcc cJ8_newLength_cabcc 4 (some .int) 3 := ⟨w_793, w_61, w_794, by decide, by decide, by decide +kernel⟩
theorem mw_J8_hugeLength_7cf53 : mwS yJ8_hugeLength_7cf53 cJ8_hugeLength_7cf53 3 (some .int) 2 := ⟨w_798, w_61, w_799, by decide, by decide, by decide +kernel⟩
theorem mw_J3_checkIndex_8e157 : mwS yJ3_checkIndex_8e157 cJ3_checkIndex_8e157 3 (some .int) 3 := ⟨w_306, w_52, w_307, by decide, by decide, by decide +kernel⟩
end
section
/-! THE REFERENCE's WORLD: its one object at o, the arrays at ad; F: its numbers, A: its arrays, both by the fields' places -/
def mSl : List Nat := [3, 4, 5, 6, 7, 8, 10, 11, 12, 14, 20, 21, 22, 25, 28, 29, 30]
abbrev mfs (ad : Nat → Nat) (F : Nat → Int32) : List Value := [.int (F 0), .int (F 1), .int (F 2), .ref (ad 3), .ref (ad 4), .ref (ad 5), .ref (ad 6), .ref (ad 7), .ref (ad 8), .int (F 9), .ref (ad 10), .ref (ad 11), .ref (ad 12), .int (F 13), .ref (ad 14), .int (F 15), .int (F 16), .int (F 17), .int (F 18), .int (F 19), .ref (ad 20), .ref (ad 21), .ref (ad 22), .int (F 23), .int (F 24), .ref (ad 25), .int (F 26), .int (F 27), .ref (ad 28), .ref (ad 29), .ref (ad 30)]
def mar (E : Ev) (A : Nat → Nat → Int32) (k : Nat) : Option va_E := match k with
  | 3 => some (.inl (E.2.2 1, 30, .inl (A 3)))
  | 4 => some (.inl (E.2.2 1, 30, .inl (A 4)))
  | 5 => some (.inl (E.2.2 1, 30, .inl (A 5)))
  | 6 => some (.inl (E.2.2 1, 30, .inl (A 6)))
  | 7 => some (.inl (E.2.2 1, 30, .inl (A 7)))
  | 8 => some (.inl (E.2.2 1, 30, .inl (A 8)))
  | 10 => some (.inl (E.2.2 1, 3, .inl (A 10)))
  | 11 => some (.inl (E.2.2 1, 7, .inl (A 11)))
  | 12 => some (.inl (E.2.2 1, 7, .inl (A 12)))
  | 14 => some (.inl (E.2.2 0, 400, .inl (A 14)))
  | 20 => some (.inl (E.2.2 1, 5, .inl (A 20)))
  | 21 => some (.inl (E.2.2 1, 600, .inl (A 21)))
  | 22 => some (.inl (E.2.2 1, 360, .inl (A 22)))
  | 25 => some (.inl (E.2.2 1, 6, .inl (A 25)))
  | 28 => some (.inl (E.2.2 2, 80, .inl (A 28)))
  | 29 => some (.inl (E.2.2 1, 6400, .inl (A 29)))
  | 30 => some (.inl (E.2.2 1, 6400, .inl (A 30)))
  | _ => none
def mh (E : Ev) (o : Nat) (ad : Nat → Nat) (F : Nat → Int32) (A : Nat → Nat → Int32) (h : AH) : AH := fun b => if b = o then some (.inr (11, mfs ad F)) else match mSl.find? (fun k => ad k == b) with
  | some k => mar E A k
  | none => h b
/-- the addresses are apart -/
def mI (o : Nat) (ad : Nat → Nat) : Prop := (∀ k ∈ mSl, ad k ≠ o) ∧ ∀ j ∈ mSl, ∀ k ∈ mSl, ad j = ad k → j = k
def aset (A : Nat → Nat → Int32) (k j : Nat) (x : Int32) : Nat → Nat → Int32 := fun a b => if a = k then (if b = j then x else A a b) else A a b
theorem aset_same (A : Nat → Nat → Int32) (k j : Nat) (x : Int32) : aset A k j x k j = x := by simp [aset]
theorem aset_ne (A : Nat → Nat → Int32) {k j a b : Nat} (x : Int32) (h : ¬ (a = k ∧ b = j)) : aset A k j x a b = A a b := by
  unfold aset
  by_cases h1 : a = k
  · rw [if_pos h1, if_neg (fun q => h ⟨h1, q⟩)]
  · rw [if_neg h1]
theorem find_of {l : List Nat} {p : Nat → Bool} {k : Nat} (hk : k ∈ l) (hp : p k = true) (hu : ∀ j ∈ l, p j = true → j = k) : l.find? p = some k := by
  cases e : l.find? p with
  | none => exact absurd hp (by simpa using List.find?_eq_none.mp e k hk)
  | some j => rw [hu j (List.mem_of_find?_eq_some e) (List.find?_some e)]
theorem mh_o {E : Ev} {o : Nat} {ad : Nat → Nat} {F : Nat → Int32} {A : Nat → Nat → Int32} {h : AH} : mh E o ad F A h o = some (.inr (11, mfs ad F)) := if_pos rfl
theorem mh_find {o : Nat} {ad : Nat → Nat} (I : mI o ad) {k : Nat} (hk : k ∈ mSl) : mSl.find? (fun j => ad j == ad k) = some k := find_of hk (by simp) (fun j hj hp => I.2 j hj k hk (by simpa using hp))
theorem mh_a {E : Ev} {o : Nat} {ad : Nat → Nat} {F : Nat → Int32} {A : Nat → Nat → Int32} {h : AH} (I : mI o ad) {k : Nat} (hk : k ∈ mSl) : mh E o ad F A h (ad k) = mar E A k := by
  unfold mh
  rw [if_neg (I.1 k hk), mh_find I hk]
theorem mh_setF {E : Ev} {o : Nat} {ad : Nat → Nat} {F F' : Nat → Int32} {A : Nat → Nat → Int32} {h : AH} {fs : List Value} (e : fs = mfs ad F') : hset (mh E o ad F A h) o (.inr (11, fs)) = mh E o ad F' A h := by
  funext b
  unfold hset mh
  by_cases q : b = o
  · rw [if_pos q, if_pos q, e]
  · rw [if_neg q, if_neg q, if_neg q]
theorem mh_setA {E : Ev} {o : Nat} {ad : Nat → Nat} {F : Nat → Int32} {A A' : Nat → Nat → Int32} {h : AH} (I : mI o ad) {k : Nat} (hk : k ∈ mSl) {e : va_E} (he : mar E A' k = some e) (hr : ∀ j, j ≠ k → mar E A' j = mar E A j) : hset (mh E o ad F A h) (ad k) e = mh E o ad F A' h := by
  funext b
  unfold hset
  by_cases q : b = ad k
  · rw [if_pos q, q, mh_a I hk, he]
  · rw [if_neg q]
    unfold mh
    by_cases q2 : b = o
    · rw [if_pos q2, if_pos q2]
    · rw [if_neg q2, if_neg q2]
      cases e9 : mSl.find? (fun j => ad j == b) with
      | none => rfl
      | some j =>
        have hj := List.find?_some e9
        have hjk : j ≠ k := fun z => q (by rw [← z]; simpa using (beq_iff_eq.mp hj).symm)
        exact (hr j hjk).symm
theorem upd_aset (A : Nat → Nat → Int32) (k j : Nat) (x : Int32) : aset A k j x k = upd (A k) j x := by
  funext b
  simp [aset, upd]
theorem aset_row (A : Nat → Nat → Int32) {k a : Nat} (j : Nat) (x : Int32) (h : a ≠ k) : aset A k j x a = A a := by
  funext b
  simp [aset, h]
theorem mar_row {E : Ev} {A A' : Nat → Nat → Int32} {j : Nat} (h : A' j = A j) : mar E A' j = mar E A j := by
  unfold mar
  split <;> first | rfl | rw [h]
theorem mfs_0 {ad : Nat → Nat} {F : Nat → Int32} {x : Int32} : (mfs ad F).set 0 (.int x) = mfs ad (upd F 0 x) := rfl
theorem mfs_1 {ad : Nat → Nat} {F : Nat → Int32} {x : Int32} : (mfs ad F).set 1 (.int x) = mfs ad (upd F 1 x) := rfl
theorem mfs_2 {ad : Nat → Nat} {F : Nat → Int32} {x : Int32} : (mfs ad F).set 2 (.int x) = mfs ad (upd F 2 x) := rfl
theorem mfs_9 {ad : Nat → Nat} {F : Nat → Int32} {x : Int32} : (mfs ad F).set 9 (.int x) = mfs ad (upd F 9 x) := rfl
theorem mfs_13 {ad : Nat → Nat} {F : Nat → Int32} {x : Int32} : (mfs ad F).set 13 (.int x) = mfs ad (upd F 13 x) := rfl
theorem mfs_15 {ad : Nat → Nat} {F : Nat → Int32} {x : Int32} : (mfs ad F).set 15 (.int x) = mfs ad (upd F 15 x) := rfl
theorem mfs_16 {ad : Nat → Nat} {F : Nat → Int32} {x : Int32} : (mfs ad F).set 16 (.int x) = mfs ad (upd F 16 x) := rfl
theorem mfs_17 {ad : Nat → Nat} {F : Nat → Int32} {x : Int32} : (mfs ad F).set 17 (.int x) = mfs ad (upd F 17 x) := rfl
theorem mfs_18 {ad : Nat → Nat} {F : Nat → Int32} {x : Int32} : (mfs ad F).set 18 (.int x) = mfs ad (upd F 18 x) := rfl
theorem mfs_19 {ad : Nat → Nat} {F : Nat → Int32} {x : Int32} : (mfs ad F).set 19 (.int x) = mfs ad (upd F 19 x) := rfl
theorem mfs_23 {ad : Nat → Nat} {F : Nat → Int32} {x : Int32} : (mfs ad F).set 23 (.int x) = mfs ad (upd F 23 x) := rfl
theorem mfs_24 {ad : Nat → Nat} {F : Nat → Int32} {x : Int32} : (mfs ad F).set 24 (.int x) = mfs ad (upd F 24 x) := rfl
theorem mfs_26 {ad : Nat → Nat} {F : Nat → Int32} {x : Int32} : (mfs ad F).set 26 (.int x) = mfs ad (upd F 26 x) := rfl
theorem mfs_27 {ad : Nat → Nat} {F : Nat → Int32} {x : Int32} : (mfs ad F).set 27 (.int x) = mfs ad (upd F 27 x) := rfl
section MROWS
variable {K : Cx} {E : Ev} {cc : ByteArray} {nL : Nat} {own : String} {ret : Option FieldType} {nm : String} {Q : State → Prop} {cs ss pc : Nat} {lv : List (Nat × Value)} {st : List Value} {h : AH}
variable {o : Nat} {ad : Nat → Nat} {F : Nat → Int32} {A : Nat → Nat → Int32}
theorem m_get {n index : Nat} {v : Value} (f : Nat) (C : GX K E cc nL own ret nm) (hd : decode cc pc = .ok (.getfield index, 3)) (hn : pc + 3 = n) (hk : f < 31) (hv : (mfs ad F)[f]? = some v) (hlink : Cond.fieldLink own index "GemPitsModel" (TX11 f).2.1 (TX11 f).2.2.1 ∈ GW) (href : (TX11 f).1 = "GemPitsModel") (k : G K E nL Q cs ss n lv (v :: st) (mh E o ad F A h)) : G K E nL Q cs ss pc lv (.ref o :: st) (mh E o ad F A h) :=
  g_get (T := TX11) C f hd hn mh_o hv rfl hk inX11 hlink href k
theorem m_put {n index : Nat} {x : Int32} (f : Nat) (C : GX K E cc nL own ret nm) (hd : decode cc pc = .ok (.putfield index, 3)) (hn : pc + 3 = n) (hk : f < 31) (hlink : Cond.fieldLink own index "GemPitsModel" (TX11 f).2.1 (TX11 f).2.2.1 ∈ GW) (href : (TX11 f).1 = "GemPitsModel") (hfin : (TX11 f).2.2.2 = false) (hdt : tyX11 f = .int) (he : (mfs ad F).set f (.int x) = mfs ad (upd F f x)) (k : G K E nL Q cs ss n lv st (mh E o ad (upd F f x) A h)) : G K E nL Q cs ss pc lv (.int x :: .ref o :: st) (mh E o ad F A h) :=
  g_put (T := TX11) (ty0 := tyX11) C f hd hn mh_o rfl hk inX11 hlink href tyX11_ok nmX11 hfin hdt rfl rfl (by show f < 31; exact hk) (by rw [mh_setF he]; exact k)
theorem m_putZ {n index : Nat} {x : Int32} (f : Nat) (C : GX K E cc nL own ret nm) (hd : decode cc pc = .ok (.putfield index, 3)) (hn : pc + 3 = n) (hk : f < 31) (hlink : Cond.fieldLink own index "GemPitsModel" (TX11 f).2.1 (TX11 f).2.2.1 ∈ GW) (href : (TX11 f).1 = "GemPitsModel") (hfin : (TX11 f).2.2.2 = false) (hdt : tyX11 f = .boolean) (hnar : narrow .boolean (.int x) = .int x) (hfit : fits .boolean (.int x) = true) (he : (mfs ad F).set f (.int x) = mfs ad (upd F f x)) (k : G K E nL Q cs ss n lv st (mh E o ad (upd F f x) A h)) : G K E nL Q cs ss pc lv (.int x :: .ref o :: st) (mh E o ad F A h) :=
  g_put (T := TX11) (ty0 := tyX11) C f hd hn mh_o rfl hk inX11 hlink href tyX11_ok nmX11 hfin hdt hnar hfit (by show f < 31; exact hk) (by rw [mh_setF he]; exact k)
theorem m_iald {n : Nat} {i v : Int32} {N : Nat} (k : Nat) (j : Nat) (C : GX K E cc nL own ret nm) (hd : decode cc pc = .ok (.iaload, 1)) (hn : pc + 1 = n) (I : mI o ad) (hk : k ∈ mSl) (ha : mar E A k = some (.inl (E.2.2 1, N, .inl (A k)))) (hi : i = nI j) (hj : j < N) (hN : N < 2147483648) (hv : A k j = v) (kk : G K E nL Q cs ss n lv (.int v :: st) (mh E o ad F A h)) : G K E nL Q cs ss pc lv (.int i :: .ref (ad k) :: st) (mh E o ad F A h) := by
  subst hi
  refine g_iald C hd hn ((mh_a I hk).trans ha) (vp_in_nI hj hN) ?_
  rw [nI_clamp (by omega), hv]
  exact kk
theorem m_bald {n : Nat} {i v : Int32} {N : Nat} (k : Nat) (j : Nat) (C : GX K E cc nL own ret nm) (hd : decode cc pc = .ok (.baload, 1)) (hn : pc + 1 = n) (I : mI o ad) (hk : k ∈ mSl) (ha : mar E A k = some (.inl (E.2.2 0, N, .inl (A k)))) (hi : i = nI j) (hj : j < N) (hN : N < 2147483648) (hv : A k j = v) (kk : G K E nL Q cs ss n lv (.int v :: st) (mh E o ad F A h)) : G K E nL Q cs ss pc lv (.int i :: .ref (ad k) :: st) (mh E o ad F A h) := by
  subst hi
  refine g_bald C hd hn ((mh_a I hk).trans ha) (vp_in_nI hj hN) ?_
  rw [nI_clamp (by omega), hv]
  exact kk
theorem m_zald {n : Nat} {i v : Int32} {N : Nat} (k : Nat) (j : Nat) (C : GX K E cc nL own ret nm) (hd : decode cc pc = .ok (.baload, 1)) (hn : pc + 1 = n) (I : mI o ad) (hk : k ∈ mSl) (ha : mar E A k = some (.inl (E.2.2 2, N, .inl (A k)))) (hi : i = nI j) (hj : j < N) (hN : N < 2147483648) (hv : A k j = v) (kk : G K E nL Q cs ss n lv (.int v :: st) (mh E o ad F A h)) : G K E nL Q cs ss pc lv (.int i :: .ref (ad k) :: st) (mh E o ad F A h) := by
  subst hi
  refine g_zald C hd hn ((mh_a I hk).trans ha) (vp_in_nI hj hN) ?_
  rw [nI_clamp (by omega), hv]
  exact kk
theorem m_iast {n : Nat} {i x : Int32} {N : Nat} (k : Nat) (j : Nat) (C : GX K E cc nL own ret nm) (hd : decode cc pc = .ok (.iastore, 1)) (hn : pc + 1 = n) (I : mI o ad) (hk : k ∈ mSl) (ha : ∀ B : Nat → Nat → Int32, mar E B k = some (.inl (E.2.2 1, N, .inl (B k)))) (hi : i = nI j) (hj : j < N) (hN : N < 2147483648) (kk : G K E nL Q cs ss n lv st (mh E o ad F (aset A k j x) h)) : G K E nL Q cs ss pc lv (.int x :: .int i :: .ref (ad k) :: st) (mh E o ad F A h) := by
  subst hi
  refine g_iast C hd hn ((mh_a I hk).trans (ha A)) (vp_in_nI hj hN) ?_
  rw [nI_clamp (by omega), mh_setA I hk (A' := aset A k j x) (by rw [ha, upd_aset]) (fun a q => mar_row (aset_row A j x q))]
  exact kk
theorem m_bast {n : Nat} {i x : Int32} {N : Nat} (k : Nat) (j : Nat) (C : GX K E cc nL own ret nm) (hd : decode cc pc = .ok (.bastore, 1)) (hn : pc + 1 = n) (I : mI o ad) (hk : k ∈ mSl) (ha : ∀ B : Nat → Nat → Int32, mar E B k = some (.inl (E.2.2 0, N, .inl (B k)))) (hi : i = nI j) (hj : j < N) (hN : N < 2147483648) (kk : G K E nL Q cs ss n lv st (mh E o ad F (aset A k j (x.toInt8.toInt32)) h)) : G K E nL Q cs ss pc lv (.int x :: .int i :: .ref (ad k) :: st) (mh E o ad F A h) := by
  subst hi
  refine g_bast C hd hn ((mh_a I hk).trans (ha A)) (vp_in_nI hj hN) ?_
  rw [nI_clamp (by omega), vp_nar_byte, mh_setA I hk (A' := aset A k j (x.toInt8.toInt32)) (by rw [ha, upd_aset]) (fun a q => mar_row (aset_row A j _ q))]
  exact kk
theorem m_zast {n : Nat} {i x : Int32} {N : Nat} (k : Nat) (j : Nat) (C : GX K E cc nL own ret nm) (hd : decode cc pc = .ok (.bastore, 1)) (hn : pc + 1 = n) (I : mI o ad) (hk : k ∈ mSl) (ha : ∀ B : Nat → Nat → Int32, mar E B k = some (.inl (E.2.2 2, N, .inl (B k)))) (hi : i = nI j) (hj : j < N) (hN : N < 2147483648) (hx : vp_nar .boolean x = x) (kk : G K E nL Q cs ss n lv st (mh E o ad F (aset A k j x) h)) : G K E nL Q cs ss pc lv (.int x :: .int i :: .ref (ad k) :: st) (mh E o ad F A h) := by
  subst hi
  refine g_zast C hd hn ((mh_a I hk).trans (ha A)) (vp_in_nI hj hN) ?_
  rw [nI_clamp (by omega), hx, mh_setA I hk (A' := aset A k j x) (by rw [ha, upd_aset]) (fun a q => mar_row (aset_row A j x q))]
  exact kk
end MROWS
end
section
theorem dX11_thrown_0 : decode cX11_thrown 0 = .ok (.aload_n 0, 1) := by decide +kernel
theorem dX11_thrown_1 : decode cX11_thrown 1 = .ok (.getfield 76, 3) := by decide +kernel
theorem dX11_thrown_4 : decode cX11_thrown 4 = .ok (.ireturn, 1) := by decide +kernel
set_option maxHeartbeats 400000 in
set_option maxRecDepth 20000 in
theorem ct_thrown {l : Launch} {E : Ev} {P : Value → AH → Prop} {o : Nat} {ad : Nat → Nat} {F : Nat → Int32} {A : Nat → Nat → Int32} {h : AH}  (hp : P (.int (F 0)) (mh E o ad F A h)) : Mt l E yX11_thrown cX11_thrown 1 (some .int) 0 0 0 0 [.ref o] (mh E o ad F A h) P := by
  refine Mt.of (by decide) (Nat.le_of_ble_eq_true rfl) ?_
  intro K hK hR C
  refine g_aload_n (n := 1) C dX11_thrown_0 rfl rfl ?_
  refine m_get (n := 4) 0 C dX11_thrown_1 rfl (by decide) rfl w_1100 rfl ?_
  refine g_iret C dX11_thrown_4 (by decide) (by decide) ?_
  exact hp
theorem dX11_throwsIf_0 : decode cX11_throwsIf 0 = .ok (.iload_n 1, 1) := by decide +kernel
theorem dX11_throwsIf_1 : decode cX11_throwsIf 1 = .ok (.ifCond .eq 8, 3) := by decide +kernel
theorem dX11_throwsIf_4 : decode cX11_throwsIf 4 = .ok (.aload_n 0, 1) := by decide +kernel
theorem dX11_throwsIf_5 : decode cX11_throwsIf 5 = .ok (.iload_n 2, 1) := by decide +kernel
theorem dX11_throwsIf_6 : decode cX11_throwsIf 6 = .ok (.putfield 76, 3) := by decide +kernel
theorem dX11_throwsIf_9 : decode cX11_throwsIf 9 = .ok (.iload_n 1, 1) := by decide +kernel
theorem dX11_throwsIf_10 : decode cX11_throwsIf 10 = .ok (.ireturn, 1) := by decide +kernel
set_option maxHeartbeats 400000 in
set_option maxRecDepth 20000 in
theorem ct_throwsIf1 {l : Launch} {E : Ev} {P : Value → AH → Prop} {o : Nat} {ad : Nat → Nat} {F : Nat → Int32} {A : Nat → Nat → Int32} {h : AH} {z : Int32} (hp : P (.int 1) (mh E o ad (upd F 0 z) A h)) : Mt l E yX11_throwsIf cX11_throwsIf 3 (some .boolean) 0 0 0 0 [.ref o, .int 1, .int z] (mh E o ad F A h) P := by
  refine Mt.of (by decide) (Nat.le_of_ble_eq_true rfl) ?_
  intro K hK hR C
  refine g_iload_n (n := 1) C dX11_throwsIf_0 rfl rfl ?_
  refine g_if_eq (n := 4) (t := 9) C dX11_throwsIf_1 rfl (by decide) (fun zc1 => ?_) (fun zc1 => ?_)
  · exact absurd zc1 (by decide)
  refine g_aload_n (n := 5) C dX11_throwsIf_4 rfl rfl ?_
  refine g_iload_n (n := 6) C dX11_throwsIf_5 rfl rfl ?_
  refine m_put (n := 9) 0 C dX11_throwsIf_6 rfl (by decide) w_1100 rfl rfl rfl mfs_0 ?_
  refine g_iload_n (n := 10) C dX11_throwsIf_9 rfl rfl ?_
  refine g_zret C dX11_throwsIf_10 (by decide) (by decide) (by rfl) ?_
  exact hp
set_option maxHeartbeats 400000 in
set_option maxRecDepth 20000 in
theorem ct_throwsIf0 {l : Launch} {E : Ev} {P : Value → AH → Prop} {o : Nat} {ad : Nat → Nat} {F : Nat → Int32} {A : Nat → Nat → Int32} {h : AH} {z : Int32} (hp : P (.int 0) (mh E o ad F A h)) : Mt l E yX11_throwsIf cX11_throwsIf 3 (some .boolean) 0 0 0 0 [.ref o, .int 0, .int z] (mh E o ad F A h) P := by
  refine Mt.of (by decide) (Nat.le_of_ble_eq_true rfl) ?_
  intro K hK hR C
  refine g_iload_n (n := 1) C dX11_throwsIf_0 rfl rfl ?_
  refine g_if_eq (n := 4) (t := 9) C dX11_throwsIf_1 rfl (by decide) (fun zc1 => ?_) (fun zc1 => ?_)
  rotate_left
  · exact absurd zc1 (by decide)
  refine g_iload_n (n := 10) C dX11_throwsIf_9 rfl rfl ?_
  refine g_zret C dX11_throwsIf_10 (by decide) (by decide) (by rfl) ?_
  exact hp
theorem dX11_in_0 : decode cX11_in 0 = .ok (.iload_n 0, 1) := by decide +kernel
theorem dX11_in_1 : decode cX11_in 1 = .ok (.iload_n 1, 1) := by decide +kernel
theorem dX11_in_2 : decode cX11_in 2 = .ok (.if_icmp .lt 12, 3) := by decide +kernel
theorem dX11_in_5 : decode cX11_in 5 = .ok (.iload_n 0, 1) := by decide +kernel
theorem dX11_in_6 : decode cX11_in 6 = .ok (.iload_n 2, 1) := by decide +kernel
theorem dX11_in_7 : decode cX11_in 7 = .ok (.if_icmp .gt 7, 3) := by decide +kernel
theorem dX11_in_10 : decode cX11_in 10 = .ok (.iconst 1, 1) := by decide +kernel
theorem dX11_in_11 : decode cX11_in 11 = .ok (.goto 4, 3) := by decide +kernel
theorem dX11_in_14 : decode cX11_in 14 = .ok (.iconst 0, 1) := by decide +kernel
theorem dX11_in_15 : decode cX11_in 15 = .ok (.ireturn, 1) := by decide +kernel
set_option maxHeartbeats 400000 in
set_option maxRecDepth 20000 in
theorem ct_in {l : Launch} {E : Ev} {P : Value → AH → Prop}  {h : AH} {a lo hi : Int32} (k1 : ¬ a < lo → ¬ hi < a → P (.int 1) h) (k2 : a < lo → P (.int 0) h) (k3 : ¬ a < lo → hi < a → P (.int 0) h) : Mt l E yX11_in cX11_in 3 (some .boolean) 0 0 0 0 [.int a, .int lo, .int hi] (h) P := by
  refine Mt.of (by decide) (Nat.le_of_ble_eq_true rfl) ?_
  intro K hK hR C
  refine g_iload_n (n := 1) C dX11_in_0 rfl rfl ?_
  refine g_iload_n (n := 2) C dX11_in_1 rfl rfl ?_
  refine g_icmp_lt (n := 5) (t := 14) C dX11_in_2 rfl (by decide) (fun zc2 => ?_) (fun zc2 => ?_)
  · --t2
    refine g_iconst (n := 15) (v := 0) C dX11_in_14 rfl (by decide) ?_
    refine g_zret C dX11_in_15 (by decide) (by decide) (by rfl) ?_
    first | exact k1 zc2 zc7 | exact k2 zc2 | exact k3 zc2 zc7
  · --f2
    refine g_iload_n (n := 6) C dX11_in_5 rfl rfl ?_
    refine g_iload_n (n := 7) C dX11_in_6 rfl rfl ?_
    refine g_icmp_gt (n := 10) (t := 14) C dX11_in_7 rfl (by decide) (fun zc7 => ?_) (fun zc7 => ?_)
    · --t7
      refine g_iconst (n := 15) (v := 0) C dX11_in_14 rfl (by decide) ?_
      refine g_zret C dX11_in_15 (by decide) (by decide) (by rfl) ?_
      first | exact k1 zc2 zc7 | exact k2 zc2 | exact k3 zc2 zc7
    · --f7
      refine g_iconst (n := 11) (v := 1) C dX11_in_10 rfl (by decide) ?_
      refine g_goto (t := 15) C dX11_in_11 (by decide) ?_
      refine g_zret C dX11_in_15 (by decide) (by decide) (by rfl) ?_
      first | exact k1 zc2 zc7 | exact k2 zc2 | exact k3 zc2 zc7
theorem dX11_noSquare_0 : decode cX11_noSquare 0 = .ok (.iload_n 0, 1) := by decide +kernel
theorem dX11_noSquare_1 : decode cX11_noSquare 1 = .ok (.iconst 0, 1) := by decide +kernel
theorem dX11_noSquare_2 : decode cX11_noSquare 2 = .ok (.bipush 95, 2) := by decide +kernel
theorem dX11_noSquare_4 : decode cX11_noSquare 4 = .ok (.invokestatic 79, 3) := by decide +kernel
theorem dX11_noSquare_7 : decode cX11_noSquare 7 = .ok (.ifCond .ne 7, 3) := by decide +kernel
theorem dX11_noSquare_10 : decode cX11_noSquare 10 = .ok (.iconst 1, 1) := by decide +kernel
theorem dX11_noSquare_11 : decode cX11_noSquare 11 = .ok (.goto 4, 3) := by decide +kernel
theorem dX11_noSquare_14 : decode cX11_noSquare 14 = .ok (.iconst 0, 1) := by decide +kernel
theorem dX11_noSquare_15 : decode cX11_noSquare 15 = .ok (.ireturn, 1) := by decide +kernel
set_option maxHeartbeats 400000 in
set_option maxRecDepth 20000 in
theorem ct_noSquare {l : Launch} {E : Ev} {P : Value → AH → Prop}  {h : AH} {a : Int32} (k1 : ¬ a < 0 → ¬ 95 < a → P (.int 0) h) (k2 : a < 0 ∨ 95 < a → P (.int 1) h) : Mt l E yX11_noSquare cX11_noSquare 1 (some .boolean) 1 22 0 0 [.int a] (h) P := by
  refine Mt.of (by decide) (Nat.le_of_ble_eq_true rfl) ?_
  intro K hK hR C
  refine g_iload_n (n := 1) C dX11_noSquare_0 rfl rfl ?_
  refine g_iconst (n := 2) (v := 0) C dX11_noSquare_1 rfl (by decide) ?_
  refine g_bipush (n := 4) (v := 95) C dX11_noSquare_2 rfl (by decide) ?_
  refine g_callS (n := 7) (As := [.int _, .int _, .int _]) C dX11_noSquare_4 rfl mw_X11_in w_1273 rfl rfl (room hR rfl) (ct_in (fun za4 zb4 => ?_) (fun za4 => ?_) (fun za4 zb4 => ?_))
  · --k4.0
    refine g_if_ne (n := 10) (t := 14) C dX11_noSquare_7 rfl (by decide) (fun zc7 => ?_) (fun zc7 => ?_)
    rotate_left
    · exact absurd zc7 (by decide)
    refine g_iconst (n := 15) (v := 0) C dX11_noSquare_14 rfl (by decide) ?_
    refine g_zret C dX11_noSquare_15 (by decide) (by decide) (by rfl) ?_
    first | exact k1 (by assumption) (by assumption) | exact k2 (Or.inl (by assumption)) | exact k2 (Or.inr (by assumption))
  · --k4.1
    refine g_if_ne (n := 10) (t := 14) C dX11_noSquare_7 rfl (by decide) (fun zc7 => ?_) (fun zc7 => ?_)
    · exact absurd zc7 (by decide)
    refine g_iconst (n := 11) (v := 1) C dX11_noSquare_10 rfl (by decide) ?_
    refine g_goto (t := 15) C dX11_noSquare_11 (by decide) ?_
    refine g_zret C dX11_noSquare_15 (by decide) (by decide) (by rfl) ?_
    first | exact k1 (by assumption) (by assumption) | exact k2 (Or.inl (by assumption)) | exact k2 (Or.inr (by assumption))
  · --k4.2
    refine g_if_ne (n := 10) (t := 14) C dX11_noSquare_7 rfl (by decide) (fun zc7 => ?_) (fun zc7 => ?_)
    · exact absurd zc7 (by decide)
    refine g_iconst (n := 11) (v := 1) C dX11_noSquare_10 rfl (by decide) ?_
    refine g_goto (t := 15) C dX11_noSquare_11 (by decide) ?_
    refine g_zret C dX11_noSquare_15 (by decide) (by decide) (by rfl) ?_
    first | exact k1 (by assumption) (by assumption) | exact k2 (Or.inl (by assumption)) | exact k2 (Or.inr (by assumption))
theorem dX11_noPit_0 : decode cX11_noPit 0 = .ok (.iload_n 1, 1) := by decide +kernel
theorem dX11_noPit_1 : decode cX11_noPit 1 = .ok (.iconst 0, 1) := by decide +kernel
theorem dX11_noPit_2 : decode cX11_noPit 2 = .ok (.aload_n 0, 1) := by decide +kernel
theorem dX11_noPit_3 : decode cX11_noPit 3 = .ok (.getfield 83, 3) := by decide +kernel
theorem dX11_noPit_6 : decode cX11_noPit 6 = .ok (.iconst 1, 1) := by decide +kernel
theorem dX11_noPit_7 : decode cX11_noPit 7 = .ok (.isub, 1) := by decide +kernel
theorem dX11_noPit_8 : decode cX11_noPit 8 = .ok (.invokestatic 79, 3) := by decide +kernel
theorem dX11_noPit_11 : decode cX11_noPit 11 = .ok (.ifCond .ne 7, 3) := by decide +kernel
theorem dX11_noPit_14 : decode cX11_noPit 14 = .ok (.iconst 1, 1) := by decide +kernel
theorem dX11_noPit_15 : decode cX11_noPit 15 = .ok (.goto 4, 3) := by decide +kernel
theorem dX11_noPit_18 : decode cX11_noPit 18 = .ok (.iconst 0, 1) := by decide +kernel
theorem dX11_noPit_19 : decode cX11_noPit 19 = .ok (.ireturn, 1) := by decide +kernel
set_option maxHeartbeats 400000 in
set_option maxRecDepth 20000 in
theorem ct_noPit {l : Launch} {E : Ev} {P : Value → AH → Prop} {o : Nat} {ad : Nat → Nat} {F : Nat → Int32} {A : Nat → Nat → Int32} {h : AH} {a : Int32} (k1 : ¬ a < 0 → ¬ F 9 - 1 < a → P (.int 0) (mh E o ad F A h)) (k2 : a < 0 ∨ F 9 - 1 < a → P (.int 1) (mh E o ad F A h)) : Mt l E yX11_noPit cX11_noPit 2 (some .boolean) 1 22 0 0 [.ref o, .int a] (mh E o ad F A h) P := by
  refine Mt.of (by decide) (Nat.le_of_ble_eq_true rfl) ?_
  intro K hK hR C
  refine g_iload_n (n := 1) C dX11_noPit_0 rfl rfl ?_
  refine g_iconst (n := 2) (v := 0) C dX11_noPit_1 rfl (by decide) ?_
  refine g_aload_n (n := 3) C dX11_noPit_2 rfl rfl ?_
  refine m_get (n := 6) 9 C dX11_noPit_3 rfl (by decide) rfl w_1109 rfl ?_
  refine g_iconst (n := 7) (v := 1) C dX11_noPit_6 rfl (by decide) ?_
  refine g_isub (n := 8) C dX11_noPit_7 rfl ?_
  refine g_callS (n := 11) (As := [.int _, .int _, .int _]) C dX11_noPit_8 rfl mw_X11_in w_1273 rfl rfl (room hR rfl) (ct_in (fun za8 zb8 => ?_) (fun za8 => ?_) (fun za8 zb8 => ?_))
  · --k8.0
    refine g_if_ne (n := 14) (t := 18) C dX11_noPit_11 rfl (by decide) (fun zc11 => ?_) (fun zc11 => ?_)
    rotate_left
    · exact absurd zc11 (by decide)
    refine g_iconst (n := 19) (v := 0) C dX11_noPit_18 rfl (by decide) ?_
    refine g_zret C dX11_noPit_19 (by decide) (by decide) (by rfl) ?_
    first | exact k1 (by assumption) (by assumption) | exact k2 (Or.inl (by assumption)) | exact k2 (Or.inr (by assumption))
  · --k8.1
    refine g_if_ne (n := 14) (t := 18) C dX11_noPit_11 rfl (by decide) (fun zc11 => ?_) (fun zc11 => ?_)
    · exact absurd zc11 (by decide)
    refine g_iconst (n := 15) (v := 1) C dX11_noPit_14 rfl (by decide) ?_
    refine g_goto (t := 19) C dX11_noPit_15 (by decide) ?_
    refine g_zret C dX11_noPit_19 (by decide) (by decide) (by rfl) ?_
    first | exact k1 (by assumption) (by assumption) | exact k2 (Or.inl (by assumption)) | exact k2 (Or.inr (by assumption))
  · --k8.2
    refine g_if_ne (n := 14) (t := 18) C dX11_noPit_11 rfl (by decide) (fun zc11 => ?_) (fun zc11 => ?_)
    · exact absurd zc11 (by decide)
    refine g_iconst (n := 15) (v := 1) C dX11_noPit_14 rfl (by decide) ?_
    refine g_goto (t := 19) C dX11_noPit_15 (by decide) ?_
    refine g_zret C dX11_noPit_19 (by decide) (by decide) (by rfl) ?_
    first | exact k1 (by assumption) (by assumption) | exact k2 (Or.inl (by assumption)) | exact k2 (Or.inr (by assumption))
theorem dX11_noStone_0 : decode cX11_noStone 0 = .ok (.iload_n 1, 1) := by decide +kernel
theorem dX11_noStone_1 : decode cX11_noStone 1 = .ok (.iconst 0, 1) := by decide +kernel
theorem dX11_noStone_2 : decode cX11_noStone 2 = .ok (.aload_n 0, 1) := by decide +kernel
theorem dX11_noStone_3 : decode cX11_noStone 3 = .ok (.getfield 86, 3) := by decide +kernel
theorem dX11_noStone_6 : decode cX11_noStone 6 = .ok (.iconst 1, 1) := by decide +kernel
theorem dX11_noStone_7 : decode cX11_noStone 7 = .ok (.isub, 1) := by decide +kernel
theorem dX11_noStone_8 : decode cX11_noStone 8 = .ok (.invokestatic 79, 3) := by decide +kernel
theorem dX11_noStone_11 : decode cX11_noStone 11 = .ok (.ifCond .ne 7, 3) := by decide +kernel
theorem dX11_noStone_14 : decode cX11_noStone 14 = .ok (.iconst 1, 1) := by decide +kernel
theorem dX11_noStone_15 : decode cX11_noStone 15 = .ok (.goto 4, 3) := by decide +kernel
theorem dX11_noStone_18 : decode cX11_noStone 18 = .ok (.iconst 0, 1) := by decide +kernel
theorem dX11_noStone_19 : decode cX11_noStone 19 = .ok (.ireturn, 1) := by decide +kernel
set_option maxHeartbeats 400000 in
set_option maxRecDepth 20000 in
theorem ct_noStone {l : Launch} {E : Ev} {P : Value → AH → Prop} {o : Nat} {ad : Nat → Nat} {F : Nat → Int32} {A : Nat → Nat → Int32} {h : AH} {a : Int32} (k1 : ¬ a < 0 → ¬ F 23 - 1 < a → P (.int 0) (mh E o ad F A h)) (k2 : a < 0 ∨ F 23 - 1 < a → P (.int 1) (mh E o ad F A h)) : Mt l E yX11_noStone cX11_noStone 2 (some .boolean) 1 22 0 0 [.ref o, .int a] (mh E o ad F A h) P := by
  refine Mt.of (by decide) (Nat.le_of_ble_eq_true rfl) ?_
  intro K hK hR C
  refine g_iload_n (n := 1) C dX11_noStone_0 rfl rfl ?_
  refine g_iconst (n := 2) (v := 0) C dX11_noStone_1 rfl (by decide) ?_
  refine g_aload_n (n := 3) C dX11_noStone_2 rfl rfl ?_
  refine m_get (n := 6) 23 C dX11_noStone_3 rfl (by decide) rfl w_1123 rfl ?_
  refine g_iconst (n := 7) (v := 1) C dX11_noStone_6 rfl (by decide) ?_
  refine g_isub (n := 8) C dX11_noStone_7 rfl ?_
  refine g_callS (n := 11) (As := [.int _, .int _, .int _]) C dX11_noStone_8 rfl mw_X11_in w_1273 rfl rfl (room hR rfl) (ct_in (fun za8 zb8 => ?_) (fun za8 => ?_) (fun za8 zb8 => ?_))
  · --k8.0
    refine g_if_ne (n := 14) (t := 18) C dX11_noStone_11 rfl (by decide) (fun zc11 => ?_) (fun zc11 => ?_)
    rotate_left
    · exact absurd zc11 (by decide)
    refine g_iconst (n := 19) (v := 0) C dX11_noStone_18 rfl (by decide) ?_
    refine g_zret C dX11_noStone_19 (by decide) (by decide) (by rfl) ?_
    first | exact k1 (by assumption) (by assumption) | exact k2 (Or.inl (by assumption)) | exact k2 (Or.inr (by assumption))
  · --k8.1
    refine g_if_ne (n := 14) (t := 18) C dX11_noStone_11 rfl (by decide) (fun zc11 => ?_) (fun zc11 => ?_)
    · exact absurd zc11 (by decide)
    refine g_iconst (n := 15) (v := 1) C dX11_noStone_14 rfl (by decide) ?_
    refine g_goto (t := 19) C dX11_noStone_15 (by decide) ?_
    refine g_zret C dX11_noStone_19 (by decide) (by decide) (by rfl) ?_
    first | exact k1 (by assumption) (by assumption) | exact k2 (Or.inl (by assumption)) | exact k2 (Or.inr (by assumption))
  · --k8.2
    refine g_if_ne (n := 14) (t := 18) C dX11_noStone_11 rfl (by decide) (fun zc11 => ?_) (fun zc11 => ?_)
    · exact absurd zc11 (by decide)
    refine g_iconst (n := 15) (v := 1) C dX11_noStone_14 rfl (by decide) ?_
    refine g_goto (t := 19) C dX11_noStone_15 (by decide) ?_
    refine g_zret C dX11_noStone_19 (by decide) (by decide) (by rfl) ?_
    first | exact k1 (by assumption) (by assumption) | exact k2 (Or.inl (by assumption)) | exact k2 (Or.inr (by assumption))
theorem dX11_fault_0 : decode cX11_fault 0 = .ok (.aload_n 0, 1) := by decide +kernel
theorem dX11_fault_1 : decode cX11_fault 1 = .ok (.iconst 0, 1) := by decide +kernel
theorem dX11_fault_2 : decode cX11_fault 2 = .ok (.putfield 76, 3) := by decide +kernel
theorem dX11_fault_5 : decode cX11_fault 5 = .ok (.aload_n 0, 1) := by decide +kernel
theorem dX11_fault_6 : decode cX11_fault 6 = .ok (.getfield 45, 3) := by decide +kernel
theorem dX11_fault_9 : decode cX11_fault 9 = .ok (.ireturn, 1) := by decide +kernel
set_option maxHeartbeats 400000 in
set_option maxRecDepth 20000 in
theorem ct_fault {l : Launch} {E : Ev} {P : Value → AH → Prop} {o : Nat} {ad : Nat → Nat} {F : Nat → Int32} {A : Nat → Nat → Int32} {h : AH}  (hp : P (.int (F 19)) (mh E o ad (upd F 0 0) A h)) : Mt l E yX11_fault cX11_fault 1 (some .int) 0 0 0 0 [.ref o] (mh E o ad F A h) P := by
  refine Mt.of (by decide) (Nat.le_of_ble_eq_true rfl) ?_
  intro K hK hR C
  refine g_aload_n (n := 1) C dX11_fault_0 rfl rfl ?_
  refine g_iconst (n := 2) (v := 0) C dX11_fault_1 rfl (by decide) ?_
  refine m_put (n := 5) 0 C dX11_fault_2 rfl (by decide) w_1100 rfl rfl rfl mfs_0 ?_
  refine g_aload_n (n := 6) C dX11_fault_5 rfl rfl ?_
  refine m_get (n := 9) 19 C dX11_fault_6 rfl (by decide) rfl w_1119 rfl ?_
  refine g_iret C dX11_fault_9 (by decide) (by decide) ?_
  exact hp
theorem dX11_end_0 : decode cX11_end 0 = .ok (.aload_n 0, 1) := by decide +kernel
theorem dX11_end_1 : decode cX11_end 1 = .ok (.iconst 0, 1) := by decide +kernel
theorem dX11_end_2 : decode cX11_end 2 = .ok (.putfield 76, 3) := by decide +kernel
theorem dX11_end_5 : decode cX11_end 5 = .ok (.iload_n 1, 1) := by decide +kernel
theorem dX11_end_6 : decode cX11_end 6 = .ok (.ifCond .lt 11, 3) := by decide +kernel
theorem dX11_end_9 : decode cX11_end 9 = .ok (.iload_n 1, 1) := by decide +kernel
theorem dX11_end_10 : decode cX11_end 10 = .ok (.aload_n 0, 1) := by decide +kernel
theorem dX11_end_11 : decode cX11_end 11 = .ok (.getfield 89, 3) := by decide +kernel
theorem dX11_end_14 : decode cX11_end 14 = .ok (.if_icmp .le 5, 3) := by decide +kernel
theorem dX11_end_17 : decode cX11_end 17 = .ok (.iconst 0, 1) := by decide +kernel
theorem dX11_end_18 : decode cX11_end 18 = .ok (.ireturn, 1) := by decide +kernel
theorem dX11_end_19 : decode cX11_end 19 = .ok (.aload_n 0, 1) := by decide +kernel
theorem dX11_end_20 : decode cX11_end 20 = .ok (.iload_n 1, 1) := by decide +kernel
theorem dX11_end_21 : decode cX11_end 21 = .ok (.putfield 89, 3) := by decide +kernel
theorem dX11_end_24 : decode cX11_end 24 = .ok (.iconst 1, 1) := by decide +kernel
theorem dX11_end_25 : decode cX11_end 25 = .ok (.ireturn, 1) := by decide +kernel
set_option maxHeartbeats 400000 in
set_option maxRecDepth 20000 in
theorem ct_end {l : Launch} {E : Ev} {P : Value → AH → Prop} {o : Nat} {ad : Nat → Nat} {F : Nat → Int32} {A : Nat → Nat → Int32} {h : AH} {n : Int32} (k1 : n < 0 ∨ F 15 < n → P (.int 0) (mh E o ad (upd F 0 0) A h)) (k2 : ¬ n < 0 → ¬ F 15 < n → P (.int 1) (mh E o ad (upd (upd F 0 0) 15 n) A h)) : Mt l E yX11_end cX11_end 2 (some .boolean) 0 0 0 0 [.ref o, .int n] (mh E o ad F A h) P := by
  refine Mt.of (by decide) (Nat.le_of_ble_eq_true rfl) ?_
  intro K hK hR C
  refine g_aload_n (n := 1) C dX11_end_0 rfl rfl ?_
  refine g_iconst (n := 2) (v := 0) C dX11_end_1 rfl (by decide) ?_
  refine m_put (n := 5) 0 C dX11_end_2 rfl (by decide) w_1100 rfl rfl rfl mfs_0 ?_
  refine g_iload_n (n := 6) C dX11_end_5 rfl rfl ?_
  refine g_if_lt (n := 9) (t := 17) C dX11_end_6 rfl (by decide) (fun zc6 => ?_) (fun zc6 => ?_)
  · --t6
    refine g_iconst (n := 18) (v := 0) C dX11_end_17 rfl (by decide) ?_
    refine g_zret C dX11_end_18 (by decide) (by decide) (by rfl) ?_
    first | exact k2 zc6 (by simpa [upd] using zc14) | exact k1 (Or.inl zc6) | exact k1 (Or.inr (by simpa [upd] using zc14))
  · --f6
    refine g_iload_n (n := 10) C dX11_end_9 rfl rfl ?_
    refine g_aload_n (n := 11) C dX11_end_10 rfl rfl ?_
    refine m_get (n := 14) 15 C dX11_end_11 rfl (by decide) rfl w_1115 rfl ?_
    refine g_icmp_le (n := 17) (t := 19) C dX11_end_14 rfl (by decide) (fun zc14 => ?_) (fun zc14 => ?_)
    · --t14
      refine g_aload_n (n := 20) C dX11_end_19 rfl rfl ?_
      refine g_iload_n (n := 21) C dX11_end_20 rfl rfl ?_
      refine m_put (n := 24) 15 C dX11_end_21 rfl (by decide) w_1115 rfl rfl rfl mfs_15 ?_
      refine g_iconst (n := 25) (v := 1) C dX11_end_24 rfl (by decide) ?_
      refine g_zret C dX11_end_25 (by decide) (by decide) (by rfl) ?_
      first | exact k2 zc6 (by simpa [upd] using zc14) | exact k1 (Or.inl zc6) | exact k1 (Or.inr (by simpa [upd] using zc14))
    · --f14
      refine g_iconst (n := 18) (v := 0) C dX11_end_17 rfl (by decide) ?_
      refine g_zret C dX11_end_18 (by decide) (by decide) (by rfl) ?_
      first | exact k2 zc6 (by simpa [upd] using zc14) | exact k1 (Or.inl zc6) | exact k1 (Or.inr (by simpa [upd] using zc14))
theorem dX11_step_0 : decode cX11_step 0 = .ok (.aload_n 0, 1) := by decide +kernel
theorem dX11_step_1 : decode cX11_step 1 = .ok (.iconst 0, 1) := by decide +kernel
theorem dX11_step_2 : decode cX11_step 2 = .ok (.putfield 76, 3) := by decide +kernel
theorem dX11_step_5 : decode cX11_step 5 = .ok (.aload_n 0, 1) := by decide +kernel
theorem dX11_step_6 : decode cX11_step 6 = .ok (.iload_n 1, 1) := by decide +kernel
theorem dX11_step_7 : decode cX11_step 7 = .ok (.iconst 0, 1) := by decide +kernel
theorem dX11_step_8 : decode cX11_step 8 = .ok (.bipush 100, 2) := by decide +kernel
theorem dX11_step_10 : decode cX11_step 10 = .ok (.invokestatic 79, 3) := by decide +kernel
theorem dX11_step_13 : decode cX11_step 13 = .ok (.ifCond .ne 7, 3) := by decide +kernel
theorem dX11_step_16 : decode cX11_step 16 = .ok (.iconst 1, 1) := by decide +kernel
theorem dX11_step_17 : decode cX11_step 17 = .ok (.goto 4, 3) := by decide +kernel
theorem dX11_step_20 : decode cX11_step 20 = .ok (.iconst 0, 1) := by decide +kernel
theorem dX11_step_21 : decode cX11_step 21 = .ok (.iconst 1, 1) := by decide +kernel
theorem dX11_step_22 : decode cX11_step 22 = .ok (.invokevirtual 162, 3) := by decide +kernel
theorem dX11_step_25 : decode cX11_step 25 = .ok (.ifCond .eq 4, 3) := by decide +kernel
theorem dX11_step_28 : decode cX11_step 28 = .ok (.return_, 1) := by decide +kernel
theorem dX11_step_29 : decode cX11_step 29 = .ok (.aload_n 0, 1) := by decide +kernel
theorem dX11_step_30 : decode cX11_step 30 = .ok (.iload_n 1, 1) := by decide +kernel
theorem dX11_step_31 : decode cX11_step 31 = .ok (.putfield 7, 3) := by decide +kernel
theorem dX11_step_34 : decode cX11_step 34 = .ok (.return_, 1) := by decide +kernel
set_option maxHeartbeats 400000 in
set_option maxRecDepth 20000 in
theorem ct_step {l : Launch} {E : Ev} {P : Value → AH → Prop} {o : Nat} {ad : Nat → Nat} {F : Nat → Int32} {A : Nat → Nat → Int32} {h : AH} {n : Int32} (k1 : n < 0 ∨ 100 < n → P .null (mh E o ad (upd (upd F 0 0) 0 1) A h)) (k2 : ¬ n < 0 → ¬ 100 < n → P .null (mh E o ad (upd (upd F 0 0) 2 n) A h)) : Mt l E yX11_step cX11_step 2 none 2 50 0 0 [.ref o, .int n] (mh E o ad F A h) P := by
  refine Mt.of (by decide) (Nat.le_of_ble_eq_true rfl) ?_
  intro K hK hR C
  refine g_aload_n (n := 1) C dX11_step_0 rfl rfl ?_
  refine g_iconst (n := 2) (v := 0) C dX11_step_1 rfl (by decide) ?_
  refine m_put (n := 5) 0 C dX11_step_2 rfl (by decide) w_1100 rfl rfl rfl mfs_0 ?_
  refine g_aload_n (n := 6) C dX11_step_5 rfl rfl ?_
  refine g_iload_n (n := 7) C dX11_step_6 rfl rfl ?_
  refine g_iconst (n := 8) (v := 0) C dX11_step_7 rfl (by decide) ?_
  refine g_bipush (n := 10) (v := 100) C dX11_step_8 rfl (by decide) ?_
  refine g_callS (n := 13) (As := [.int _, .int _, .int _]) C dX11_step_10 rfl mw_X11_in w_1273 rfl rfl (room hR rfl) (ct_in (fun za10 zb10 => ?_) (fun za10 => ?_) (fun za10 zb10 => ?_))
  · --k10.0
    refine g_if_ne (n := 16) (t := 20) C dX11_step_13 rfl (by decide) (fun zc13 => ?_) (fun zc13 => ?_)
    rotate_left
    · exact absurd zc13 (by decide)
    refine g_iconst (n := 21) (v := 0) C dX11_step_20 rfl (by decide) ?_
    refine g_iconst (n := 22) (v := 1) C dX11_step_21 rfl (by decide) ?_
    refine g_callV (n := 25) (As := [.int _, .int _]) C dX11_step_22 rfl mw_X11_throwsIf w_1257 (g_recv C mh_o rfl) rfl rfl (room hR rfl) (ct_throwsIf0 ?_)
    refine g_if_eq (n := 28) (t := 29) C dX11_step_25 rfl (by decide) (fun zc25 => ?_) (fun zc25 => ?_)
    rotate_left
    · exact absurd zc25 (by decide)
    refine g_aload_n (n := 30) C dX11_step_29 rfl rfl ?_
    refine g_iload_n (n := 31) C dX11_step_30 rfl rfl ?_
    refine m_put (n := 34) 2 C dX11_step_31 rfl (by decide) w_1102 rfl rfl rfl mfs_2 ?_
    refine g_vret C dX11_step_34 (by decide) (by decide) ?_
    first | exact k2 (by assumption) (by assumption) | exact k1 (Or.inl (by assumption)) | exact k1 (Or.inr (by assumption))
  · --k10.1
    refine g_if_ne (n := 16) (t := 20) C dX11_step_13 rfl (by decide) (fun zc13 => ?_) (fun zc13 => ?_)
    · exact absurd zc13 (by decide)
    refine g_iconst (n := 17) (v := 1) C dX11_step_16 rfl (by decide) ?_
    refine g_goto (t := 21) C dX11_step_17 (by decide) ?_
    refine g_iconst (n := 22) (v := 1) C dX11_step_21 rfl (by decide) ?_
    refine g_callV (n := 25) (As := [.int _, .int _]) C dX11_step_22 rfl mw_X11_throwsIf w_1257 (g_recv C mh_o rfl) rfl rfl (room hR rfl) (ct_throwsIf1 ?_)
    refine g_if_eq (n := 28) (t := 29) C dX11_step_25 rfl (by decide) (fun zc25 => ?_) (fun zc25 => ?_)
    · exact absurd zc25 (by decide)
    refine g_vret C dX11_step_28 (by decide) (by decide) ?_
    first | exact k2 (by assumption) (by assumption) | exact k1 (Or.inl (by assumption)) | exact k1 (Or.inr (by assumption))
  · --k10.2
    refine g_if_ne (n := 16) (t := 20) C dX11_step_13 rfl (by decide) (fun zc13 => ?_) (fun zc13 => ?_)
    · exact absurd zc13 (by decide)
    refine g_iconst (n := 17) (v := 1) C dX11_step_16 rfl (by decide) ?_
    refine g_goto (t := 21) C dX11_step_17 (by decide) ?_
    refine g_iconst (n := 22) (v := 1) C dX11_step_21 rfl (by decide) ?_
    refine g_callV (n := 25) (As := [.int _, .int _]) C dX11_step_22 rfl mw_X11_throwsIf w_1257 (g_recv C mh_o rfl) rfl rfl (room hR rfl) (ct_throwsIf1 ?_)
    refine g_if_eq (n := 28) (t := 29) C dX11_step_25 rfl (by decide) (fun zc25 => ?_) (fun zc25 => ?_)
    · exact absurd zc25 (by decide)
    refine g_vret C dX11_step_28 (by decide) (by decide) ?_
    first | exact k2 (by assumption) (by assumption) | exact k1 (Or.inl (by assumption)) | exact k1 (Or.inr (by assumption))
end
section
theorem loopN (W : Nat → Prop) (N : Nat) (hs : ∀ p, p ≤ N → (p < N → W (p + 1)) → W p) : ∀ p, p ≤ N → W p := by
  have key : ∀ k p, p + k = N → W p := by
    intro k
    induction k with
    | zero => intro p hp; exact hs p (by omega) (fun q => absurd q (by omega))
    | succ k ih => intro p hp; exact hs p (by omega) (fun _ => ih (p + 1) (by omega))
  exact fun p hp => key (N - p) p (by omega)
theorem i_lt {x : Int32} {n p : Nat} (hx : x = nI n) (c : ¬ x ≤ nI p) (hp : p ≤ n) (hn : n < 2147483648) : p < n := by
  rcases Nat.lt_or_ge p n with q | q
  · exact q
  · exact absurd (by rw [hx]; exact nI_le q (by omega)) c
theorem i_eq {x : Int32} {n p : Nat} (hx : x = nI n) (c : x ≤ nI p) (hp : p ≤ n) (hn : n < 2147483648) : p = n := by
  rw [hx] at c
  have := (nI_leI (a := n) (b := p) (by omega) (by omega)).mp c
  omega
def rapart (a b : Int32) : Int32 := imax (iabs ((a - a / 12 * 12) - (b - b / 12 * 12))) (iabs (a / 12 - b / 12))
def rlow (t : Int32) (A : Nat → Nat → Int32) (s : Int32) : Nat → Int32
  | 0 => 0
  | p + 1 => if A 5 p < 0 then rlow t A s p else imax (rlow t A s p) (A 5 p - t * rapart (A 3 p) s)
def rhigh (t : Int32) (A : Nat → Nat → Int32) (s : Int32) : Nat → Int32
  | 0 => 100
  | p + 1 => if A 5 p < 0 then rhigh t A s p else imin (rhigh t A s p) (A 5 p + t * rapart (A 3 p) s)
/-- a pit p lets another be sunk at s -/
def rok (A : Nat → Nat → Int32) (s : Int32) (p : Nat) : Prop := A 3 p ≠ s ∧ (¬ A 6 p < 0 ∨ ¬ rapart (A 3 p) s < A 10 0)
def rmay (A : Nat → Nat → Int32) (s : Int32) (n : Nat) : Prop := ∀ p, p < n → rok A s p
theorem dX11_apart_0 : decode cX11_apart 0 = .ok (.iload_n 0, 1) := by decide +kernel
theorem dX11_apart_1 : decode cX11_apart 1 = .ok (.bipush 12, 2) := by decide +kernel
theorem dX11_apart_3 : decode cX11_apart 3 = .ok (.irem, 1) := by decide +kernel
theorem dX11_apart_4 : decode cX11_apart 4 = .ok (.iload_n 1, 1) := by decide +kernel
theorem dX11_apart_5 : decode cX11_apart 5 = .ok (.bipush 12, 2) := by decide +kernel
theorem dX11_apart_7 : decode cX11_apart 7 = .ok (.irem, 1) := by decide +kernel
theorem dX11_apart_8 : decode cX11_apart 8 = .ok (.isub, 1) := by decide +kernel
theorem dX11_apart_9 : decode cX11_apart 9 = .ok (.invokestatic 170, 3) := by decide +kernel
theorem dX11_apart_12 : decode cX11_apart 12 = .ok (.iload_n 0, 1) := by decide +kernel
theorem dX11_apart_13 : decode cX11_apart 13 = .ok (.bipush 12, 2) := by decide +kernel
theorem dX11_apart_15 : decode cX11_apart 15 = .ok (.idiv, 1) := by decide +kernel
theorem dX11_apart_16 : decode cX11_apart 16 = .ok (.iload_n 1, 1) := by decide +kernel
theorem dX11_apart_17 : decode cX11_apart 17 = .ok (.bipush 12, 2) := by decide +kernel
theorem dX11_apart_19 : decode cX11_apart 19 = .ok (.idiv, 1) := by decide +kernel
theorem dX11_apart_20 : decode cX11_apart 20 = .ok (.isub, 1) := by decide +kernel
theorem dX11_apart_21 : decode cX11_apart 21 = .ok (.invokestatic 170, 3) := by decide +kernel
theorem dX11_apart_24 : decode cX11_apart 24 = .ok (.invokestatic 176, 3) := by decide +kernel
theorem dX11_apart_27 : decode cX11_apart 27 = .ok (.ireturn, 1) := by decide +kernel
set_option maxHeartbeats 400000 in
set_option maxRecDepth 20000 in
theorem ct_apart {l : Launch} {E : Ev} {P : Value → AH → Prop}  {h : AH} {a b : Int32} (hp : P (.int (rapart a b)) h) : Mt l E yX11_apart cX11_apart 2 (some .int) 1 40 0 0 [.int a, .int b] (h) P := by
  refine Mt.of (by decide) (Nat.le_of_ble_eq_true rfl) ?_
  intro K hK hR C
  refine g_iload_n (n := 1) C dX11_apart_0 rfl rfl ?_
  refine g_bipush (n := 3) (v := 12) C dX11_apart_1 rfl (by decide) ?_
  refine g_irem (n := 4) C dX11_apart_3 rfl (by decide) ?_
  refine g_iload_n (n := 5) C dX11_apart_4 rfl rfl ?_
  refine g_bipush (n := 7) (v := 12) C dX11_apart_5 rfl (by decide) ?_
  refine g_irem (n := 8) C dX11_apart_7 rfl (by decide) ?_
  refine g_isub (n := 9) C dX11_apart_8 rfl ?_
  refine g_abs (n := 12) C dX11_apart_9 rfl mwM_abs w_1290 (roomM hR rfl) ?_
  refine g_iload_n (n := 13) C dX11_apart_12 rfl rfl ?_
  refine g_bipush (n := 15) (v := 12) C dX11_apart_13 rfl (by decide) ?_
  refine g_idiv (n := 16) C dX11_apart_15 rfl (by decide) ?_
  refine g_iload_n (n := 17) C dX11_apart_16 rfl rfl ?_
  refine g_bipush (n := 19) (v := 12) C dX11_apart_17 rfl (by decide) ?_
  refine g_idiv (n := 20) C dX11_apart_19 rfl (by decide) ?_
  refine g_isub (n := 21) C dX11_apart_20 rfl ?_
  refine g_abs (n := 24) C dX11_apart_21 rfl mwM_abs w_1290 (roomM hR rfl) ?_
  refine g_max (n := 27) C dX11_apart_24 rfl mwM_max w_1291 (roomM hR rfl) ?_
  refine g_iret C dX11_apart_27 (by decide) (by decide) ?_
  exact hp
theorem dX11_low_0 : decode cX11_low 0 = .ok (.iconst 0, 1) := by decide +kernel
theorem dX11_low_1 : decode cX11_low 1 = .ok (.istore_n 2, 1) := by decide +kernel
theorem dX11_low_2 : decode cX11_low 2 = .ok (.iconst 0, 1) := by decide +kernel
theorem dX11_low_3 : decode cX11_low 3 = .ok (.istore_n 3, 1) := by decide +kernel
theorem dX11_low_4 : decode cX11_low 4 = .ok (.iload_n 3, 1) := by decide +kernel
theorem dX11_low_5 : decode cX11_low 5 = .ok (.aload_n 0, 1) := by decide +kernel
theorem dX11_low_6 : decode cX11_low 6 = .ok (.getfield 83, 3) := by decide +kernel
theorem dX11_low_9 : decode cX11_low 9 = .ok (.if_icmp .ge 45, 3) := by decide +kernel
theorem dX11_low_12 : decode cX11_low 12 = .ok (.aload_n 0, 1) := by decide +kernel
theorem dX11_low_13 : decode cX11_low 13 = .ok (.getfield 20, 3) := by decide +kernel
theorem dX11_low_16 : decode cX11_low 16 = .ok (.iload_n 3, 1) := by decide +kernel
theorem dX11_low_17 : decode cX11_low 17 = .ok (.iaload, 1) := by decide +kernel
theorem dX11_low_18 : decode cX11_low 18 = .ok (.ifCond .lt 30, 3) := by decide +kernel
theorem dX11_low_21 : decode cX11_low 21 = .ok (.iload_n 2, 1) := by decide +kernel
theorem dX11_low_22 : decode cX11_low 22 = .ok (.aload_n 0, 1) := by decide +kernel
theorem dX11_low_23 : decode cX11_low 23 = .ok (.getfield 20, 3) := by decide +kernel
theorem dX11_low_26 : decode cX11_low 26 = .ok (.iload_n 3, 1) := by decide +kernel
theorem dX11_low_27 : decode cX11_low 27 = .ok (.iaload, 1) := by decide +kernel
theorem dX11_low_28 : decode cX11_low 28 = .ok (.aload_n 0, 1) := by decide +kernel
theorem dX11_low_29 : decode cX11_low 29 = .ok (.getfield 7, 3) := by decide +kernel
theorem dX11_low_32 : decode cX11_low 32 = .ok (.aload_n 0, 1) := by decide +kernel
theorem dX11_low_33 : decode cX11_low 33 = .ok (.getfield 13, 3) := by decide +kernel
theorem dX11_low_36 : decode cX11_low 36 = .ok (.iload_n 3, 1) := by decide +kernel
theorem dX11_low_37 : decode cX11_low 37 = .ok (.iaload, 1) := by decide +kernel
theorem dX11_low_38 : decode cX11_low 38 = .ok (.iload_n 1, 1) := by decide +kernel
theorem dX11_low_39 : decode cX11_low 39 = .ok (.invokestatic 180, 3) := by decide +kernel
theorem dX11_low_42 : decode cX11_low 42 = .ok (.imul, 1) := by decide +kernel
theorem dX11_low_43 : decode cX11_low 43 = .ok (.isub, 1) := by decide +kernel
theorem dX11_low_44 : decode cX11_low 44 = .ok (.invokestatic 176, 3) := by decide +kernel
theorem dX11_low_47 : decode cX11_low 47 = .ok (.istore_n 2, 1) := by decide +kernel
theorem dX11_low_48 : decode cX11_low 48 = .ok (.iinc 3 1, 3) := by decide +kernel
theorem dX11_low_51 : decode cX11_low 51 = .ok (.goto (-47), 3) := by decide +kernel
theorem dX11_low_54 : decode cX11_low 54 = .ok (.iload_n 2, 1) := by decide +kernel
theorem dX11_low_55 : decode cX11_low 55 = .ok (.ireturn, 1) := by decide +kernel
set_option maxHeartbeats 400000 in
set_option maxRecDepth 20000 in
theorem ct_low {l : Launch} {E : Ev} {P : Value → AH → Prop} {o : Nat} {ad : Nat → Nat} {F : Nat → Int32} {A : Nat → Nat → Int32} {h : AH} (I : mI o ad) {s : Int32} {n : Nat} (hn : F 9 = nI n) (hn3 : n ≤ 30) (hp : P (.int (rlow (F 2) A s n)) (mh E o ad F A h)) : Mt l E yX11_low cX11_low 4 (some .int) 2 90 0 0 [.ref o, .int s] (mh E o ad F A h) P := by
  refine Mt.of (by decide) (Nat.le_of_ble_eq_true rfl) ?_
  intro K hK hR C
  refine g_iconst (n := 1) (v := 0) C dX11_low_0 rfl (by decide) ?_
  refine g_istore_n (n := 2) C dX11_low_1 rfl (by decide) ?_
  refine g_iconst (n := 3) (v := 0) C dX11_low_2 rfl (by decide) ?_
  refine g_istore_n (n := 4) C dX11_low_3 rfl (by decide) ?_
  have lp : ∀ p : Nat, p ≤ n → ∀ (v x : Int32), v = rlow (F 2) A s p → x = nI p → G K E 4 (QM K E (some .int) 0 0 P) 0 0 4 [(0, .ref o), (1, .int s), (2, .int v), (3, .int x)] [] (mh E o ad F A h) := by
    refine loopN (fun p => ∀ (v x : Int32), v = rlow (F 2) A s p → x = nI p → G K E 4 (QM K E (some .int) 0 0 P) 0 0 4 [(0, .ref o), (1, .int s), (2, .int v), (3, .int x)] [] (mh E o ad F A h)) (n) ?_
    intro p hlep ihp v x ev ex
    subst ex
    refine g_iload_n (n := 5) C dX11_low_4 rfl rfl ?_
    refine g_aload_n (n := 6) C dX11_low_5 rfl rfl ?_
    refine m_get (n := 9) 9 C dX11_low_6 rfl (by decide) rfl w_1109 rfl ?_
    refine g_icmp_ge (n := 12) (t := 54) C dX11_low_9 rfl (by decide) (fun zc9 => ?_) (fun zc9 => ?_)
    · --t9
      refine g_iload_n (n := 55) C dX11_low_54 rfl rfl ?_
      refine g_iret C dX11_low_55 (by decide) (by decide) ?_
      have e : p = n := i_eq hn zc9 hlep (by omega)
      subst e
      rw [ev]
      exact hp
    · --f9
      refine g_aload_n (n := 13) C dX11_low_12 rfl rfl ?_
      refine m_get (n := 16) 5 C dX11_low_13 rfl (by decide) rfl w_1105 rfl ?_
      refine g_iload_n (n := 17) C dX11_low_16 rfl rfl ?_
      refine m_iald (n := 18) 5 (p) C dX11_low_17 rfl I (by decide) rfl rfl (by have := (i_lt hn zc9 hlep (by omega)); omega) (by decide) rfl ?_
      refine g_if_lt (n := 21) (t := 48) C dX11_low_18 rfl (by decide) (fun zc18 => ?_) (fun zc18 => ?_)
      · --t18
        refine g_iinc (n := 51) C dX11_low_48 rfl rfl rfl (by decide) ?_
        refine g_goto (t := 4) C dX11_low_51 (by decide) ?_
        exact g_lv [0, 1, 2, 3] rfl (ihp (i_lt hn zc9 hlep (by omega)) _ _ (by simp only [rlow]; first | (rw [if_pos zc18]; exact ev) | (rw [if_neg zc18, ← ev]; rfl)) (nI_1 p))
      · --f18
        refine g_iload_n (n := 22) C dX11_low_21 rfl rfl ?_
        refine g_aload_n (n := 23) C dX11_low_22 rfl rfl ?_
        refine m_get (n := 26) 5 C dX11_low_23 rfl (by decide) rfl w_1105 rfl ?_
        refine g_iload_n (n := 27) C dX11_low_26 rfl rfl ?_
        refine m_iald (n := 28) 5 (p) C dX11_low_27 rfl I (by decide) rfl rfl (by have := (i_lt hn zc9 hlep (by omega)); omega) (by decide) rfl ?_
        refine g_aload_n (n := 29) C dX11_low_28 rfl rfl ?_
        refine m_get (n := 32) 2 C dX11_low_29 rfl (by decide) rfl w_1102 rfl ?_
        refine g_aload_n (n := 33) C dX11_low_32 rfl rfl ?_
        refine m_get (n := 36) 3 C dX11_low_33 rfl (by decide) rfl w_1103 rfl ?_
        refine g_iload_n (n := 37) C dX11_low_36 rfl rfl ?_
        refine m_iald (n := 38) 3 (p) C dX11_low_37 rfl I (by decide) rfl rfl (by have := (i_lt hn zc9 hlep (by omega)); omega) (by decide) rfl ?_
        refine g_iload_n (n := 39) C dX11_low_38 rfl rfl ?_
        refine g_callS (n := 42) (As := [.int _, .int _]) C dX11_low_39 rfl mw_X11_apart w_1287 rfl rfl (room hR rfl) (ct_apart ?_)
        refine g_imul (n := 43) C dX11_low_42 rfl ?_
        refine g_isub (n := 44) C dX11_low_43 rfl ?_
        refine g_max (n := 47) C dX11_low_44 rfl mwM_max w_1291 (roomM hR rfl) ?_
        refine g_istore_n (n := 48) C dX11_low_47 rfl (by decide) ?_
        refine g_iinc (n := 51) C dX11_low_48 rfl rfl rfl (by decide) ?_
        refine g_goto (t := 4) C dX11_low_51 (by decide) ?_
        exact g_lv [0, 1, 2, 3] rfl (ihp (i_lt hn zc9 hlep (by omega)) _ _ (by simp only [rlow]; first | (rw [if_pos zc18]; exact ev) | (rw [if_neg zc18, ← ev]; rfl)) (nI_1 p))
  exact g_lv [0, 1, 2, 3] rfl (lp 0 (Nat.zero_le _) _ _ rfl rfl)
theorem dX11_high_0 : decode cX11_high 0 = .ok (.bipush 100, 2) := by decide +kernel
theorem dX11_high_2 : decode cX11_high 2 = .ok (.istore_n 2, 1) := by decide +kernel
theorem dX11_high_3 : decode cX11_high 3 = .ok (.iconst 0, 1) := by decide +kernel
theorem dX11_high_4 : decode cX11_high 4 = .ok (.istore_n 3, 1) := by decide +kernel
theorem dX11_high_5 : decode cX11_high 5 = .ok (.iload_n 3, 1) := by decide +kernel
theorem dX11_high_6 : decode cX11_high 6 = .ok (.aload_n 0, 1) := by decide +kernel
theorem dX11_high_7 : decode cX11_high 7 = .ok (.getfield 83, 3) := by decide +kernel
theorem dX11_high_10 : decode cX11_high 10 = .ok (.if_icmp .ge 45, 3) := by decide +kernel
theorem dX11_high_13 : decode cX11_high 13 = .ok (.aload_n 0, 1) := by decide +kernel
theorem dX11_high_14 : decode cX11_high 14 = .ok (.getfield 20, 3) := by decide +kernel
theorem dX11_high_17 : decode cX11_high 17 = .ok (.iload_n 3, 1) := by decide +kernel
theorem dX11_high_18 : decode cX11_high 18 = .ok (.iaload, 1) := by decide +kernel
theorem dX11_high_19 : decode cX11_high 19 = .ok (.ifCond .lt 30, 3) := by decide +kernel
theorem dX11_high_22 : decode cX11_high 22 = .ok (.iload_n 2, 1) := by decide +kernel
theorem dX11_high_23 : decode cX11_high 23 = .ok (.aload_n 0, 1) := by decide +kernel
theorem dX11_high_24 : decode cX11_high 24 = .ok (.getfield 20, 3) := by decide +kernel
theorem dX11_high_27 : decode cX11_high 27 = .ok (.iload_n 3, 1) := by decide +kernel
theorem dX11_high_28 : decode cX11_high 28 = .ok (.iaload, 1) := by decide +kernel
theorem dX11_high_29 : decode cX11_high 29 = .ok (.aload_n 0, 1) := by decide +kernel
theorem dX11_high_30 : decode cX11_high 30 = .ok (.getfield 7, 3) := by decide +kernel
theorem dX11_high_33 : decode cX11_high 33 = .ok (.aload_n 0, 1) := by decide +kernel
theorem dX11_high_34 : decode cX11_high 34 = .ok (.getfield 13, 3) := by decide +kernel
theorem dX11_high_37 : decode cX11_high 37 = .ok (.iload_n 3, 1) := by decide +kernel
theorem dX11_high_38 : decode cX11_high 38 = .ok (.iaload, 1) := by decide +kernel
theorem dX11_high_39 : decode cX11_high 39 = .ok (.iload_n 1, 1) := by decide +kernel
theorem dX11_high_40 : decode cX11_high 40 = .ok (.invokestatic 180, 3) := by decide +kernel
theorem dX11_high_43 : decode cX11_high 43 = .ok (.imul, 1) := by decide +kernel
theorem dX11_high_44 : decode cX11_high 44 = .ok (.iadd, 1) := by decide +kernel
theorem dX11_high_45 : decode cX11_high 45 = .ok (.invokestatic 195, 3) := by decide +kernel
theorem dX11_high_48 : decode cX11_high 48 = .ok (.istore_n 2, 1) := by decide +kernel
theorem dX11_high_49 : decode cX11_high 49 = .ok (.iinc 3 1, 3) := by decide +kernel
theorem dX11_high_52 : decode cX11_high 52 = .ok (.goto (-47), 3) := by decide +kernel
theorem dX11_high_55 : decode cX11_high 55 = .ok (.iload_n 2, 1) := by decide +kernel
theorem dX11_high_56 : decode cX11_high 56 = .ok (.ireturn, 1) := by decide +kernel
set_option maxHeartbeats 400000 in
set_option maxRecDepth 20000 in
theorem ct_high {l : Launch} {E : Ev} {P : Value → AH → Prop} {o : Nat} {ad : Nat → Nat} {F : Nat → Int32} {A : Nat → Nat → Int32} {h : AH} (I : mI o ad) {s : Int32} {n : Nat} (hn : F 9 = nI n) (hn3 : n ≤ 30) (hp : P (.int (rhigh (F 2) A s n)) (mh E o ad F A h)) : Mt l E yX11_high cX11_high 4 (some .int) 2 90 0 0 [.ref o, .int s] (mh E o ad F A h) P := by
  refine Mt.of (by decide) (Nat.le_of_ble_eq_true rfl) ?_
  intro K hK hR C
  refine g_bipush (n := 2) (v := 100) C dX11_high_0 rfl (by decide) ?_
  refine g_istore_n (n := 3) C dX11_high_2 rfl (by decide) ?_
  refine g_iconst (n := 4) (v := 0) C dX11_high_3 rfl (by decide) ?_
  refine g_istore_n (n := 5) C dX11_high_4 rfl (by decide) ?_
  have lp : ∀ p : Nat, p ≤ n → ∀ (v x : Int32), v = rhigh (F 2) A s p → x = nI p → G K E 4 (QM K E (some .int) 0 0 P) 0 0 5 [(0, .ref o), (1, .int s), (2, .int v), (3, .int x)] [] (mh E o ad F A h) := by
    refine loopN (fun p => ∀ (v x : Int32), v = rhigh (F 2) A s p → x = nI p → G K E 4 (QM K E (some .int) 0 0 P) 0 0 5 [(0, .ref o), (1, .int s), (2, .int v), (3, .int x)] [] (mh E o ad F A h)) (n) ?_
    intro p hlep ihp v x ev ex
    subst ex
    refine g_iload_n (n := 6) C dX11_high_5 rfl rfl ?_
    refine g_aload_n (n := 7) C dX11_high_6 rfl rfl ?_
    refine m_get (n := 10) 9 C dX11_high_7 rfl (by decide) rfl w_1109 rfl ?_
    refine g_icmp_ge (n := 13) (t := 55) C dX11_high_10 rfl (by decide) (fun zc10 => ?_) (fun zc10 => ?_)
    · --t10
      refine g_iload_n (n := 56) C dX11_high_55 rfl rfl ?_
      refine g_iret C dX11_high_56 (by decide) (by decide) ?_
      have e : p = n := i_eq hn zc10 hlep (by omega)
      subst e
      rw [ev]
      exact hp
    · --f10
      refine g_aload_n (n := 14) C dX11_high_13 rfl rfl ?_
      refine m_get (n := 17) 5 C dX11_high_14 rfl (by decide) rfl w_1105 rfl ?_
      refine g_iload_n (n := 18) C dX11_high_17 rfl rfl ?_
      refine m_iald (n := 19) 5 (p) C dX11_high_18 rfl I (by decide) rfl rfl (by have := (i_lt hn zc10 hlep (by omega)); omega) (by decide) rfl ?_
      refine g_if_lt (n := 22) (t := 49) C dX11_high_19 rfl (by decide) (fun zc19 => ?_) (fun zc19 => ?_)
      · --t19
        refine g_iinc (n := 52) C dX11_high_49 rfl rfl rfl (by decide) ?_
        refine g_goto (t := 5) C dX11_high_52 (by decide) ?_
        exact g_lv [0, 1, 2, 3] rfl (ihp (i_lt hn zc10 hlep (by omega)) _ _ (by simp only [rhigh]; first | (rw [if_pos zc19]; exact ev) | (rw [if_neg zc19, ← ev]; rfl)) (nI_1 p))
      · --f19
        refine g_iload_n (n := 23) C dX11_high_22 rfl rfl ?_
        refine g_aload_n (n := 24) C dX11_high_23 rfl rfl ?_
        refine m_get (n := 27) 5 C dX11_high_24 rfl (by decide) rfl w_1105 rfl ?_
        refine g_iload_n (n := 28) C dX11_high_27 rfl rfl ?_
        refine m_iald (n := 29) 5 (p) C dX11_high_28 rfl I (by decide) rfl rfl (by have := (i_lt hn zc10 hlep (by omega)); omega) (by decide) rfl ?_
        refine g_aload_n (n := 30) C dX11_high_29 rfl rfl ?_
        refine m_get (n := 33) 2 C dX11_high_30 rfl (by decide) rfl w_1102 rfl ?_
        refine g_aload_n (n := 34) C dX11_high_33 rfl rfl ?_
        refine m_get (n := 37) 3 C dX11_high_34 rfl (by decide) rfl w_1103 rfl ?_
        refine g_iload_n (n := 38) C dX11_high_37 rfl rfl ?_
        refine m_iald (n := 39) 3 (p) C dX11_high_38 rfl I (by decide) rfl rfl (by have := (i_lt hn zc10 hlep (by omega)); omega) (by decide) rfl ?_
        refine g_iload_n (n := 40) C dX11_high_39 rfl rfl ?_
        refine g_callS (n := 43) (As := [.int _, .int _]) C dX11_high_40 rfl mw_X11_apart w_1287 rfl rfl (room hR rfl) (ct_apart ?_)
        refine g_imul (n := 44) C dX11_high_43 rfl ?_
        refine g_iadd (n := 45) C dX11_high_44 rfl ?_
        refine g_min (n := 48) C dX11_high_45 rfl mwM_min w_1308 (roomM hR rfl) ?_
        refine g_istore_n (n := 49) C dX11_high_48 rfl (by decide) ?_
        refine g_iinc (n := 52) C dX11_high_49 rfl rfl rfl (by decide) ?_
        refine g_goto (t := 5) C dX11_high_52 (by decide) ?_
        exact g_lv [0, 1, 2, 3] rfl (ihp (i_lt hn zc10 hlep (by omega)) _ _ (by simp only [rhigh]; first | (rw [if_pos zc19]; exact ev) | (rw [if_neg zc19, ← ev]; rfl)) (nI_1 p))
  exact g_lv [0, 1, 2, 3] rfl (lp 0 (Nat.zero_le _) _ _ rfl rfl)
theorem ix_of {x m : Int32} {n : Nat} (h0 : ¬ x < 0) (h1 : ¬ m - 1 < x) (hm : m = nI n) (hn : n < 2147483648) : ∃ j : Nat, j < n ∧ x = nI j := by
  obtain ⟨j, hj, rfl⟩ := nI_of h0
  refine ⟨j, ?_, rfl⟩
  rcases Nat.lt_or_ge j n with q | q
  · exact q
  · refine absurd ?_ h1
    rw [hm]
    cases n with
    | zero =>
      rw [show nI 0 - 1 = (-1 : Int32) from by decide, Int32.lt_iff_toInt_lt, nI_toInt hj]
      show (-1 : Int) < _
      omega
    | succ n =>
      rw [nI_pred]
      exact nI_lt (by omega) hj
theorem ix_no {x m : Int32} {n j : Nat} (hx : x = nI j) (hj : j < n) (hm : m = nI n) (hn : n < 2147483648) : ¬ (x < 0 ∨ m - 1 < x) := by
  subst hx
  rintro (h | h)
  · exact nI_pos (by omega) h
  · rw [hm] at h
    cases n with
    | zero => omega
    | succ n =>
      rw [nI_pred] at h
      exact nI_nlt (by omega) (by omega) h
theorem r_may {A : Nat → Nat → Int32} {s v : Int32} {p : Nat} (ev : (v = 1 ∧ rmay A s p) ∨ (v = 0 ∧ ¬ rmay A s p)) (c : ¬ v = 0) (zc2 : ¬ A 3 p = s) (zc3 : 0 ≤ A 6 p ∨ ¬ rapart (A 3 p) s < A 10 0) : ((1 : Int32) = 1 ∧ rmay A s (p + 1)) ∨ ((1 : Int32) = 0 ∧ ¬ rmay A s (p + 1)) := by
  rcases ev with ⟨-, e⟩ | ⟨e, -⟩
  · refine Or.inl ⟨rfl, fun q hq => ?_⟩
    rcases Nat.lt_or_ge q p with h | h
    · exact e q h
    · have e9 : q = p := by omega
      subst e9
      exact ⟨zc2, zc3.imp (fun h => Int32.not_lt.mpr h) id⟩
  · exact absurd e c
theorem r_mayN {A : Nat → Nat → Int32} {s v : Int32} {p : Nat} (c : (((v = 1 ∧ rmay A s p) ∨ (v = 0 ∧ ¬ rmay A s p)) ∧ v = 0) ∨ A 3 p = s ∨ (¬ 0 ≤ A 6 p ∧ rapart (A 3 p) s < A 10 0)) : ((0 : Int32) = 1 ∧ rmay A s (p + 1)) ∨ ((0 : Int32) = 0 ∧ ¬ rmay A s (p + 1)) := by
  refine Or.inr ⟨rfl, fun h => ?_⟩
  rcases c with ⟨⟨e1, -⟩ | ⟨-, e⟩, e2⟩ | e | ⟨e1, e2⟩
  · rw [e1] at e2; exact absurd e2 (by decide)
  · exact e (fun q hq => h q (by omega))
  · exact (h p (by omega)).1 e
  · rcases (h p (by omega)).2 with q | q
    · exact e1 (Int32.not_lt.mp q)
    · exact q e2
theorem dX11_mayBeSunk_0 : decode cX11_mayBeSunk 0 = .ok (.iconst 1, 1) := by decide +kernel
theorem dX11_mayBeSunk_1 : decode cX11_mayBeSunk 1 = .ok (.istore_n 2, 1) := by decide +kernel
theorem dX11_mayBeSunk_2 : decode cX11_mayBeSunk 2 = .ok (.iconst 0, 1) := by decide +kernel
theorem dX11_mayBeSunk_3 : decode cX11_mayBeSunk 3 = .ok (.istore_n 3, 1) := by decide +kernel
theorem dX11_mayBeSunk_4 : decode cX11_mayBeSunk 4 = .ok (.iload_n 3, 1) := by decide +kernel
theorem dX11_mayBeSunk_5 : decode cX11_mayBeSunk 5 = .ok (.aload_n 0, 1) := by decide +kernel
theorem dX11_mayBeSunk_6 : decode cX11_mayBeSunk 6 = .ok (.getfield 83, 3) := by decide +kernel
theorem dX11_mayBeSunk_9 : decode cX11_mayBeSunk 9 = .ok (.if_icmp .ge 57, 3) := by decide +kernel
theorem dX11_mayBeSunk_12 : decode cX11_mayBeSunk 12 = .ok (.iload_n 2, 1) := by decide +kernel
theorem dX11_mayBeSunk_13 : decode cX11_mayBeSunk 13 = .ok (.ifCond .eq 45, 3) := by decide +kernel
theorem dX11_mayBeSunk_16 : decode cX11_mayBeSunk 16 = .ok (.aload_n 0, 1) := by decide +kernel
theorem dX11_mayBeSunk_17 : decode cX11_mayBeSunk 17 = .ok (.getfield 13, 3) := by decide +kernel
theorem dX11_mayBeSunk_20 : decode cX11_mayBeSunk 20 = .ok (.iload_n 3, 1) := by decide +kernel
theorem dX11_mayBeSunk_21 : decode cX11_mayBeSunk 21 = .ok (.iaload, 1) := by decide +kernel
theorem dX11_mayBeSunk_22 : decode cX11_mayBeSunk 22 = .ok (.iload_n 1, 1) := by decide +kernel
theorem dX11_mayBeSunk_23 : decode cX11_mayBeSunk 23 = .ok (.if_icmp .eq 35, 3) := by decide +kernel
theorem dX11_mayBeSunk_26 : decode cX11_mayBeSunk 26 = .ok (.aload_n 0, 1) := by decide +kernel
theorem dX11_mayBeSunk_27 : decode cX11_mayBeSunk 27 = .ok (.getfield 23, 3) := by decide +kernel
theorem dX11_mayBeSunk_30 : decode cX11_mayBeSunk 30 = .ok (.iload_n 3, 1) := by decide +kernel
theorem dX11_mayBeSunk_31 : decode cX11_mayBeSunk 31 = .ok (.iaload, 1) := by decide +kernel
theorem dX11_mayBeSunk_32 : decode cX11_mayBeSunk 32 = .ok (.ifCond .ge 22, 3) := by decide +kernel
theorem dX11_mayBeSunk_35 : decode cX11_mayBeSunk 35 = .ok (.aload_n 0, 1) := by decide +kernel
theorem dX11_mayBeSunk_36 : decode cX11_mayBeSunk 36 = .ok (.getfield 13, 3) := by decide +kernel
theorem dX11_mayBeSunk_39 : decode cX11_mayBeSunk 39 = .ok (.iload_n 3, 1) := by decide +kernel
theorem dX11_mayBeSunk_40 : decode cX11_mayBeSunk 40 = .ok (.iaload, 1) := by decide +kernel
theorem dX11_mayBeSunk_41 : decode cX11_mayBeSunk 41 = .ok (.iload_n 1, 1) := by decide +kernel
theorem dX11_mayBeSunk_42 : decode cX11_mayBeSunk 42 = .ok (.invokestatic 180, 3) := by decide +kernel
theorem dX11_mayBeSunk_45 : decode cX11_mayBeSunk 45 = .ok (.aload_n 0, 1) := by decide +kernel
theorem dX11_mayBeSunk_46 : decode cX11_mayBeSunk 46 = .ok (.getfield 32, 3) := by decide +kernel
theorem dX11_mayBeSunk_49 : decode cX11_mayBeSunk 49 = .ok (.iconst 0, 1) := by decide +kernel
theorem dX11_mayBeSunk_50 : decode cX11_mayBeSunk 50 = .ok (.iaload, 1) := by decide +kernel
theorem dX11_mayBeSunk_51 : decode cX11_mayBeSunk 51 = .ok (.if_icmp .lt 7, 3) := by decide +kernel
theorem dX11_mayBeSunk_54 : decode cX11_mayBeSunk 54 = .ok (.iconst 1, 1) := by decide +kernel
theorem dX11_mayBeSunk_55 : decode cX11_mayBeSunk 55 = .ok (.goto 4, 3) := by decide +kernel
theorem dX11_mayBeSunk_58 : decode cX11_mayBeSunk 58 = .ok (.iconst 0, 1) := by decide +kernel
theorem dX11_mayBeSunk_59 : decode cX11_mayBeSunk 59 = .ok (.istore_n 2, 1) := by decide +kernel
theorem dX11_mayBeSunk_60 : decode cX11_mayBeSunk 60 = .ok (.iinc 3 1, 3) := by decide +kernel
theorem dX11_mayBeSunk_63 : decode cX11_mayBeSunk 63 = .ok (.goto (-59), 3) := by decide +kernel
theorem dX11_mayBeSunk_66 : decode cX11_mayBeSunk 66 = .ok (.iload_n 2, 1) := by decide +kernel
theorem dX11_mayBeSunk_67 : decode cX11_mayBeSunk 67 = .ok (.ireturn, 1) := by decide +kernel
set_option maxHeartbeats 400000 in
set_option maxRecDepth 20000 in
theorem ct_may {l : Launch} {E : Ev} {P : Value → AH → Prop} {o : Nat} {ad : Nat → Nat} {F : Nat → Int32} {A : Nat → Nat → Int32} {h : AH} (I : mI o ad) {s : Int32} {n : Nat} (hn : F 9 = nI n) (hn3 : n ≤ 30) (k1 : rmay A s n → P (.int 1) (mh E o ad F A h)) (k2 : ¬ rmay A s n → P (.int 0) (mh E o ad F A h)) : Mt l E yX11_mayBeSunk cX11_mayBeSunk 4 (some .boolean) 2 90 0 0 [.ref o, .int s] (mh E o ad F A h) P := by
  refine Mt.of (by decide) (Nat.le_of_ble_eq_true rfl) ?_
  intro K hK hR C
  refine g_iconst (n := 1) (v := 1) C dX11_mayBeSunk_0 rfl (by decide) ?_
  refine g_istore_n (n := 2) C dX11_mayBeSunk_1 rfl (by decide) ?_
  refine g_iconst (n := 3) (v := 0) C dX11_mayBeSunk_2 rfl (by decide) ?_
  refine g_istore_n (n := 4) C dX11_mayBeSunk_3 rfl (by decide) ?_
  have lp : ∀ p : Nat, p ≤ n → ∀ (v x : Int32), (v = 1 ∧ rmay A s p) ∨ (v = 0 ∧ ¬ rmay A s p) → x = nI p → G K E 4 (QM K E (some .boolean) 0 0 P) 0 0 4 [(0, .ref o), (1, .int s), (2, .int v), (3, .int x)] [] (mh E o ad F A h) := by
    refine loopN (fun p => ∀ (v x : Int32), (v = 1 ∧ rmay A s p) ∨ (v = 0 ∧ ¬ rmay A s p) → x = nI p → G K E 4 (QM K E (some .boolean) 0 0 P) 0 0 4 [(0, .ref o), (1, .int s), (2, .int v), (3, .int x)] [] (mh E o ad F A h)) (n) ?_
    intro p hlep ihp v x ev ex
    subst ex
    refine g_iload_n (n := 5) C dX11_mayBeSunk_4 rfl rfl ?_
    refine g_aload_n (n := 6) C dX11_mayBeSunk_5 rfl rfl ?_
    refine m_get (n := 9) 9 C dX11_mayBeSunk_6 rfl (by decide) rfl w_1109 rfl ?_
    refine g_icmp_ge (n := 12) (t := 66) C dX11_mayBeSunk_9 rfl (by decide) (fun zc9 => ?_) (fun zc9 => ?_)
    · --t9
      refine g_iload_n (n := 67) C dX11_mayBeSunk_66 rfl rfl ?_
      refine g_zret C dX11_mayBeSunk_67 (by decide) (by decide) (by rcases ev with ⟨e1, e2⟩ | ⟨e1, e2⟩ <;> rw [e1] <;> rfl) ?_
      have e : p = n := i_eq hn zc9 hlep (by omega)
      subst e
      rcases ev with ⟨e1, e2⟩ | ⟨e1, e2⟩
      · rw [e1]; exact k1 e2
      · rw [e1]; exact k2 e2
    · --f9
      refine g_iload_n (n := 13) C dX11_mayBeSunk_12 rfl rfl ?_
      refine g_if_eq (n := 16) (t := 58) C dX11_mayBeSunk_13 rfl (by decide) (fun zc13 => ?_) (fun zc13 => ?_)
      · --t13
        refine g_iconst (n := 59) (v := 0) C dX11_mayBeSunk_58 rfl (by decide) ?_
        refine g_istore_n (n := 60) C dX11_mayBeSunk_59 rfl (by decide) ?_
        refine g_iinc (n := 63) C dX11_mayBeSunk_60 rfl rfl rfl (by decide) ?_
        refine g_goto (t := 4) C dX11_mayBeSunk_63 (by decide) ?_
        exact g_lv [0, 1, 2, 3] rfl (ihp (i_lt hn zc9 hlep (by omega)) _ _ (by first | exact r_may ev zc13 zc23 (Or.inl zc32) | exact r_may ev zc13 zc23 (Or.inr zc51) | exact r_mayN (Or.inl ⟨ev, zc13⟩) | exact r_mayN (v := 0) (Or.inr (Or.inl zc23)) | exact r_mayN (v := 0) (Or.inr (Or.inr ⟨zc32, zc51⟩))) (nI_1 p))
      · --f13
        refine g_aload_n (n := 17) C dX11_mayBeSunk_16 rfl rfl ?_
        refine m_get (n := 20) 3 C dX11_mayBeSunk_17 rfl (by decide) rfl w_1103 rfl ?_
        refine g_iload_n (n := 21) C dX11_mayBeSunk_20 rfl rfl ?_
        refine m_iald (n := 22) 3 (p) C dX11_mayBeSunk_21 rfl I (by decide) rfl rfl (by have := (i_lt hn zc9 hlep (by omega)); omega) (by decide) rfl ?_
        refine g_iload_n (n := 23) C dX11_mayBeSunk_22 rfl rfl ?_
        refine g_icmp_eq (n := 26) (t := 58) C dX11_mayBeSunk_23 rfl (by decide) (fun zc23 => ?_) (fun zc23 => ?_)
        · --t23
          refine g_iconst (n := 59) (v := 0) C dX11_mayBeSunk_58 rfl (by decide) ?_
          refine g_istore_n (n := 60) C dX11_mayBeSunk_59 rfl (by decide) ?_
          refine g_iinc (n := 63) C dX11_mayBeSunk_60 rfl rfl rfl (by decide) ?_
          refine g_goto (t := 4) C dX11_mayBeSunk_63 (by decide) ?_
          exact g_lv [0, 1, 2, 3] rfl (ihp (i_lt hn zc9 hlep (by omega)) _ _ (by first | exact r_may ev zc13 zc23 (Or.inl zc32) | exact r_may ev zc13 zc23 (Or.inr zc51) | exact r_mayN (Or.inl ⟨ev, zc13⟩) | exact r_mayN (v := 0) (Or.inr (Or.inl zc23)) | exact r_mayN (v := 0) (Or.inr (Or.inr ⟨zc32, zc51⟩))) (nI_1 p))
        · --f23
          refine g_aload_n (n := 27) C dX11_mayBeSunk_26 rfl rfl ?_
          refine m_get (n := 30) 6 C dX11_mayBeSunk_27 rfl (by decide) rfl w_1106 rfl ?_
          refine g_iload_n (n := 31) C dX11_mayBeSunk_30 rfl rfl ?_
          refine m_iald (n := 32) 6 (p) C dX11_mayBeSunk_31 rfl I (by decide) rfl rfl (by have := (i_lt hn zc9 hlep (by omega)); omega) (by decide) rfl ?_
          refine g_if_ge (n := 35) (t := 54) C dX11_mayBeSunk_32 rfl (by decide) (fun zc32 => ?_) (fun zc32 => ?_)
          · --t32
            refine g_iconst (n := 55) (v := 1) C dX11_mayBeSunk_54 rfl (by decide) ?_
            refine g_goto (t := 59) C dX11_mayBeSunk_55 (by decide) ?_
            refine g_istore_n (n := 60) C dX11_mayBeSunk_59 rfl (by decide) ?_
            refine g_iinc (n := 63) C dX11_mayBeSunk_60 rfl rfl rfl (by decide) ?_
            refine g_goto (t := 4) C dX11_mayBeSunk_63 (by decide) ?_
            exact g_lv [0, 1, 2, 3] rfl (ihp (i_lt hn zc9 hlep (by omega)) _ _ (by first | exact r_may ev zc13 zc23 (Or.inl zc32) | exact r_may ev zc13 zc23 (Or.inr zc51) | exact r_mayN (Or.inl ⟨ev, zc13⟩) | exact r_mayN (v := 0) (Or.inr (Or.inl zc23)) | exact r_mayN (v := 0) (Or.inr (Or.inr ⟨zc32, zc51⟩))) (nI_1 p))
          · --f32
            refine g_aload_n (n := 36) C dX11_mayBeSunk_35 rfl rfl ?_
            refine m_get (n := 39) 3 C dX11_mayBeSunk_36 rfl (by decide) rfl w_1103 rfl ?_
            refine g_iload_n (n := 40) C dX11_mayBeSunk_39 rfl rfl ?_
            refine m_iald (n := 41) 3 (p) C dX11_mayBeSunk_40 rfl I (by decide) rfl rfl (by have := (i_lt hn zc9 hlep (by omega)); omega) (by decide) rfl ?_
            refine g_iload_n (n := 42) C dX11_mayBeSunk_41 rfl rfl ?_
            refine g_callS (n := 45) (As := [.int _, .int _]) C dX11_mayBeSunk_42 rfl mw_X11_apart w_1287 rfl rfl (room hR rfl) (ct_apart ?_)
            refine g_aload_n (n := 46) C dX11_mayBeSunk_45 rfl rfl ?_
            refine m_get (n := 49) 10 C dX11_mayBeSunk_46 rfl (by decide) rfl w_1110 rfl ?_
            refine g_iconst (n := 50) (v := 0) C dX11_mayBeSunk_49 rfl (by decide) ?_
            refine m_iald (n := 51) 10 (0) C dX11_mayBeSunk_50 rfl I (by decide) rfl rfl (by decide) (by decide) rfl ?_
            refine g_icmp_lt (n := 54) (t := 58) C dX11_mayBeSunk_51 rfl (by decide) (fun zc51 => ?_) (fun zc51 => ?_)
            · --t51
              refine g_iconst (n := 59) (v := 0) C dX11_mayBeSunk_58 rfl (by decide) ?_
              refine g_istore_n (n := 60) C dX11_mayBeSunk_59 rfl (by decide) ?_
              refine g_iinc (n := 63) C dX11_mayBeSunk_60 rfl rfl rfl (by decide) ?_
              refine g_goto (t := 4) C dX11_mayBeSunk_63 (by decide) ?_
              exact g_lv [0, 1, 2, 3] rfl (ihp (i_lt hn zc9 hlep (by omega)) _ _ (by first | exact r_may ev zc13 zc23 (Or.inl zc32) | exact r_may ev zc13 zc23 (Or.inr zc51) | exact r_mayN (Or.inl ⟨ev, zc13⟩) | exact r_mayN (v := 0) (Or.inr (Or.inl zc23)) | exact r_mayN (v := 0) (Or.inr (Or.inr ⟨zc32, zc51⟩))) (nI_1 p))
            · --f51
              refine g_iconst (n := 55) (v := 1) C dX11_mayBeSunk_54 rfl (by decide) ?_
              refine g_goto (t := 59) C dX11_mayBeSunk_55 (by decide) ?_
              refine g_istore_n (n := 60) C dX11_mayBeSunk_59 rfl (by decide) ?_
              refine g_iinc (n := 63) C dX11_mayBeSunk_60 rfl rfl rfl (by decide) ?_
              refine g_goto (t := 4) C dX11_mayBeSunk_63 (by decide) ?_
              exact g_lv [0, 1, 2, 3] rfl (ihp (i_lt hn zc9 hlep (by omega)) _ _ (by first | exact r_may ev zc13 zc23 (Or.inl zc32) | exact r_may ev zc13 zc23 (Or.inr zc51) | exact r_mayN (Or.inl ⟨ev, zc13⟩) | exact r_mayN (v := 0) (Or.inr (Or.inl zc23)) | exact r_mayN (v := 0) (Or.inr (Or.inr ⟨zc32, zc51⟩))) (nI_1 p))
  exact g_lv [0, 1, 2, 3] rfl (lp 0 (Nat.zero_le _) _ _ (Or.inl ⟨rfl, fun _ h => absurd h (Nat.not_lt_zero _)⟩) rfl)
theorem n_eq {x : Int32} {n k : Nat} {z : Int32} (hx : x = nI n) (c : x = z) (hz : z = nI k) (hn : n < 2147483648) (hk : k < 2147483648) : n = k := (nI_eq hn hk).mp (hx.symm.trans (c.trans hz))
theorem n_lt {x : Int32} {n k : Nat} {z : Int32} (hx : x = nI n) (c : ¬ x = z) (hz : z = nI k) (hle : n ≤ k) : n < k := by
  rcases Nat.lt_or_ge n k with q | q
  · exact q
  · exact absurd (by rw [hx, hz, show n = k by omega]) c
theorem n_or {a b : Prop} (h1 : ¬ a) (h2 : ¬ b) : ¬ (a ∨ b) := fun q => q.elim h1 h2
theorem dX11_sink_0 : decode cX11_sink 0 = .ok (.aload_n 0, 1) := by decide +kernel
theorem dX11_sink_1 : decode cX11_sink 1 = .ok (.iconst 0, 1) := by decide +kernel
theorem dX11_sink_2 : decode cX11_sink 2 = .ok (.putfield 76, 3) := by decide +kernel
theorem dX11_sink_5 : decode cX11_sink 5 = .ok (.aload_n 0, 1) := by decide +kernel
theorem dX11_sink_6 : decode cX11_sink 6 = .ok (.iload_n 1, 1) := by decide +kernel
theorem dX11_sink_7 : decode cX11_sink 7 = .ok (.invokestatic 182, 3) := by decide +kernel
theorem dX11_sink_10 : decode cX11_sink 10 = .ok (.iconst 1, 1) := by decide +kernel
theorem dX11_sink_11 : decode cX11_sink 11 = .ok (.invokevirtual 162, 3) := by decide +kernel
theorem dX11_sink_14 : decode cX11_sink 14 = .ok (.ifCond .ne 25, 3) := by decide +kernel
theorem dX11_sink_17 : decode cX11_sink 17 = .ok (.aload_n 0, 1) := by decide +kernel
theorem dX11_sink_18 : decode cX11_sink 18 = .ok (.aload_n 0, 1) := by decide +kernel
theorem dX11_sink_19 : decode cX11_sink 19 = .ok (.getfield 83, 3) := by decide +kernel
theorem dX11_sink_22 : decode cX11_sink 22 = .ok (.bipush 30, 2) := by decide +kernel
theorem dX11_sink_24 : decode cX11_sink 24 = .ok (.if_icmp .ne 7, 3) := by decide +kernel
theorem dX11_sink_27 : decode cX11_sink 27 = .ok (.iconst 1, 1) := by decide +kernel
theorem dX11_sink_28 : decode cX11_sink 28 = .ok (.goto 4, 3) := by decide +kernel
theorem dX11_sink_31 : decode cX11_sink 31 = .ok (.iconst 0, 1) := by decide +kernel
theorem dX11_sink_32 : decode cX11_sink 32 = .ok (.iconst 2, 1) := by decide +kernel
theorem dX11_sink_33 : decode cX11_sink 33 = .ok (.invokevirtual 162, 3) := by decide +kernel
theorem dX11_sink_36 : decode cX11_sink 36 = .ok (.ifCond .eq 5, 3) := by decide +kernel
theorem dX11_sink_39 : decode cX11_sink 39 = .ok (.iconst 0, 1) := by decide +kernel
theorem dX11_sink_40 : decode cX11_sink 40 = .ok (.ireturn, 1) := by decide +kernel
theorem dX11_sink_41 : decode cX11_sink 41 = .ok (.aload_n 0, 1) := by decide +kernel
theorem dX11_sink_42 : decode cX11_sink 42 = .ok (.iload_n 1, 1) := by decide +kernel
theorem dX11_sink_43 : decode cX11_sink 43 = .ok (.invokevirtual 186, 3) := by decide +kernel
theorem dX11_sink_46 : decode cX11_sink 46 = .ok (.ifCond .ne 5, 3) := by decide +kernel
theorem dX11_sink_49 : decode cX11_sink 49 = .ok (.iconst (-1), 1) := by decide +kernel
theorem dX11_sink_50 : decode cX11_sink 50 = .ok (.ireturn, 1) := by decide +kernel
theorem dX11_sink_51 : decode cX11_sink 51 = .ok (.aload_n 0, 1) := by decide +kernel
theorem dX11_sink_52 : decode cX11_sink 52 = .ok (.getfield 13, 3) := by decide +kernel
theorem dX11_sink_55 : decode cX11_sink 55 = .ok (.aload_n 0, 1) := by decide +kernel
theorem dX11_sink_56 : decode cX11_sink 56 = .ok (.getfield 83, 3) := by decide +kernel
theorem dX11_sink_59 : decode cX11_sink 59 = .ok (.iload_n 1, 1) := by decide +kernel
theorem dX11_sink_60 : decode cX11_sink 60 = .ok (.iastore, 1) := by decide +kernel
theorem dX11_sink_61 : decode cX11_sink 61 = .ok (.aload_n 0, 1) := by decide +kernel
theorem dX11_sink_62 : decode cX11_sink 62 = .ok (.getfield 17, 3) := by decide +kernel
theorem dX11_sink_65 : decode cX11_sink 65 = .ok (.aload_n 0, 1) := by decide +kernel
theorem dX11_sink_66 : decode cX11_sink 66 = .ok (.getfield 83, 3) := by decide +kernel
theorem dX11_sink_69 : decode cX11_sink 69 = .ok (.aload_n 0, 1) := by decide +kernel
theorem dX11_sink_70 : decode cX11_sink 70 = .ok (.getfield 189, 3) := by decide +kernel
theorem dX11_sink_73 : decode cX11_sink 73 = .ok (.iastore, 1) := by decide +kernel
theorem dX11_sink_74 : decode cX11_sink 74 = .ok (.aload_n 0, 1) := by decide +kernel
theorem dX11_sink_75 : decode cX11_sink 75 = .ok (.getfield 20, 3) := by decide +kernel
theorem dX11_sink_78 : decode cX11_sink 78 = .ok (.aload_n 0, 1) := by decide +kernel
theorem dX11_sink_79 : decode cX11_sink 79 = .ok (.getfield 83, 3) := by decide +kernel
theorem dX11_sink_82 : decode cX11_sink 82 = .ok (.iconst (-1), 1) := by decide +kernel
theorem dX11_sink_83 : decode cX11_sink 83 = .ok (.iastore, 1) := by decide +kernel
theorem dX11_sink_84 : decode cX11_sink 84 = .ok (.aload_n 0, 1) := by decide +kernel
theorem dX11_sink_85 : decode cX11_sink 85 = .ok (.getfield 23, 3) := by decide +kernel
theorem dX11_sink_88 : decode cX11_sink 88 = .ok (.aload_n 0, 1) := by decide +kernel
theorem dX11_sink_89 : decode cX11_sink 89 = .ok (.getfield 83, 3) := by decide +kernel
theorem dX11_sink_92 : decode cX11_sink 92 = .ok (.iconst (-1), 1) := by decide +kernel
theorem dX11_sink_93 : decode cX11_sink 93 = .ok (.iastore, 1) := by decide +kernel
theorem dX11_sink_94 : decode cX11_sink 94 = .ok (.aload_n 0, 1) := by decide +kernel
theorem dX11_sink_95 : decode cX11_sink 95 = .ok (.getfield 26, 3) := by decide +kernel
theorem dX11_sink_98 : decode cX11_sink 98 = .ok (.aload_n 0, 1) := by decide +kernel
theorem dX11_sink_99 : decode cX11_sink 99 = .ok (.getfield 83, 3) := by decide +kernel
theorem dX11_sink_102 : decode cX11_sink 102 = .ok (.aload_n 0, 1) := by decide +kernel
theorem dX11_sink_103 : decode cX11_sink 103 = .ok (.getfield 189, 3) := by decide +kernel
theorem dX11_sink_106 : decode cX11_sink 106 = .ok (.aload_n 0, 1) := by decide +kernel
theorem dX11_sink_107 : decode cX11_sink 107 = .ok (.getfield 32, 3) := by decide +kernel
theorem dX11_sink_110 : decode cX11_sink 110 = .ok (.iconst 1, 1) := by decide +kernel
theorem dX11_sink_111 : decode cX11_sink 111 = .ok (.iaload, 1) := by decide +kernel
theorem dX11_sink_112 : decode cX11_sink 112 = .ok (.iadd, 1) := by decide +kernel
theorem dX11_sink_113 : decode cX11_sink 113 = .ok (.iastore, 1) := by decide +kernel
theorem dX11_sink_114 : decode cX11_sink 114 = .ok (.aload_n 0, 1) := by decide +kernel
theorem dX11_sink_115 : decode cX11_sink 115 = .ok (.getfield 29, 3) := by decide +kernel
theorem dX11_sink_118 : decode cX11_sink 118 = .ok (.aload_n 0, 1) := by decide +kernel
theorem dX11_sink_119 : decode cX11_sink 119 = .ok (.getfield 83, 3) := by decide +kernel
theorem dX11_sink_122 : decode cX11_sink 122 = .ok (.aload_n 0, 1) := by decide +kernel
theorem dX11_sink_123 : decode cX11_sink 123 = .ok (.getfield 32, 3) := by decide +kernel
theorem dX11_sink_126 : decode cX11_sink 126 = .ok (.iconst 2, 1) := by decide +kernel
theorem dX11_sink_127 : decode cX11_sink 127 = .ok (.iaload, 1) := by decide +kernel
theorem dX11_sink_128 : decode cX11_sink 128 = .ok (.iastore, 1) := by decide +kernel
theorem dX11_sink_129 : decode cX11_sink 129 = .ok (.aload_n 0, 1) := by decide +kernel
theorem dX11_sink_130 : decode cX11_sink 130 = .ok (.dup, 1) := by decide +kernel
theorem dX11_sink_131 : decode cX11_sink 131 = .ok (.getfield 83, 3) := by decide +kernel
theorem dX11_sink_134 : decode cX11_sink 134 = .ok (.iconst 1, 1) := by decide +kernel
theorem dX11_sink_135 : decode cX11_sink 135 = .ok (.iadd, 1) := by decide +kernel
theorem dX11_sink_136 : decode cX11_sink 136 = .ok (.putfield 83, 3) := by decide +kernel
theorem dX11_sink_139 : decode cX11_sink 139 = .ok (.aload_n 0, 1) := by decide +kernel
theorem dX11_sink_140 : decode cX11_sink 140 = .ok (.getfield 83, 3) := by decide +kernel
theorem dX11_sink_143 : decode cX11_sink 143 = .ok (.iconst 1, 1) := by decide +kernel
theorem dX11_sink_144 : decode cX11_sink 144 = .ok (.isub, 1) := by decide +kernel
theorem dX11_sink_145 : decode cX11_sink 145 = .ok (.ireturn, 1) := by decide +kernel
set_option maxHeartbeats 400000 in
set_option maxRecDepth 20000 in
theorem ct_sink {l : Launch} {E : Ev} {P : Value → AH → Prop} {o : Nat} {ad : Nat → Nat} {F : Nat → Int32} {A : Nat → Nat → Int32} {h : AH} (I : mI o ad) {n : Nat} (hn : F 9 = nI n) (hn3 : n ≤ 30) {s : Int32} (k1 : s < 0 ∨ 95 < s → P (.int 0) (mh E o ad (upd (upd F 0 0) 0 1) A h)) (k2 : ¬ (s < 0 ∨ 95 < s) → n = 30 → P (.int 0) (mh E o ad (upd (upd F 0 0) 0 2) A h)) (k3 : ¬ (s < 0 ∨ 95 < s) → n < 30 → ¬ rmay A s n → P (.int (-1)) (mh E o ad (upd F 0 0) A h)) (k4 : ¬ (s < 0 ∨ 95 < s) → n < 30 → rmay A s n → P (.int (nI n)) (mh E o ad (upd (upd F 0 0) 9 (nI (n + 1))) (aset (aset (aset (aset (aset (aset A 3 n s) 4 n (F 1)) 5 n (-1)) 6 n (-1)) 7 n (F 1 + A 10 1)) 8 n (A 10 2)) h)) : Mt l E yX11_sink cX11_sink 2 (some .int) 4 130 0 0 [.ref o, .int s] (mh E o ad F A h) P := by
  refine Mt.of (by decide) (Nat.le_of_ble_eq_true rfl) ?_
  intro K hK hR C
  refine g_aload_n (n := 1) C dX11_sink_0 rfl rfl ?_
  refine g_iconst (n := 2) (v := 0) C dX11_sink_1 rfl (by decide) ?_
  refine m_put (n := 5) 0 C dX11_sink_2 rfl (by decide) w_1100 rfl rfl rfl mfs_0 ?_
  refine g_aload_n (n := 6) C dX11_sink_5 rfl rfl ?_
  refine g_iload_n (n := 7) C dX11_sink_6 rfl rfl ?_
  refine g_callS (n := 10) (As := [.int _]) C dX11_sink_7 rfl mw_X11_noSquare w_1280 rfl rfl (room hR rfl) (ct_noSquare (fun za7 zb7 => ?_) (fun za7 => ?_))
  · --k7.0
    refine g_iconst (n := 11) (v := 1) C dX11_sink_10 rfl (by decide) ?_
    refine g_callV (n := 14) (As := [.int _, .int _]) C dX11_sink_11 rfl mw_X11_throwsIf w_1257 (g_recv C mh_o rfl) rfl rfl (room hR rfl) (ct_throwsIf0 ?_)
    refine g_if_ne (n := 17) (t := 39) C dX11_sink_14 rfl (by decide) (fun zc14 => ?_) (fun zc14 => ?_)
    · exact absurd zc14 (by decide)
    refine g_aload_n (n := 18) C dX11_sink_17 rfl rfl ?_
    refine g_aload_n (n := 19) C dX11_sink_18 rfl rfl ?_
    refine m_get (n := 22) 9 C dX11_sink_19 rfl (by decide) rfl w_1109 rfl ?_
    refine g_bipush (n := 24) (v := 30) C dX11_sink_22 rfl (by decide) ?_
    refine g_icmp_ne (n := 27) (t := 31) C dX11_sink_24 rfl (by decide) (fun zc24 => ?_) (fun zc24 => ?_)
    · --t24
      refine g_iconst (n := 32) (v := 0) C dX11_sink_31 rfl (by decide) ?_
      refine g_iconst (n := 33) (v := 2) C dX11_sink_32 rfl (by decide) ?_
      refine g_callV (n := 36) (As := [.int _, .int _]) C dX11_sink_33 rfl mw_X11_throwsIf w_1257 (g_recv C mh_o rfl) rfl rfl (room hR rfl) (ct_throwsIf0 ?_)
      refine g_if_eq (n := 39) (t := 41) C dX11_sink_36 rfl (by decide) (fun zc36 => ?_) (fun zc36 => ?_)
      rotate_left
      · exact absurd zc36 (by decide)
      refine g_aload_n (n := 42) C dX11_sink_41 rfl rfl ?_
      refine g_iload_n (n := 43) C dX11_sink_42 rfl rfl ?_
      refine g_callV (n := 46) (As := [.int _]) C dX11_sink_43 rfl mw_X11_mayBeSunk w_1283 (g_recv C mh_o rfl) rfl rfl (room hR rfl) (ct_may I hn hn3 (fun za43 => ?_) (fun za43 => ?_))
      · --k43.0
        refine g_if_ne (n := 49) (t := 51) C dX11_sink_46 rfl (by decide) (fun zc46 => ?_) (fun zc46 => ?_)
        rotate_left
        · exact absurd zc46 (by decide)
        have hlt : n < 30 := n_lt (show upd F 0 0 9 = nI n from hn) zc24 rfl hn3
        refine g_aload_n (n := 52) C dX11_sink_51 rfl rfl ?_
        refine m_get (n := 55) 3 C dX11_sink_52 rfl (by decide) rfl w_1103 rfl ?_
        refine g_aload_n (n := 56) C dX11_sink_55 rfl rfl ?_
        refine m_get (n := 59) 9 C dX11_sink_56 rfl (by decide) rfl w_1109 rfl ?_
        refine g_iload_n (n := 60) C dX11_sink_59 rfl rfl ?_
        refine m_iast (n := 61) 3 (n) C dX11_sink_60 rfl I (by decide) (fun _ => rfl) hn hlt (by decide) ?_
        refine g_aload_n (n := 62) C dX11_sink_61 rfl rfl ?_
        refine m_get (n := 65) 4 C dX11_sink_62 rfl (by decide) rfl w_1104 rfl ?_
        refine g_aload_n (n := 66) C dX11_sink_65 rfl rfl ?_
        refine m_get (n := 69) 9 C dX11_sink_66 rfl (by decide) rfl w_1109 rfl ?_
        refine g_aload_n (n := 70) C dX11_sink_69 rfl rfl ?_
        refine m_get (n := 73) 1 C dX11_sink_70 rfl (by decide) rfl w_1101 rfl ?_
        refine m_iast (n := 74) 4 (n) C dX11_sink_73 rfl I (by decide) (fun _ => rfl) hn hlt (by decide) ?_
        refine g_aload_n (n := 75) C dX11_sink_74 rfl rfl ?_
        refine m_get (n := 78) 5 C dX11_sink_75 rfl (by decide) rfl w_1105 rfl ?_
        refine g_aload_n (n := 79) C dX11_sink_78 rfl rfl ?_
        refine m_get (n := 82) 9 C dX11_sink_79 rfl (by decide) rfl w_1109 rfl ?_
        refine g_iconst (n := 83) (v := (-1)) C dX11_sink_82 rfl (by decide) ?_
        refine m_iast (n := 84) 5 (n) C dX11_sink_83 rfl I (by decide) (fun _ => rfl) hn hlt (by decide) ?_
        refine g_aload_n (n := 85) C dX11_sink_84 rfl rfl ?_
        refine m_get (n := 88) 6 C dX11_sink_85 rfl (by decide) rfl w_1106 rfl ?_
        refine g_aload_n (n := 89) C dX11_sink_88 rfl rfl ?_
        refine m_get (n := 92) 9 C dX11_sink_89 rfl (by decide) rfl w_1109 rfl ?_
        refine g_iconst (n := 93) (v := (-1)) C dX11_sink_92 rfl (by decide) ?_
        refine m_iast (n := 94) 6 (n) C dX11_sink_93 rfl I (by decide) (fun _ => rfl) hn hlt (by decide) ?_
        refine g_aload_n (n := 95) C dX11_sink_94 rfl rfl ?_
        refine m_get (n := 98) 7 C dX11_sink_95 rfl (by decide) rfl w_1107 rfl ?_
        refine g_aload_n (n := 99) C dX11_sink_98 rfl rfl ?_
        refine m_get (n := 102) 9 C dX11_sink_99 rfl (by decide) rfl w_1109 rfl ?_
        refine g_aload_n (n := 103) C dX11_sink_102 rfl rfl ?_
        refine m_get (n := 106) 1 C dX11_sink_103 rfl (by decide) rfl w_1101 rfl ?_
        refine g_aload_n (n := 107) C dX11_sink_106 rfl rfl ?_
        refine m_get (n := 110) 10 C dX11_sink_107 rfl (by decide) rfl w_1110 rfl ?_
        refine g_iconst (n := 111) (v := 1) C dX11_sink_110 rfl (by decide) ?_
        refine m_iald (n := 112) 10 (1) C dX11_sink_111 rfl I (by decide) rfl rfl (by decide) (by decide) rfl ?_
        refine g_iadd (n := 113) C dX11_sink_112 rfl ?_
        refine m_iast (n := 114) 7 (n) C dX11_sink_113 rfl I (by decide) (fun _ => rfl) hn hlt (by decide) ?_
        refine g_aload_n (n := 115) C dX11_sink_114 rfl rfl ?_
        refine m_get (n := 118) 8 C dX11_sink_115 rfl (by decide) rfl w_1108 rfl ?_
        refine g_aload_n (n := 119) C dX11_sink_118 rfl rfl ?_
        refine m_get (n := 122) 9 C dX11_sink_119 rfl (by decide) rfl w_1109 rfl ?_
        refine g_aload_n (n := 123) C dX11_sink_122 rfl rfl ?_
        refine m_get (n := 126) 10 C dX11_sink_123 rfl (by decide) rfl w_1110 rfl ?_
        refine g_iconst (n := 127) (v := 2) C dX11_sink_126 rfl (by decide) ?_
        refine m_iald (n := 128) 10 (2) C dX11_sink_127 rfl I (by decide) rfl rfl (by decide) (by decide) rfl ?_
        refine m_iast (n := 129) 8 (n) C dX11_sink_128 rfl I (by decide) (fun _ => rfl) hn hlt (by decide) ?_
        refine g_aload_n (n := 130) C dX11_sink_129 rfl rfl ?_
        refine g_dup (n := 131) C dX11_sink_130 rfl rfl ?_
        refine m_get (n := 134) 9 C dX11_sink_131 rfl (by decide) rfl w_1109 rfl ?_
        refine g_iconst (n := 135) (v := 1) C dX11_sink_134 rfl (by decide) ?_
        refine g_iadd (n := 136) C dX11_sink_135 rfl ?_
        refine m_put (n := 139) 9 C dX11_sink_136 rfl (by decide) w_1109 rfl rfl rfl mfs_9 ?_
        refine g_aload_n (n := 140) C dX11_sink_139 rfl rfl ?_
        refine m_get (n := 143) 9 C dX11_sink_140 rfl (by decide) rfl w_1109 rfl ?_
        refine g_iconst (n := 144) (v := 1) C dX11_sink_143 rfl (by decide) ?_
        refine g_isub (n := 145) C dX11_sink_144 rfl ?_
        refine g_iret C dX11_sink_145 (by decide) (by decide) ?_
        have e1 : upd F 0 0 9 + 1 = nI (n + 1) := by
          show F 9 + 1 = _
          rw [hn]; exact nI_1 n
        have e2 : nI (n + 1) - 1 = nI n := nI_pred n
        rw [e1]
        show P (.int (nI (n + 1) - 1)) _
        rw [e2]
        exact k4 (n_or za7 zb7) hlt za43
      · --k43.1
        refine g_if_ne (n := 49) (t := 51) C dX11_sink_46 rfl (by decide) (fun zc46 => ?_) (fun zc46 => ?_)
        · exact absurd zc46 (by decide)
        refine g_iconst (n := 50) (v := (-1)) C dX11_sink_49 rfl (by decide) ?_
        refine g_iret C dX11_sink_50 (by decide) (by decide) ?_
        exact k3 (n_or za7 zb7) (n_lt (show upd F 0 0 9 = nI n from hn) zc24 rfl hn3) za43
    · --f24
      refine g_iconst (n := 28) (v := 1) C dX11_sink_27 rfl (by decide) ?_
      refine g_goto (t := 32) C dX11_sink_28 (by decide) ?_
      refine g_iconst (n := 33) (v := 2) C dX11_sink_32 rfl (by decide) ?_
      refine g_callV (n := 36) (As := [.int _, .int _]) C dX11_sink_33 rfl mw_X11_throwsIf w_1257 (g_recv C mh_o rfl) rfl rfl (room hR rfl) (ct_throwsIf1 ?_)
      refine g_if_eq (n := 39) (t := 41) C dX11_sink_36 rfl (by decide) (fun zc36 => ?_) (fun zc36 => ?_)
      · exact absurd zc36 (by decide)
      refine g_iconst (n := 40) (v := 0) C dX11_sink_39 rfl (by decide) ?_
      refine g_iret C dX11_sink_40 (by decide) (by decide) ?_
      first | exact k1 (by assumption) | exact k2 (n_or za7 zb7) (n_eq (show upd F 0 0 9 = nI n from hn) zc24 rfl (by omega) (by decide))
  · --k7.1
    refine g_iconst (n := 11) (v := 1) C dX11_sink_10 rfl (by decide) ?_
    refine g_callV (n := 14) (As := [.int _, .int _]) C dX11_sink_11 rfl mw_X11_throwsIf w_1257 (g_recv C mh_o rfl) rfl rfl (room hR rfl) (ct_throwsIf1 ?_)
    refine g_if_ne (n := 17) (t := 39) C dX11_sink_14 rfl (by decide) (fun zc14 => ?_) (fun zc14 => ?_)
    rotate_left
    · exact absurd zc14 (by decide)
    refine g_iconst (n := 40) (v := 0) C dX11_sink_39 rfl (by decide) ?_
    refine g_iret C dX11_sink_40 (by decide) (by decide) ?_
    first | exact k1 (by assumption) | exact k2 (n_or za7 zb7) (n_eq (show upd F 0 0 9 = nI n from hn) zc24 rfl (by omega) (by decide))
theorem dX11_wash_0 : decode cX11_wash 0 = .ok (.aload_n 0, 1) := by decide +kernel
theorem dX11_wash_1 : decode cX11_wash 1 = .ok (.iconst 0, 1) := by decide +kernel
theorem dX11_wash_2 : decode cX11_wash 2 = .ok (.putfield 76, 3) := by decide +kernel
theorem dX11_wash_5 : decode cX11_wash 5 = .ok (.aload_n 0, 1) := by decide +kernel
theorem dX11_wash_6 : decode cX11_wash 6 = .ok (.aload_n 0, 1) := by decide +kernel
theorem dX11_wash_7 : decode cX11_wash 7 = .ok (.iload_n 1, 1) := by decide +kernel
theorem dX11_wash_8 : decode cX11_wash 8 = .ok (.invokevirtual 192, 3) := by decide +kernel
theorem dX11_wash_11 : decode cX11_wash 11 = .ok (.iconst 1, 1) := by decide +kernel
theorem dX11_wash_12 : decode cX11_wash 12 = .ok (.invokevirtual 162, 3) := by decide +kernel
theorem dX11_wash_15 : decode cX11_wash 15 = .ok (.ifCond .ne 35, 3) := by decide +kernel
theorem dX11_wash_18 : decode cX11_wash 18 = .ok (.aload_n 0, 1) := by decide +kernel
theorem dX11_wash_19 : decode cX11_wash 19 = .ok (.iload_n 2, 1) := by decide +kernel
theorem dX11_wash_20 : decode cX11_wash 20 = .ok (.iconst 0, 1) := by decide +kernel
theorem dX11_wash_21 : decode cX11_wash 21 = .ok (.bipush 100, 2) := by decide +kernel
theorem dX11_wash_23 : decode cX11_wash 23 = .ok (.invokestatic 79, 3) := by decide +kernel
theorem dX11_wash_26 : decode cX11_wash 26 = .ok (.ifCond .ne 7, 3) := by decide +kernel
theorem dX11_wash_29 : decode cX11_wash 29 = .ok (.iconst 1, 1) := by decide +kernel
theorem dX11_wash_30 : decode cX11_wash 30 = .ok (.goto 4, 3) := by decide +kernel
theorem dX11_wash_33 : decode cX11_wash 33 = .ok (.iconst 0, 1) := by decide +kernel
theorem dX11_wash_34 : decode cX11_wash 34 = .ok (.iconst 2, 1) := by decide +kernel
theorem dX11_wash_35 : decode cX11_wash 35 = .ok (.invokevirtual 162, 3) := by decide +kernel
theorem dX11_wash_38 : decode cX11_wash 38 = .ok (.ifCond .ne 12, 3) := by decide +kernel
theorem dX11_wash_41 : decode cX11_wash 41 = .ok (.aload_n 0, 1) := by decide +kernel
theorem dX11_wash_42 : decode cX11_wash 42 = .ok (.getfield 20, 3) := by decide +kernel
theorem dX11_wash_45 : decode cX11_wash 45 = .ok (.iload_n 1, 1) := by decide +kernel
theorem dX11_wash_46 : decode cX11_wash 46 = .ok (.iaload, 1) := by decide +kernel
theorem dX11_wash_47 : decode cX11_wash 47 = .ok (.ifCond .lt 5, 3) := by decide +kernel
theorem dX11_wash_50 : decode cX11_wash 50 = .ok (.iconst 0, 1) := by decide +kernel
theorem dX11_wash_51 : decode cX11_wash 51 = .ok (.ireturn, 1) := by decide +kernel
theorem dX11_wash_52 : decode cX11_wash 52 = .ok (.aload_n 0, 1) := by decide +kernel
theorem dX11_wash_53 : decode cX11_wash 53 = .ok (.getfield 20, 3) := by decide +kernel
theorem dX11_wash_56 : decode cX11_wash 56 = .ok (.iload_n 1, 1) := by decide +kernel
theorem dX11_wash_57 : decode cX11_wash 57 = .ok (.iload_n 2, 1) := by decide +kernel
theorem dX11_wash_58 : decode cX11_wash 58 = .ok (.iastore, 1) := by decide +kernel
theorem dX11_wash_59 : decode cX11_wash 59 = .ok (.iconst 1, 1) := by decide +kernel
theorem dX11_wash_60 : decode cX11_wash 60 = .ok (.ireturn, 1) := by decide +kernel
set_option maxHeartbeats 400000 in
set_option maxRecDepth 20000 in
theorem ct_wash {l : Launch} {E : Ev} {P : Value → AH → Prop} {o : Nat} {ad : Nat → Nat} {F : Nat → Int32} {A : Nat → Nat → Int32} {h : AH} (I : mI o ad) {n : Nat} (hn : F 9 = nI n) (hn3 : n ≤ 30) {p g : Int32} (k1 : p < 0 ∨ F 9 - 1 < p → P (.int 0) (mh E o ad (upd (upd F 0 0) 0 1) A h)) (k2 : ∀ j, j < n → p = nI j → (g < 0 ∨ 100 < g) → P (.int 0) (mh E o ad (upd (upd F 0 0) 0 2) A h)) (k3 : ∀ j, j < n → p = nI j → ¬ (g < 0 ∨ 100 < g) → ¬ A 5 j < 0 → P (.int 0) (mh E o ad (upd F 0 0) A h)) (k4 : ∀ j, j < n → p = nI j → ¬ (g < 0 ∨ 100 < g) → A 5 j < 0 → P (.int 1) (mh E o ad (upd F 0 0) (aset A 5 j g) h)) : Mt l E yX11_wash cX11_wash 3 (some .boolean) 2 70 0 0 [.ref o, .int p, .int g] (mh E o ad F A h) P := by
  refine Mt.of (by decide) (Nat.le_of_ble_eq_true rfl) ?_
  intro K hK hR C
  refine g_aload_n (n := 1) C dX11_wash_0 rfl rfl ?_
  refine g_iconst (n := 2) (v := 0) C dX11_wash_1 rfl (by decide) ?_
  refine m_put (n := 5) 0 C dX11_wash_2 rfl (by decide) w_1100 rfl rfl rfl mfs_0 ?_
  refine g_aload_n (n := 6) C dX11_wash_5 rfl rfl ?_
  refine g_aload_n (n := 7) C dX11_wash_6 rfl rfl ?_
  refine g_iload_n (n := 8) C dX11_wash_7 rfl rfl ?_
  refine g_callV (n := 11) (As := [.int _]) C dX11_wash_8 rfl mw_X11_noPit w_1296 (g_recv C mh_o rfl) rfl rfl (room hR rfl) (ct_noPit (fun za8 zb8 => ?_) (fun za8 => ?_))
  · --k8.0
    obtain ⟨j, hj, rfl⟩ := ix_of za8 zb8 (show upd F 0 0 9 = nI n from hn) (by omega)
    refine g_iconst (n := 12) (v := 1) C dX11_wash_11 rfl (by decide) ?_
    refine g_callV (n := 15) (As := [.int _, .int _]) C dX11_wash_12 rfl mw_X11_throwsIf w_1257 (g_recv C mh_o rfl) rfl rfl (room hR rfl) (ct_throwsIf0 ?_)
    refine g_if_ne (n := 18) (t := 50) C dX11_wash_15 rfl (by decide) (fun zc15 => ?_) (fun zc15 => ?_)
    · exact absurd zc15 (by decide)
    refine g_aload_n (n := 19) C dX11_wash_18 rfl rfl ?_
    refine g_iload_n (n := 20) C dX11_wash_19 rfl rfl ?_
    refine g_iconst (n := 21) (v := 0) C dX11_wash_20 rfl (by decide) ?_
    refine g_bipush (n := 23) (v := 100) C dX11_wash_21 rfl (by decide) ?_
    refine g_callS (n := 26) (As := [.int _, .int _, .int _]) C dX11_wash_23 rfl mw_X11_in w_1273 rfl rfl (room hR rfl) (ct_in (fun za23 zb23 => ?_) (fun za23 => ?_) (fun za23 zb23 => ?_))
    · --k23.0
      refine g_if_ne (n := 29) (t := 33) C dX11_wash_26 rfl (by decide) (fun zc26 => ?_) (fun zc26 => ?_)
      rotate_left
      · exact absurd zc26 (by decide)
      refine g_iconst (n := 34) (v := 0) C dX11_wash_33 rfl (by decide) ?_
      refine g_iconst (n := 35) (v := 2) C dX11_wash_34 rfl (by decide) ?_
      refine g_callV (n := 38) (As := [.int _, .int _]) C dX11_wash_35 rfl mw_X11_throwsIf w_1257 (g_recv C mh_o rfl) rfl rfl (room hR rfl) (ct_throwsIf0 ?_)
      refine g_if_ne (n := 41) (t := 50) C dX11_wash_38 rfl (by decide) (fun zc38 => ?_) (fun zc38 => ?_)
      · exact absurd zc38 (by decide)
      refine g_aload_n (n := 42) C dX11_wash_41 rfl rfl ?_
      refine m_get (n := 45) 5 C dX11_wash_42 rfl (by decide) rfl w_1105 rfl ?_
      refine g_iload_n (n := 46) C dX11_wash_45 rfl rfl ?_
      refine m_iald (n := 47) 5 (j) C dX11_wash_46 rfl I (by decide) rfl rfl (by omega) (by decide) rfl ?_
      refine g_if_lt (n := 50) (t := 52) C dX11_wash_47 rfl (by decide) (fun zc47 => ?_) (fun zc47 => ?_)
      · --t47
        refine g_aload_n (n := 53) C dX11_wash_52 rfl rfl ?_
        refine m_get (n := 56) 5 C dX11_wash_53 rfl (by decide) rfl w_1105 rfl ?_
        refine g_iload_n (n := 57) C dX11_wash_56 rfl rfl ?_
        refine g_iload_n (n := 58) C dX11_wash_57 rfl rfl ?_
        refine m_iast (n := 59) 5 (j) C dX11_wash_58 rfl I (by decide) (fun _ => rfl) rfl (by omega) (by decide) ?_
        refine g_iconst (n := 60) (v := 1) C dX11_wash_59 rfl (by decide) ?_
        refine g_zret C dX11_wash_60 (by decide) (by decide) (by rfl) ?_
        first | exact k1 (by assumption) | exact k2 j hj rfl (Or.inl (by assumption)) | exact k2 j hj rfl (Or.inr (by assumption)) | exact k3 j hj rfl (by rintro (q | q) <;> contradiction) (by assumption) | exact k4 j hj rfl (by rintro (q | q) <;> contradiction) (by assumption)
      · --f47
        refine g_iconst (n := 51) (v := 0) C dX11_wash_50 rfl (by decide) ?_
        refine g_zret C dX11_wash_51 (by decide) (by decide) (by rfl) ?_
        first | exact k1 (by assumption) | exact k2 j hj rfl (Or.inl (by assumption)) | exact k2 j hj rfl (Or.inr (by assumption)) | exact k3 j hj rfl (by rintro (q | q) <;> contradiction) (by assumption) | exact k4 j hj rfl (by rintro (q | q) <;> contradiction) (by assumption)
    · --k23.1
      refine g_if_ne (n := 29) (t := 33) C dX11_wash_26 rfl (by decide) (fun zc26 => ?_) (fun zc26 => ?_)
      · exact absurd zc26 (by decide)
      refine g_iconst (n := 30) (v := 1) C dX11_wash_29 rfl (by decide) ?_
      refine g_goto (t := 34) C dX11_wash_30 (by decide) ?_
      refine g_iconst (n := 35) (v := 2) C dX11_wash_34 rfl (by decide) ?_
      refine g_callV (n := 38) (As := [.int _, .int _]) C dX11_wash_35 rfl mw_X11_throwsIf w_1257 (g_recv C mh_o rfl) rfl rfl (room hR rfl) (ct_throwsIf1 ?_)
      refine g_if_ne (n := 41) (t := 50) C dX11_wash_38 rfl (by decide) (fun zc38 => ?_) (fun zc38 => ?_)
      rotate_left
      · exact absurd zc38 (by decide)
      refine g_iconst (n := 51) (v := 0) C dX11_wash_50 rfl (by decide) ?_
      refine g_zret C dX11_wash_51 (by decide) (by decide) (by rfl) ?_
      first | exact k1 (by assumption) | exact k2 j hj rfl (Or.inl (by assumption)) | exact k2 j hj rfl (Or.inr (by assumption)) | exact k3 j hj rfl (by rintro (q | q) <;> contradiction) (by assumption) | exact k4 j hj rfl (by rintro (q | q) <;> contradiction) (by assumption)
    · --k23.2
      refine g_if_ne (n := 29) (t := 33) C dX11_wash_26 rfl (by decide) (fun zc26 => ?_) (fun zc26 => ?_)
      · exact absurd zc26 (by decide)
      refine g_iconst (n := 30) (v := 1) C dX11_wash_29 rfl (by decide) ?_
      refine g_goto (t := 34) C dX11_wash_30 (by decide) ?_
      refine g_iconst (n := 35) (v := 2) C dX11_wash_34 rfl (by decide) ?_
      refine g_callV (n := 38) (As := [.int _, .int _]) C dX11_wash_35 rfl mw_X11_throwsIf w_1257 (g_recv C mh_o rfl) rfl rfl (room hR rfl) (ct_throwsIf1 ?_)
      refine g_if_ne (n := 41) (t := 50) C dX11_wash_38 rfl (by decide) (fun zc38 => ?_) (fun zc38 => ?_)
      rotate_left
      · exact absurd zc38 (by decide)
      refine g_iconst (n := 51) (v := 0) C dX11_wash_50 rfl (by decide) ?_
      refine g_zret C dX11_wash_51 (by decide) (by decide) (by rfl) ?_
      first | exact k1 (by assumption) | exact k2 j hj rfl (Or.inl (by assumption)) | exact k2 j hj rfl (Or.inr (by assumption)) | exact k3 j hj rfl (by rintro (q | q) <;> contradiction) (by assumption) | exact k4 j hj rfl (by rintro (q | q) <;> contradiction) (by assumption)
  · --k8.1
    refine g_iconst (n := 12) (v := 1) C dX11_wash_11 rfl (by decide) ?_
    refine g_callV (n := 15) (As := [.int _, .int _]) C dX11_wash_12 rfl mw_X11_throwsIf w_1257 (g_recv C mh_o rfl) rfl rfl (room hR rfl) (ct_throwsIf1 ?_)
    refine g_if_ne (n := 18) (t := 50) C dX11_wash_15 rfl (by decide) (fun zc15 => ?_) (fun zc15 => ?_)
    rotate_left
    · exact absurd zc15 (by decide)
    refine g_iconst (n := 51) (v := 0) C dX11_wash_50 rfl (by decide) ?_
    refine g_zret C dX11_wash_51 (by decide) (by decide) (by rfl) ?_
    first | exact k1 (by assumption) | exact k2 j hj rfl (Or.inl (by assumption)) | exact k2 j hj rfl (Or.inr (by assumption)) | exact k3 j hj rfl (by rintro (q | q) <;> contradiction) (by assumption) | exact k4 j hj rfl (by rintro (q | q) <;> contradiction) (by assumption)
theorem dX11_fill_0 : decode cX11_fill 0 = .ok (.aload_n 0, 1) := by decide +kernel
theorem dX11_fill_1 : decode cX11_fill 1 = .ok (.iconst 0, 1) := by decide +kernel
theorem dX11_fill_2 : decode cX11_fill 2 = .ok (.putfield 76, 3) := by decide +kernel
theorem dX11_fill_5 : decode cX11_fill 5 = .ok (.aload_n 0, 1) := by decide +kernel
theorem dX11_fill_6 : decode cX11_fill 6 = .ok (.aload_n 0, 1) := by decide +kernel
theorem dX11_fill_7 : decode cX11_fill 7 = .ok (.iload_n 1, 1) := by decide +kernel
theorem dX11_fill_8 : decode cX11_fill 8 = .ok (.invokevirtual 192, 3) := by decide +kernel
theorem dX11_fill_11 : decode cX11_fill 11 = .ok (.iconst 1, 1) := by decide +kernel
theorem dX11_fill_12 : decode cX11_fill 12 = .ok (.invokevirtual 162, 3) := by decide +kernel
theorem dX11_fill_15 : decode cX11_fill 15 = .ok (.ifCond .ne 12, 3) := by decide +kernel
theorem dX11_fill_18 : decode cX11_fill 18 = .ok (.aload_n 0, 1) := by decide +kernel
theorem dX11_fill_19 : decode cX11_fill 19 = .ok (.getfield 23, 3) := by decide +kernel
theorem dX11_fill_22 : decode cX11_fill 22 = .ok (.iload_n 1, 1) := by decide +kernel
theorem dX11_fill_23 : decode cX11_fill 23 = .ok (.iaload, 1) := by decide +kernel
theorem dX11_fill_24 : decode cX11_fill 24 = .ok (.ifCond .lt 5, 3) := by decide +kernel
theorem dX11_fill_27 : decode cX11_fill 27 = .ok (.iconst 0, 1) := by decide +kernel
theorem dX11_fill_28 : decode cX11_fill 28 = .ok (.ireturn, 1) := by decide +kernel
theorem dX11_fill_29 : decode cX11_fill 29 = .ok (.aload_n 0, 1) := by decide +kernel
theorem dX11_fill_30 : decode cX11_fill 30 = .ok (.getfield 23, 3) := by decide +kernel
theorem dX11_fill_33 : decode cX11_fill 33 = .ok (.iload_n 1, 1) := by decide +kernel
theorem dX11_fill_34 : decode cX11_fill 34 = .ok (.aload_n 0, 1) := by decide +kernel
theorem dX11_fill_35 : decode cX11_fill 35 = .ok (.getfield 189, 3) := by decide +kernel
theorem dX11_fill_38 : decode cX11_fill 38 = .ok (.iastore, 1) := by decide +kernel
theorem dX11_fill_39 : decode cX11_fill 39 = .ok (.iconst 1, 1) := by decide +kernel
theorem dX11_fill_40 : decode cX11_fill 40 = .ok (.ireturn, 1) := by decide +kernel
set_option maxHeartbeats 400000 in
set_option maxRecDepth 20000 in
theorem ct_fill {l : Launch} {E : Ev} {P : Value → AH → Prop} {o : Nat} {ad : Nat → Nat} {F : Nat → Int32} {A : Nat → Nat → Int32} {h : AH} (I : mI o ad) {n : Nat} (hn : F 9 = nI n) (hn3 : n ≤ 30) {p : Int32} (k1 : p < 0 ∨ F 9 - 1 < p → P (.int 0) (mh E o ad (upd (upd F 0 0) 0 1) A h)) (k2 : ∀ j, j < n → p = nI j → ¬ A 6 j < 0 → P (.int 0) (mh E o ad (upd F 0 0) A h)) (k3 : ∀ j, j < n → p = nI j → A 6 j < 0 → P (.int 1) (mh E o ad (upd F 0 0) (aset A 6 j (F 1)) h)) : Mt l E yX11_fill cX11_fill 2 (some .boolean) 2 70 0 0 [.ref o, .int p] (mh E o ad F A h) P := by
  refine Mt.of (by decide) (Nat.le_of_ble_eq_true rfl) ?_
  intro K hK hR C
  refine g_aload_n (n := 1) C dX11_fill_0 rfl rfl ?_
  refine g_iconst (n := 2) (v := 0) C dX11_fill_1 rfl (by decide) ?_
  refine m_put (n := 5) 0 C dX11_fill_2 rfl (by decide) w_1100 rfl rfl rfl mfs_0 ?_
  refine g_aload_n (n := 6) C dX11_fill_5 rfl rfl ?_
  refine g_aload_n (n := 7) C dX11_fill_6 rfl rfl ?_
  refine g_iload_n (n := 8) C dX11_fill_7 rfl rfl ?_
  refine g_callV (n := 11) (As := [.int _]) C dX11_fill_8 rfl mw_X11_noPit w_1296 (g_recv C mh_o rfl) rfl rfl (room hR rfl) (ct_noPit (fun za8 zb8 => ?_) (fun za8 => ?_))
  · --k8.0
    obtain ⟨j, hj, rfl⟩ := ix_of za8 zb8 (show upd F 0 0 9 = nI n from hn) (by omega)
    refine g_iconst (n := 12) (v := 1) C dX11_fill_11 rfl (by decide) ?_
    refine g_callV (n := 15) (As := [.int _, .int _]) C dX11_fill_12 rfl mw_X11_throwsIf w_1257 (g_recv C mh_o rfl) rfl rfl (room hR rfl) (ct_throwsIf0 ?_)
    refine g_if_ne (n := 18) (t := 27) C dX11_fill_15 rfl (by decide) (fun zc15 => ?_) (fun zc15 => ?_)
    · exact absurd zc15 (by decide)
    refine g_aload_n (n := 19) C dX11_fill_18 rfl rfl ?_
    refine m_get (n := 22) 6 C dX11_fill_19 rfl (by decide) rfl w_1106 rfl ?_
    refine g_iload_n (n := 23) C dX11_fill_22 rfl rfl ?_
    refine m_iald (n := 24) 6 (j) C dX11_fill_23 rfl I (by decide) rfl rfl (by omega) (by decide) rfl ?_
    refine g_if_lt (n := 27) (t := 29) C dX11_fill_24 rfl (by decide) (fun zc24 => ?_) (fun zc24 => ?_)
    · --t24
      refine g_aload_n (n := 30) C dX11_fill_29 rfl rfl ?_
      refine m_get (n := 33) 6 C dX11_fill_30 rfl (by decide) rfl w_1106 rfl ?_
      refine g_iload_n (n := 34) C dX11_fill_33 rfl rfl ?_
      refine g_aload_n (n := 35) C dX11_fill_34 rfl rfl ?_
      refine m_get (n := 38) 1 C dX11_fill_35 rfl (by decide) rfl w_1101 rfl ?_
      refine m_iast (n := 39) 6 (j) C dX11_fill_38 rfl I (by decide) (fun _ => rfl) rfl (by omega) (by decide) ?_
      refine g_iconst (n := 40) (v := 1) C dX11_fill_39 rfl (by decide) ?_
      refine g_zret C dX11_fill_40 (by decide) (by decide) (by rfl) ?_
      first | exact k1 (by assumption) | exact k2 j hj rfl (by assumption) | exact k3 j hj rfl (by assumption)
    · --f24
      refine g_iconst (n := 28) (v := 0) C dX11_fill_27 rfl (by decide) ?_
      refine g_zret C dX11_fill_28 (by decide) (by decide) (by rfl) ?_
      first | exact k1 (by assumption) | exact k2 j hj rfl (by assumption) | exact k3 j hj rfl (by assumption)
  · --k8.1
    refine g_iconst (n := 12) (v := 1) C dX11_fill_11 rfl (by decide) ?_
    refine g_callV (n := 15) (As := [.int _, .int _]) C dX11_fill_12 rfl mw_X11_throwsIf w_1257 (g_recv C mh_o rfl) rfl rfl (room hR rfl) (ct_throwsIf1 ?_)
    refine g_if_ne (n := 18) (t := 27) C dX11_fill_15 rfl (by decide) (fun zc15 => ?_) (fun zc15 => ?_)
    rotate_left
    · exact absurd zc15 (by decide)
    refine g_iconst (n := 28) (v := 0) C dX11_fill_27 rfl (by decide) ?_
    refine g_zret C dX11_fill_28 (by decide) (by decide) (by rfl) ?_
    first | exact k1 (by assumption) | exact k2 j hj rfl (by assumption) | exact k3 j hj rfl (by assumption)
theorem dX11_days_0 : decode cX11_days 0 = .ok (.aload_n 0, 1) := by decide +kernel
theorem dX11_days_1 : decode cX11_days 1 = .ok (.iconst 0, 1) := by decide +kernel
theorem dX11_days_2 : decode cX11_days 2 = .ok (.putfield 76, 3) := by decide +kernel
theorem dX11_days_5 : decode cX11_days 5 = .ok (.aload_n 0, 1) := by decide +kernel
theorem dX11_days_6 : decode cX11_days 6 = .ok (.iload_n 1, 1) := by decide +kernel
theorem dX11_days_7 : decode cX11_days 7 = .ok (.iconst 0, 1) := by decide +kernel
theorem dX11_days_8 : decode cX11_days 8 = .ok (.sipush 1000, 3) := by decide +kernel
theorem dX11_days_11 : decode cX11_days 11 = .ok (.invokestatic 79, 3) := by decide +kernel
theorem dX11_days_14 : decode cX11_days 14 = .ok (.ifCond .ne 7, 3) := by decide +kernel
theorem dX11_days_17 : decode cX11_days 17 = .ok (.iconst 1, 1) := by decide +kernel
theorem dX11_days_18 : decode cX11_days 18 = .ok (.goto 4, 3) := by decide +kernel
theorem dX11_days_21 : decode cX11_days 21 = .ok (.iconst 0, 1) := by decide +kernel
theorem dX11_days_22 : decode cX11_days 22 = .ok (.iconst 1, 1) := by decide +kernel
theorem dX11_days_23 : decode cX11_days 23 = .ok (.invokevirtual 162, 3) := by decide +kernel
theorem dX11_days_26 : decode cX11_days 26 = .ok (.ifCond .eq 5, 3) := by decide +kernel
theorem dX11_days_29 : decode cX11_days 29 = .ok (.iconst 0, 1) := by decide +kernel
theorem dX11_days_30 : decode cX11_days 30 = .ok (.ireturn, 1) := by decide +kernel
theorem dX11_days_31 : decode cX11_days 31 = .ok (.aload_n 0, 1) := by decide +kernel
theorem dX11_days_32 : decode cX11_days 32 = .ok (.sipush 3000, 3) := by decide +kernel
theorem dX11_days_35 : decode cX11_days 35 = .ok (.aload_n 0, 1) := by decide +kernel
theorem dX11_days_36 : decode cX11_days 36 = .ok (.getfield 189, 3) := by decide +kernel
theorem dX11_days_39 : decode cX11_days 39 = .ok (.iload_n 1, 1) := by decide +kernel
theorem dX11_days_40 : decode cX11_days 40 = .ok (.iadd, 1) := by decide +kernel
theorem dX11_days_41 : decode cX11_days 41 = .ok (.invokestatic 195, 3) := by decide +kernel
theorem dX11_days_44 : decode cX11_days 44 = .ok (.putfield 189, 3) := by decide +kernel
theorem dX11_days_47 : decode cX11_days 47 = .ok (.aload_n 0, 1) := by decide +kernel
theorem dX11_days_48 : decode cX11_days 48 = .ok (.getfield 189, 3) := by decide +kernel
theorem dX11_days_51 : decode cX11_days 51 = .ok (.ireturn, 1) := by decide +kernel
set_option maxHeartbeats 400000 in
set_option maxRecDepth 20000 in
theorem ct_days {l : Launch} {E : Ev} {P : Value → AH → Prop} {o : Nat} {ad : Nat → Nat} {F : Nat → Int32} {A : Nat → Nat → Int32} {h : AH} {p : Int32} (k1 : p < 0 ∨ 1000 < p → P (.int 0) (mh E o ad (upd (upd F 0 0) 0 1) A h)) (k2 : ¬ (p < 0 ∨ 1000 < p) → P (.int (imin 3000 (F 1 + p))) (mh E o ad (upd (upd F 0 0) 1 (imin 3000 (F 1 + p))) A h)) : Mt l E yX11_days cX11_days 2 (some .int) 2 70 0 0 [.ref o, .int p] (mh E o ad F A h) P := by
  refine Mt.of (by decide) (Nat.le_of_ble_eq_true rfl) ?_
  intro K hK hR C
  refine g_aload_n (n := 1) C dX11_days_0 rfl rfl ?_
  refine g_iconst (n := 2) (v := 0) C dX11_days_1 rfl (by decide) ?_
  refine m_put (n := 5) 0 C dX11_days_2 rfl (by decide) w_1100 rfl rfl rfl mfs_0 ?_
  refine g_aload_n (n := 6) C dX11_days_5 rfl rfl ?_
  refine g_iload_n (n := 7) C dX11_days_6 rfl rfl ?_
  refine g_iconst (n := 8) (v := 0) C dX11_days_7 rfl (by decide) ?_
  refine g_sipush (n := 11) (v := 1000) C dX11_days_8 rfl (by decide) ?_
  refine g_callS (n := 14) (As := [.int _, .int _, .int _]) C dX11_days_11 rfl mw_X11_in w_1273 rfl rfl (room hR rfl) (ct_in (fun za11 zb11 => ?_) (fun za11 => ?_) (fun za11 zb11 => ?_))
  · --k11.0
    refine g_if_ne (n := 17) (t := 21) C dX11_days_14 rfl (by decide) (fun zc14 => ?_) (fun zc14 => ?_)
    rotate_left
    · exact absurd zc14 (by decide)
    refine g_iconst (n := 22) (v := 0) C dX11_days_21 rfl (by decide) ?_
    refine g_iconst (n := 23) (v := 1) C dX11_days_22 rfl (by decide) ?_
    refine g_callV (n := 26) (As := [.int _, .int _]) C dX11_days_23 rfl mw_X11_throwsIf w_1257 (g_recv C mh_o rfl) rfl rfl (room hR rfl) (ct_throwsIf0 ?_)
    refine g_if_eq (n := 29) (t := 31) C dX11_days_26 rfl (by decide) (fun zc26 => ?_) (fun zc26 => ?_)
    rotate_left
    · exact absurd zc26 (by decide)
    refine g_aload_n (n := 32) C dX11_days_31 rfl rfl ?_
    refine g_sipush (n := 35) (v := 3000) C dX11_days_32 rfl (by decide) ?_
    refine g_aload_n (n := 36) C dX11_days_35 rfl rfl ?_
    refine m_get (n := 39) 1 C dX11_days_36 rfl (by decide) rfl w_1101 rfl ?_
    refine g_iload_n (n := 40) C dX11_days_39 rfl rfl ?_
    refine g_iadd (n := 41) C dX11_days_40 rfl ?_
    refine g_min (n := 44) C dX11_days_41 rfl mwM_min w_1308 (roomM hR rfl) ?_
    refine m_put (n := 47) 1 C dX11_days_44 rfl (by decide) w_1101 rfl rfl rfl mfs_1 ?_
    refine g_aload_n (n := 48) C dX11_days_47 rfl rfl ?_
    refine m_get (n := 51) 1 C dX11_days_48 rfl (by decide) rfl w_1101 rfl ?_
    refine g_iret C dX11_days_51 (by decide) (by decide) ?_
    first | exact k1 (Or.inl (by assumption)) | exact k1 (Or.inr (by assumption)) | exact k2 (by rintro (q | q) <;> contradiction)
  · --k11.1
    refine g_if_ne (n := 17) (t := 21) C dX11_days_14 rfl (by decide) (fun zc14 => ?_) (fun zc14 => ?_)
    · exact absurd zc14 (by decide)
    refine g_iconst (n := 18) (v := 1) C dX11_days_17 rfl (by decide) ?_
    refine g_goto (t := 22) C dX11_days_18 (by decide) ?_
    refine g_iconst (n := 23) (v := 1) C dX11_days_22 rfl (by decide) ?_
    refine g_callV (n := 26) (As := [.int _, .int _]) C dX11_days_23 rfl mw_X11_throwsIf w_1257 (g_recv C mh_o rfl) rfl rfl (room hR rfl) (ct_throwsIf1 ?_)
    refine g_if_eq (n := 29) (t := 31) C dX11_days_26 rfl (by decide) (fun zc26 => ?_) (fun zc26 => ?_)
    · exact absurd zc26 (by decide)
    refine g_iconst (n := 30) (v := 0) C dX11_days_29 rfl (by decide) ?_
    refine g_iret C dX11_days_30 (by decide) (by decide) ?_
    first | exact k1 (Or.inl (by assumption)) | exact k1 (Or.inr (by assumption)) | exact k2 (by rintro (q | q) <;> contradiction)
  · --k11.2
    refine g_if_ne (n := 17) (t := 21) C dX11_days_14 rfl (by decide) (fun zc14 => ?_) (fun zc14 => ?_)
    · exact absurd zc14 (by decide)
    refine g_iconst (n := 18) (v := 1) C dX11_days_17 rfl (by decide) ?_
    refine g_goto (t := 22) C dX11_days_18 (by decide) ?_
    refine g_iconst (n := 23) (v := 1) C dX11_days_22 rfl (by decide) ?_
    refine g_callV (n := 26) (As := [.int _, .int _]) C dX11_days_23 rfl mw_X11_throwsIf w_1257 (g_recv C mh_o rfl) rfl rfl (room hR rfl) (ct_throwsIf1 ?_)
    refine g_if_eq (n := 29) (t := 31) C dX11_days_26 rfl (by decide) (fun zc26 => ?_) (fun zc26 => ?_)
    · exact absurd zc26 (by decide)
    refine g_iconst (n := 30) (v := 0) C dX11_days_29 rfl (by decide) ?_
    refine g_iret C dX11_days_30 (by decide) (by decide) ?_
    first | exact k1 (Or.inl (by assumption)) | exact k1 (Or.inr (by assumption)) | exact k2 (by rintro (q | q) <;> contradiction)
theorem dX11_span_0 : decode cX11_span 0 = .ok (.aload_n 0, 1) := by decide +kernel
theorem dX11_span_1 : decode cX11_span 1 = .ok (.iconst 0, 1) := by decide +kernel
theorem dX11_span_2 : decode cX11_span 2 = .ok (.putfield 76, 3) := by decide +kernel
theorem dX11_span_5 : decode cX11_span 5 = .ok (.aload_n 0, 1) := by decide +kernel
theorem dX11_span_6 : decode cX11_span 6 = .ok (.iload_n 1, 1) := by decide +kernel
theorem dX11_span_7 : decode cX11_span 7 = .ok (.invokestatic 182, 3) := by decide +kernel
theorem dX11_span_10 : decode cX11_span 10 = .ok (.iconst 1, 1) := by decide +kernel
theorem dX11_span_11 : decode cX11_span 11 = .ok (.invokevirtual 162, 3) := by decide +kernel
theorem dX11_span_14 : decode cX11_span 14 = .ok (.ifCond .eq 5, 3) := by decide +kernel
theorem dX11_span_17 : decode cX11_span 17 = .ok (.iconst 0, 1) := by decide +kernel
theorem dX11_span_18 : decode cX11_span 18 = .ok (.ireturn, 1) := by decide +kernel
theorem dX11_span_19 : decode cX11_span 19 = .ok (.aload_n 0, 1) := by decide +kernel
theorem dX11_span_20 : decode cX11_span 20 = .ok (.iload_n 1, 1) := by decide +kernel
theorem dX11_span_21 : decode cX11_span 21 = .ok (.invokevirtual 198, 3) := by decide +kernel
theorem dX11_span_24 : decode cX11_span 24 = .ok (.istore_n 3, 1) := by decide +kernel
theorem dX11_span_25 : decode cX11_span 25 = .ok (.aload_n 0, 1) := by decide +kernel
theorem dX11_span_26 : decode cX11_span 26 = .ok (.iload_n 1, 1) := by decide +kernel
theorem dX11_span_27 : decode cX11_span 27 = .ok (.invokevirtual 201, 3) := by decide +kernel
theorem dX11_span_30 : decode cX11_span 30 = .ok (.istore 4, 2) := by decide +kernel
theorem dX11_span_32 : decode cX11_span 32 = .ok (.iload_n 3, 1) := by decide +kernel
theorem dX11_span_33 : decode cX11_span 33 = .ok (.iload 4, 2) := by decide +kernel
theorem dX11_span_35 : decode cX11_span 35 = .ok (.if_icmp .le 7, 3) := by decide +kernel
theorem dX11_span_38 : decode cX11_span 38 = .ok (.iconst (-1), 1) := by decide +kernel
theorem dX11_span_39 : decode cX11_span 39 = .ok (.goto 13, 3) := by decide +kernel
theorem dX11_span_42 : decode cX11_span 42 = .ok (.iload_n 2, 1) := by decide +kernel
theorem dX11_span_43 : decode cX11_span 43 = .ok (.ifCond .eq 8, 3) := by decide +kernel
theorem dX11_span_46 : decode cX11_span 46 = .ok (.iload 4, 2) := by decide +kernel
theorem dX11_span_48 : decode cX11_span 48 = .ok (.goto 4, 3) := by decide +kernel
theorem dX11_span_51 : decode cX11_span 51 = .ok (.iload_n 3, 1) := by decide +kernel
theorem dX11_span_52 : decode cX11_span 52 = .ok (.ireturn, 1) := by decide +kernel
set_option maxHeartbeats 400000 in
set_option maxRecDepth 20000 in
theorem ct_span {l : Launch} {E : Ev} {P : Value → AH → Prop} {o : Nat} {ad : Nat → Nat} {F : Nat → Int32} {A : Nat → Nat → Int32} {h : AH} (I : mI o ad) {n : Nat} (hn : F 9 = nI n) (hn3 : n ≤ 30) {s m : Int32} (k1 : s < 0 ∨ 95 < s → P (.int 0) (mh E o ad (upd (upd F 0 0) 0 1) A h)) (k2 : ¬ (s < 0 ∨ 95 < s) → rhigh (F 2) A s n < rlow (F 2) A s n → P (.int (-1)) (mh E o ad (upd F 0 0) A h)) (k3 : ¬ (s < 0 ∨ 95 < s) → ¬ rhigh (F 2) A s n < rlow (F 2) A s n → ¬ m = 0 → P (.int (rhigh (F 2) A s n)) (mh E o ad (upd F 0 0) A h)) (k4 : ¬ (s < 0 ∨ 95 < s) → ¬ rhigh (F 2) A s n < rlow (F 2) A s n → m = 0 → P (.int (rlow (F 2) A s n)) (mh E o ad (upd F 0 0) A h)) : Mt l E yX11_span cX11_span 5 (some .int) 4 130 0 0 [.ref o, .int s, .int m] (mh E o ad F A h) P := by
  refine Mt.of (by decide) (Nat.le_of_ble_eq_true rfl) ?_
  intro K hK hR C
  refine g_aload_n (n := 1) C dX11_span_0 rfl rfl ?_
  refine g_iconst (n := 2) (v := 0) C dX11_span_1 rfl (by decide) ?_
  refine m_put (n := 5) 0 C dX11_span_2 rfl (by decide) w_1100 rfl rfl rfl mfs_0 ?_
  refine g_aload_n (n := 6) C dX11_span_5 rfl rfl ?_
  refine g_iload_n (n := 7) C dX11_span_6 rfl rfl ?_
  refine g_callS (n := 10) (As := [.int _]) C dX11_span_7 rfl mw_X11_noSquare w_1280 rfl rfl (room hR rfl) (ct_noSquare (fun za7 zb7 => ?_) (fun za7 => ?_))
  · --k7.0
    refine g_iconst (n := 11) (v := 1) C dX11_span_10 rfl (by decide) ?_
    refine g_callV (n := 14) (As := [.int _, .int _]) C dX11_span_11 rfl mw_X11_throwsIf w_1257 (g_recv C mh_o rfl) rfl rfl (room hR rfl) (ct_throwsIf0 ?_)
    refine g_if_eq (n := 17) (t := 19) C dX11_span_14 rfl (by decide) (fun zc14 => ?_) (fun zc14 => ?_)
    rotate_left
    · exact absurd zc14 (by decide)
    refine g_aload_n (n := 20) C dX11_span_19 rfl rfl ?_
    refine g_iload_n (n := 21) C dX11_span_20 rfl rfl ?_
    refine g_callV (n := 24) (As := [.int _]) C dX11_span_21 rfl mw_X11_low w_1313 (g_recv C mh_o rfl) rfl rfl (room hR rfl) (ct_low I hn hn3 ?_)
    refine g_istore_n (n := 25) C dX11_span_24 rfl (by decide) ?_
    refine g_aload_n (n := 26) C dX11_span_25 rfl rfl ?_
    refine g_iload_n (n := 27) C dX11_span_26 rfl rfl ?_
    refine g_callV (n := 30) (As := [.int _]) C dX11_span_27 rfl mw_X11_high w_1317 (g_recv C mh_o rfl) rfl rfl (room hR rfl) (ct_high I hn hn3 ?_)
    refine g_istore (n := 32) C dX11_span_30 rfl (by decide) ?_
    refine g_iload_n (n := 33) C dX11_span_32 rfl rfl ?_
    refine g_iload (n := 35) C dX11_span_33 rfl rfl ?_
    refine g_icmp_le (n := 38) (t := 42) C dX11_span_35 rfl (by decide) (fun zc35 => ?_) (fun zc35 => ?_)
    · --t35
      refine g_iload_n (n := 43) C dX11_span_42 rfl rfl ?_
      refine g_if_eq (n := 46) (t := 51) C dX11_span_43 rfl (by decide) (fun zc43 => ?_) (fun zc43 => ?_)
      · --t43
        refine g_iload_n (n := 52) C dX11_span_51 rfl rfl ?_
        refine g_iret C dX11_span_52 (by decide) (by decide) ?_
        first | exact k1 (by assumption) | exact k2 (by rintro (q | q) <;> contradiction) (Int32.not_le.mp (by assumption)) | exact k3 (by rintro (q | q) <;> contradiction) (Int32.not_lt.mpr (by assumption)) (by assumption) | exact k4 (by rintro (q | q) <;> contradiction) (Int32.not_lt.mpr (by assumption)) (by assumption)
      · --f43
        refine g_iload (n := 48) C dX11_span_46 rfl rfl ?_
        refine g_goto (t := 52) C dX11_span_48 (by decide) ?_
        refine g_iret C dX11_span_52 (by decide) (by decide) ?_
        first | exact k1 (by assumption) | exact k2 (by rintro (q | q) <;> contradiction) (Int32.not_le.mp (by assumption)) | exact k3 (by rintro (q | q) <;> contradiction) (Int32.not_lt.mpr (by assumption)) (by assumption) | exact k4 (by rintro (q | q) <;> contradiction) (Int32.not_lt.mpr (by assumption)) (by assumption)
    · --f35
      refine g_iconst (n := 39) (v := (-1)) C dX11_span_38 rfl (by decide) ?_
      refine g_goto (t := 52) C dX11_span_39 (by decide) ?_
      refine g_iret C dX11_span_52 (by decide) (by decide) ?_
      first | exact k1 (by assumption) | exact k2 (by rintro (q | q) <;> contradiction) (Int32.not_le.mp (by assumption)) | exact k3 (by rintro (q | q) <;> contradiction) (Int32.not_lt.mpr (by assumption)) (by assumption) | exact k4 (by rintro (q | q) <;> contradiction) (Int32.not_lt.mpr (by assumption)) (by assumption)
  · --k7.1
    refine g_iconst (n := 11) (v := 1) C dX11_span_10 rfl (by decide) ?_
    refine g_callV (n := 14) (As := [.int _, .int _]) C dX11_span_11 rfl mw_X11_throwsIf w_1257 (g_recv C mh_o rfl) rfl rfl (room hR rfl) (ct_throwsIf1 ?_)
    refine g_if_eq (n := 17) (t := 19) C dX11_span_14 rfl (by decide) (fun zc14 => ?_) (fun zc14 => ?_)
    · exact absurd zc14 (by decide)
    refine g_iconst (n := 18) (v := 0) C dX11_span_17 rfl (by decide) ?_
    refine g_iret C dX11_span_18 (by decide) (by decide) ?_
    first | exact k1 (by assumption) | exact k2 (by rintro (q | q) <;> contradiction) (Int32.not_le.mp (by assumption)) | exact k3 (by rintro (q | q) <;> contradiction) (Int32.not_lt.mpr (by assumption)) (by assumption) | exact k4 (by rintro (q | q) <;> contradiction) (Int32.not_lt.mpr (by assumption)) (by assumption)
end
section
/-- best(): what the scan of the first s squares keeps: the square (or -1), its sum -/
def rskip (t : Int32) (A : Nat → Nat → Int32) (n : Nat) (b sm s : Int32) : Prop := rhigh t A s n < rlow t A s n ∨ ¬ rmay A s n ∨ (¬ b < 0 ∧ (rlow t A s n + rhigh t A s n < sm ∨ (rlow t A s n + rhigh t A s n = sm ∧ rlow t A s n ≤ rlow t A b n)))
noncomputable def rbst (t : Int32) (A : Nat → Nat → Int32) (n : Nat) : Nat → Int32 × Int32
  | 0 => (-1, 0)
  | s + 1 => @ite _ (rskip t A n (rbst t A n s).1 (rbst t A n s).2 (nI s)) (Classical.propDecidable _) (rbst t A n s) (nI s, rlow t A (nI s) n + rhigh t A (nI s) n)
theorem rbst_skip {t : Int32} {A : Nat → Nat → Int32} {n s : Nat} {b sm : Int32} (e : (b, sm) = rbst t A n s) (h : rskip t A n b sm (nI s)) : (b, sm) = rbst t A n (s + 1) := by
  unfold rbst
  rw [← e]
  exact (if_pos h).symm
theorem rbst_take {t : Int32} {A : Nat → Nat → Int32} {n s : Nat} {b sm : Int32} (e : (b, sm) = rbst t A n s) (h : ¬ rskip t A n b sm (nI s)) : (nI s, rlow t A (nI s) n + rhigh t A (nI s) n) = rbst t A n (s + 1) := by
  unfold rbst
  rw [← e]
  exact (if_neg h).symm
theorem rbst_take2 {t : Int32} {A : Nat → Nat → Int32} {n s : Nat} {b sm : Int32} (e : (b, sm) = rbst t A n s) (h1 : ¬ rhigh t A (nI s) n < rlow t A (nI s) n) (h2 : rmay A (nI s) n) (h3 : b < 0 ∨ (¬ rlow t A (nI s) n + rhigh t A (nI s) n < sm ∧ (¬ rlow t A (nI s) n + rhigh t A (nI s) n = sm ∨ rlow t A b n < rlow t A (nI s) n))) : (nI s, rlow t A (nI s) n + rhigh t A (nI s) n) = rbst t A n (s + 1) := by
  refine rbst_take e ?_
  rintro (k | k | ⟨k, k2⟩)
  · exact h1 k
  · exact k h2
  · rcases h3 with k3 | ⟨k3, k4⟩
    · exact k k3
    · rcases k2 with k2 | ⟨k2, k5⟩
      · exact k3 k2
      · rcases k4 with k4 | k4
        · exact k4 k2
        · exact absurd k5 (Int32.not_le.mpr k4)
def rbond (F : Nat → Int32) (A : Nat → Nat → Int32) (p : Nat) : Int32 := if A 8 p = 0 then 0 else if A 7 p < (if A 6 p < 0 then F 1 else A 6 p) then 2 else if A 6 p < 0 then 1 else 0
theorem ix10 {x : Int32} {m : Nat} (hx : x = nI m) (c : Nat) : 10 * x + nI c = nI (10 * m + c) := by rw [hx, ← nI_add, ← pk_mul]; rfl
theorem ix6 {x : Int32} {m : Nat} (hx : x = nI m) (c : Nat) : 6 * x + nI c = nI (6 * m + c) := by rw [hx, ← nI_add, ← pk_mul]; rfl
theorem ix10z {x : Int32} {m : Nat} (hx : x = nI m) : 10 * x = nI (10 * m) := by rw [hx, ← pk_mul]; rfl
theorem rng_of {x M : Int32} (k : Nat) (hM : M.toInt = k) (h0 : ¬ x < 0) (h1 : ¬ M < x) : ∃ j : Nat, j < k + 1 ∧ x = nI j := by
  obtain ⟨j, hj, e⟩ := nI_of2 hM h0 (Int32.not_lt.mp h1)
  exact ⟨j, by omega, e⟩
theorem dX11_best_0 : decode cX11_best 0 = .ok (.aload_n 0, 1) := by decide +kernel
theorem dX11_best_1 : decode cX11_best 1 = .ok (.iconst 0, 1) := by decide +kernel
theorem dX11_best_2 : decode cX11_best 2 = .ok (.putfield 76, 3) := by decide +kernel
theorem dX11_best_5 : decode cX11_best 5 = .ok (.iconst (-1), 1) := by decide +kernel
theorem dX11_best_6 : decode cX11_best 6 = .ok (.istore_n 1, 1) := by decide +kernel
theorem dX11_best_7 : decode cX11_best 7 = .ok (.iconst 0, 1) := by decide +kernel
theorem dX11_best_8 : decode cX11_best 8 = .ok (.istore_n 2, 1) := by decide +kernel
theorem dX11_best_9 : decode cX11_best 9 = .ok (.iconst 0, 1) := by decide +kernel
theorem dX11_best_10 : decode cX11_best 10 = .ok (.istore_n 3, 1) := by decide +kernel
theorem dX11_best_11 : decode cX11_best 11 = .ok (.iload_n 3, 1) := by decide +kernel
theorem dX11_best_12 : decode cX11_best 12 = .ok (.bipush 96, 2) := by decide +kernel
theorem dX11_best_14 : decode cX11_best 14 = .ok (.if_icmp .ge 81, 3) := by decide +kernel
theorem dX11_best_17 : decode cX11_best 17 = .ok (.aload_n 0, 1) := by decide +kernel
theorem dX11_best_18 : decode cX11_best 18 = .ok (.iload_n 3, 1) := by decide +kernel
theorem dX11_best_19 : decode cX11_best 19 = .ok (.invokevirtual 198, 3) := by decide +kernel
theorem dX11_best_22 : decode cX11_best 22 = .ok (.istore 4, 2) := by decide +kernel
theorem dX11_best_24 : decode cX11_best 24 = .ok (.aload_n 0, 1) := by decide +kernel
theorem dX11_best_25 : decode cX11_best 25 = .ok (.iload_n 3, 1) := by decide +kernel
theorem dX11_best_26 : decode cX11_best 26 = .ok (.invokevirtual 201, 3) := by decide +kernel
theorem dX11_best_29 : decode cX11_best 29 = .ok (.istore 5, 2) := by decide +kernel
theorem dX11_best_31 : decode cX11_best 31 = .ok (.iload 4, 2) := by decide +kernel
theorem dX11_best_33 : decode cX11_best 33 = .ok (.iload 5, 2) := by decide +kernel
theorem dX11_best_35 : decode cX11_best 35 = .ok (.if_icmp .gt 54, 3) := by decide +kernel
theorem dX11_best_38 : decode cX11_best 38 = .ok (.aload_n 0, 1) := by decide +kernel
theorem dX11_best_39 : decode cX11_best 39 = .ok (.iload_n 3, 1) := by decide +kernel
theorem dX11_best_40 : decode cX11_best 40 = .ok (.invokevirtual 186, 3) := by decide +kernel
theorem dX11_best_43 : decode cX11_best 43 = .ok (.ifCond .eq 46, 3) := by decide +kernel
theorem dX11_best_46 : decode cX11_best 46 = .ok (.iload_n 1, 1) := by decide +kernel
theorem dX11_best_47 : decode cX11_best 47 = .ok (.ifCond .lt 34, 3) := by decide +kernel
theorem dX11_best_50 : decode cX11_best 50 = .ok (.iload 4, 2) := by decide +kernel
theorem dX11_best_52 : decode cX11_best 52 = .ok (.iload 5, 2) := by decide +kernel
theorem dX11_best_54 : decode cX11_best 54 = .ok (.iadd, 1) := by decide +kernel
theorem dX11_best_55 : decode cX11_best 55 = .ok (.iload_n 2, 1) := by decide +kernel
theorem dX11_best_56 : decode cX11_best 56 = .ok (.if_icmp .lt 33, 3) := by decide +kernel
theorem dX11_best_59 : decode cX11_best 59 = .ok (.iload 4, 2) := by decide +kernel
theorem dX11_best_61 : decode cX11_best 61 = .ok (.iload 5, 2) := by decide +kernel
theorem dX11_best_63 : decode cX11_best 63 = .ok (.iadd, 1) := by decide +kernel
theorem dX11_best_64 : decode cX11_best 64 = .ok (.iload_n 2, 1) := by decide +kernel
theorem dX11_best_65 : decode cX11_best 65 = .ok (.if_icmp .ne 16, 3) := by decide +kernel
theorem dX11_best_68 : decode cX11_best 68 = .ok (.iload 4, 2) := by decide +kernel
theorem dX11_best_70 : decode cX11_best 70 = .ok (.aload_n 0, 1) := by decide +kernel
theorem dX11_best_71 : decode cX11_best 71 = .ok (.iload_n 1, 1) := by decide +kernel
theorem dX11_best_72 : decode cX11_best 72 = .ok (.invokevirtual 198, 3) := by decide +kernel
theorem dX11_best_75 : decode cX11_best 75 = .ok (.if_icmp .gt 6, 3) := by decide +kernel
theorem dX11_best_78 : decode cX11_best 78 = .ok (.goto 11, 3) := by decide +kernel
theorem dX11_best_81 : decode cX11_best 81 = .ok (.iload_n 3, 1) := by decide +kernel
theorem dX11_best_82 : decode cX11_best 82 = .ok (.istore_n 1, 1) := by decide +kernel
theorem dX11_best_83 : decode cX11_best 83 = .ok (.iload 4, 2) := by decide +kernel
theorem dX11_best_85 : decode cX11_best 85 = .ok (.iload 5, 2) := by decide +kernel
theorem dX11_best_87 : decode cX11_best 87 = .ok (.iadd, 1) := by decide +kernel
theorem dX11_best_88 : decode cX11_best 88 = .ok (.istore_n 2, 1) := by decide +kernel
theorem dX11_best_89 : decode cX11_best 89 = .ok (.iinc 3 1, 3) := by decide +kernel
theorem dX11_best_92 : decode cX11_best 92 = .ok (.goto (-81), 3) := by decide +kernel
theorem dX11_best_95 : decode cX11_best 95 = .ok (.iload_n 1, 1) := by decide +kernel
theorem dX11_best_96 : decode cX11_best 96 = .ok (.ireturn, 1) := by decide +kernel
set_option maxHeartbeats 1000000 in
set_option maxRecDepth 20000 in
theorem ct_best {l : Launch} {E : Ev} {P : Value → AH → Prop} {o : Nat} {ad : Nat → Nat} {F : Nat → Int32} {A : Nat → Nat → Int32} {h : AH} (I : mI o ad) {n : Nat} (hn : F 9 = nI n) (hn3 : n ≤ 30) (hp : P (.int (rbst (F 2) A n 96).1) (mh E o ad (upd F 0 0) A h)) : Mt l E yX11_best cX11_best 6 (some .int) 4 130 0 0 [.ref o] (mh E o ad F A h) P := by
  refine Mt.of (by decide) (Nat.le_of_ble_eq_true rfl) ?_
  intro K hK hR C
  refine g_aload_n (n := 1) C dX11_best_0 rfl rfl ?_
  refine g_iconst (n := 2) (v := 0) C dX11_best_1 rfl (by decide) ?_
  refine m_put (n := 5) 0 C dX11_best_2 rfl (by decide) w_1100 rfl rfl rfl mfs_0 ?_
  refine g_iconst (n := 6) (v := (-1)) C dX11_best_5 rfl (by decide) ?_
  refine g_istore_n (n := 7) C dX11_best_6 rfl (by decide) ?_
  refine g_iconst (n := 8) (v := 0) C dX11_best_7 rfl (by decide) ?_
  refine g_istore_n (n := 9) C dX11_best_8 rfl (by decide) ?_
  refine g_iconst (n := 10) (v := 0) C dX11_best_9 rfl (by decide) ?_
  refine g_istore_n (n := 11) C dX11_best_10 rfl (by decide) ?_
  have lp : ∀ p : Nat, p ≤ 96 → ∀ (b sm x : Int32), (b, sm) = rbst (F 2) A n p → x = nI p → G K E 6 (QM K E (some .int) 0 0 P) 0 0 11 [(0, .ref o), (1, .int b), (2, .int sm), (3, .int x)] [] (mh E o ad (upd F 0 0) A h) := by
    refine loopN (fun p => ∀ (b sm x : Int32), (b, sm) = rbst (F 2) A n p → x = nI p → G K E 6 (QM K E (some .int) 0 0 P) 0 0 11 [(0, .ref o), (1, .int b), (2, .int sm), (3, .int x)] [] (mh E o ad (upd F 0 0) A h)) (96) ?_
    intro p hlep ihp b sm x eb ex
    subst ex
    refine g_iload_n (n := 12) C dX11_best_11 rfl rfl ?_
    refine g_bipush (n := 14) (v := 96) C dX11_best_12 rfl (by decide) ?_
    refine g_icmp_ge (n := 17) (t := 95) C dX11_best_14 rfl (by decide) (fun zc14 => ?_) (fun zc14 => ?_)
    · --t14
      refine g_iload_n (n := 96) C dX11_best_95 rfl rfl ?_
      refine g_iret C dX11_best_96 (by decide) (by decide) ?_
      have e : p = 96 := i_eq (n := 96) rfl zc14 hlep (by decide)
      subst e
      rw [← eb] at hp
      exact hp
    · --f14
      refine g_aload_n (n := 18) C dX11_best_17 rfl rfl ?_
      refine g_iload_n (n := 19) C dX11_best_18 rfl rfl ?_
      refine g_callV (n := 22) (As := [.int _]) C dX11_best_19 rfl mw_X11_low w_1313 (g_recv C mh_o rfl) rfl rfl (room hR rfl) (ct_low I hn hn3 ?_)
      refine g_istore (n := 24) C dX11_best_22 rfl (by decide) ?_
      refine g_aload_n (n := 25) C dX11_best_24 rfl rfl ?_
      refine g_iload_n (n := 26) C dX11_best_25 rfl rfl ?_
      refine g_callV (n := 29) (As := [.int _]) C dX11_best_26 rfl mw_X11_high w_1317 (g_recv C mh_o rfl) rfl rfl (room hR rfl) (ct_high I hn hn3 ?_)
      refine g_istore (n := 31) C dX11_best_29 rfl (by decide) ?_
      refine g_iload (n := 33) C dX11_best_31 rfl rfl ?_
      refine g_iload (n := 35) C dX11_best_33 rfl rfl ?_
      refine g_icmp_gt (n := 38) (t := 89) C dX11_best_35 rfl (by decide) (fun zc35 => ?_) (fun zc35 => ?_)
      · --t35
        refine g_iinc (n := 92) C dX11_best_89 rfl rfl rfl (by decide) ?_
        refine g_goto (t := 11) C dX11_best_92 (by decide) ?_
        exact g_lv [0, 1, 2, 3] rfl (ihp (i_lt (n := 96) rfl zc14 hlep (by decide)) _ _ _ (by first | exact rbst_skip eb (Or.inl (by assumption)) | exact rbst_skip eb (Or.inr (Or.inl (by assumption))) | exact rbst_skip eb (Or.inr (Or.inr ⟨by assumption, Or.inl (by assumption)⟩)) | exact rbst_skip eb (Or.inr (Or.inr ⟨by assumption, Or.inr ⟨by assumption, Int32.not_lt.mp (by assumption)⟩⟩)) | exact rbst_take2 eb (by assumption) (by assumption) (Or.inl (by assumption)) | exact rbst_take2 eb (by assumption) (by assumption) (Or.inr ⟨by assumption, Or.inl (by assumption)⟩) | exact rbst_take2 eb (by assumption) (by assumption) (Or.inr ⟨by assumption, Or.inr (by assumption)⟩)) (nI_1 p))
      · --f35
        refine g_aload_n (n := 39) C dX11_best_38 rfl rfl ?_
        refine g_iload_n (n := 40) C dX11_best_39 rfl rfl ?_
        refine g_callV (n := 43) (As := [.int _]) C dX11_best_40 rfl mw_X11_mayBeSunk w_1283 (g_recv C mh_o rfl) rfl rfl (room hR rfl) (ct_may I hn hn3 (fun za40 => ?_) (fun za40 => ?_))
        · --k40.0
          refine g_if_eq (n := 46) (t := 89) C dX11_best_43 rfl (by decide) (fun zc43 => ?_) (fun zc43 => ?_)
          · exact absurd zc43 (by decide)
          refine g_iload_n (n := 47) C dX11_best_46 rfl rfl ?_
          refine g_if_lt (n := 50) (t := 81) C dX11_best_47 rfl (by decide) (fun zc47 => ?_) (fun zc47 => ?_)
          · --t47
            refine g_iload_n (n := 82) C dX11_best_81 rfl rfl ?_
            refine g_istore_n (n := 83) C dX11_best_82 rfl (by decide) ?_
            refine g_iload (n := 85) C dX11_best_83 rfl rfl ?_
            refine g_iload (n := 87) C dX11_best_85 rfl rfl ?_
            refine g_iadd (n := 88) C dX11_best_87 rfl ?_
            refine g_istore_n (n := 89) C dX11_best_88 rfl (by decide) ?_
            refine g_iinc (n := 92) C dX11_best_89 rfl rfl rfl (by decide) ?_
            refine g_goto (t := 11) C dX11_best_92 (by decide) ?_
            exact g_lv [0, 1, 2, 3] rfl (ihp (i_lt (n := 96) rfl zc14 hlep (by decide)) _ _ _ (by first | exact rbst_skip eb (Or.inl (by assumption)) | exact rbst_skip eb (Or.inr (Or.inl (by assumption))) | exact rbst_skip eb (Or.inr (Or.inr ⟨by assumption, Or.inl (by assumption)⟩)) | exact rbst_skip eb (Or.inr (Or.inr ⟨by assumption, Or.inr ⟨by assumption, Int32.not_lt.mp (by assumption)⟩⟩)) | exact rbst_take2 eb (by assumption) (by assumption) (Or.inl (by assumption)) | exact rbst_take2 eb (by assumption) (by assumption) (Or.inr ⟨by assumption, Or.inl (by assumption)⟩) | exact rbst_take2 eb (by assumption) (by assumption) (Or.inr ⟨by assumption, Or.inr (by assumption)⟩)) (nI_1 p))
          · --f47
            refine g_iload (n := 52) C dX11_best_50 rfl rfl ?_
            refine g_iload (n := 54) C dX11_best_52 rfl rfl ?_
            refine g_iadd (n := 55) C dX11_best_54 rfl ?_
            refine g_iload_n (n := 56) C dX11_best_55 rfl rfl ?_
            refine g_icmp_lt (n := 59) (t := 89) C dX11_best_56 rfl (by decide) (fun zc56 => ?_) (fun zc56 => ?_)
            · --t56
              refine g_iinc (n := 92) C dX11_best_89 rfl rfl rfl (by decide) ?_
              refine g_goto (t := 11) C dX11_best_92 (by decide) ?_
              exact g_lv [0, 1, 2, 3] rfl (ihp (i_lt (n := 96) rfl zc14 hlep (by decide)) _ _ _ (by first | exact rbst_skip eb (Or.inl (by assumption)) | exact rbst_skip eb (Or.inr (Or.inl (by assumption))) | exact rbst_skip eb (Or.inr (Or.inr ⟨by assumption, Or.inl (by assumption)⟩)) | exact rbst_skip eb (Or.inr (Or.inr ⟨by assumption, Or.inr ⟨by assumption, Int32.not_lt.mp (by assumption)⟩⟩)) | exact rbst_take2 eb (by assumption) (by assumption) (Or.inl (by assumption)) | exact rbst_take2 eb (by assumption) (by assumption) (Or.inr ⟨by assumption, Or.inl (by assumption)⟩) | exact rbst_take2 eb (by assumption) (by assumption) (Or.inr ⟨by assumption, Or.inr (by assumption)⟩)) (nI_1 p))
            · --f56
              refine g_iload (n := 61) C dX11_best_59 rfl rfl ?_
              refine g_iload (n := 63) C dX11_best_61 rfl rfl ?_
              refine g_iadd (n := 64) C dX11_best_63 rfl ?_
              refine g_iload_n (n := 65) C dX11_best_64 rfl rfl ?_
              refine g_icmp_ne (n := 68) (t := 81) C dX11_best_65 rfl (by decide) (fun zc65 => ?_) (fun zc65 => ?_)
              · --t65
                refine g_iload_n (n := 82) C dX11_best_81 rfl rfl ?_
                refine g_istore_n (n := 83) C dX11_best_82 rfl (by decide) ?_
                refine g_iload (n := 85) C dX11_best_83 rfl rfl ?_
                refine g_iload (n := 87) C dX11_best_85 rfl rfl ?_
                refine g_iadd (n := 88) C dX11_best_87 rfl ?_
                refine g_istore_n (n := 89) C dX11_best_88 rfl (by decide) ?_
                refine g_iinc (n := 92) C dX11_best_89 rfl rfl rfl (by decide) ?_
                refine g_goto (t := 11) C dX11_best_92 (by decide) ?_
                exact g_lv [0, 1, 2, 3] rfl (ihp (i_lt (n := 96) rfl zc14 hlep (by decide)) _ _ _ (by first | exact rbst_skip eb (Or.inl (by assumption)) | exact rbst_skip eb (Or.inr (Or.inl (by assumption))) | exact rbst_skip eb (Or.inr (Or.inr ⟨by assumption, Or.inl (by assumption)⟩)) | exact rbst_skip eb (Or.inr (Or.inr ⟨by assumption, Or.inr ⟨by assumption, Int32.not_lt.mp (by assumption)⟩⟩)) | exact rbst_take2 eb (by assumption) (by assumption) (Or.inl (by assumption)) | exact rbst_take2 eb (by assumption) (by assumption) (Or.inr ⟨by assumption, Or.inl (by assumption)⟩) | exact rbst_take2 eb (by assumption) (by assumption) (Or.inr ⟨by assumption, Or.inr (by assumption)⟩)) (nI_1 p))
              · --f65
                refine g_iload (n := 70) C dX11_best_68 rfl rfl ?_
                refine g_aload_n (n := 71) C dX11_best_70 rfl rfl ?_
                refine g_iload_n (n := 72) C dX11_best_71 rfl rfl ?_
                refine g_callV (n := 75) (As := [.int _]) C dX11_best_72 rfl mw_X11_low w_1313 (g_recv C mh_o rfl) rfl rfl (room hR rfl) (ct_low I hn hn3 ?_)
                refine g_icmp_gt (n := 78) (t := 81) C dX11_best_75 rfl (by decide) (fun zc75 => ?_) (fun zc75 => ?_)
                · --t75
                  refine g_iload_n (n := 82) C dX11_best_81 rfl rfl ?_
                  refine g_istore_n (n := 83) C dX11_best_82 rfl (by decide) ?_
                  refine g_iload (n := 85) C dX11_best_83 rfl rfl ?_
                  refine g_iload (n := 87) C dX11_best_85 rfl rfl ?_
                  refine g_iadd (n := 88) C dX11_best_87 rfl ?_
                  refine g_istore_n (n := 89) C dX11_best_88 rfl (by decide) ?_
                  refine g_iinc (n := 92) C dX11_best_89 rfl rfl rfl (by decide) ?_
                  refine g_goto (t := 11) C dX11_best_92 (by decide) ?_
                  exact g_lv [0, 1, 2, 3] rfl (ihp (i_lt (n := 96) rfl zc14 hlep (by decide)) _ _ _ (by first | exact rbst_skip eb (Or.inl (by assumption)) | exact rbst_skip eb (Or.inr (Or.inl (by assumption))) | exact rbst_skip eb (Or.inr (Or.inr ⟨by assumption, Or.inl (by assumption)⟩)) | exact rbst_skip eb (Or.inr (Or.inr ⟨by assumption, Or.inr ⟨by assumption, Int32.not_lt.mp (by assumption)⟩⟩)) | exact rbst_take2 eb (by assumption) (by assumption) (Or.inl (by assumption)) | exact rbst_take2 eb (by assumption) (by assumption) (Or.inr ⟨by assumption, Or.inl (by assumption)⟩) | exact rbst_take2 eb (by assumption) (by assumption) (Or.inr ⟨by assumption, Or.inr (by assumption)⟩)) (nI_1 p))
                · --f75
                  refine g_goto (t := 89) C dX11_best_78 (by decide) ?_
                  refine g_iinc (n := 92) C dX11_best_89 rfl rfl rfl (by decide) ?_
                  refine g_goto (t := 11) C dX11_best_92 (by decide) ?_
                  exact g_lv [0, 1, 2, 3] rfl (ihp (i_lt (n := 96) rfl zc14 hlep (by decide)) _ _ _ (by first | exact rbst_skip eb (Or.inl (by assumption)) | exact rbst_skip eb (Or.inr (Or.inl (by assumption))) | exact rbst_skip eb (Or.inr (Or.inr ⟨by assumption, Or.inl (by assumption)⟩)) | exact rbst_skip eb (Or.inr (Or.inr ⟨by assumption, Or.inr ⟨by assumption, Int32.not_lt.mp (by assumption)⟩⟩)) | exact rbst_take2 eb (by assumption) (by assumption) (Or.inl (by assumption)) | exact rbst_take2 eb (by assumption) (by assumption) (Or.inr ⟨by assumption, Or.inl (by assumption)⟩) | exact rbst_take2 eb (by assumption) (by assumption) (Or.inr ⟨by assumption, Or.inr (by assumption)⟩)) (nI_1 p))
        · --k40.1
          refine g_if_eq (n := 46) (t := 89) C dX11_best_43 rfl (by decide) (fun zc43 => ?_) (fun zc43 => ?_)
          rotate_left
          · exact absurd zc43 (by decide)
          refine g_iinc (n := 92) C dX11_best_89 rfl rfl rfl (by decide) ?_
          refine g_goto (t := 11) C dX11_best_92 (by decide) ?_
          exact g_lv [0, 1, 2, 3] rfl (ihp (i_lt (n := 96) rfl zc14 hlep (by decide)) _ _ _ (by first | exact rbst_skip eb (Or.inl (by assumption)) | exact rbst_skip eb (Or.inr (Or.inl (by assumption))) | exact rbst_skip eb (Or.inr (Or.inr ⟨by assumption, Or.inl (by assumption)⟩)) | exact rbst_skip eb (Or.inr (Or.inr ⟨by assumption, Or.inr ⟨by assumption, Int32.not_lt.mp (by assumption)⟩⟩)) | exact rbst_take2 eb (by assumption) (by assumption) (Or.inl (by assumption)) | exact rbst_take2 eb (by assumption) (by assumption) (Or.inr ⟨by assumption, Or.inl (by assumption)⟩) | exact rbst_take2 eb (by assumption) (by assumption) (Or.inr ⟨by assumption, Or.inr (by assumption)⟩)) (nI_1 p))
  exact g_lv [0, 1, 2, 3] rfl (lp 0 (Nat.zero_le _) _ _ _ rfl rfl)
theorem dX11_bondOf_0 : decode cX11_bondOf 0 = .ok (.aload_n 0, 1) := by decide +kernel
theorem dX11_bondOf_1 : decode cX11_bondOf 1 = .ok (.getfield 29, 3) := by decide +kernel
theorem dX11_bondOf_4 : decode cX11_bondOf 4 = .ok (.iload_n 1, 1) := by decide +kernel
theorem dX11_bondOf_5 : decode cX11_bondOf 5 = .ok (.iaload, 1) := by decide +kernel
theorem dX11_bondOf_6 : decode cX11_bondOf 6 = .ok (.ifCond .ne 5, 3) := by decide +kernel
theorem dX11_bondOf_9 : decode cX11_bondOf 9 = .ok (.iconst 0, 1) := by decide +kernel
theorem dX11_bondOf_10 : decode cX11_bondOf 10 = .ok (.ireturn, 1) := by decide +kernel
theorem dX11_bondOf_11 : decode cX11_bondOf 11 = .ok (.aload_n 0, 1) := by decide +kernel
theorem dX11_bondOf_12 : decode cX11_bondOf 12 = .ok (.getfield 23, 3) := by decide +kernel
theorem dX11_bondOf_15 : decode cX11_bondOf 15 = .ok (.iload_n 1, 1) := by decide +kernel
theorem dX11_bondOf_16 : decode cX11_bondOf 16 = .ok (.iaload, 1) := by decide +kernel
theorem dX11_bondOf_17 : decode cX11_bondOf 17 = .ok (.ifCond .lt 12, 3) := by decide +kernel
theorem dX11_bondOf_20 : decode cX11_bondOf 20 = .ok (.aload_n 0, 1) := by decide +kernel
theorem dX11_bondOf_21 : decode cX11_bondOf 21 = .ok (.getfield 23, 3) := by decide +kernel
theorem dX11_bondOf_24 : decode cX11_bondOf 24 = .ok (.iload_n 1, 1) := by decide +kernel
theorem dX11_bondOf_25 : decode cX11_bondOf 25 = .ok (.iaload, 1) := by decide +kernel
theorem dX11_bondOf_26 : decode cX11_bondOf 26 = .ok (.goto 7, 3) := by decide +kernel
theorem dX11_bondOf_29 : decode cX11_bondOf 29 = .ok (.aload_n 0, 1) := by decide +kernel
theorem dX11_bondOf_30 : decode cX11_bondOf 30 = .ok (.getfield 189, 3) := by decide +kernel
theorem dX11_bondOf_33 : decode cX11_bondOf 33 = .ok (.istore_n 2, 1) := by decide +kernel
theorem dX11_bondOf_34 : decode cX11_bondOf 34 = .ok (.iload_n 2, 1) := by decide +kernel
theorem dX11_bondOf_35 : decode cX11_bondOf 35 = .ok (.aload_n 0, 1) := by decide +kernel
theorem dX11_bondOf_36 : decode cX11_bondOf 36 = .ok (.getfield 26, 3) := by decide +kernel
theorem dX11_bondOf_39 : decode cX11_bondOf 39 = .ok (.iload_n 1, 1) := by decide +kernel
theorem dX11_bondOf_40 : decode cX11_bondOf 40 = .ok (.iaload, 1) := by decide +kernel
theorem dX11_bondOf_41 : decode cX11_bondOf 41 = .ok (.if_icmp .le 7, 3) := by decide +kernel
theorem dX11_bondOf_44 : decode cX11_bondOf 44 = .ok (.iconst 2, 1) := by decide +kernel
theorem dX11_bondOf_45 : decode cX11_bondOf 45 = .ok (.goto 17, 3) := by decide +kernel
theorem dX11_bondOf_48 : decode cX11_bondOf 48 = .ok (.aload_n 0, 1) := by decide +kernel
theorem dX11_bondOf_49 : decode cX11_bondOf 49 = .ok (.getfield 23, 3) := by decide +kernel
theorem dX11_bondOf_52 : decode cX11_bondOf 52 = .ok (.iload_n 1, 1) := by decide +kernel
theorem dX11_bondOf_53 : decode cX11_bondOf 53 = .ok (.iaload, 1) := by decide +kernel
theorem dX11_bondOf_54 : decode cX11_bondOf 54 = .ok (.ifCond .lt 7, 3) := by decide +kernel
theorem dX11_bondOf_57 : decode cX11_bondOf 57 = .ok (.iconst 0, 1) := by decide +kernel
theorem dX11_bondOf_58 : decode cX11_bondOf 58 = .ok (.goto 4, 3) := by decide +kernel
theorem dX11_bondOf_61 : decode cX11_bondOf 61 = .ok (.iconst 1, 1) := by decide +kernel
theorem dX11_bondOf_62 : decode cX11_bondOf 62 = .ok (.ireturn, 1) := by decide +kernel
set_option maxHeartbeats 400000 in
set_option maxRecDepth 20000 in
theorem ct_bondOf {l : Launch} {E : Ev} {P : Value → AH → Prop} {o : Nat} {ad : Nat → Nat} {F : Nat → Int32} {A : Nat → Nat → Int32} {h : AH} (I : mI o ad) {p : Nat} (hp30 : p < 30) (hp : P (.int (rbond F A p)) (mh E o ad F A h)) : Mt l E yX11_bondOf cX11_bondOf 3 (some .int) 0 0 0 0 [.ref o, .int (nI p)] (mh E o ad F A h) P := by
  refine Mt.of (by decide) (Nat.le_of_ble_eq_true rfl) ?_
  intro K hK hR C
  refine g_aload_n (n := 1) C dX11_bondOf_0 rfl rfl ?_
  refine m_get (n := 4) 8 C dX11_bondOf_1 rfl (by decide) rfl w_1108 rfl ?_
  refine g_iload_n (n := 5) C dX11_bondOf_4 rfl rfl ?_
  refine m_iald (n := 6) 8 (p) C dX11_bondOf_5 rfl I (by decide) rfl rfl hp30 (by decide) rfl ?_
  refine g_if_ne (n := 9) (t := 11) C dX11_bondOf_6 rfl (by decide) (fun zc6 => ?_) (fun zc6 => ?_)
  · --t6
    refine g_aload_n (n := 12) C dX11_bondOf_11 rfl rfl ?_
    refine m_get (n := 15) 6 C dX11_bondOf_12 rfl (by decide) rfl w_1106 rfl ?_
    refine g_iload_n (n := 16) C dX11_bondOf_15 rfl rfl ?_
    refine m_iald (n := 17) 6 (p) C dX11_bondOf_16 rfl I (by decide) rfl rfl hp30 (by decide) rfl ?_
    refine g_if_lt (n := 20) (t := 29) C dX11_bondOf_17 rfl (by decide) (fun zc17 => ?_) (fun zc17 => ?_)
    · --t17
      refine g_aload_n (n := 30) C dX11_bondOf_29 rfl rfl ?_
      refine m_get (n := 33) 1 C dX11_bondOf_30 rfl (by decide) rfl w_1101 rfl ?_
      refine g_istore_n (n := 34) C dX11_bondOf_33 rfl (by decide) ?_
      refine g_iload_n (n := 35) C dX11_bondOf_34 rfl rfl ?_
      refine g_aload_n (n := 36) C dX11_bondOf_35 rfl rfl ?_
      refine m_get (n := 39) 7 C dX11_bondOf_36 rfl (by decide) rfl w_1107 rfl ?_
      refine g_iload_n (n := 40) C dX11_bondOf_39 rfl rfl ?_
      refine m_iald (n := 41) 7 (p) C dX11_bondOf_40 rfl I (by decide) rfl rfl hp30 (by decide) rfl ?_
      refine g_icmp_le (n := 44) (t := 48) C dX11_bondOf_41 rfl (by decide) (fun zc41 => ?_) (fun zc41 => ?_)
      · --t41
        refine g_aload_n (n := 49) C dX11_bondOf_48 rfl rfl ?_
        refine m_get (n := 52) 6 C dX11_bondOf_49 rfl (by decide) rfl w_1106 rfl ?_
        refine g_iload_n (n := 53) C dX11_bondOf_52 rfl rfl ?_
        refine m_iald (n := 54) 6 (p) C dX11_bondOf_53 rfl I (by decide) rfl rfl hp30 (by decide) rfl ?_
        refine g_if_lt (n := 57) (t := 61) C dX11_bondOf_54 rfl (by decide) (fun zc54 => ?_) (fun zc54 => ?_)
        · --t54
          refine g_iconst (n := 62) (v := 1) C dX11_bondOf_61 rfl (by decide) ?_
          refine g_iret C dX11_bondOf_62 (by decide) (by decide) ?_
          refine (congrArg (fun v => P (.int v) (mh E o ad F A h)) ?_).mp hp
          unfold rbond
          first | (rw [if_pos (by assumption)]; done) | (rw [if_neg (by assumption)]; split <;> split <;> first | rfl | exact absurd (by assumption) (Int32.not_lt.mpr zc41) | exact absurd (Int32.not_le.mp zc41) (by assumption) | contradiction)
        · --f54
          refine g_iconst (n := 58) (v := 0) C dX11_bondOf_57 rfl (by decide) ?_
          refine g_goto (t := 62) C dX11_bondOf_58 (by decide) ?_
          refine g_iret C dX11_bondOf_62 (by decide) (by decide) ?_
          refine (congrArg (fun v => P (.int v) (mh E o ad F A h)) ?_).mp hp
          unfold rbond
          first | (rw [if_pos (by assumption)]; done) | (rw [if_neg (by assumption)]; split <;> split <;> first | rfl | exact absurd (by assumption) (Int32.not_lt.mpr zc41) | exact absurd (Int32.not_le.mp zc41) (by assumption) | contradiction)
      · --f41
        refine g_iconst (n := 45) (v := 2) C dX11_bondOf_44 rfl (by decide) ?_
        refine g_goto (t := 62) C dX11_bondOf_45 (by decide) ?_
        refine g_iret C dX11_bondOf_62 (by decide) (by decide) ?_
        refine (congrArg (fun v => P (.int v) (mh E o ad F A h)) ?_).mp hp
        unfold rbond
        first | (rw [if_pos (by assumption)]; done) | (rw [if_neg (by assumption)]; split <;> split <;> first | rfl | exact absurd (by assumption) (Int32.not_lt.mpr zc41) | exact absurd (Int32.not_le.mp zc41) (by assumption) | contradiction)
    · --f17
      refine g_aload_n (n := 21) C dX11_bondOf_20 rfl rfl ?_
      refine m_get (n := 24) 6 C dX11_bondOf_21 rfl (by decide) rfl w_1106 rfl ?_
      refine g_iload_n (n := 25) C dX11_bondOf_24 rfl rfl ?_
      refine m_iald (n := 26) 6 (p) C dX11_bondOf_25 rfl I (by decide) rfl rfl hp30 (by decide) rfl ?_
      refine g_goto (t := 33) C dX11_bondOf_26 (by decide) ?_
      refine g_istore_n (n := 34) C dX11_bondOf_33 rfl (by decide) ?_
      refine g_iload_n (n := 35) C dX11_bondOf_34 rfl rfl ?_
      refine g_aload_n (n := 36) C dX11_bondOf_35 rfl rfl ?_
      refine m_get (n := 39) 7 C dX11_bondOf_36 rfl (by decide) rfl w_1107 rfl ?_
      refine g_iload_n (n := 40) C dX11_bondOf_39 rfl rfl ?_
      refine m_iald (n := 41) 7 (p) C dX11_bondOf_40 rfl I (by decide) rfl rfl hp30 (by decide) rfl ?_
      refine g_icmp_le (n := 44) (t := 48) C dX11_bondOf_41 rfl (by decide) (fun zc41 => ?_) (fun zc41 => ?_)
      · --t41
        refine g_aload_n (n := 49) C dX11_bondOf_48 rfl rfl ?_
        refine m_get (n := 52) 6 C dX11_bondOf_49 rfl (by decide) rfl w_1106 rfl ?_
        refine g_iload_n (n := 53) C dX11_bondOf_52 rfl rfl ?_
        refine m_iald (n := 54) 6 (p) C dX11_bondOf_53 rfl I (by decide) rfl rfl hp30 (by decide) rfl ?_
        refine g_if_lt (n := 57) (t := 61) C dX11_bondOf_54 rfl (by decide) (fun zc54 => ?_) (fun zc54 => ?_)
        · --t54
          refine g_iconst (n := 62) (v := 1) C dX11_bondOf_61 rfl (by decide) ?_
          refine g_iret C dX11_bondOf_62 (by decide) (by decide) ?_
          refine (congrArg (fun v => P (.int v) (mh E o ad F A h)) ?_).mp hp
          unfold rbond
          first | (rw [if_pos (by assumption)]; done) | (rw [if_neg (by assumption)]; split <;> split <;> first | rfl | exact absurd (by assumption) (Int32.not_lt.mpr zc41) | exact absurd (Int32.not_le.mp zc41) (by assumption) | contradiction)
        · --f54
          refine g_iconst (n := 58) (v := 0) C dX11_bondOf_57 rfl (by decide) ?_
          refine g_goto (t := 62) C dX11_bondOf_58 (by decide) ?_
          refine g_iret C dX11_bondOf_62 (by decide) (by decide) ?_
          refine (congrArg (fun v => P (.int v) (mh E o ad F A h)) ?_).mp hp
          unfold rbond
          first | (rw [if_pos (by assumption)]; done) | (rw [if_neg (by assumption)]; split <;> split <;> first | rfl | exact absurd (by assumption) (Int32.not_lt.mpr zc41) | exact absurd (Int32.not_le.mp zc41) (by assumption) | contradiction)
      · --f41
        refine g_iconst (n := 45) (v := 2) C dX11_bondOf_44 rfl (by decide) ?_
        refine g_goto (t := 62) C dX11_bondOf_45 (by decide) ?_
        refine g_iret C dX11_bondOf_62 (by decide) (by decide) ?_
        refine (congrArg (fun v => P (.int v) (mh E o ad F A h)) ?_).mp hp
        unfold rbond
        first | (rw [if_pos (by assumption)]; done) | (rw [if_neg (by assumption)]; split <;> split <;> first | rfl | exact absurd (by assumption) (Int32.not_lt.mpr zc41) | exact absurd (Int32.not_le.mp zc41) (by assumption) | contradiction)
  · --f6
    refine g_iconst (n := 10) (v := 0) C dX11_bondOf_9 rfl (by decide) ?_
    refine g_iret C dX11_bondOf_10 (by decide) (by decide) ?_
    refine (congrArg (fun v => P (.int v) (mh E o ad F A h)) ?_).mp hp
    unfold rbond
    first | (rw [if_pos (by assumption)]; done) | (rw [if_neg (by assumption)]; split <;> split <;> first | rfl | exact absurd (by assumption) (Int32.not_lt.mpr zc41) | exact absurd (Int32.not_le.mp zc41) (by assumption) | contradiction)
theorem dX11_look_0 : decode cX11_look 0 = .ok (.aload_n 0, 1) := by decide +kernel
theorem dX11_look_1 : decode cX11_look 1 = .ok (.iconst 0, 1) := by decide +kernel
theorem dX11_look_2 : decode cX11_look 2 = .ok (.putfield 76, 3) := by decide +kernel
theorem dX11_look_5 : decode cX11_look 5 = .ok (.aload_n 0, 1) := by decide +kernel
theorem dX11_look_6 : decode cX11_look 6 = .ok (.aload_n 0, 1) := by decide +kernel
theorem dX11_look_7 : decode cX11_look 7 = .ok (.iload_n 1, 1) := by decide +kernel
theorem dX11_look_8 : decode cX11_look 8 = .ok (.invokevirtual 192, 3) := by decide +kernel
theorem dX11_look_11 : decode cX11_look 11 = .ok (.iconst 1, 1) := by decide +kernel
theorem dX11_look_12 : decode cX11_look 12 = .ok (.invokevirtual 162, 3) := by decide +kernel
theorem dX11_look_15 : decode cX11_look 15 = .ok (.ifCond .eq 5, 3) := by decide +kernel
theorem dX11_look_18 : decode cX11_look 18 = .ok (.iconst 0, 1) := by decide +kernel
theorem dX11_look_19 : decode cX11_look 19 = .ok (.ireturn, 1) := by decide +kernel
theorem dX11_look_20 : decode cX11_look 20 = .ok (.iload_n 2, 1) := by decide +kernel
theorem dX11_look_21 : decode cX11_look 21 = .ok (.tableswitch 80 0 5 #[39, 46, 53, 60, 67, 73], 39) := by decide +kernel
theorem dX11_look_60 : decode cX11_look 60 = .ok (.aload_n 0, 1) := by decide +kernel
theorem dX11_look_61 : decode cX11_look 61 = .ok (.getfield 13, 3) := by decide +kernel
theorem dX11_look_64 : decode cX11_look 64 = .ok (.iload_n 1, 1) := by decide +kernel
theorem dX11_look_65 : decode cX11_look 65 = .ok (.iaload, 1) := by decide +kernel
theorem dX11_look_66 : decode cX11_look 66 = .ok (.ireturn, 1) := by decide +kernel
theorem dX11_look_67 : decode cX11_look 67 = .ok (.aload_n 0, 1) := by decide +kernel
theorem dX11_look_68 : decode cX11_look 68 = .ok (.getfield 17, 3) := by decide +kernel
theorem dX11_look_71 : decode cX11_look 71 = .ok (.iload_n 1, 1) := by decide +kernel
theorem dX11_look_72 : decode cX11_look 72 = .ok (.iaload, 1) := by decide +kernel
theorem dX11_look_73 : decode cX11_look 73 = .ok (.ireturn, 1) := by decide +kernel
theorem dX11_look_74 : decode cX11_look 74 = .ok (.aload_n 0, 1) := by decide +kernel
theorem dX11_look_75 : decode cX11_look 75 = .ok (.getfield 20, 3) := by decide +kernel
theorem dX11_look_78 : decode cX11_look 78 = .ok (.iload_n 1, 1) := by decide +kernel
theorem dX11_look_79 : decode cX11_look 79 = .ok (.iaload, 1) := by decide +kernel
theorem dX11_look_80 : decode cX11_look 80 = .ok (.ireturn, 1) := by decide +kernel
theorem dX11_look_81 : decode cX11_look 81 = .ok (.aload_n 0, 1) := by decide +kernel
theorem dX11_look_82 : decode cX11_look 82 = .ok (.getfield 23, 3) := by decide +kernel
theorem dX11_look_85 : decode cX11_look 85 = .ok (.iload_n 1, 1) := by decide +kernel
theorem dX11_look_86 : decode cX11_look 86 = .ok (.iaload, 1) := by decide +kernel
theorem dX11_look_87 : decode cX11_look 87 = .ok (.ireturn, 1) := by decide +kernel
theorem dX11_look_88 : decode cX11_look 88 = .ok (.aload_n 0, 1) := by decide +kernel
theorem dX11_look_89 : decode cX11_look 89 = .ok (.iload_n 1, 1) := by decide +kernel
theorem dX11_look_90 : decode cX11_look 90 = .ok (.invokevirtual 203, 3) := by decide +kernel
theorem dX11_look_93 : decode cX11_look 93 = .ok (.ireturn, 1) := by decide +kernel
theorem dX11_look_94 : decode cX11_look 94 = .ok (.aload_n 0, 1) := by decide +kernel
theorem dX11_look_95 : decode cX11_look 95 = .ok (.getfield 26, 3) := by decide +kernel
theorem dX11_look_98 : decode cX11_look 98 = .ok (.iload_n 1, 1) := by decide +kernel
theorem dX11_look_99 : decode cX11_look 99 = .ok (.iaload, 1) := by decide +kernel
theorem dX11_look_100 : decode cX11_look 100 = .ok (.ireturn, 1) := by decide +kernel
theorem dX11_look_101 : decode cX11_look 101 = .ok (.aload_n 0, 1) := by decide +kernel
theorem dX11_look_102 : decode cX11_look 102 = .ok (.iconst 2, 1) := by decide +kernel
theorem dX11_look_103 : decode cX11_look 103 = .ok (.putfield 76, 3) := by decide +kernel
theorem dX11_look_106 : decode cX11_look 106 = .ok (.iconst 0, 1) := by decide +kernel
theorem dX11_look_107 : decode cX11_look 107 = .ok (.ireturn, 1) := by decide +kernel
set_option maxHeartbeats 400000 in
set_option maxRecDepth 20000 in
theorem ct_look {l : Launch} {E : Ev} {P : Value → AH → Prop} {o : Nat} {ad : Nat → Nat} {F : Nat → Int32} {A : Nat → Nat → Int32} {h : AH} (I : mI o ad) {n : Nat} (hn : F 9 = nI n) (hn3 : n ≤ 30) {p w : Int32} (k1 : p < 0 ∨ F 9 - 1 < p → P (.int 0) (mh E o ad (upd (upd F 0 0) 0 1) A h)) (k2_0 : ∀ j, j < n → p = nI j → w = 0 → P (.int (A 3 j)) (mh E o ad (upd F 0 0) A h)) (k2_1 : ∀ j, j < n → p = nI j → w = 1 → P (.int (A 4 j)) (mh E o ad (upd F 0 0) A h)) (k2_2 : ∀ j, j < n → p = nI j → w = 2 → P (.int (A 5 j)) (mh E o ad (upd F 0 0) A h)) (k2_3 : ∀ j, j < n → p = nI j → w = 3 → P (.int (A 6 j)) (mh E o ad (upd F 0 0) A h)) (k2_4 : ∀ j, j < n → p = nI j → w = 4 → P (.int (rbond F A j)) (mh E o ad (upd F 0 0) A h)) (k2_5 : ∀ j, j < n → p = nI j → w = 5 → P (.int (A 7 j)) (mh E o ad (upd F 0 0) A h)) (k3 : ∀ j, j < n → p = nI j → ¬ w = 0 → ¬ w = 1 → ¬ w = 2 → ¬ w = 3 → ¬ w = 4 → ¬ w = 5 → P (.int 0) (mh E o ad (upd (upd F 0 0) 0 2) A h)) : Mt l E yX11_look cX11_look 3 (some .int) 2 70 0 0 [.ref o, .int p, .int w] (mh E o ad F A h) P := by
  refine Mt.of (by decide) (Nat.le_of_ble_eq_true rfl) ?_
  intro K hK hR C
  refine g_aload_n (n := 1) C dX11_look_0 rfl rfl ?_
  refine g_iconst (n := 2) (v := 0) C dX11_look_1 rfl (by decide) ?_
  refine m_put (n := 5) 0 C dX11_look_2 rfl (by decide) w_1100 rfl rfl rfl mfs_0 ?_
  refine g_aload_n (n := 6) C dX11_look_5 rfl rfl ?_
  refine g_aload_n (n := 7) C dX11_look_6 rfl rfl ?_
  refine g_iload_n (n := 8) C dX11_look_7 rfl rfl ?_
  refine g_callV (n := 11) (As := [.int _]) C dX11_look_8 rfl mw_X11_noPit w_1296 (g_recv C mh_o rfl) rfl rfl (room hR rfl) (ct_noPit (fun za8 zb8 => ?_) (fun za8 => ?_))
  · --k8.0
    obtain ⟨j, hj, rfl⟩ := ix_of za8 zb8 (show upd F 0 0 9 = nI n from hn) (by omega)
    have hj30 : j < 30 := by omega
    refine g_iconst (n := 12) (v := 1) C dX11_look_11 rfl (by decide) ?_
    refine g_callV (n := 15) (As := [.int _, .int _]) C dX11_look_12 rfl mw_X11_throwsIf w_1257 (g_recv C mh_o rfl) rfl rfl (room hR rfl) (ct_throwsIf0 ?_)
    refine g_if_eq (n := 18) (t := 20) C dX11_look_15 rfl (by decide) (fun zc15 => ?_) (fun zc15 => ?_)
    rotate_left
    · exact absurd zc15 (by decide)
    refine g_iload_n (n := 21) C dX11_look_20 rfl rfl ?_
    refine g_case (v := 0) (fun zc21_0 => ?_) (fun zc21_0 => ?_)
    · --case 0
      refine g_tableIn (t := 60) C dX11_look_21 (by decide) (by decide) (by rfl) (by decide) ?_
      refine g_aload_n (n := 61) C dX11_look_60 rfl rfl ?_
      refine m_get (n := 64) 3 C dX11_look_61 rfl (by decide) rfl w_1103 rfl ?_
      refine g_iload_n (n := 65) C dX11_look_64 rfl rfl ?_
      refine m_iald (n := 66) 3 (j) C dX11_look_65 rfl I (by decide) rfl rfl hj30 (by decide) rfl ?_
      refine g_iret C dX11_look_66 (by decide) (by decide) ?_
      exact k2_0 j hj rfl zc21_0
    refine g_case (v := 1) (fun zc21_1 => ?_) (fun zc21_1 => ?_)
    · --case 1
      refine g_tableIn (t := 67) C dX11_look_21 (by decide) (by decide) (by rfl) (by decide) ?_
      refine g_aload_n (n := 68) C dX11_look_67 rfl rfl ?_
      refine m_get (n := 71) 4 C dX11_look_68 rfl (by decide) rfl w_1104 rfl ?_
      refine g_iload_n (n := 72) C dX11_look_71 rfl rfl ?_
      refine m_iald (n := 73) 4 (j) C dX11_look_72 rfl I (by decide) rfl rfl hj30 (by decide) rfl ?_
      refine g_iret C dX11_look_73 (by decide) (by decide) ?_
      exact k2_1 j hj rfl zc21_1
    refine g_case (v := 2) (fun zc21_2 => ?_) (fun zc21_2 => ?_)
    · --case 2
      refine g_tableIn (t := 74) C dX11_look_21 (by decide) (by decide) (by rfl) (by decide) ?_
      refine g_aload_n (n := 75) C dX11_look_74 rfl rfl ?_
      refine m_get (n := 78) 5 C dX11_look_75 rfl (by decide) rfl w_1105 rfl ?_
      refine g_iload_n (n := 79) C dX11_look_78 rfl rfl ?_
      refine m_iald (n := 80) 5 (j) C dX11_look_79 rfl I (by decide) rfl rfl hj30 (by decide) rfl ?_
      refine g_iret C dX11_look_80 (by decide) (by decide) ?_
      exact k2_2 j hj rfl zc21_2
    refine g_case (v := 3) (fun zc21_3 => ?_) (fun zc21_3 => ?_)
    · --case 3
      refine g_tableIn (t := 81) C dX11_look_21 (by decide) (by decide) (by rfl) (by decide) ?_
      refine g_aload_n (n := 82) C dX11_look_81 rfl rfl ?_
      refine m_get (n := 85) 6 C dX11_look_82 rfl (by decide) rfl w_1106 rfl ?_
      refine g_iload_n (n := 86) C dX11_look_85 rfl rfl ?_
      refine m_iald (n := 87) 6 (j) C dX11_look_86 rfl I (by decide) rfl rfl hj30 (by decide) rfl ?_
      refine g_iret C dX11_look_87 (by decide) (by decide) ?_
      exact k2_3 j hj rfl zc21_3
    refine g_case (v := 4) (fun zc21_4 => ?_) (fun zc21_4 => ?_)
    · --case 4
      refine g_tableIn (t := 88) C dX11_look_21 (by decide) (by decide) (by rfl) (by decide) ?_
      refine g_aload_n (n := 89) C dX11_look_88 rfl rfl ?_
      refine g_iload_n (n := 90) C dX11_look_89 rfl rfl ?_
      refine g_callV (n := 93) (As := [.int _]) C dX11_look_90 rfl mw_X11_bondOf w_1329 (g_recv C mh_o rfl) rfl rfl (room hR rfl) (ct_bondOf I hj30 ?_)
      refine g_iret C dX11_look_93 (by decide) (by decide) ?_
      exact k2_4 j hj rfl zc21_4
    refine g_case (v := 5) (fun zc21_5 => ?_) (fun zc21_5 => ?_)
    · --case 5
      refine g_tableIn (t := 94) C dX11_look_21 (by decide) (by decide) (by rfl) (by decide) ?_
      refine g_aload_n (n := 95) C dX11_look_94 rfl rfl ?_
      refine m_get (n := 98) 7 C dX11_look_95 rfl (by decide) rfl w_1107 rfl ?_
      refine g_iload_n (n := 99) C dX11_look_98 rfl rfl ?_
      refine m_iald (n := 100) 7 (j) C dX11_look_99 rfl I (by decide) rfl rfl hj30 (by decide) rfl ?_
      refine g_iret C dX11_look_100 (by decide) (by decide) ?_
      exact k2_5 j hj rfl zc21_5
    refine g_tableOut (t := 101) C dX11_look_21 (by first | exact g_tout6 zc21_0 zc21_1 zc21_2 zc21_3 zc21_4 zc21_5) (by decide) ?_
    refine g_aload_n (n := 102) C dX11_look_101 rfl rfl ?_
    refine g_iconst (n := 103) (v := 2) C dX11_look_102 rfl (by decide) ?_
    refine m_put (n := 106) 0 C dX11_look_103 rfl (by decide) w_1100 rfl rfl rfl mfs_0 ?_
    refine g_iconst (n := 107) (v := 0) C dX11_look_106 rfl (by decide) ?_
    refine g_iret C dX11_look_107 (by decide) (by decide) ?_
    exact k3 j hj rfl zc21_0 zc21_1 zc21_2 zc21_3 zc21_4 zc21_5
  · --k8.1
    refine g_iconst (n := 12) (v := 1) C dX11_look_11 rfl (by decide) ?_
    refine g_callV (n := 15) (As := [.int _, .int _]) C dX11_look_12 rfl mw_X11_throwsIf w_1257 (g_recv C mh_o rfl) rfl rfl (room hR rfl) (ct_throwsIf1 ?_)
    refine g_if_eq (n := 18) (t := 20) C dX11_look_15 rfl (by decide) (fun zc15 => ?_) (fun zc15 => ?_)
    · exact absurd zc15 (by decide)
    refine g_iconst (n := 19) (v := 0) C dX11_look_18 rfl (by decide) ?_
    refine g_iret C dX11_look_19 (by decide) (by decide) ?_
    exact k1 (by assumption)
theorem dX11_stone_0 : decode cX11_stone 0 = .ok (.aload_n 0, 1) := by decide +kernel
theorem dX11_stone_1 : decode cX11_stone 1 = .ok (.iconst 0, 1) := by decide +kernel
theorem dX11_stone_2 : decode cX11_stone 2 = .ok (.putfield 76, 3) := by decide +kernel
theorem dX11_stone_5 : decode cX11_stone 5 = .ok (.aload_n 0, 1) := by decide +kernel
theorem dX11_stone_6 : decode cX11_stone 6 = .ok (.aload_n 0, 1) := by decide +kernel
theorem dX11_stone_7 : decode cX11_stone 7 = .ok (.iload_n 1, 1) := by decide +kernel
theorem dX11_stone_8 : decode cX11_stone 8 = .ok (.invokevirtual 192, 3) := by decide +kernel
theorem dX11_stone_11 : decode cX11_stone 11 = .ok (.iconst 1, 1) := by decide +kernel
theorem dX11_stone_12 : decode cX11_stone 12 = .ok (.invokevirtual 162, 3) := by decide +kernel
theorem dX11_stone_15 : decode cX11_stone 15 = .ok (.ifCond .ne 70, 3) := by decide +kernel
theorem dX11_stone_18 : decode cX11_stone 18 = .ok (.aload_n 0, 1) := by decide +kernel
theorem dX11_stone_19 : decode cX11_stone 19 = .ok (.iload_n 2, 1) := by decide +kernel
theorem dX11_stone_20 : decode cX11_stone 20 = .ok (.iconst 0, 1) := by decide +kernel
theorem dX11_stone_21 : decode cX11_stone 21 = .ok (.bipush 99, 2) := by decide +kernel
theorem dX11_stone_23 : decode cX11_stone 23 = .ok (.invokestatic 79, 3) := by decide +kernel
theorem dX11_stone_26 : decode cX11_stone 26 = .ok (.ifCond .ne 7, 3) := by decide +kernel
theorem dX11_stone_29 : decode cX11_stone 29 = .ok (.iconst 1, 1) := by decide +kernel
theorem dX11_stone_30 : decode cX11_stone 30 = .ok (.goto 4, 3) := by decide +kernel
theorem dX11_stone_33 : decode cX11_stone 33 = .ok (.iconst 0, 1) := by decide +kernel
theorem dX11_stone_34 : decode cX11_stone 34 = .ok (.iconst 2, 1) := by decide +kernel
theorem dX11_stone_35 : decode cX11_stone 35 = .ok (.invokevirtual 162, 3) := by decide +kernel
theorem dX11_stone_38 : decode cX11_stone 38 = .ok (.ifCond .ne 47, 3) := by decide +kernel
theorem dX11_stone_41 : decode cX11_stone 41 = .ok (.aload_n 0, 1) := by decide +kernel
theorem dX11_stone_42 : decode cX11_stone 42 = .ok (.aload_n 0, 1) := by decide +kernel
theorem dX11_stone_43 : decode cX11_stone 43 = .ok (.getfield 20, 3) := by decide +kernel
theorem dX11_stone_46 : decode cX11_stone 46 = .ok (.iload_n 1, 1) := by decide +kernel
theorem dX11_stone_47 : decode cX11_stone 47 = .ok (.iaload, 1) := by decide +kernel
theorem dX11_stone_48 : decode cX11_stone 48 = .ok (.ifCond .gt 7, 3) := by decide +kernel
theorem dX11_stone_51 : decode cX11_stone 51 = .ok (.iconst 1, 1) := by decide +kernel
theorem dX11_stone_52 : decode cX11_stone 52 = .ok (.goto 4, 3) := by decide +kernel
theorem dX11_stone_55 : decode cX11_stone 55 = .ok (.iconst 0, 1) := by decide +kernel
theorem dX11_stone_56 : decode cX11_stone 56 = .ok (.iconst 3, 1) := by decide +kernel
theorem dX11_stone_57 : decode cX11_stone 57 = .ok (.invokevirtual 162, 3) := by decide +kernel
theorem dX11_stone_60 : decode cX11_stone 60 = .ok (.ifCond .ne 25, 3) := by decide +kernel
theorem dX11_stone_63 : decode cX11_stone 63 = .ok (.aload_n 0, 1) := by decide +kernel
theorem dX11_stone_64 : decode cX11_stone 64 = .ok (.aload_n 0, 1) := by decide +kernel
theorem dX11_stone_65 : decode cX11_stone 65 = .ok (.getfield 86, 3) := by decide +kernel
theorem dX11_stone_68 : decode cX11_stone 68 = .ok (.bipush 60, 2) := by decide +kernel
theorem dX11_stone_70 : decode cX11_stone 70 = .ok (.if_icmp .ne 7, 3) := by decide +kernel
theorem dX11_stone_73 : decode cX11_stone 73 = .ok (.iconst 1, 1) := by decide +kernel
theorem dX11_stone_74 : decode cX11_stone 74 = .ok (.goto 4, 3) := by decide +kernel
theorem dX11_stone_77 : decode cX11_stone 77 = .ok (.iconst 0, 1) := by decide +kernel
theorem dX11_stone_78 : decode cX11_stone 78 = .ok (.iconst 4, 1) := by decide +kernel
theorem dX11_stone_79 : decode cX11_stone 79 = .ok (.invokevirtual 162, 3) := by decide +kernel
theorem dX11_stone_82 : decode cX11_stone 82 = .ok (.ifCond .eq 5, 3) := by decide +kernel
theorem dX11_stone_85 : decode cX11_stone 85 = .ok (.iconst 0, 1) := by decide +kernel
theorem dX11_stone_86 : decode cX11_stone 86 = .ok (.ireturn, 1) := by decide +kernel
theorem dX11_stone_87 : decode cX11_stone 87 = .ok (.aload_n 0, 1) := by decide +kernel
theorem dX11_stone_88 : decode cX11_stone 88 = .ok (.getfield 51, 3) := by decide +kernel
theorem dX11_stone_91 : decode cX11_stone 91 = .ok (.bipush 10, 2) := by decide +kernel
theorem dX11_stone_93 : decode cX11_stone 93 = .ok (.aload_n 0, 1) := by decide +kernel
theorem dX11_stone_94 : decode cX11_stone 94 = .ok (.getfield 86, 3) := by decide +kernel
theorem dX11_stone_97 : decode cX11_stone 97 = .ok (.imul, 1) := by decide +kernel
theorem dX11_stone_98 : decode cX11_stone 98 = .ok (.iload_n 1, 1) := by decide +kernel
theorem dX11_stone_99 : decode cX11_stone 99 = .ok (.iastore, 1) := by decide +kernel
theorem dX11_stone_100 : decode cX11_stone 100 = .ok (.aload_n 0, 1) := by decide +kernel
theorem dX11_stone_101 : decode cX11_stone 101 = .ok (.getfield 51, 3) := by decide +kernel
theorem dX11_stone_104 : decode cX11_stone 104 = .ok (.bipush 10, 2) := by decide +kernel
theorem dX11_stone_106 : decode cX11_stone 106 = .ok (.aload_n 0, 1) := by decide +kernel
theorem dX11_stone_107 : decode cX11_stone 107 = .ok (.getfield 86, 3) := by decide +kernel
theorem dX11_stone_110 : decode cX11_stone 110 = .ok (.imul, 1) := by decide +kernel
theorem dX11_stone_111 : decode cX11_stone 111 = .ok (.iconst 1, 1) := by decide +kernel
theorem dX11_stone_112 : decode cX11_stone 112 = .ok (.iadd, 1) := by decide +kernel
theorem dX11_stone_113 : decode cX11_stone 113 = .ok (.iload_n 2, 1) := by decide +kernel
theorem dX11_stone_114 : decode cX11_stone 114 = .ok (.iastore, 1) := by decide +kernel
theorem dX11_stone_115 : decode cX11_stone 115 = .ok (.aload_n 0, 1) := by decide +kernel
theorem dX11_stone_116 : decode cX11_stone 116 = .ok (.getfield 51, 3) := by decide +kernel
theorem dX11_stone_119 : decode cX11_stone 119 = .ok (.bipush 10, 2) := by decide +kernel
theorem dX11_stone_121 : decode cX11_stone 121 = .ok (.aload_n 0, 1) := by decide +kernel
theorem dX11_stone_122 : decode cX11_stone 122 = .ok (.getfield 86, 3) := by decide +kernel
theorem dX11_stone_125 : decode cX11_stone 125 = .ok (.imul, 1) := by decide +kernel
theorem dX11_stone_126 : decode cX11_stone 126 = .ok (.iconst 2, 1) := by decide +kernel
theorem dX11_stone_127 : decode cX11_stone 127 = .ok (.iadd, 1) := by decide +kernel
theorem dX11_stone_128 : decode cX11_stone 128 = .ok (.iconst (-1), 1) := by decide +kernel
theorem dX11_stone_129 : decode cX11_stone 129 = .ok (.iastore, 1) := by decide +kernel
theorem dX11_stone_130 : decode cX11_stone 130 = .ok (.aload_n 0, 1) := by decide +kernel
theorem dX11_stone_131 : decode cX11_stone 131 = .ok (.getfield 51, 3) := by decide +kernel
theorem dX11_stone_134 : decode cX11_stone 134 = .ok (.bipush 10, 2) := by decide +kernel
theorem dX11_stone_136 : decode cX11_stone 136 = .ok (.aload_n 0, 1) := by decide +kernel
theorem dX11_stone_137 : decode cX11_stone 137 = .ok (.getfield 86, 3) := by decide +kernel
theorem dX11_stone_140 : decode cX11_stone 140 = .ok (.imul, 1) := by decide +kernel
theorem dX11_stone_141 : decode cX11_stone 141 = .ok (.iconst 3, 1) := by decide +kernel
theorem dX11_stone_142 : decode cX11_stone 142 = .ok (.iadd, 1) := by decide +kernel
theorem dX11_stone_143 : decode cX11_stone 143 = .ok (.iconst (-1), 1) := by decide +kernel
theorem dX11_stone_144 : decode cX11_stone 144 = .ok (.iastore, 1) := by decide +kernel
theorem dX11_stone_145 : decode cX11_stone 145 = .ok (.iconst 0, 1) := by decide +kernel
theorem dX11_stone_146 : decode cX11_stone 146 = .ok (.istore_n 3, 1) := by decide +kernel
theorem dX11_stone_147 : decode cX11_stone 147 = .ok (.iload_n 3, 1) := by decide +kernel
theorem dX11_stone_148 : decode cX11_stone 148 = .ok (.bipush 6, 2) := by decide +kernel
theorem dX11_stone_150 : decode cX11_stone 150 = .ok (.if_icmp .ge 24, 3) := by decide +kernel
theorem dX11_stone_153 : decode cX11_stone 153 = .ok (.aload_n 0, 1) := by decide +kernel
theorem dX11_stone_154 : decode cX11_stone 154 = .ok (.getfield 54, 3) := by decide +kernel
theorem dX11_stone_157 : decode cX11_stone 157 = .ok (.bipush 6, 2) := by decide +kernel
theorem dX11_stone_159 : decode cX11_stone 159 = .ok (.aload_n 0, 1) := by decide +kernel
theorem dX11_stone_160 : decode cX11_stone 160 = .ok (.getfield 86, 3) := by decide +kernel
theorem dX11_stone_163 : decode cX11_stone 163 = .ok (.imul, 1) := by decide +kernel
theorem dX11_stone_164 : decode cX11_stone 164 = .ok (.iload_n 3, 1) := by decide +kernel
theorem dX11_stone_165 : decode cX11_stone 165 = .ok (.iadd, 1) := by decide +kernel
theorem dX11_stone_166 : decode cX11_stone 166 = .ok (.iconst (-1), 1) := by decide +kernel
theorem dX11_stone_167 : decode cX11_stone 167 = .ok (.iastore, 1) := by decide +kernel
theorem dX11_stone_168 : decode cX11_stone 168 = .ok (.iinc 3 1, 3) := by decide +kernel
theorem dX11_stone_171 : decode cX11_stone 171 = .ok (.goto (-24), 3) := by decide +kernel
theorem dX11_stone_174 : decode cX11_stone 174 = .ok (.aload_n 0, 1) := by decide +kernel
theorem dX11_stone_175 : decode cX11_stone 175 = .ok (.dup, 1) := by decide +kernel
theorem dX11_stone_176 : decode cX11_stone 176 = .ok (.getfield 86, 3) := by decide +kernel
theorem dX11_stone_179 : decode cX11_stone 179 = .ok (.iconst 1, 1) := by decide +kernel
theorem dX11_stone_180 : decode cX11_stone 180 = .ok (.iadd, 1) := by decide +kernel
theorem dX11_stone_181 : decode cX11_stone 181 = .ok (.putfield 86, 3) := by decide +kernel
theorem dX11_stone_184 : decode cX11_stone 184 = .ok (.aload_n 0, 1) := by decide +kernel
theorem dX11_stone_185 : decode cX11_stone 185 = .ok (.getfield 86, 3) := by decide +kernel
theorem dX11_stone_188 : decode cX11_stone 188 = .ok (.iconst 1, 1) := by decide +kernel
theorem dX11_stone_189 : decode cX11_stone 189 = .ok (.isub, 1) := by decide +kernel
theorem dX11_stone_190 : decode cX11_stone 190 = .ok (.ireturn, 1) := by decide +kernel
set_option maxHeartbeats 1000000 in
set_option maxRecDepth 20000 in
theorem ct_stone {l : Launch} {E : Ev} {P : Value → AH → Prop} {o : Nat} {ad : Nat → Nat} {F : Nat → Int32} {A : Nat → Nat → Int32} {h : AH} (I : mI o ad) {n : Nat} (hn : F 9 = nI n) (hn3 : n ≤ 30) {m : Nat} (hm : F 23 = nI m) (hm6 : m ≤ 60) {p b : Int32} (k1 : p < 0 ∨ F 9 - 1 < p → P (.int 0) (mh E o ad (upd (upd F 0 0) 0 1) A h)) (k2 : ∀ j, j < n → p = nI j → (b < 0 ∨ 99 < b) → P (.int 0) (mh E o ad (upd (upd F 0 0) 0 2) A h)) (k3 : ∀ j, j < n → p = nI j → ¬ (b < 0 ∨ 99 < b) → ¬ 0 < A 5 j → P (.int 0) (mh E o ad (upd (upd F 0 0) 0 3) A h)) (k4 : ∀ j, j < n → p = nI j → ¬ (b < 0 ∨ 99 < b) → 0 < A 5 j → m = 60 → P (.int 0) (mh E o ad (upd (upd F 0 0) 0 4) A h)) (k5 : ∀ j, j < n → p = nI j → ¬ (b < 0 ∨ 99 < b) → 0 < A 5 j → m < 60 → P (.int (nI m)) (mh E o ad (upd (upd F 0 0) 23 (nI (m + 1))) (aset (aset (aset (aset (aset (aset (aset (aset (aset (aset A 21 (10 * m + 0) p) 21 (10 * m + 1) b) 21 (10 * m + 2) (-1)) 21 (10 * m + 3) (-1)) 22 (6 * m + 0) (-1)) 22 (6 * m + 1) (-1)) 22 (6 * m + 2) (-1)) 22 (6 * m + 3) (-1)) 22 (6 * m + 4) (-1)) 22 (6 * m + 5) (-1)) h)) : Mt l E yX11_stone cX11_stone 4 (some .int) 2 70 0 0 [.ref o, .int p, .int b] (mh E o ad F A h) P := by
  refine Mt.of (by decide) (Nat.le_of_ble_eq_true rfl) ?_
  intro K hK hR C
  refine g_aload_n (n := 1) C dX11_stone_0 rfl rfl ?_
  refine g_iconst (n := 2) (v := 0) C dX11_stone_1 rfl (by decide) ?_
  refine m_put (n := 5) 0 C dX11_stone_2 rfl (by decide) w_1100 rfl rfl rfl mfs_0 ?_
  refine g_aload_n (n := 6) C dX11_stone_5 rfl rfl ?_
  refine g_aload_n (n := 7) C dX11_stone_6 rfl rfl ?_
  refine g_iload_n (n := 8) C dX11_stone_7 rfl rfl ?_
  refine g_callV (n := 11) (As := [.int _]) C dX11_stone_8 rfl mw_X11_noPit w_1296 (g_recv C mh_o rfl) rfl rfl (room hR rfl) (ct_noPit (fun za8 zb8 => ?_) (fun za8 => ?_))
  · --k8.0
    obtain ⟨j, hj, rfl⟩ := ix_of za8 zb8 (show upd F 0 0 9 = nI n from hn) (by omega)
    have hj30 : j < 30 := by omega
    refine g_iconst (n := 12) (v := 1) C dX11_stone_11 rfl (by decide) ?_
    refine g_callV (n := 15) (As := [.int _, .int _]) C dX11_stone_12 rfl mw_X11_throwsIf w_1257 (g_recv C mh_o rfl) rfl rfl (room hR rfl) (ct_throwsIf0 ?_)
    refine g_if_ne (n := 18) (t := 85) C dX11_stone_15 rfl (by decide) (fun zc15 => ?_) (fun zc15 => ?_)
    · exact absurd zc15 (by decide)
    refine g_aload_n (n := 19) C dX11_stone_18 rfl rfl ?_
    refine g_iload_n (n := 20) C dX11_stone_19 rfl rfl ?_
    refine g_iconst (n := 21) (v := 0) C dX11_stone_20 rfl (by decide) ?_
    refine g_bipush (n := 23) (v := 99) C dX11_stone_21 rfl (by decide) ?_
    refine g_callS (n := 26) (As := [.int _, .int _, .int _]) C dX11_stone_23 rfl mw_X11_in w_1273 rfl rfl (room hR rfl) (ct_in (fun za23 zb23 => ?_) (fun za23 => ?_) (fun za23 zb23 => ?_))
    · --k23.0
      refine g_if_ne (n := 29) (t := 33) C dX11_stone_26 rfl (by decide) (fun zc26 => ?_) (fun zc26 => ?_)
      rotate_left
      · exact absurd zc26 (by decide)
      refine g_iconst (n := 34) (v := 0) C dX11_stone_33 rfl (by decide) ?_
      refine g_iconst (n := 35) (v := 2) C dX11_stone_34 rfl (by decide) ?_
      refine g_callV (n := 38) (As := [.int _, .int _]) C dX11_stone_35 rfl mw_X11_throwsIf w_1257 (g_recv C mh_o rfl) rfl rfl (room hR rfl) (ct_throwsIf0 ?_)
      refine g_if_ne (n := 41) (t := 85) C dX11_stone_38 rfl (by decide) (fun zc38 => ?_) (fun zc38 => ?_)
      · exact absurd zc38 (by decide)
      refine g_aload_n (n := 42) C dX11_stone_41 rfl rfl ?_
      refine g_aload_n (n := 43) C dX11_stone_42 rfl rfl ?_
      refine m_get (n := 46) 5 C dX11_stone_43 rfl (by decide) rfl w_1105 rfl ?_
      refine g_iload_n (n := 47) C dX11_stone_46 rfl rfl ?_
      refine m_iald (n := 48) 5 (j) C dX11_stone_47 rfl I (by decide) rfl rfl (by omega) (by decide) rfl ?_
      refine g_if_gt (n := 51) (t := 55) C dX11_stone_48 rfl (by decide) (fun zc48 => ?_) (fun zc48 => ?_)
      · --t48
        refine g_iconst (n := 56) (v := 0) C dX11_stone_55 rfl (by decide) ?_
        refine g_iconst (n := 57) (v := 3) C dX11_stone_56 rfl (by decide) ?_
        refine g_callV (n := 60) (As := [.int _, .int _]) C dX11_stone_57 rfl mw_X11_throwsIf w_1257 (g_recv C mh_o rfl) rfl rfl (room hR rfl) (ct_throwsIf0 ?_)
        refine g_if_ne (n := 63) (t := 85) C dX11_stone_60 rfl (by decide) (fun zc60 => ?_) (fun zc60 => ?_)
        · exact absurd zc60 (by decide)
        refine g_aload_n (n := 64) C dX11_stone_63 rfl rfl ?_
        refine g_aload_n (n := 65) C dX11_stone_64 rfl rfl ?_
        refine m_get (n := 68) 23 C dX11_stone_65 rfl (by decide) rfl w_1123 rfl ?_
        refine g_bipush (n := 70) (v := 60) C dX11_stone_68 rfl (by decide) ?_
        refine g_icmp_ne (n := 73) (t := 77) C dX11_stone_70 rfl (by decide) (fun zc70 => ?_) (fun zc70 => ?_)
        · --t70
          refine g_iconst (n := 78) (v := 0) C dX11_stone_77 rfl (by decide) ?_
          refine g_iconst (n := 79) (v := 4) C dX11_stone_78 rfl (by decide) ?_
          refine g_callV (n := 82) (As := [.int _, .int _]) C dX11_stone_79 rfl mw_X11_throwsIf w_1257 (g_recv C mh_o rfl) rfl rfl (room hR rfl) (ct_throwsIf0 ?_)
          refine g_if_eq (n := 85) (t := 87) C dX11_stone_82 rfl (by decide) (fun zc82 => ?_) (fun zc82 => ?_)
          rotate_left
          · exact absurd zc82 (by decide)
          have hlt : m < 60 := n_lt (show upd F 0 0 23 = nI m from hm) (by assumption) rfl hm6
          refine g_aload_n (n := 88) C dX11_stone_87 rfl rfl ?_
          refine m_get (n := 91) 21 C dX11_stone_88 rfl (by decide) rfl w_1121 rfl ?_
          refine g_bipush (n := 93) (v := 10) C dX11_stone_91 rfl (by decide) ?_
          refine g_aload_n (n := 94) C dX11_stone_93 rfl rfl ?_
          refine m_get (n := 97) 23 C dX11_stone_94 rfl (by decide) rfl w_1123 rfl ?_
          refine g_imul (n := 98) C dX11_stone_97 rfl ?_
          refine g_iload_n (n := 99) C dX11_stone_98 rfl rfl ?_
          refine m_iast (n := 100) 21 (10 * m + 0) C dX11_stone_99 rfl I (by decide) (fun _ => rfl) (ix10z hm) (by omega) (by decide) ?_
          refine g_aload_n (n := 101) C dX11_stone_100 rfl rfl ?_
          refine m_get (n := 104) 21 C dX11_stone_101 rfl (by decide) rfl w_1121 rfl ?_
          refine g_bipush (n := 106) (v := 10) C dX11_stone_104 rfl (by decide) ?_
          refine g_aload_n (n := 107) C dX11_stone_106 rfl rfl ?_
          refine m_get (n := 110) 23 C dX11_stone_107 rfl (by decide) rfl w_1123 rfl ?_
          refine g_imul (n := 111) C dX11_stone_110 rfl ?_
          refine g_iconst (n := 112) (v := 1) C dX11_stone_111 rfl (by decide) ?_
          refine g_iadd (n := 113) C dX11_stone_112 rfl ?_
          refine g_iload_n (n := 114) C dX11_stone_113 rfl rfl ?_
          refine m_iast (n := 115) 21 (10 * m + 1) C dX11_stone_114 rfl I (by decide) (fun _ => rfl) (ix10 hm 1) (by omega) (by decide) ?_
          refine g_aload_n (n := 116) C dX11_stone_115 rfl rfl ?_
          refine m_get (n := 119) 21 C dX11_stone_116 rfl (by decide) rfl w_1121 rfl ?_
          refine g_bipush (n := 121) (v := 10) C dX11_stone_119 rfl (by decide) ?_
          refine g_aload_n (n := 122) C dX11_stone_121 rfl rfl ?_
          refine m_get (n := 125) 23 C dX11_stone_122 rfl (by decide) rfl w_1123 rfl ?_
          refine g_imul (n := 126) C dX11_stone_125 rfl ?_
          refine g_iconst (n := 127) (v := 2) C dX11_stone_126 rfl (by decide) ?_
          refine g_iadd (n := 128) C dX11_stone_127 rfl ?_
          refine g_iconst (n := 129) (v := (-1)) C dX11_stone_128 rfl (by decide) ?_
          refine m_iast (n := 130) 21 (10 * m + 2) C dX11_stone_129 rfl I (by decide) (fun _ => rfl) (ix10 hm 2) (by omega) (by decide) ?_
          refine g_aload_n (n := 131) C dX11_stone_130 rfl rfl ?_
          refine m_get (n := 134) 21 C dX11_stone_131 rfl (by decide) rfl w_1121 rfl ?_
          refine g_bipush (n := 136) (v := 10) C dX11_stone_134 rfl (by decide) ?_
          refine g_aload_n (n := 137) C dX11_stone_136 rfl rfl ?_
          refine m_get (n := 140) 23 C dX11_stone_137 rfl (by decide) rfl w_1123 rfl ?_
          refine g_imul (n := 141) C dX11_stone_140 rfl ?_
          refine g_iconst (n := 142) (v := 3) C dX11_stone_141 rfl (by decide) ?_
          refine g_iadd (n := 143) C dX11_stone_142 rfl ?_
          refine g_iconst (n := 144) (v := (-1)) C dX11_stone_143 rfl (by decide) ?_
          refine m_iast (n := 145) 21 (10 * m + 3) C dX11_stone_144 rfl I (by decide) (fun _ => rfl) (ix10 hm 3) (by omega) (by decide) ?_
          refine g_iconst (n := 146) (v := 0) C dX11_stone_145 rfl (by decide) ?_
          refine g_istore_n (n := 147) C dX11_stone_146 rfl (by decide) ?_
          refine g_iload_n (n := 148) C dX11_stone_147 rfl rfl ?_
          refine g_bipush (n := 150) (v := 6) C dX11_stone_148 rfl (by decide) ?_
          refine g_icmp_ge (n := 153) (t := 174) C dX11_stone_150 rfl (by decide) (fun zc150 => ?_) (fun zc150 => ?_)
          · exact absurd zc150 (by decide)
          refine g_aload_n (n := 154) C dX11_stone_153 rfl rfl ?_
          refine m_get (n := 157) 22 C dX11_stone_154 rfl (by decide) rfl w_1122 rfl ?_
          refine g_bipush (n := 159) (v := 6) C dX11_stone_157 rfl (by decide) ?_
          refine g_aload_n (n := 160) C dX11_stone_159 rfl rfl ?_
          refine m_get (n := 163) 23 C dX11_stone_160 rfl (by decide) rfl w_1123 rfl ?_
          refine g_imul (n := 164) C dX11_stone_163 rfl ?_
          refine g_iload_n (n := 165) C dX11_stone_164 rfl rfl ?_
          refine g_iadd (n := 166) C dX11_stone_165 rfl ?_
          refine g_iconst (n := 167) (v := (-1)) C dX11_stone_166 rfl (by decide) ?_
          refine m_iast (n := 168) 22 (6 * m + 0) C dX11_stone_167 rfl I (by decide) (fun _ => rfl) (ix6 hm 0) (by omega) (by decide) ?_
          refine g_iinc (n := 171) (v := 1) C dX11_stone_168 rfl rfl (by decide) (by decide) ?_
          refine g_goto (t := 147) C dX11_stone_171 (by decide) ?_
          refine g_iload_n (n := 148) C dX11_stone_147 rfl rfl ?_
          refine g_bipush (n := 150) (v := 6) C dX11_stone_148 rfl (by decide) ?_
          refine g_icmp_ge (n := 153) (t := 174) C dX11_stone_150 rfl (by decide) (fun zc150 => ?_) (fun zc150 => ?_)
          · exact absurd zc150 (by decide)
          refine g_aload_n (n := 154) C dX11_stone_153 rfl rfl ?_
          refine m_get (n := 157) 22 C dX11_stone_154 rfl (by decide) rfl w_1122 rfl ?_
          refine g_bipush (n := 159) (v := 6) C dX11_stone_157 rfl (by decide) ?_
          refine g_aload_n (n := 160) C dX11_stone_159 rfl rfl ?_
          refine m_get (n := 163) 23 C dX11_stone_160 rfl (by decide) rfl w_1123 rfl ?_
          refine g_imul (n := 164) C dX11_stone_163 rfl ?_
          refine g_iload_n (n := 165) C dX11_stone_164 rfl rfl ?_
          refine g_iadd (n := 166) C dX11_stone_165 rfl ?_
          refine g_iconst (n := 167) (v := (-1)) C dX11_stone_166 rfl (by decide) ?_
          refine m_iast (n := 168) 22 (6 * m + 1) C dX11_stone_167 rfl I (by decide) (fun _ => rfl) (ix6 hm 1) (by omega) (by decide) ?_
          refine g_iinc (n := 171) (v := 2) C dX11_stone_168 rfl rfl (by decide) (by decide) ?_
          refine g_goto (t := 147) C dX11_stone_171 (by decide) ?_
          refine g_iload_n (n := 148) C dX11_stone_147 rfl rfl ?_
          refine g_bipush (n := 150) (v := 6) C dX11_stone_148 rfl (by decide) ?_
          refine g_icmp_ge (n := 153) (t := 174) C dX11_stone_150 rfl (by decide) (fun zc150 => ?_) (fun zc150 => ?_)
          · exact absurd zc150 (by decide)
          refine g_aload_n (n := 154) C dX11_stone_153 rfl rfl ?_
          refine m_get (n := 157) 22 C dX11_stone_154 rfl (by decide) rfl w_1122 rfl ?_
          refine g_bipush (n := 159) (v := 6) C dX11_stone_157 rfl (by decide) ?_
          refine g_aload_n (n := 160) C dX11_stone_159 rfl rfl ?_
          refine m_get (n := 163) 23 C dX11_stone_160 rfl (by decide) rfl w_1123 rfl ?_
          refine g_imul (n := 164) C dX11_stone_163 rfl ?_
          refine g_iload_n (n := 165) C dX11_stone_164 rfl rfl ?_
          refine g_iadd (n := 166) C dX11_stone_165 rfl ?_
          refine g_iconst (n := 167) (v := (-1)) C dX11_stone_166 rfl (by decide) ?_
          refine m_iast (n := 168) 22 (6 * m + 2) C dX11_stone_167 rfl I (by decide) (fun _ => rfl) (ix6 hm 2) (by omega) (by decide) ?_
          refine g_iinc (n := 171) (v := 3) C dX11_stone_168 rfl rfl (by decide) (by decide) ?_
          refine g_goto (t := 147) C dX11_stone_171 (by decide) ?_
          refine g_iload_n (n := 148) C dX11_stone_147 rfl rfl ?_
          refine g_bipush (n := 150) (v := 6) C dX11_stone_148 rfl (by decide) ?_
          refine g_icmp_ge (n := 153) (t := 174) C dX11_stone_150 rfl (by decide) (fun zc150 => ?_) (fun zc150 => ?_)
          · exact absurd zc150 (by decide)
          refine g_aload_n (n := 154) C dX11_stone_153 rfl rfl ?_
          refine m_get (n := 157) 22 C dX11_stone_154 rfl (by decide) rfl w_1122 rfl ?_
          refine g_bipush (n := 159) (v := 6) C dX11_stone_157 rfl (by decide) ?_
          refine g_aload_n (n := 160) C dX11_stone_159 rfl rfl ?_
          refine m_get (n := 163) 23 C dX11_stone_160 rfl (by decide) rfl w_1123 rfl ?_
          refine g_imul (n := 164) C dX11_stone_163 rfl ?_
          refine g_iload_n (n := 165) C dX11_stone_164 rfl rfl ?_
          refine g_iadd (n := 166) C dX11_stone_165 rfl ?_
          refine g_iconst (n := 167) (v := (-1)) C dX11_stone_166 rfl (by decide) ?_
          refine m_iast (n := 168) 22 (6 * m + 3) C dX11_stone_167 rfl I (by decide) (fun _ => rfl) (ix6 hm 3) (by omega) (by decide) ?_
          refine g_iinc (n := 171) (v := 4) C dX11_stone_168 rfl rfl (by decide) (by decide) ?_
          refine g_goto (t := 147) C dX11_stone_171 (by decide) ?_
          refine g_iload_n (n := 148) C dX11_stone_147 rfl rfl ?_
          refine g_bipush (n := 150) (v := 6) C dX11_stone_148 rfl (by decide) ?_
          refine g_icmp_ge (n := 153) (t := 174) C dX11_stone_150 rfl (by decide) (fun zc150 => ?_) (fun zc150 => ?_)
          · exact absurd zc150 (by decide)
          refine g_aload_n (n := 154) C dX11_stone_153 rfl rfl ?_
          refine m_get (n := 157) 22 C dX11_stone_154 rfl (by decide) rfl w_1122 rfl ?_
          refine g_bipush (n := 159) (v := 6) C dX11_stone_157 rfl (by decide) ?_
          refine g_aload_n (n := 160) C dX11_stone_159 rfl rfl ?_
          refine m_get (n := 163) 23 C dX11_stone_160 rfl (by decide) rfl w_1123 rfl ?_
          refine g_imul (n := 164) C dX11_stone_163 rfl ?_
          refine g_iload_n (n := 165) C dX11_stone_164 rfl rfl ?_
          refine g_iadd (n := 166) C dX11_stone_165 rfl ?_
          refine g_iconst (n := 167) (v := (-1)) C dX11_stone_166 rfl (by decide) ?_
          refine m_iast (n := 168) 22 (6 * m + 4) C dX11_stone_167 rfl I (by decide) (fun _ => rfl) (ix6 hm 4) (by omega) (by decide) ?_
          refine g_iinc (n := 171) (v := 5) C dX11_stone_168 rfl rfl (by decide) (by decide) ?_
          refine g_goto (t := 147) C dX11_stone_171 (by decide) ?_
          refine g_iload_n (n := 148) C dX11_stone_147 rfl rfl ?_
          refine g_bipush (n := 150) (v := 6) C dX11_stone_148 rfl (by decide) ?_
          refine g_icmp_ge (n := 153) (t := 174) C dX11_stone_150 rfl (by decide) (fun zc150 => ?_) (fun zc150 => ?_)
          · exact absurd zc150 (by decide)
          refine g_aload_n (n := 154) C dX11_stone_153 rfl rfl ?_
          refine m_get (n := 157) 22 C dX11_stone_154 rfl (by decide) rfl w_1122 rfl ?_
          refine g_bipush (n := 159) (v := 6) C dX11_stone_157 rfl (by decide) ?_
          refine g_aload_n (n := 160) C dX11_stone_159 rfl rfl ?_
          refine m_get (n := 163) 23 C dX11_stone_160 rfl (by decide) rfl w_1123 rfl ?_
          refine g_imul (n := 164) C dX11_stone_163 rfl ?_
          refine g_iload_n (n := 165) C dX11_stone_164 rfl rfl ?_
          refine g_iadd (n := 166) C dX11_stone_165 rfl ?_
          refine g_iconst (n := 167) (v := (-1)) C dX11_stone_166 rfl (by decide) ?_
          refine m_iast (n := 168) 22 (6 * m + 5) C dX11_stone_167 rfl I (by decide) (fun _ => rfl) (ix6 hm 5) (by omega) (by decide) ?_
          refine g_iinc (n := 171) (v := 6) C dX11_stone_168 rfl rfl (by decide) (by decide) ?_
          refine g_goto (t := 147) C dX11_stone_171 (by decide) ?_
          refine g_iload_n (n := 148) C dX11_stone_147 rfl rfl ?_
          refine g_bipush (n := 150) (v := 6) C dX11_stone_148 rfl (by decide) ?_
          refine g_icmp_ge (n := 153) (t := 174) C dX11_stone_150 rfl (by decide) (fun zc150 => ?_) (fun zc150 => ?_)
          rotate_left
          · exact absurd zc150 (by decide)
          refine g_aload_n (n := 175) C dX11_stone_174 rfl rfl ?_
          refine g_dup (n := 176) C dX11_stone_175 rfl rfl ?_
          refine m_get (n := 179) 23 C dX11_stone_176 rfl (by decide) rfl w_1123 rfl ?_
          refine g_iconst (n := 180) (v := 1) C dX11_stone_179 rfl (by decide) ?_
          refine g_iadd (n := 181) C dX11_stone_180 rfl ?_
          refine m_put (n := 184) 23 C dX11_stone_181 rfl (by decide) w_1123 rfl rfl rfl mfs_23 ?_
          refine g_aload_n (n := 185) C dX11_stone_184 rfl rfl ?_
          refine m_get (n := 188) 23 C dX11_stone_185 rfl (by decide) rfl w_1123 rfl ?_
          refine g_iconst (n := 189) (v := 1) C dX11_stone_188 rfl (by decide) ?_
          refine g_isub (n := 190) C dX11_stone_189 rfl ?_
          refine g_iret C dX11_stone_190 (by decide) (by decide) ?_
          have e1 : upd F 0 0 23 + 1 = nI (m + 1) := by
            show F 23 + 1 = _
            rw [hm]; exact nI_1 m
          have e2 : nI (m + 1) - 1 = nI m := nI_pred m
          rw [e1]
          show P (.int (nI (m + 1) - 1)) _
          rw [e2]
          exact k5 j hj rfl (n_or (by assumption) (by assumption)) (by assumption) hlt
        · --f70
          refine g_iconst (n := 74) (v := 1) C dX11_stone_73 rfl (by decide) ?_
          refine g_goto (t := 78) C dX11_stone_74 (by decide) ?_
          refine g_iconst (n := 79) (v := 4) C dX11_stone_78 rfl (by decide) ?_
          refine g_callV (n := 82) (As := [.int _, .int _]) C dX11_stone_79 rfl mw_X11_throwsIf w_1257 (g_recv C mh_o rfl) rfl rfl (room hR rfl) (ct_throwsIf1 ?_)
          refine g_if_eq (n := 85) (t := 87) C dX11_stone_82 rfl (by decide) (fun zc82 => ?_) (fun zc82 => ?_)
          · exact absurd zc82 (by decide)
          refine g_iconst (n := 86) (v := 0) C dX11_stone_85 rfl (by decide) ?_
          refine g_iret C dX11_stone_86 (by decide) (by decide) ?_
          first | exact k1 (by assumption) | exact k2 j hj rfl (Or.inl (by assumption)) | exact k2 j hj rfl (Or.inr (by assumption)) | exact k3 j hj rfl (n_or (by assumption) (by assumption)) (by assumption) | exact k4 j hj rfl (n_or (by assumption) (by assumption)) (by assumption) (n_eq (show upd F 0 0 23 = nI m from hm) (by assumption) rfl (by omega) (by decide))
      · --f48
        refine g_iconst (n := 52) (v := 1) C dX11_stone_51 rfl (by decide) ?_
        refine g_goto (t := 56) C dX11_stone_52 (by decide) ?_
        refine g_iconst (n := 57) (v := 3) C dX11_stone_56 rfl (by decide) ?_
        refine g_callV (n := 60) (As := [.int _, .int _]) C dX11_stone_57 rfl mw_X11_throwsIf w_1257 (g_recv C mh_o rfl) rfl rfl (room hR rfl) (ct_throwsIf1 ?_)
        refine g_if_ne (n := 63) (t := 85) C dX11_stone_60 rfl (by decide) (fun zc60 => ?_) (fun zc60 => ?_)
        rotate_left
        · exact absurd zc60 (by decide)
        refine g_iconst (n := 86) (v := 0) C dX11_stone_85 rfl (by decide) ?_
        refine g_iret C dX11_stone_86 (by decide) (by decide) ?_
        first | exact k1 (by assumption) | exact k2 j hj rfl (Or.inl (by assumption)) | exact k2 j hj rfl (Or.inr (by assumption)) | exact k3 j hj rfl (n_or (by assumption) (by assumption)) (by assumption) | exact k4 j hj rfl (n_or (by assumption) (by assumption)) (by assumption) (n_eq (show upd F 0 0 23 = nI m from hm) (by assumption) rfl (by omega) (by decide))
    · --k23.1
      refine g_if_ne (n := 29) (t := 33) C dX11_stone_26 rfl (by decide) (fun zc26 => ?_) (fun zc26 => ?_)
      · exact absurd zc26 (by decide)
      refine g_iconst (n := 30) (v := 1) C dX11_stone_29 rfl (by decide) ?_
      refine g_goto (t := 34) C dX11_stone_30 (by decide) ?_
      refine g_iconst (n := 35) (v := 2) C dX11_stone_34 rfl (by decide) ?_
      refine g_callV (n := 38) (As := [.int _, .int _]) C dX11_stone_35 rfl mw_X11_throwsIf w_1257 (g_recv C mh_o rfl) rfl rfl (room hR rfl) (ct_throwsIf1 ?_)
      refine g_if_ne (n := 41) (t := 85) C dX11_stone_38 rfl (by decide) (fun zc38 => ?_) (fun zc38 => ?_)
      rotate_left
      · exact absurd zc38 (by decide)
      refine g_iconst (n := 86) (v := 0) C dX11_stone_85 rfl (by decide) ?_
      refine g_iret C dX11_stone_86 (by decide) (by decide) ?_
      first | exact k1 (by assumption) | exact k2 j hj rfl (Or.inl (by assumption)) | exact k2 j hj rfl (Or.inr (by assumption)) | exact k3 j hj rfl (n_or (by assumption) (by assumption)) (by assumption) | exact k4 j hj rfl (n_or (by assumption) (by assumption)) (by assumption) (n_eq (show upd F 0 0 23 = nI m from hm) (by assumption) rfl (by omega) (by decide))
    · --k23.2
      refine g_if_ne (n := 29) (t := 33) C dX11_stone_26 rfl (by decide) (fun zc26 => ?_) (fun zc26 => ?_)
      · exact absurd zc26 (by decide)
      refine g_iconst (n := 30) (v := 1) C dX11_stone_29 rfl (by decide) ?_
      refine g_goto (t := 34) C dX11_stone_30 (by decide) ?_
      refine g_iconst (n := 35) (v := 2) C dX11_stone_34 rfl (by decide) ?_
      refine g_callV (n := 38) (As := [.int _, .int _]) C dX11_stone_35 rfl mw_X11_throwsIf w_1257 (g_recv C mh_o rfl) rfl rfl (room hR rfl) (ct_throwsIf1 ?_)
      refine g_if_ne (n := 41) (t := 85) C dX11_stone_38 rfl (by decide) (fun zc38 => ?_) (fun zc38 => ?_)
      rotate_left
      · exact absurd zc38 (by decide)
      refine g_iconst (n := 86) (v := 0) C dX11_stone_85 rfl (by decide) ?_
      refine g_iret C dX11_stone_86 (by decide) (by decide) ?_
      first | exact k1 (by assumption) | exact k2 j hj rfl (Or.inl (by assumption)) | exact k2 j hj rfl (Or.inr (by assumption)) | exact k3 j hj rfl (n_or (by assumption) (by assumption)) (by assumption) | exact k4 j hj rfl (n_or (by assumption) (by assumption)) (by assumption) (n_eq (show upd F 0 0 23 = nI m from hm) (by assumption) rfl (by omega) (by decide))
  · --k8.1
    refine g_iconst (n := 12) (v := 1) C dX11_stone_11 rfl (by decide) ?_
    refine g_callV (n := 15) (As := [.int _, .int _]) C dX11_stone_12 rfl mw_X11_throwsIf w_1257 (g_recv C mh_o rfl) rfl rfl (room hR rfl) (ct_throwsIf1 ?_)
    refine g_if_ne (n := 18) (t := 85) C dX11_stone_15 rfl (by decide) (fun zc15 => ?_) (fun zc15 => ?_)
    rotate_left
    · exact absurd zc15 (by decide)
    refine g_iconst (n := 86) (v := 0) C dX11_stone_85 rfl (by decide) ?_
    refine g_iret C dX11_stone_86 (by decide) (by decide) ?_
    first | exact k1 (by assumption) | exact k2 j hj rfl (Or.inl (by assumption)) | exact k2 j hj rfl (Or.inr (by assumption)) | exact k3 j hj rfl (n_or (by assumption) (by assumption)) (by assumption) | exact k4 j hj rfl (n_or (by assumption) (by assumption)) (by assumption) (n_eq (show upd F 0 0 23 = nI m from hm) (by assumption) rfl (by omega) (by decide))
theorem dX11_lay_0 : decode cX11_lay 0 = .ok (.aload_n 0, 1) := by decide +kernel
theorem dX11_lay_1 : decode cX11_lay 1 = .ok (.iconst 0, 1) := by decide +kernel
theorem dX11_lay_2 : decode cX11_lay 2 = .ok (.putfield 76, 3) := by decide +kernel
theorem dX11_lay_5 : decode cX11_lay 5 = .ok (.aload_n 0, 1) := by decide +kernel
theorem dX11_lay_6 : decode cX11_lay 6 = .ok (.iload_n 1, 1) := by decide +kernel
theorem dX11_lay_7 : decode cX11_lay 7 = .ok (.iconst 0, 1) := by decide +kernel
theorem dX11_lay_8 : decode cX11_lay 8 = .ok (.ldc 133, 2) := by decide +kernel
theorem dX11_lay_10 : decode cX11_lay 10 = .ok (.invokestatic 79, 3) := by decide +kernel
theorem dX11_lay_13 : decode cX11_lay 13 = .ok (.ifCond .eq 14, 3) := by decide +kernel
theorem dX11_lay_16 : decode cX11_lay 16 = .ok (.aload_n 0, 1) := by decide +kernel
theorem dX11_lay_17 : decode cX11_lay 17 = .ok (.getfield 206, 3) := by decide +kernel
theorem dX11_lay_20 : decode cX11_lay 20 = .ok (.iload_n 1, 1) := by decide +kernel
theorem dX11_lay_21 : decode cX11_lay 21 = .ok (.iadd, 1) := by decide +kernel
theorem dX11_lay_22 : decode cX11_lay 22 = .ok (.ldc 208, 2) := by decide +kernel
theorem dX11_lay_24 : decode cX11_lay 24 = .ok (.if_icmp .le 7, 3) := by decide +kernel
theorem dX11_lay_27 : decode cX11_lay 27 = .ok (.iconst 1, 1) := by decide +kernel
theorem dX11_lay_28 : decode cX11_lay 28 = .ok (.goto 4, 3) := by decide +kernel
theorem dX11_lay_31 : decode cX11_lay 31 = .ok (.iconst 0, 1) := by decide +kernel
theorem dX11_lay_32 : decode cX11_lay 32 = .ok (.iconst 1, 1) := by decide +kernel
theorem dX11_lay_33 : decode cX11_lay 33 = .ok (.invokevirtual 162, 3) := by decide +kernel
theorem dX11_lay_36 : decode cX11_lay 36 = .ok (.ifCond .eq 5, 3) := by decide +kernel
theorem dX11_lay_39 : decode cX11_lay 39 = .ok (.iconst 0, 1) := by decide +kernel
theorem dX11_lay_40 : decode cX11_lay 40 = .ok (.ireturn, 1) := by decide +kernel
theorem dX11_lay_41 : decode cX11_lay 41 = .ok (.aload_n 0, 1) := by decide +kernel
theorem dX11_lay_42 : decode cX11_lay 42 = .ok (.dup, 1) := by decide +kernel
theorem dX11_lay_43 : decode cX11_lay 43 = .ok (.getfield 206, 3) := by decide +kernel
theorem dX11_lay_46 : decode cX11_lay 46 = .ok (.iload_n 1, 1) := by decide +kernel
theorem dX11_lay_47 : decode cX11_lay 47 = .ok (.iadd, 1) := by decide +kernel
theorem dX11_lay_48 : decode cX11_lay 48 = .ok (.putfield 206, 3) := by decide +kernel
theorem dX11_lay_51 : decode cX11_lay 51 = .ok (.aload_n 0, 1) := by decide +kernel
theorem dX11_lay_52 : decode cX11_lay 52 = .ok (.getfield 206, 3) := by decide +kernel
theorem dX11_lay_55 : decode cX11_lay 55 = .ok (.ireturn, 1) := by decide +kernel
set_option maxHeartbeats 400000 in
set_option maxRecDepth 20000 in
theorem ct_lay {l : Launch} {E : Ev} {P : Value → AH → Prop} {o : Nat} {ad : Nat → Nat} {F : Nat → Int32} {A : Nat → Nat → Int32} {h : AH} {p : Int32} (k1 : (p < 0 ∨ 100000 < p) ∨ 10000000 < F 24 + p → P (.int 0) (mh E o ad (upd (upd F 0 0) 0 1) A h)) (k2 : ¬ ((p < 0 ∨ 100000 < p) ∨ 10000000 < F 24 + p) → P (.int (F 24 + p)) (mh E o ad (upd (upd F 0 0) 24 (F 24 + p)) A h)) : Mt l E yX11_lay cX11_lay 2 (some .int) 2 70 0 0 [.ref o, .int p] (mh E o ad F A h) P := by
  refine Mt.of (by decide) (Nat.le_of_ble_eq_true rfl) ?_
  intro K hK hR C
  refine g_aload_n (n := 1) C dX11_lay_0 rfl rfl ?_
  refine g_iconst (n := 2) (v := 0) C dX11_lay_1 rfl (by decide) ?_
  refine m_put (n := 5) 0 C dX11_lay_2 rfl (by decide) w_1100 rfl rfl rfl mfs_0 ?_
  refine g_aload_n (n := 6) C dX11_lay_5 rfl rfl ?_
  refine g_iload_n (n := 7) C dX11_lay_6 rfl rfl ?_
  refine g_iconst (n := 8) (v := 0) C dX11_lay_7 rfl (by decide) ?_
  refine g_ldc (n := 10) C dX11_lay_8 rfl w_1243 ?_
  refine g_callS (n := 13) (As := [.int _, .int _, .int _]) C dX11_lay_10 rfl mw_X11_in w_1273 rfl rfl (room hR rfl) (ct_in (fun za10 zb10 => ?_) (fun za10 => ?_) (fun za10 zb10 => ?_))
  · --k10.0
    refine g_if_eq (n := 16) (t := 27) C dX11_lay_13 rfl (by decide) (fun zc13 => ?_) (fun zc13 => ?_)
    · exact absurd zc13 (by decide)
    refine g_aload_n (n := 17) C dX11_lay_16 rfl rfl ?_
    refine m_get (n := 20) 24 C dX11_lay_17 rfl (by decide) rfl w_1124 rfl ?_
    refine g_iload_n (n := 21) C dX11_lay_20 rfl rfl ?_
    refine g_iadd (n := 22) C dX11_lay_21 rfl ?_
    refine g_ldc (n := 24) C dX11_lay_22 rfl w_1341 ?_
    refine g_icmp_le (n := 27) (t := 31) C dX11_lay_24 rfl (by decide) (fun zc24 => ?_) (fun zc24 => ?_)
    · --t24
      refine g_iconst (n := 32) (v := 0) C dX11_lay_31 rfl (by decide) ?_
      refine g_iconst (n := 33) (v := 1) C dX11_lay_32 rfl (by decide) ?_
      refine g_callV (n := 36) (As := [.int _, .int _]) C dX11_lay_33 rfl mw_X11_throwsIf w_1257 (g_recv C mh_o rfl) rfl rfl (room hR rfl) (ct_throwsIf0 ?_)
      refine g_if_eq (n := 39) (t := 41) C dX11_lay_36 rfl (by decide) (fun zc36 => ?_) (fun zc36 => ?_)
      rotate_left
      · exact absurd zc36 (by decide)
      refine g_aload_n (n := 42) C dX11_lay_41 rfl rfl ?_
      refine g_dup (n := 43) C dX11_lay_42 rfl rfl ?_
      refine m_get (n := 46) 24 C dX11_lay_43 rfl (by decide) rfl w_1124 rfl ?_
      refine g_iload_n (n := 47) C dX11_lay_46 rfl rfl ?_
      refine g_iadd (n := 48) C dX11_lay_47 rfl ?_
      refine m_put (n := 51) 24 C dX11_lay_48 rfl (by decide) w_1124 rfl rfl rfl mfs_24 ?_
      refine g_aload_n (n := 52) C dX11_lay_51 rfl rfl ?_
      refine m_get (n := 55) 24 C dX11_lay_52 rfl (by decide) rfl w_1124 rfl ?_
      refine g_iret C dX11_lay_55 (by decide) (by decide) ?_
      first | exact k1 (Or.inl (Or.inl (by assumption))) | exact k1 (Or.inl (Or.inr (by assumption))) | exact k1 (Or.inr (by assumption)) | exact k2 (n_or (n_or (by assumption) (by assumption)) (Int32.not_lt.mpr (by assumption))) | exact k1 (Or.inr (Int32.not_le.mp (by assumption)))
    · --f24
      refine g_iconst (n := 28) (v := 1) C dX11_lay_27 rfl (by decide) ?_
      refine g_goto (t := 32) C dX11_lay_28 (by decide) ?_
      refine g_iconst (n := 33) (v := 1) C dX11_lay_32 rfl (by decide) ?_
      refine g_callV (n := 36) (As := [.int _, .int _]) C dX11_lay_33 rfl mw_X11_throwsIf w_1257 (g_recv C mh_o rfl) rfl rfl (room hR rfl) (ct_throwsIf1 ?_)
      refine g_if_eq (n := 39) (t := 41) C dX11_lay_36 rfl (by decide) (fun zc36 => ?_) (fun zc36 => ?_)
      · exact absurd zc36 (by decide)
      refine g_iconst (n := 40) (v := 0) C dX11_lay_39 rfl (by decide) ?_
      refine g_iret C dX11_lay_40 (by decide) (by decide) ?_
      first | exact k1 (Or.inl (Or.inl (by assumption))) | exact k1 (Or.inl (Or.inr (by assumption))) | exact k1 (Or.inr (by assumption)) | exact k2 (n_or (n_or (by assumption) (by assumption)) (Int32.not_lt.mpr (by assumption))) | exact k1 (Or.inr (Int32.not_le.mp (by assumption)))
  · --k10.1
    refine g_if_eq (n := 16) (t := 27) C dX11_lay_13 rfl (by decide) (fun zc13 => ?_) (fun zc13 => ?_)
    rotate_left
    · exact absurd zc13 (by decide)
    refine g_iconst (n := 28) (v := 1) C dX11_lay_27 rfl (by decide) ?_
    refine g_goto (t := 32) C dX11_lay_28 (by decide) ?_
    refine g_iconst (n := 33) (v := 1) C dX11_lay_32 rfl (by decide) ?_
    refine g_callV (n := 36) (As := [.int _, .int _]) C dX11_lay_33 rfl mw_X11_throwsIf w_1257 (g_recv C mh_o rfl) rfl rfl (room hR rfl) (ct_throwsIf1 ?_)
    refine g_if_eq (n := 39) (t := 41) C dX11_lay_36 rfl (by decide) (fun zc36 => ?_) (fun zc36 => ?_)
    · exact absurd zc36 (by decide)
    refine g_iconst (n := 40) (v := 0) C dX11_lay_39 rfl (by decide) ?_
    refine g_iret C dX11_lay_40 (by decide) (by decide) ?_
    first | exact k1 (Or.inl (Or.inl (by assumption))) | exact k1 (Or.inl (Or.inr (by assumption))) | exact k1 (Or.inr (by assumption)) | exact k2 (n_or (n_or (by assumption) (by assumption)) (Int32.not_lt.mpr (by assumption))) | exact k1 (Or.inr (Int32.not_le.mp (by assumption)))
  · --k10.2
    refine g_if_eq (n := 16) (t := 27) C dX11_lay_13 rfl (by decide) (fun zc13 => ?_) (fun zc13 => ?_)
    rotate_left
    · exact absurd zc13 (by decide)
    refine g_iconst (n := 28) (v := 1) C dX11_lay_27 rfl (by decide) ?_
    refine g_goto (t := 32) C dX11_lay_28 (by decide) ?_
    refine g_iconst (n := 33) (v := 1) C dX11_lay_32 rfl (by decide) ?_
    refine g_callV (n := 36) (As := [.int _, .int _]) C dX11_lay_33 rfl mw_X11_throwsIf w_1257 (g_recv C mh_o rfl) rfl rfl (room hR rfl) (ct_throwsIf1 ?_)
    refine g_if_eq (n := 39) (t := 41) C dX11_lay_36 rfl (by decide) (fun zc36 => ?_) (fun zc36 => ?_)
    · exact absurd zc36 (by decide)
    refine g_iconst (n := 40) (v := 0) C dX11_lay_39 rfl (by decide) ?_
    refine g_iret C dX11_lay_40 (by decide) (by decide) ?_
    first | exact k1 (Or.inl (Or.inl (by assumption))) | exact k1 (Or.inl (Or.inr (by assumption))) | exact k1 (Or.inr (by assumption)) | exact k2 (n_or (n_or (by assumption) (by assumption)) (Int32.not_lt.mpr (by assumption))) | exact k1 (Or.inr (Int32.not_le.mp (by assumption)))
theorem dX11_hand_0 : decode cX11_hand 0 = .ok (.aload_n 0, 1) := by decide +kernel
theorem dX11_hand_1 : decode cX11_hand 1 = .ok (.iconst 0, 1) := by decide +kernel
theorem dX11_hand_2 : decode cX11_hand 2 = .ok (.putfield 76, 3) := by decide +kernel
theorem dX11_hand_5 : decode cX11_hand 5 = .ok (.aload_n 0, 1) := by decide +kernel
theorem dX11_hand_6 : decode cX11_hand 6 = .ok (.aload_n 0, 1) := by decide +kernel
theorem dX11_hand_7 : decode cX11_hand 7 = .ok (.iload_n 1, 1) := by decide +kernel
theorem dX11_hand_8 : decode cX11_hand 8 = .ok (.invokevirtual 209, 3) := by decide +kernel
theorem dX11_hand_11 : decode cX11_hand 11 = .ok (.ifCond .ne 12, 3) := by decide +kernel
theorem dX11_hand_14 : decode cX11_hand 14 = .ok (.iload_n 2, 1) := by decide +kernel
theorem dX11_hand_15 : decode cX11_hand 15 = .ok (.iconst 0, 1) := by decide +kernel
theorem dX11_hand_16 : decode cX11_hand 16 = .ok (.iconst 5, 1) := by decide +kernel
theorem dX11_hand_17 : decode cX11_hand 17 = .ok (.invokestatic 79, 3) := by decide +kernel
theorem dX11_hand_20 : decode cX11_hand 20 = .ok (.ifCond .ne 7, 3) := by decide +kernel
theorem dX11_hand_23 : decode cX11_hand 23 = .ok (.iconst 1, 1) := by decide +kernel
theorem dX11_hand_24 : decode cX11_hand 24 = .ok (.goto 4, 3) := by decide +kernel
theorem dX11_hand_27 : decode cX11_hand 27 = .ok (.iconst 0, 1) := by decide +kernel
theorem dX11_hand_28 : decode cX11_hand 28 = .ok (.iconst 1, 1) := by decide +kernel
theorem dX11_hand_29 : decode cX11_hand 29 = .ok (.invokevirtual 162, 3) := by decide +kernel
theorem dX11_hand_32 : decode cX11_hand 32 = .ok (.ifCond .ne 40, 3) := by decide +kernel
theorem dX11_hand_35 : decode cX11_hand 35 = .ok (.aload_n 0, 1) := by decide +kernel
theorem dX11_hand_36 : decode cX11_hand 36 = .ok (.iload_n 3, 1) := by decide +kernel
theorem dX11_hand_37 : decode cX11_hand 37 = .ok (.iconst 0, 1) := by decide +kernel
theorem dX11_hand_38 : decode cX11_hand 38 = .ok (.ldc 212, 2) := by decide +kernel
theorem dX11_hand_40 : decode cX11_hand 40 = .ok (.invokestatic 79, 3) := by decide +kernel
theorem dX11_hand_43 : decode cX11_hand 43 = .ok (.ifCond .ne 7, 3) := by decide +kernel
theorem dX11_hand_46 : decode cX11_hand 46 = .ok (.iconst 1, 1) := by decide +kernel
theorem dX11_hand_47 : decode cX11_hand 47 = .ok (.goto 4, 3) := by decide +kernel
theorem dX11_hand_50 : decode cX11_hand 50 = .ok (.iconst 0, 1) := by decide +kernel
theorem dX11_hand_51 : decode cX11_hand 51 = .ok (.iconst 2, 1) := by decide +kernel
theorem dX11_hand_52 : decode cX11_hand 52 = .ok (.invokevirtual 162, 3) := by decide +kernel
theorem dX11_hand_55 : decode cX11_hand 55 = .ok (.ifCond .ne 17, 3) := by decide +kernel
theorem dX11_hand_58 : decode cX11_hand 58 = .ok (.aload_n 0, 1) := by decide +kernel
theorem dX11_hand_59 : decode cX11_hand 59 = .ok (.getfield 51, 3) := by decide +kernel
theorem dX11_hand_62 : decode cX11_hand 62 = .ok (.bipush 10, 2) := by decide +kernel
theorem dX11_hand_64 : decode cX11_hand 64 = .ok (.iload_n 1, 1) := by decide +kernel
theorem dX11_hand_65 : decode cX11_hand 65 = .ok (.imul, 1) := by decide +kernel
theorem dX11_hand_66 : decode cX11_hand 66 = .ok (.iconst 2, 1) := by decide +kernel
theorem dX11_hand_67 : decode cX11_hand 67 = .ok (.iadd, 1) := by decide +kernel
theorem dX11_hand_68 : decode cX11_hand 68 = .ok (.iaload, 1) := by decide +kernel
theorem dX11_hand_69 : decode cX11_hand 69 = .ok (.ifCond .lt 5, 3) := by decide +kernel
theorem dX11_hand_72 : decode cX11_hand 72 = .ok (.iconst 0, 1) := by decide +kernel
theorem dX11_hand_73 : decode cX11_hand 73 = .ok (.ireturn, 1) := by decide +kernel
theorem dX11_hand_74 : decode cX11_hand 74 = .ok (.aload_n 0, 1) := by decide +kernel
theorem dX11_hand_75 : decode cX11_hand 75 = .ok (.getfield 54, 3) := by decide +kernel
theorem dX11_hand_78 : decode cX11_hand 78 = .ok (.bipush 6, 2) := by decide +kernel
theorem dX11_hand_80 : decode cX11_hand 80 = .ok (.iload_n 1, 1) := by decide +kernel
theorem dX11_hand_81 : decode cX11_hand 81 = .ok (.imul, 1) := by decide +kernel
theorem dX11_hand_82 : decode cX11_hand 82 = .ok (.iload_n 2, 1) := by decide +kernel
theorem dX11_hand_83 : decode cX11_hand 83 = .ok (.iadd, 1) := by decide +kernel
theorem dX11_hand_84 : decode cX11_hand 84 = .ok (.iload_n 3, 1) := by decide +kernel
theorem dX11_hand_85 : decode cX11_hand 85 = .ok (.iastore, 1) := by decide +kernel
theorem dX11_hand_86 : decode cX11_hand 86 = .ok (.iconst 1, 1) := by decide +kernel
theorem dX11_hand_87 : decode cX11_hand 87 = .ok (.ireturn, 1) := by decide +kernel
set_option maxHeartbeats 400000 in
set_option maxRecDepth 20000 in
theorem ct_hand {l : Launch} {E : Ev} {P : Value → AH → Prop} {o : Nat} {ad : Nat → Nat} {F : Nat → Int32} {A : Nat → Nat → Int32} {h : AH} (I : mI o ad) {m : Nat} (hm : F 23 = nI m) (hm6 : m ≤ 60) {s b x : Int32} (k1 : s < 0 ∨ F 23 - 1 < s → P (.int 0) (mh E o ad (upd (upd F 0 0) 0 1) A h)) (k2 : ∀ j, j < m → s = nI j → (b < 0 ∨ 5 < b) → P (.int 0) (mh E o ad (upd (upd F 0 0) 0 1) A h)) (k3 : ∀ j, j < m → s = nI j → ∀ i, i < 6 → b = nI i → (x < 0 ∨ 1000000 < x) → P (.int 0) (mh E o ad (upd (upd F 0 0) 0 2) A h)) (k4 : ∀ j, j < m → s = nI j → ∀ i, i < 6 → b = nI i → ¬ (x < 0 ∨ 1000000 < x) → ¬ A 21 (10 * j + 2) < 0 → P (.int 0) (mh E o ad (upd F 0 0) A h)) (k5 : ∀ j, j < m → s = nI j → ∀ i, i < 6 → b = nI i → ¬ (x < 0 ∨ 1000000 < x) → A 21 (10 * j + 2) < 0 → P (.int 1) (mh E o ad (upd F 0 0) (aset A 22 (6 * j + i) x) h)) : Mt l E yX11_hand cX11_hand 4 (some .boolean) 2 70 0 0 [.ref o, .int s, .int b, .int x] (mh E o ad F A h) P := by
  refine Mt.of (by decide) (Nat.le_of_ble_eq_true rfl) ?_
  intro K hK hR C
  refine g_aload_n (n := 1) C dX11_hand_0 rfl rfl ?_
  refine g_iconst (n := 2) (v := 0) C dX11_hand_1 rfl (by decide) ?_
  refine m_put (n := 5) 0 C dX11_hand_2 rfl (by decide) w_1100 rfl rfl rfl mfs_0 ?_
  refine g_aload_n (n := 6) C dX11_hand_5 rfl rfl ?_
  refine g_aload_n (n := 7) C dX11_hand_6 rfl rfl ?_
  refine g_iload_n (n := 8) C dX11_hand_7 rfl rfl ?_
  refine g_callV (n := 11) (As := [.int _]) C dX11_hand_8 rfl mw_X11_noStone w_1346 (g_recv C mh_o rfl) rfl rfl (room hR rfl) (ct_noStone (fun za8 zb8 => ?_) (fun za8 => ?_))
  · --k8.0
    obtain ⟨j, hj, rfl⟩ := ix_of za8 zb8 (show upd F 0 0 23 = nI m from hm) (by omega)
    refine g_if_ne (n := 14) (t := 23) C dX11_hand_11 rfl (by decide) (fun zc11 => ?_) (fun zc11 => ?_)
    · exact absurd zc11 (by decide)
    refine g_iload_n (n := 15) C dX11_hand_14 rfl rfl ?_
    refine g_iconst (n := 16) (v := 0) C dX11_hand_15 rfl (by decide) ?_
    refine g_iconst (n := 17) (v := 5) C dX11_hand_16 rfl (by decide) ?_
    refine g_callS (n := 20) (As := [.int _, .int _, .int _]) C dX11_hand_17 rfl mw_X11_in w_1273 rfl rfl (room hR rfl) (ct_in (fun za17 zb17 => ?_) (fun za17 => ?_) (fun za17 zb17 => ?_))
    · --k17.0
      refine g_if_ne (n := 23) (t := 27) C dX11_hand_20 rfl (by decide) (fun zc20 => ?_) (fun zc20 => ?_)
      rotate_left
      · exact absurd zc20 (by decide)
      refine g_iconst (n := 28) (v := 0) C dX11_hand_27 rfl (by decide) ?_
      refine g_iconst (n := 29) (v := 1) C dX11_hand_28 rfl (by decide) ?_
      refine g_callV (n := 32) (As := [.int _, .int _]) C dX11_hand_29 rfl mw_X11_throwsIf w_1257 (g_recv C mh_o rfl) rfl rfl (room hR rfl) (ct_throwsIf0 ?_)
      refine g_if_ne (n := 35) (t := 72) C dX11_hand_32 rfl (by decide) (fun zc32 => ?_) (fun zc32 => ?_)
      · exact absurd zc32 (by decide)
      obtain ⟨i, hi, rfl⟩ := rng_of 5 (by decide) za17 zb17
      refine g_aload_n (n := 36) C dX11_hand_35 rfl rfl ?_
      refine g_iload_n (n := 37) C dX11_hand_36 rfl rfl ?_
      refine g_iconst (n := 38) (v := 0) C dX11_hand_37 rfl (by decide) ?_
      refine g_ldc (n := 40) C dX11_hand_38 rfl w_1350 ?_
      refine g_callS (n := 43) (As := [.int _, .int _, .int _]) C dX11_hand_40 rfl mw_X11_in w_1273 rfl rfl (room hR rfl) (ct_in (fun za40 zb40 => ?_) (fun za40 => ?_) (fun za40 zb40 => ?_))
      · --k40.0
        refine g_if_ne (n := 46) (t := 50) C dX11_hand_43 rfl (by decide) (fun zc43 => ?_) (fun zc43 => ?_)
        rotate_left
        · exact absurd zc43 (by decide)
        refine g_iconst (n := 51) (v := 0) C dX11_hand_50 rfl (by decide) ?_
        refine g_iconst (n := 52) (v := 2) C dX11_hand_51 rfl (by decide) ?_
        refine g_callV (n := 55) (As := [.int _, .int _]) C dX11_hand_52 rfl mw_X11_throwsIf w_1257 (g_recv C mh_o rfl) rfl rfl (room hR rfl) (ct_throwsIf0 ?_)
        refine g_if_ne (n := 58) (t := 72) C dX11_hand_55 rfl (by decide) (fun zc55 => ?_) (fun zc55 => ?_)
        · exact absurd zc55 (by decide)
        refine g_aload_n (n := 59) C dX11_hand_58 rfl rfl ?_
        refine m_get (n := 62) 21 C dX11_hand_59 rfl (by decide) rfl w_1121 rfl ?_
        refine g_bipush (n := 64) (v := 10) C dX11_hand_62 rfl (by decide) ?_
        refine g_iload_n (n := 65) C dX11_hand_64 rfl rfl ?_
        refine g_imul (n := 66) C dX11_hand_65 rfl ?_
        refine g_iconst (n := 67) (v := 2) C dX11_hand_66 rfl (by decide) ?_
        refine g_iadd (n := 68) C dX11_hand_67 rfl ?_
        refine m_iald (n := 69) 21 (10 * j + 2) C dX11_hand_68 rfl I (by decide) rfl (ix10 rfl 2) (by omega) (by decide) rfl ?_
        refine g_if_lt (n := 72) (t := 74) C dX11_hand_69 rfl (by decide) (fun zc69 => ?_) (fun zc69 => ?_)
        · --t69
          refine g_aload_n (n := 75) C dX11_hand_74 rfl rfl ?_
          refine m_get (n := 78) 22 C dX11_hand_75 rfl (by decide) rfl w_1122 rfl ?_
          refine g_bipush (n := 80) (v := 6) C dX11_hand_78 rfl (by decide) ?_
          refine g_iload_n (n := 81) C dX11_hand_80 rfl rfl ?_
          refine g_imul (n := 82) C dX11_hand_81 rfl ?_
          refine g_iload_n (n := 83) C dX11_hand_82 rfl rfl ?_
          refine g_iadd (n := 84) C dX11_hand_83 rfl ?_
          refine g_iload_n (n := 85) C dX11_hand_84 rfl rfl ?_
          refine m_iast (n := 86) 22 (6 * j + i) C dX11_hand_85 rfl I (by decide) (fun _ => rfl) (ix6 rfl i) (by omega) (by decide) ?_
          refine g_iconst (n := 87) (v := 1) C dX11_hand_86 rfl (by decide) ?_
          refine g_zret C dX11_hand_87 (by decide) (by decide) (by rfl) ?_
          first | exact k1 (by assumption) | exact k2 j hj rfl (Or.inl (by assumption)) | exact k2 j hj rfl (Or.inr (by assumption)) | exact k3 j hj rfl i hi rfl (Or.inl (by assumption)) | exact k3 j hj rfl i hi rfl (Or.inr (by assumption)) | exact k4 j hj rfl i hi rfl (n_or (by assumption) (by assumption)) (by assumption) | exact k5 j hj rfl i hi rfl (n_or (by assumption) (by assumption)) (by assumption)
        · --f69
          refine g_iconst (n := 73) (v := 0) C dX11_hand_72 rfl (by decide) ?_
          refine g_zret C dX11_hand_73 (by decide) (by decide) (by rfl) ?_
          first | exact k1 (by assumption) | exact k2 j hj rfl (Or.inl (by assumption)) | exact k2 j hj rfl (Or.inr (by assumption)) | exact k3 j hj rfl i hi rfl (Or.inl (by assumption)) | exact k3 j hj rfl i hi rfl (Or.inr (by assumption)) | exact k4 j hj rfl i hi rfl (n_or (by assumption) (by assumption)) (by assumption) | exact k5 j hj rfl i hi rfl (n_or (by assumption) (by assumption)) (by assumption)
      · --k40.1
        refine g_if_ne (n := 46) (t := 50) C dX11_hand_43 rfl (by decide) (fun zc43 => ?_) (fun zc43 => ?_)
        · exact absurd zc43 (by decide)
        refine g_iconst (n := 47) (v := 1) C dX11_hand_46 rfl (by decide) ?_
        refine g_goto (t := 51) C dX11_hand_47 (by decide) ?_
        refine g_iconst (n := 52) (v := 2) C dX11_hand_51 rfl (by decide) ?_
        refine g_callV (n := 55) (As := [.int _, .int _]) C dX11_hand_52 rfl mw_X11_throwsIf w_1257 (g_recv C mh_o rfl) rfl rfl (room hR rfl) (ct_throwsIf1 ?_)
        refine g_if_ne (n := 58) (t := 72) C dX11_hand_55 rfl (by decide) (fun zc55 => ?_) (fun zc55 => ?_)
        rotate_left
        · exact absurd zc55 (by decide)
        refine g_iconst (n := 73) (v := 0) C dX11_hand_72 rfl (by decide) ?_
        refine g_zret C dX11_hand_73 (by decide) (by decide) (by rfl) ?_
        first | exact k1 (by assumption) | exact k2 j hj rfl (Or.inl (by assumption)) | exact k2 j hj rfl (Or.inr (by assumption)) | exact k3 j hj rfl i hi rfl (Or.inl (by assumption)) | exact k3 j hj rfl i hi rfl (Or.inr (by assumption)) | exact k4 j hj rfl i hi rfl (n_or (by assumption) (by assumption)) (by assumption) | exact k5 j hj rfl i hi rfl (n_or (by assumption) (by assumption)) (by assumption)
      · --k40.2
        refine g_if_ne (n := 46) (t := 50) C dX11_hand_43 rfl (by decide) (fun zc43 => ?_) (fun zc43 => ?_)
        · exact absurd zc43 (by decide)
        refine g_iconst (n := 47) (v := 1) C dX11_hand_46 rfl (by decide) ?_
        refine g_goto (t := 51) C dX11_hand_47 (by decide) ?_
        refine g_iconst (n := 52) (v := 2) C dX11_hand_51 rfl (by decide) ?_
        refine g_callV (n := 55) (As := [.int _, .int _]) C dX11_hand_52 rfl mw_X11_throwsIf w_1257 (g_recv C mh_o rfl) rfl rfl (room hR rfl) (ct_throwsIf1 ?_)
        refine g_if_ne (n := 58) (t := 72) C dX11_hand_55 rfl (by decide) (fun zc55 => ?_) (fun zc55 => ?_)
        rotate_left
        · exact absurd zc55 (by decide)
        refine g_iconst (n := 73) (v := 0) C dX11_hand_72 rfl (by decide) ?_
        refine g_zret C dX11_hand_73 (by decide) (by decide) (by rfl) ?_
        first | exact k1 (by assumption) | exact k2 j hj rfl (Or.inl (by assumption)) | exact k2 j hj rfl (Or.inr (by assumption)) | exact k3 j hj rfl i hi rfl (Or.inl (by assumption)) | exact k3 j hj rfl i hi rfl (Or.inr (by assumption)) | exact k4 j hj rfl i hi rfl (n_or (by assumption) (by assumption)) (by assumption) | exact k5 j hj rfl i hi rfl (n_or (by assumption) (by assumption)) (by assumption)
    · --k17.1
      refine g_if_ne (n := 23) (t := 27) C dX11_hand_20 rfl (by decide) (fun zc20 => ?_) (fun zc20 => ?_)
      · exact absurd zc20 (by decide)
      refine g_iconst (n := 24) (v := 1) C dX11_hand_23 rfl (by decide) ?_
      refine g_goto (t := 28) C dX11_hand_24 (by decide) ?_
      refine g_iconst (n := 29) (v := 1) C dX11_hand_28 rfl (by decide) ?_
      refine g_callV (n := 32) (As := [.int _, .int _]) C dX11_hand_29 rfl mw_X11_throwsIf w_1257 (g_recv C mh_o rfl) rfl rfl (room hR rfl) (ct_throwsIf1 ?_)
      refine g_if_ne (n := 35) (t := 72) C dX11_hand_32 rfl (by decide) (fun zc32 => ?_) (fun zc32 => ?_)
      rotate_left
      · exact absurd zc32 (by decide)
      refine g_iconst (n := 73) (v := 0) C dX11_hand_72 rfl (by decide) ?_
      refine g_zret C dX11_hand_73 (by decide) (by decide) (by rfl) ?_
      first | exact k1 (by assumption) | exact k2 j hj rfl (Or.inl (by assumption)) | exact k2 j hj rfl (Or.inr (by assumption)) | exact k3 j hj rfl i hi rfl (Or.inl (by assumption)) | exact k3 j hj rfl i hi rfl (Or.inr (by assumption)) | exact k4 j hj rfl i hi rfl (n_or (by assumption) (by assumption)) (by assumption) | exact k5 j hj rfl i hi rfl (n_or (by assumption) (by assumption)) (by assumption)
    · --k17.2
      refine g_if_ne (n := 23) (t := 27) C dX11_hand_20 rfl (by decide) (fun zc20 => ?_) (fun zc20 => ?_)
      · exact absurd zc20 (by decide)
      refine g_iconst (n := 24) (v := 1) C dX11_hand_23 rfl (by decide) ?_
      refine g_goto (t := 28) C dX11_hand_24 (by decide) ?_
      refine g_iconst (n := 29) (v := 1) C dX11_hand_28 rfl (by decide) ?_
      refine g_callV (n := 32) (As := [.int _, .int _]) C dX11_hand_29 rfl mw_X11_throwsIf w_1257 (g_recv C mh_o rfl) rfl rfl (room hR rfl) (ct_throwsIf1 ?_)
      refine g_if_ne (n := 35) (t := 72) C dX11_hand_32 rfl (by decide) (fun zc32 => ?_) (fun zc32 => ?_)
      rotate_left
      · exact absurd zc32 (by decide)
      refine g_iconst (n := 73) (v := 0) C dX11_hand_72 rfl (by decide) ?_
      refine g_zret C dX11_hand_73 (by decide) (by decide) (by rfl) ?_
      first | exact k1 (by assumption) | exact k2 j hj rfl (Or.inl (by assumption)) | exact k2 j hj rfl (Or.inr (by assumption)) | exact k3 j hj rfl i hi rfl (Or.inl (by assumption)) | exact k3 j hj rfl i hi rfl (Or.inr (by assumption)) | exact k4 j hj rfl i hi rfl (n_or (by assumption) (by assumption)) (by assumption) | exact k5 j hj rfl i hi rfl (n_or (by assumption) (by assumption)) (by assumption)
  · --k8.1
    refine g_if_ne (n := 14) (t := 23) C dX11_hand_11 rfl (by decide) (fun zc11 => ?_) (fun zc11 => ?_)
    rotate_left
    · exact absurd zc11 (by decide)
    refine g_iconst (n := 24) (v := 1) C dX11_hand_23 rfl (by decide) ?_
    refine g_goto (t := 28) C dX11_hand_24 (by decide) ?_
    refine g_iconst (n := 29) (v := 1) C dX11_hand_28 rfl (by decide) ?_
    refine g_callV (n := 32) (As := [.int _, .int _]) C dX11_hand_29 rfl mw_X11_throwsIf w_1257 (g_recv C mh_o rfl) rfl rfl (room hR rfl) (ct_throwsIf1 ?_)
    refine g_if_ne (n := 35) (t := 72) C dX11_hand_32 rfl (by decide) (fun zc32 => ?_) (fun zc32 => ?_)
    rotate_left
    · exact absurd zc32 (by decide)
    refine g_iconst (n := 73) (v := 0) C dX11_hand_72 rfl (by decide) ?_
    refine g_zret C dX11_hand_73 (by decide) (by decide) (by rfl) ?_
    first | exact k1 (by assumption) | exact k2 j hj rfl (Or.inl (by assumption)) | exact k2 j hj rfl (Or.inr (by assumption)) | exact k3 j hj rfl i hi rfl (Or.inl (by assumption)) | exact k3 j hj rfl i hi rfl (Or.inr (by assumption)) | exact k4 j hj rfl i hi rfl (n_or (by assumption) (by assumption)) (by assumption) | exact k5 j hj rfl i hi rfl (n_or (by assumption) (by assumption)) (by assumption)
theorem dX11_part_0 : decode cX11_part 0 = .ok (.aload_n 0, 1) := by decide +kernel
theorem dX11_part_1 : decode cX11_part 1 = .ok (.iconst 0, 1) := by decide +kernel
theorem dX11_part_2 : decode cX11_part 2 = .ok (.putfield 76, 3) := by decide +kernel
theorem dX11_part_5 : decode cX11_part 5 = .ok (.aload_n 0, 1) := by decide +kernel
theorem dX11_part_6 : decode cX11_part 6 = .ok (.aload_n 0, 1) := by decide +kernel
theorem dX11_part_7 : decode cX11_part 7 = .ok (.iload_n 1, 1) := by decide +kernel
theorem dX11_part_8 : decode cX11_part 8 = .ok (.invokevirtual 209, 3) := by decide +kernel
theorem dX11_part_11 : decode cX11_part 11 = .ok (.iconst 1, 1) := by decide +kernel
theorem dX11_part_12 : decode cX11_part 12 = .ok (.invokevirtual 162, 3) := by decide +kernel
theorem dX11_part_15 : decode cX11_part 15 = .ok (.ifCond .ne 26, 3) := by decide +kernel
theorem dX11_part_18 : decode cX11_part 18 = .ok (.aload_n 0, 1) := by decide +kernel
theorem dX11_part_19 : decode cX11_part 19 = .ok (.iload_n 2, 1) := by decide +kernel
theorem dX11_part_20 : decode cX11_part 20 = .ok (.iconst 0, 1) := by decide +kernel
theorem dX11_part_21 : decode cX11_part 21 = .ok (.bipush 9, 2) := by decide +kernel
theorem dX11_part_23 : decode cX11_part 23 = .ok (.invokestatic 79, 3) := by decide +kernel
theorem dX11_part_26 : decode cX11_part 26 = .ok (.ifCond .ne 7, 3) := by decide +kernel
theorem dX11_part_29 : decode cX11_part 29 = .ok (.iconst 1, 1) := by decide +kernel
theorem dX11_part_30 : decode cX11_part 30 = .ok (.goto 4, 3) := by decide +kernel
theorem dX11_part_33 : decode cX11_part 33 = .ok (.iconst 0, 1) := by decide +kernel
theorem dX11_part_34 : decode cX11_part 34 = .ok (.iconst 2, 1) := by decide +kernel
theorem dX11_part_35 : decode cX11_part 35 = .ok (.invokevirtual 162, 3) := by decide +kernel
theorem dX11_part_38 : decode cX11_part 38 = .ok (.ifCond .eq 7, 3) := by decide +kernel
theorem dX11_part_41 : decode cX11_part 41 = .ok (.iconst 0, 1) := by decide +kernel
theorem dX11_part_42 : decode cX11_part 42 = .ok (.goto 14, 3) := by decide +kernel
theorem dX11_part_45 : decode cX11_part 45 = .ok (.aload_n 0, 1) := by decide +kernel
theorem dX11_part_46 : decode cX11_part 46 = .ok (.getfield 51, 3) := by decide +kernel
theorem dX11_part_49 : decode cX11_part 49 = .ok (.bipush 10, 2) := by decide +kernel
theorem dX11_part_51 : decode cX11_part 51 = .ok (.iload_n 1, 1) := by decide +kernel
theorem dX11_part_52 : decode cX11_part 52 = .ok (.imul, 1) := by decide +kernel
theorem dX11_part_53 : decode cX11_part 53 = .ok (.iload_n 2, 1) := by decide +kernel
theorem dX11_part_54 : decode cX11_part 54 = .ok (.iadd, 1) := by decide +kernel
theorem dX11_part_55 : decode cX11_part 55 = .ok (.iaload, 1) := by decide +kernel
theorem dX11_part_56 : decode cX11_part 56 = .ok (.ireturn, 1) := by decide +kernel
set_option maxHeartbeats 400000 in
set_option maxRecDepth 20000 in
theorem ct_part {l : Launch} {E : Ev} {P : Value → AH → Prop} {o : Nat} {ad : Nat → Nat} {F : Nat → Int32} {A : Nat → Nat → Int32} {h : AH} (I : mI o ad) {m : Nat} (hm : F 23 = nI m) (hm6 : m ≤ 60) {s w : Int32} (k1 : s < 0 ∨ F 23 - 1 < s → P (.int 0) (mh E o ad (upd (upd F 0 0) 0 1) A h)) (k2 : ∀ j, j < m → s = nI j → (w < 0 ∨ 9 < w) → P (.int 0) (mh E o ad (upd (upd F 0 0) 0 2) A h)) (k3 : ∀ j, j < m → s = nI j → ∀ i, i < 10 → w = nI i → P (.int (A 21 (10 * j + i))) (mh E o ad (upd F 0 0) A h)) : Mt l E yX11_part cX11_part 3 (some .int) 2 70 0 0 [.ref o, .int s, .int w] (mh E o ad F A h) P := by
  refine Mt.of (by decide) (Nat.le_of_ble_eq_true rfl) ?_
  intro K hK hR C
  refine g_aload_n (n := 1) C dX11_part_0 rfl rfl ?_
  refine g_iconst (n := 2) (v := 0) C dX11_part_1 rfl (by decide) ?_
  refine m_put (n := 5) 0 C dX11_part_2 rfl (by decide) w_1100 rfl rfl rfl mfs_0 ?_
  refine g_aload_n (n := 6) C dX11_part_5 rfl rfl ?_
  refine g_aload_n (n := 7) C dX11_part_6 rfl rfl ?_
  refine g_iload_n (n := 8) C dX11_part_7 rfl rfl ?_
  refine g_callV (n := 11) (As := [.int _]) C dX11_part_8 rfl mw_X11_noStone w_1346 (g_recv C mh_o rfl) rfl rfl (room hR rfl) (ct_noStone (fun za8 zb8 => ?_) (fun za8 => ?_))
  · --k8.0
    obtain ⟨j, hj, rfl⟩ := ix_of za8 zb8 (show upd F 0 0 23 = nI m from hm) (by omega)
    refine g_iconst (n := 12) (v := 1) C dX11_part_11 rfl (by decide) ?_
    refine g_callV (n := 15) (As := [.int _, .int _]) C dX11_part_12 rfl mw_X11_throwsIf w_1257 (g_recv C mh_o rfl) rfl rfl (room hR rfl) (ct_throwsIf0 ?_)
    refine g_if_ne (n := 18) (t := 41) C dX11_part_15 rfl (by decide) (fun zc15 => ?_) (fun zc15 => ?_)
    · exact absurd zc15 (by decide)
    refine g_aload_n (n := 19) C dX11_part_18 rfl rfl ?_
    refine g_iload_n (n := 20) C dX11_part_19 rfl rfl ?_
    refine g_iconst (n := 21) (v := 0) C dX11_part_20 rfl (by decide) ?_
    refine g_bipush (n := 23) (v := 9) C dX11_part_21 rfl (by decide) ?_
    refine g_callS (n := 26) (As := [.int _, .int _, .int _]) C dX11_part_23 rfl mw_X11_in w_1273 rfl rfl (room hR rfl) (ct_in (fun za23 zb23 => ?_) (fun za23 => ?_) (fun za23 zb23 => ?_))
    · --k23.0
      refine g_if_ne (n := 29) (t := 33) C dX11_part_26 rfl (by decide) (fun zc26 => ?_) (fun zc26 => ?_)
      rotate_left
      · exact absurd zc26 (by decide)
      refine g_iconst (n := 34) (v := 0) C dX11_part_33 rfl (by decide) ?_
      refine g_iconst (n := 35) (v := 2) C dX11_part_34 rfl (by decide) ?_
      refine g_callV (n := 38) (As := [.int _, .int _]) C dX11_part_35 rfl mw_X11_throwsIf w_1257 (g_recv C mh_o rfl) rfl rfl (room hR rfl) (ct_throwsIf0 ?_)
      refine g_if_eq (n := 41) (t := 45) C dX11_part_38 rfl (by decide) (fun zc38 => ?_) (fun zc38 => ?_)
      rotate_left
      · exact absurd zc38 (by decide)
      obtain ⟨i, hi, rfl⟩ := rng_of 9 (by decide) za23 zb23
      refine g_aload_n (n := 46) C dX11_part_45 rfl rfl ?_
      refine m_get (n := 49) 21 C dX11_part_46 rfl (by decide) rfl w_1121 rfl ?_
      refine g_bipush (n := 51) (v := 10) C dX11_part_49 rfl (by decide) ?_
      refine g_iload_n (n := 52) C dX11_part_51 rfl rfl ?_
      refine g_imul (n := 53) C dX11_part_52 rfl ?_
      refine g_iload_n (n := 54) C dX11_part_53 rfl rfl ?_
      refine g_iadd (n := 55) C dX11_part_54 rfl ?_
      refine m_iald (n := 56) 21 (10 * j + i) C dX11_part_55 rfl I (by decide) rfl (ix10 rfl i) (by omega) (by decide) rfl ?_
      refine g_iret C dX11_part_56 (by decide) (by decide) ?_
      first | exact k1 (by assumption) | exact k2 j hj rfl (Or.inl (by assumption)) | exact k2 j hj rfl (Or.inr (by assumption)) | exact k3 j hj rfl i hi rfl
    · --k23.1
      refine g_if_ne (n := 29) (t := 33) C dX11_part_26 rfl (by decide) (fun zc26 => ?_) (fun zc26 => ?_)
      · exact absurd zc26 (by decide)
      refine g_iconst (n := 30) (v := 1) C dX11_part_29 rfl (by decide) ?_
      refine g_goto (t := 34) C dX11_part_30 (by decide) ?_
      refine g_iconst (n := 35) (v := 2) C dX11_part_34 rfl (by decide) ?_
      refine g_callV (n := 38) (As := [.int _, .int _]) C dX11_part_35 rfl mw_X11_throwsIf w_1257 (g_recv C mh_o rfl) rfl rfl (room hR rfl) (ct_throwsIf1 ?_)
      refine g_if_eq (n := 41) (t := 45) C dX11_part_38 rfl (by decide) (fun zc38 => ?_) (fun zc38 => ?_)
      · exact absurd zc38 (by decide)
      refine g_iconst (n := 42) (v := 0) C dX11_part_41 rfl (by decide) ?_
      refine g_goto (t := 56) C dX11_part_42 (by decide) ?_
      refine g_iret C dX11_part_56 (by decide) (by decide) ?_
      first | exact k1 (by assumption) | exact k2 j hj rfl (Or.inl (by assumption)) | exact k2 j hj rfl (Or.inr (by assumption)) | exact k3 j hj rfl i hi rfl
    · --k23.2
      refine g_if_ne (n := 29) (t := 33) C dX11_part_26 rfl (by decide) (fun zc26 => ?_) (fun zc26 => ?_)
      · exact absurd zc26 (by decide)
      refine g_iconst (n := 30) (v := 1) C dX11_part_29 rfl (by decide) ?_
      refine g_goto (t := 34) C dX11_part_30 (by decide) ?_
      refine g_iconst (n := 35) (v := 2) C dX11_part_34 rfl (by decide) ?_
      refine g_callV (n := 38) (As := [.int _, .int _]) C dX11_part_35 rfl mw_X11_throwsIf w_1257 (g_recv C mh_o rfl) rfl rfl (room hR rfl) (ct_throwsIf1 ?_)
      refine g_if_eq (n := 41) (t := 45) C dX11_part_38 rfl (by decide) (fun zc38 => ?_) (fun zc38 => ?_)
      · exact absurd zc38 (by decide)
      refine g_iconst (n := 42) (v := 0) C dX11_part_41 rfl (by decide) ?_
      refine g_goto (t := 56) C dX11_part_42 (by decide) ?_
      refine g_iret C dX11_part_56 (by decide) (by decide) ?_
      first | exact k1 (by assumption) | exact k2 j hj rfl (Or.inl (by assumption)) | exact k2 j hj rfl (Or.inr (by assumption)) | exact k3 j hj rfl i hi rfl
  · --k8.1
    refine g_iconst (n := 12) (v := 1) C dX11_part_11 rfl (by decide) ?_
    refine g_callV (n := 15) (As := [.int _, .int _]) C dX11_part_12 rfl mw_X11_throwsIf w_1257 (g_recv C mh_o rfl) rfl rfl (room hR rfl) (ct_throwsIf1 ?_)
    refine g_if_ne (n := 18) (t := 41) C dX11_part_15 rfl (by decide) (fun zc15 => ?_) (fun zc15 => ?_)
    rotate_left
    · exact absurd zc15 (by decide)
    refine g_iconst (n := 42) (v := 0) C dX11_part_41 rfl (by decide) ?_
    refine g_goto (t := 56) C dX11_part_42 (by decide) ?_
    refine g_iret C dX11_part_56 (by decide) (by decide) ?_
    first | exact k1 (by assumption) | exact k2 j hj rfl (Or.inl (by assumption)) | exact k2 j hj rfl (Or.inr (by assumption)) | exact k3 j hj rfl i hi rfl
end
section
theorem ixp {x : Int32} {a : Nat} (hx : x = nI a) (c k : Nat) : x + nI c + nI k = nI (a + c + k) := by rw [hx, nI_add, nI_add]
theorem ixq {x : Int32} {a : Nat} (hx : x = nI a) (c : Nat) : x + nI c = nI (a + c) := by rw [hx, nI_add]
theorem aset_self {A : Nat → Nat → Int32} {k j : Nat} {x : Int32} (h : A k j = x) : aset A k j x = A := by
  funext a b
  unfold aset
  by_cases h1 : a = k
  · rw [if_pos h1]
    by_cases h2 : b = j
    · rw [if_pos h2, h1, h2, h]
    · rw [if_neg h2]
  · rw [if_neg h1]
theorem aset_rd (A : Nat → Nat → Int32) {k j b : Nat} (x : Int32) (h : b ≠ j) : aset A k j x k b = A k b := aset_ne A x (fun q => h q.2)
def rsh (B : Nat → Nat → Int32) (lf : Int32) (k : Nat) : Int32 := lf * B 11 k / 100
def rle (B : Nat → Nat → Int32) (lf : Int32) : Int32 := imax 0 (imin (rsh B lf 3) (B 11 6 - B 25 3))
def rdi (B : Nat → Nat → Int32) (lf : Int32) : Int32 := rsh B lf 4 + (lf - rsh B lf 1 - rsh B lf 2 - rle B lf - rsh B lf 4 - rsh B lf 5)
/-- a price's parts, laid down from place a on: what is left behind the costs is lf -/
def rs1 (B : Nat → Nat → Int32) (a : Nat) (lf : Int32) : Nat → Nat → Int32 := aset B 21 (a + 4 + 1) (rsh B lf 1)
def rs2 (B : Nat → Nat → Int32) (a : Nat) (lf : Int32) : Nat → Nat → Int32 := aset (rs1 B a lf) 21 (a + 4 + 2) (rsh B lf 2)
def rs3 (B : Nat → Nat → Int32) (a : Nat) (lf : Int32) : Nat → Nat → Int32 := aset (rs2 B a lf) 21 (a + 4 + 3) (rle B lf)
def rs4 (B : Nat → Nat → Int32) (a : Nat) (lf : Int32) : Nat → Nat → Int32 := aset (rs3 B a lf) 21 (a + 4 + 4) (rsh B lf 4)
def rs5 (B : Nat → Nat → Int32) (a : Nat) (lf : Int32) : Nat → Nat → Int32 := aset (rs4 B a lf) 21 (a + 4 + 5) (rsh B lf 5)
def rst0 (B : Nat → Nat → Int32) (a : Nat) (lf : Int32) : Nat → Nat → Int32 := aset (rs5 B a lf) 21 (a + 8) (rdi B lf)
theorem rs1_r (B : Nat → Nat → Int32) (a : Nat) (lf : Int32) {k : Nat} (h : k ≠ 21) : rs1 B a lf k = B k := aset_row _ _ _ h
theorem rs2_r (B : Nat → Nat → Int32) (a : Nat) (lf : Int32) {k : Nat} (h : k ≠ 21) : rs2 B a lf k = B k := (aset_row _ _ _ h).trans (rs1_r B a lf h)
theorem rs3_r (B : Nat → Nat → Int32) (a : Nat) (lf : Int32) {k : Nat} (h : k ≠ 21) : rs3 B a lf k = B k := (aset_row _ _ _ h).trans (rs2_r B a lf h)
theorem rs4_r (B : Nat → Nat → Int32) (a : Nat) (lf : Int32) {k : Nat} (h : k ≠ 21) : rs4 B a lf k = B k := (aset_row _ _ _ h).trans (rs3_r B a lf h)
theorem rs5_r (B : Nat → Nat → Int32) (a : Nat) (lf : Int32) {k : Nat} (h : k ≠ 21) : rs5 B a lf k = B k := (aset_row _ _ _ h).trans (rs4_r B a lf h)
theorem rst0_r (B : Nat → Nat → Int32) (a : Nat) (lf : Int32) {k : Nat} (h : k ≠ 21) : rst0 B a lf k = B k := (aset_row _ _ _ h).trans (rs5_r B a lf h)
def rh1 (B : Nat → Nat → Int32) (a : Nat) (lf : Int32) : Nat → Nat → Int32 := aset (rst0 B a lf) 25 1 (B 25 1 + rsh B lf 1)
def rh2 (B : Nat → Nat → Int32) (a : Nat) (lf : Int32) : Nat → Nat → Int32 := aset (rh1 B a lf) 25 2 (B 25 2 + rsh B lf 2)
def rh3 (B : Nat → Nat → Int32) (a : Nat) (lf : Int32) : Nat → Nat → Int32 := aset (rh2 B a lf) 25 3 (B 25 3 + rle B lf)
def rh4 (B : Nat → Nat → Int32) (a : Nat) (lf : Int32) : Nat → Nat → Int32 := aset (rh3 B a lf) 25 4 (B 25 4 + rdi B lf)
def rtail (B : Nat → Nat → Int32) (a : Nat) (lf : Int32) : Nat → Nat → Int32 := aset (rh4 B a lf) 25 5 (B 25 5 + rsh B lf 5)
theorem rh1_21 (B : Nat → Nat → Int32) (a : Nat) (lf : Int32) : rh1 B a lf 21 = rst0 B a lf 21 := aset_row _ _ _ (by decide)
theorem rh2_21 (B : Nat → Nat → Int32) (a : Nat) (lf : Int32) : rh2 B a lf 21 = rst0 B a lf 21 := (aset_row _ _ _ (by decide)).trans (rh1_21 B a lf)
theorem rh3_21 (B : Nat → Nat → Int32) (a : Nat) (lf : Int32) : rh3 B a lf 21 = rst0 B a lf 21 := (aset_row _ _ _ (by decide)).trans (rh2_21 B a lf)
theorem rh4_21 (B : Nat → Nat → Int32) (a : Nat) (lf : Int32) : rh4 B a lf 21 = rst0 B a lf 21 := (aset_row _ _ _ (by decide)).trans (rh3_21 B a lf)
theorem rh0_25 (B : Nat → Nat → Int32) (a : Nat) (lf : Int32) (k : Nat) : rst0 B a lf 25 k = B 25 k := by rw [rst0_r B a lf (by decide)]
theorem rh1_25 (B : Nat → Nat → Int32) (a : Nat) (lf : Int32) {k : Nat} (h : 1 < k) : rh1 B a lf 25 k = B 25 k := (aset_rd _ _ (by omega)).trans (rh0_25 B a lf k)
theorem rh2_25 (B : Nat → Nat → Int32) (a : Nat) (lf : Int32) {k : Nat} (h : 2 < k) : rh2 B a lf 25 k = B 25 k := (aset_rd _ _ (by omega)).trans (rh1_25 B a lf (by omega))
theorem rh3_25 (B : Nat → Nat → Int32) (a : Nat) (lf : Int32) {k : Nat} (h : 3 < k) : rh3 B a lf 25 k = B 25 k := (aset_rd _ _ (by omega)).trans (rh2_25 B a lf (by omega))
theorem rh4_25 (B : Nat → Nat → Int32) (a : Nat) (lf : Int32) {k : Nat} (h : 4 < k) : rh4 B a lf 25 k = B 25 k := (aset_rd _ _ (by omega)).trans (rh3_25 B a lf (by omega))
theorem rsh_0 {B : Nat → Nat → Int32} {lf : Int32} {k : Nat} (h : B 11 k = 0) : rsh B lf k = 0 := by
  unfold rsh
  rw [h, Int32.mul_zero]
  decide
theorem rle_0 {B : Nat → Nat → Int32} {lf : Int32} (h : B 11 3 = 0) : rle B lf = 0 := by
  unfold rle imax imin
  rw [rsh_0 h]
  by_cases c : B 11 6 - B 25 3 < 0
  · rw [if_pos c, if_neg (fun q => absurd (Int32.lt_trans q c) (by decide))]
  · rw [if_neg c]; rfl
theorem rdi_0 {B : Nat → Nat → Int32} {lf : Int32} (h : ∀ k, B 11 k = 0) : rdi B lf = lf := by
  unfold rdi
  rw [rle_0 (h 3), rsh_0 (h 1), rsh_0 (h 2), rsh_0 (h 4), rsh_0 (h 5)]
  simp
theorem rst0_0 {B : Nat → Nat → Int32} {a : Nat} {lf : Int32} (h : ∀ k, B 11 k = 0) (z : ∀ k, 1 ≤ k → k < 6 → B 21 (a + 4 + k) = 0) : aset B 21 (a + 8) (0 + lf) = rst0 B a lf := by
  unfold rst0 rs5 rs4 rs3 rs2 rs1
  rw [rdi_0 h, rle_0 (h 3), rsh_0 (h 1), rsh_0 (h 2), rsh_0 (h 4), rsh_0 (h 5), aset_self (z 1 (by omega) (by omega)), aset_self (z 2 (by omega) (by omega)), aset_self (z 3 (by omega) (by omega)), aset_self (z 4 (by omega) (by omega)), aset_self (z 5 (by omega) (by omega)), Int32.zero_add]
theorem rst0_rd1 (B : Nat → Nat → Int32) (a : Nat) (lf : Int32) : rst0 B a lf 21 (a + 4 + 1) = rsh B lf 1 := by
  unfold rst0 rs5 rs4 rs3 rs2 rs1
  rw [aset_rd _ _ (by omega), aset_rd _ _ (by omega), aset_rd _ _ (by omega), aset_rd _ _ (by omega), aset_rd _ _ (by omega), aset_same]
theorem rst0_rd2 (B : Nat → Nat → Int32) (a : Nat) (lf : Int32) : rst0 B a lf 21 (a + 4 + 2) = rsh B lf 2 := by
  unfold rst0 rs5 rs4 rs3 rs2 rs1
  rw [aset_rd _ _ (by omega), aset_rd _ _ (by omega), aset_rd _ _ (by omega), aset_rd _ _ (by omega), aset_same]
theorem rst0_rd3 (B : Nat → Nat → Int32) (a : Nat) (lf : Int32) : rst0 B a lf 21 (a + 4 + 3) = rle B lf := by
  unfold rst0 rs5 rs4 rs3 rs2 rs1
  rw [aset_rd _ _ (by omega), aset_rd _ _ (by omega), aset_rd _ _ (by omega), aset_same]
theorem rst0_rd4 (B : Nat → Nat → Int32) (a : Nat) (lf : Int32) : rst0 B a lf 21 (a + 4 + 4) = rdi B lf := by
  unfold rst0
  exact aset_same _ _ _ _
theorem rst0_rd5 (B : Nat → Nat → Int32) (a : Nat) (lf : Int32) : rst0 B a lf 21 (a + 4 + 5) = rsh B lf 5 := by
  unfold rst0 rs5 rs4 rs3 rs2 rs1
  rw [aset_rd _ _ (by omega), aset_same]
def rco (F : Nat → Int32) (A : Nat → Nat → Int32) (x : Int32) : Int32 := if A 11 0 = 1 then imin (F 24) x else 0
/-- .. all that a sale at price x does to the reference's numbers and arrays -/
def rpF (F : Nat → Int32) (A : Nat → Nat → Int32) (x : Int32) : Nat → Int32 := upd F 24 (F 24 - rco F A x)
def rpA (F : Nat → Int32) (A : Nat → Nat → Int32) (a : Nat) (x : Int32) : Nat → Nat → Int32 := rtail (aset A 21 (a + 4) (rco F A x)) a (x - rco F A x)
theorem upd_self {F : Nat → Int32} {k : Nat} {x : Int32} (h : F k = x) : upd F k x = F := by
  funext j
  unfold upd
  by_cases q : j = k
  · rw [if_pos q, q, h]
  · rw [if_neg q]
theorem rp_no {F : Nat → Int32} {A : Nat → Nat → Int32} {x : Int32} (h : ¬ A 11 0 = 1) {a : Nat} (z : A 21 (a + 4) = 0) : rpF F A x = F ∧ rpA F A a x = rtail A a x := by
  have e : rco F A x = 0 := if_neg h
  unfold rpF rpA
  rw [e, aset_self z, Int32.sub_zero, Int32.sub_zero]
  exact ⟨upd_self rfl, rfl⟩
theorem dX11_parts_0 : decode cX11_parts 0 = .ok (.iload_n 2, 1) := by decide +kernel
theorem dX11_parts_1 : decode cX11_parts 1 = .ok (.istore_n 3, 1) := by decide +kernel
theorem dX11_parts_2 : decode cX11_parts 2 = .ok (.aload_n 0, 1) := by decide +kernel
theorem dX11_parts_3 : decode cX11_parts 3 = .ok (.getfield 166, 3) := by decide +kernel
theorem dX11_parts_6 : decode cX11_parts 6 = .ok (.ifCond .eq 57, 3) := by decide +kernel
theorem dX11_parts_9 : decode cX11_parts 9 = .ok (.aload_n 0, 1) := by decide +kernel
theorem dX11_parts_10 : decode cX11_parts 10 = .ok (.getfield 35, 3) := by decide +kernel
theorem dX11_parts_13 : decode cX11_parts 13 = .ok (.iconst 0, 1) := by decide +kernel
theorem dX11_parts_14 : decode cX11_parts 14 = .ok (.iaload, 1) := by decide +kernel
theorem dX11_parts_15 : decode cX11_parts 15 = .ok (.iconst 1, 1) := by decide +kernel
theorem dX11_parts_16 : decode cX11_parts 16 = .ok (.if_icmp .ne 47, 3) := by decide +kernel
theorem dX11_parts_19 : decode cX11_parts 19 = .ok (.aload_n 0, 1) := by decide +kernel
theorem dX11_parts_20 : decode cX11_parts 20 = .ok (.getfield 51, 3) := by decide +kernel
theorem dX11_parts_23 : decode cX11_parts 23 = .ok (.iload_n 1, 1) := by decide +kernel
theorem dX11_parts_24 : decode cX11_parts 24 = .ok (.iconst 4, 1) := by decide +kernel
theorem dX11_parts_25 : decode cX11_parts 25 = .ok (.iadd, 1) := by decide +kernel
theorem dX11_parts_26 : decode cX11_parts 26 = .ok (.aload_n 0, 1) := by decide +kernel
theorem dX11_parts_27 : decode cX11_parts 27 = .ok (.getfield 206, 3) := by decide +kernel
theorem dX11_parts_30 : decode cX11_parts 30 = .ok (.iload_n 2, 1) := by decide +kernel
theorem dX11_parts_31 : decode cX11_parts 31 = .ok (.invokestatic 195, 3) := by decide +kernel
theorem dX11_parts_34 : decode cX11_parts 34 = .ok (.iastore, 1) := by decide +kernel
theorem dX11_parts_35 : decode cX11_parts 35 = .ok (.aload_n 0, 1) := by decide +kernel
theorem dX11_parts_36 : decode cX11_parts 36 = .ok (.dup, 1) := by decide +kernel
theorem dX11_parts_37 : decode cX11_parts 37 = .ok (.getfield 206, 3) := by decide +kernel
theorem dX11_parts_40 : decode cX11_parts 40 = .ok (.aload_n 0, 1) := by decide +kernel
theorem dX11_parts_41 : decode cX11_parts 41 = .ok (.getfield 51, 3) := by decide +kernel
theorem dX11_parts_44 : decode cX11_parts 44 = .ok (.iload_n 1, 1) := by decide +kernel
theorem dX11_parts_45 : decode cX11_parts 45 = .ok (.iconst 4, 1) := by decide +kernel
theorem dX11_parts_46 : decode cX11_parts 46 = .ok (.iadd, 1) := by decide +kernel
theorem dX11_parts_47 : decode cX11_parts 47 = .ok (.iaload, 1) := by decide +kernel
theorem dX11_parts_48 : decode cX11_parts 48 = .ok (.isub, 1) := by decide +kernel
theorem dX11_parts_49 : decode cX11_parts 49 = .ok (.putfield 206, 3) := by decide +kernel
theorem dX11_parts_52 : decode cX11_parts 52 = .ok (.iload_n 3, 1) := by decide +kernel
theorem dX11_parts_53 : decode cX11_parts 53 = .ok (.aload_n 0, 1) := by decide +kernel
theorem dX11_parts_54 : decode cX11_parts 54 = .ok (.getfield 51, 3) := by decide +kernel
theorem dX11_parts_57 : decode cX11_parts 57 = .ok (.iload_n 1, 1) := by decide +kernel
theorem dX11_parts_58 : decode cX11_parts 58 = .ok (.iconst 4, 1) := by decide +kernel
theorem dX11_parts_59 : decode cX11_parts 59 = .ok (.iadd, 1) := by decide +kernel
theorem dX11_parts_60 : decode cX11_parts 60 = .ok (.iaload, 1) := by decide +kernel
theorem dX11_parts_61 : decode cX11_parts 61 = .ok (.isub, 1) := by decide +kernel
theorem dX11_parts_62 : decode cX11_parts 62 = .ok (.istore_n 3, 1) := by decide +kernel
theorem dX11_parts_63 : decode cX11_parts 63 = .ok (.iload_n 3, 1) := by decide +kernel
theorem dX11_parts_64 : decode cX11_parts 64 = .ok (.istore 4, 2) := by decide +kernel
theorem dX11_parts_66 : decode cX11_parts 66 = .ok (.iconst 1, 1) := by decide +kernel
theorem dX11_parts_67 : decode cX11_parts 67 = .ok (.istore 5, 2) := by decide +kernel
theorem dX11_parts_69 : decode cX11_parts 69 = .ok (.iload 5, 2) := by decide +kernel
theorem dX11_parts_71 : decode cX11_parts 71 = .ok (.bipush 6, 2) := by decide +kernel
theorem dX11_parts_73 : decode cX11_parts 73 = .ok (.if_icmp .ge 81, 3) := by decide +kernel
theorem dX11_parts_76 : decode cX11_parts 76 = .ok (.aload_n 0, 1) := by decide +kernel
theorem dX11_parts_77 : decode cX11_parts 77 = .ok (.getfield 166, 3) := by decide +kernel
theorem dX11_parts_80 : decode cX11_parts 80 = .ok (.ifCond .eq 74, 3) := by decide +kernel
theorem dX11_parts_83 : decode cX11_parts 83 = .ok (.iload_n 3, 1) := by decide +kernel
theorem dX11_parts_84 : decode cX11_parts 84 = .ok (.aload_n 0, 1) := by decide +kernel
theorem dX11_parts_85 : decode cX11_parts 85 = .ok (.getfield 35, 3) := by decide +kernel
theorem dX11_parts_88 : decode cX11_parts 88 = .ok (.iload 5, 2) := by decide +kernel
theorem dX11_parts_90 : decode cX11_parts 90 = .ok (.iaload, 1) := by decide +kernel
theorem dX11_parts_91 : decode cX11_parts 91 = .ok (.imul, 1) := by decide +kernel
theorem dX11_parts_92 : decode cX11_parts 92 = .ok (.bipush 100, 2) := by decide +kernel
theorem dX11_parts_94 : decode cX11_parts 94 = .ok (.idiv, 1) := by decide +kernel
theorem dX11_parts_95 : decode cX11_parts 95 = .ok (.istore 6, 2) := by decide +kernel
theorem dX11_parts_97 : decode cX11_parts 97 = .ok (.iload 5, 2) := by decide +kernel
theorem dX11_parts_99 : decode cX11_parts 99 = .ok (.iconst 3, 1) := by decide +kernel
theorem dX11_parts_100 : decode cX11_parts 100 = .ok (.if_icmp .ne 28, 3) := by decide +kernel
theorem dX11_parts_103 : decode cX11_parts 103 = .ok (.iconst 0, 1) := by decide +kernel
theorem dX11_parts_104 : decode cX11_parts 104 = .ok (.iload 6, 2) := by decide +kernel
theorem dX11_parts_106 : decode cX11_parts 106 = .ok (.aload_n 0, 1) := by decide +kernel
theorem dX11_parts_107 : decode cX11_parts 107 = .ok (.getfield 35, 3) := by decide +kernel
theorem dX11_parts_110 : decode cX11_parts 110 = .ok (.bipush 6, 2) := by decide +kernel
theorem dX11_parts_112 : decode cX11_parts 112 = .ok (.iaload, 1) := by decide +kernel
theorem dX11_parts_113 : decode cX11_parts 113 = .ok (.aload_n 0, 1) := by decide +kernel
theorem dX11_parts_114 : decode cX11_parts 114 = .ok (.getfield 57, 3) := by decide +kernel
theorem dX11_parts_117 : decode cX11_parts 117 = .ok (.iconst 3, 1) := by decide +kernel
theorem dX11_parts_118 : decode cX11_parts 118 = .ok (.iaload, 1) := by decide +kernel
theorem dX11_parts_119 : decode cX11_parts 119 = .ok (.isub, 1) := by decide +kernel
theorem dX11_parts_120 : decode cX11_parts 120 = .ok (.invokestatic 195, 3) := by decide +kernel
theorem dX11_parts_123 : decode cX11_parts 123 = .ok (.invokestatic 176, 3) := by decide +kernel
theorem dX11_parts_126 : decode cX11_parts 126 = .ok (.istore 6, 2) := by decide +kernel
theorem dX11_parts_128 : decode cX11_parts 128 = .ok (.aload_n 0, 1) := by decide +kernel
theorem dX11_parts_129 : decode cX11_parts 129 = .ok (.getfield 51, 3) := by decide +kernel
theorem dX11_parts_132 : decode cX11_parts 132 = .ok (.iload_n 1, 1) := by decide +kernel
theorem dX11_parts_133 : decode cX11_parts 133 = .ok (.iconst 4, 1) := by decide +kernel
theorem dX11_parts_134 : decode cX11_parts 134 = .ok (.iadd, 1) := by decide +kernel
theorem dX11_parts_135 : decode cX11_parts 135 = .ok (.iload 5, 2) := by decide +kernel
theorem dX11_parts_137 : decode cX11_parts 137 = .ok (.iadd, 1) := by decide +kernel
theorem dX11_parts_138 : decode cX11_parts 138 = .ok (.iload 6, 2) := by decide +kernel
theorem dX11_parts_140 : decode cX11_parts 140 = .ok (.iastore, 1) := by decide +kernel
theorem dX11_parts_141 : decode cX11_parts 141 = .ok (.iload 4, 2) := by decide +kernel
theorem dX11_parts_143 : decode cX11_parts 143 = .ok (.iload 6, 2) := by decide +kernel
theorem dX11_parts_145 : decode cX11_parts 145 = .ok (.isub, 1) := by decide +kernel
theorem dX11_parts_146 : decode cX11_parts 146 = .ok (.istore 4, 2) := by decide +kernel
theorem dX11_parts_148 : decode cX11_parts 148 = .ok (.iinc 5 1, 3) := by decide +kernel
theorem dX11_parts_151 : decode cX11_parts 151 = .ok (.goto (-82), 3) := by decide +kernel
theorem dX11_parts_154 : decode cX11_parts 154 = .ok (.aload_n 0, 1) := by decide +kernel
theorem dX11_parts_155 : decode cX11_parts 155 = .ok (.getfield 51, 3) := by decide +kernel
theorem dX11_parts_158 : decode cX11_parts 158 = .ok (.iload_n 1, 1) := by decide +kernel
theorem dX11_parts_159 : decode cX11_parts 159 = .ok (.bipush 8, 2) := by decide +kernel
theorem dX11_parts_161 : decode cX11_parts 161 = .ok (.iadd, 1) := by decide +kernel
theorem dX11_parts_162 : decode cX11_parts 162 = .ok (.dup2, 1) := by decide +kernel
theorem dX11_parts_163 : decode cX11_parts 163 = .ok (.iaload, 1) := by decide +kernel
theorem dX11_parts_164 : decode cX11_parts 164 = .ok (.iload 4, 2) := by decide +kernel
theorem dX11_parts_166 : decode cX11_parts 166 = .ok (.iadd, 1) := by decide +kernel
theorem dX11_parts_167 : decode cX11_parts 167 = .ok (.iastore, 1) := by decide +kernel
theorem dX11_parts_168 : decode cX11_parts 168 = .ok (.iconst 1, 1) := by decide +kernel
theorem dX11_parts_169 : decode cX11_parts 169 = .ok (.istore 5, 2) := by decide +kernel
theorem dX11_parts_171 : decode cX11_parts 171 = .ok (.iload 5, 2) := by decide +kernel
theorem dX11_parts_173 : decode cX11_parts 173 = .ok (.bipush 6, 2) := by decide +kernel
theorem dX11_parts_175 : decode cX11_parts 175 = .ok (.if_icmp .ge 30, 3) := by decide +kernel
theorem dX11_parts_178 : decode cX11_parts 178 = .ok (.aload_n 0, 1) := by decide +kernel
theorem dX11_parts_179 : decode cX11_parts 179 = .ok (.getfield 57, 3) := by decide +kernel
theorem dX11_parts_182 : decode cX11_parts 182 = .ok (.iload 5, 2) := by decide +kernel
theorem dX11_parts_184 : decode cX11_parts 184 = .ok (.dup2, 1) := by decide +kernel
theorem dX11_parts_185 : decode cX11_parts 185 = .ok (.iaload, 1) := by decide +kernel
theorem dX11_parts_186 : decode cX11_parts 186 = .ok (.aload_n 0, 1) := by decide +kernel
theorem dX11_parts_187 : decode cX11_parts 187 = .ok (.getfield 51, 3) := by decide +kernel
theorem dX11_parts_190 : decode cX11_parts 190 = .ok (.iload_n 1, 1) := by decide +kernel
theorem dX11_parts_191 : decode cX11_parts 191 = .ok (.iconst 4, 1) := by decide +kernel
theorem dX11_parts_192 : decode cX11_parts 192 = .ok (.iadd, 1) := by decide +kernel
theorem dX11_parts_193 : decode cX11_parts 193 = .ok (.iload 5, 2) := by decide +kernel
theorem dX11_parts_195 : decode cX11_parts 195 = .ok (.iadd, 1) := by decide +kernel
theorem dX11_parts_196 : decode cX11_parts 196 = .ok (.iaload, 1) := by decide +kernel
theorem dX11_parts_197 : decode cX11_parts 197 = .ok (.iadd, 1) := by decide +kernel
theorem dX11_parts_198 : decode cX11_parts 198 = .ok (.iastore, 1) := by decide +kernel
theorem dX11_parts_199 : decode cX11_parts 199 = .ok (.iinc 5 1, 3) := by decide +kernel
theorem dX11_parts_202 : decode cX11_parts 202 = .ok (.goto (-31), 3) := by decide +kernel
theorem dX11_parts_205 : decode cX11_parts 205 = .ok (.return_, 1) := by decide +kernel
set_option maxHeartbeats 2000000 in
set_option maxRecDepth 20000 in
theorem ct_parts {l : Launch} {E : Ev} {P : Value → AH → Prop} {o : Nat} {ad : Nat → Nat} {F : Nat → Int32} {A : Nat → Nat → Int32} {h : AH} (I : mI o ad) {a : Nat} (ha : a + 9 < 600) {x : Int32} (hz : F 13 = 0 → ∀ k, A 11 k = 0) (z : ∀ k, k < 6 → A 21 (a + 4 + k) = 0) (hp : P .null (mh E o ad (rpF F A x) (rpA F A a x) h)) : Mt l E yX11_parts cX11_parts 7 none 1 40 0 0 [.ref o, .int (nI a), .int x] (mh E o ad F A h) P := by
  refine Mt.of (by decide) (Nat.le_of_ble_eq_true rfl) ?_
  intro K hK hR C
  have tail : ∀ (G9 : Nat → Int32) (B : Nat → Nat → Int32) (lf : Int32), (G9 13 = 0 → ∀ k, B 11 k = 0) → (∀ k, 1 ≤ k → k < 6 → B 21 (a + 4 + k) = 0) → P .null (mh E o ad G9 (rtail B a lf) h) → G K E 7 (QM K E none 0 0 P) 0 0 63 [(0, .ref o), (1, .int (nI a)), (2, .int x), (3, .int lf)] [] (mh E o ad G9 B h) := by
    intro G9 B lf hz z hp
    refine g_iload_n (n := 64) C dX11_parts_63 rfl rfl ?_
    refine g_istore (n := 66) C dX11_parts_64 rfl (by decide) ?_
    refine g_iconst (n := 67) (v := 1) C dX11_parts_66 rfl (by decide) ?_
    refine g_istore (n := 69) C dX11_parts_67 rfl (by decide) ?_
    refine g_iload (n := 71) C dX11_parts_69 rfl rfl ?_
    refine g_bipush (n := 73) (v := 6) C dX11_parts_71 rfl (by decide) ?_
    refine g_icmp_ge (n := 76) (t := 154) C dX11_parts_73 rfl (by decide) (fun zc73 => ?_) (fun zc73 => ?_)
    · exact absurd zc73 (by decide)
    refine g_aload_n (n := 77) C dX11_parts_76 rfl rfl ?_
    refine m_get (n := 80) 13 C dX11_parts_77 rfl (by decide) rfl w_1113 rfl ?_
    refine g_if_eq (n := 83) (t := 154) C dX11_parts_80 rfl (by decide) (fun zc80 => ?_) (fun zc80 => ?_)
    ·
      have hB : ∀ k, B 11 k = 0 := hz zc80
      refine g_aload_n (n := 155) C dX11_parts_154 rfl rfl ?_
      refine m_get (n := 158) 21 C dX11_parts_155 rfl (by decide) rfl w_1121 rfl ?_
      refine g_iload_n (n := 159) C dX11_parts_158 rfl rfl ?_
      refine g_bipush (n := 161) (v := 8) C dX11_parts_159 rfl (by decide) ?_
      refine g_iadd (n := 162) C dX11_parts_161 rfl ?_
      refine g_dup2 (n := 163) C dX11_parts_162 rfl rfl rfl ?_
      refine m_iald (n := 164) (v := 0) 21 (a + 8) C dX11_parts_163 rfl I (by decide) rfl (ixq rfl 8) (by omega) (by decide) (z 4 (by omega) (by omega)) ?_
      refine g_iload (n := 166) C dX11_parts_164 rfl rfl ?_
      refine g_iadd (n := 167) C dX11_parts_166 rfl ?_
      refine m_iast (n := 168) 21 (a + 8) C dX11_parts_167 rfl I (by decide) (fun _ => rfl) (ixq rfl 8) (by omega) (by decide) ?_
      rw [rst0_0 hB z]
      refine (show G K E 7 (QM K E none 0 0 P) _ _ 168 _ _ (mh E o ad G9 (rst0 B a lf) h) from ?_)
      refine g_iconst (n := 169) (v := 1) C dX11_parts_168 rfl (by decide) ?_
      refine g_istore (n := 171) C dX11_parts_169 rfl (by decide) ?_
      refine g_iload (n := 173) C dX11_parts_171 rfl rfl ?_
      refine g_bipush (n := 175) (v := 6) C dX11_parts_173 rfl (by decide) ?_
      refine g_icmp_ge (n := 178) (t := 205) C dX11_parts_175 rfl (by decide) (fun zc175 => ?_) (fun zc175 => ?_)
      · exact absurd zc175 (by decide)
      refine g_aload_n (n := 179) C dX11_parts_178 rfl rfl ?_
      refine m_get (n := 182) 25 C dX11_parts_179 rfl (by decide) rfl w_1125 rfl ?_
      refine g_iload (n := 184) C dX11_parts_182 rfl rfl ?_
      refine g_dup2 (n := 185) C dX11_parts_184 rfl rfl rfl ?_
      refine m_iald (n := 186) (v := B 25 1) 25 (1) C dX11_parts_185 rfl I (by decide) rfl rfl (by decide) (by decide) (rh0_25 B a lf 1) ?_
      refine g_aload_n (n := 187) C dX11_parts_186 rfl rfl ?_
      refine m_get (n := 190) 21 C dX11_parts_187 rfl (by decide) rfl w_1121 rfl ?_
      refine g_iload_n (n := 191) C dX11_parts_190 rfl rfl ?_
      refine g_iconst (n := 192) (v := 4) C dX11_parts_191 rfl (by decide) ?_
      refine g_iadd (n := 193) C dX11_parts_192 rfl ?_
      refine g_iload (n := 195) C dX11_parts_193 rfl rfl ?_
      refine g_iadd (n := 196) C dX11_parts_195 rfl ?_
      refine m_iald (n := 197) (v := rsh B lf 1) 21 (a + 4 + 1) C dX11_parts_196 rfl I (by decide) rfl (ixp rfl 4 1) (by omega) (by decide) (rst0_rd1 B a lf) ?_
      refine g_iadd (n := 198) C dX11_parts_197 rfl ?_
      refine m_iast (n := 199) 25 (1) C dX11_parts_198 rfl I (by decide) (fun _ => rfl) rfl (by decide) (by decide) ?_
      refine g_iinc (n := 202) (v := 2) C dX11_parts_199 rfl rfl (by decide) (by decide) ?_
      refine g_goto (t := 171) C dX11_parts_202 (by decide) ?_
      refine (show G K E 7 (QM K E none 0 0 P) _ _ 171 _ _ (mh E o ad G9 (rh1 B a lf) h) from ?_)
      refine g_iload (n := 173) C dX11_parts_171 rfl rfl ?_
      refine g_bipush (n := 175) (v := 6) C dX11_parts_173 rfl (by decide) ?_
      refine g_icmp_ge (n := 178) (t := 205) C dX11_parts_175 rfl (by decide) (fun zc175 => ?_) (fun zc175 => ?_)
      · exact absurd zc175 (by decide)
      refine g_aload_n (n := 179) C dX11_parts_178 rfl rfl ?_
      refine m_get (n := 182) 25 C dX11_parts_179 rfl (by decide) rfl w_1125 rfl ?_
      refine g_iload (n := 184) C dX11_parts_182 rfl rfl ?_
      refine g_dup2 (n := 185) C dX11_parts_184 rfl rfl rfl ?_
      refine m_iald (n := 186) (v := B 25 2) 25 (2) C dX11_parts_185 rfl I (by decide) rfl rfl (by decide) (by decide) (rh1_25 B a lf (by decide)) ?_
      refine g_aload_n (n := 187) C dX11_parts_186 rfl rfl ?_
      refine m_get (n := 190) 21 C dX11_parts_187 rfl (by decide) rfl w_1121 rfl ?_
      refine g_iload_n (n := 191) C dX11_parts_190 rfl rfl ?_
      refine g_iconst (n := 192) (v := 4) C dX11_parts_191 rfl (by decide) ?_
      refine g_iadd (n := 193) C dX11_parts_192 rfl ?_
      refine g_iload (n := 195) C dX11_parts_193 rfl rfl ?_
      refine g_iadd (n := 196) C dX11_parts_195 rfl ?_
      refine m_iald (n := 197) (v := rsh B lf 2) 21 (a + 4 + 2) C dX11_parts_196 rfl I (by decide) rfl (ixp rfl 4 2) (by omega) (by decide) (by rw [rh1_21 B a lf]; exact rst0_rd2 B a lf) ?_
      refine g_iadd (n := 198) C dX11_parts_197 rfl ?_
      refine m_iast (n := 199) 25 (2) C dX11_parts_198 rfl I (by decide) (fun _ => rfl) rfl (by decide) (by decide) ?_
      refine g_iinc (n := 202) (v := 3) C dX11_parts_199 rfl rfl (by decide) (by decide) ?_
      refine g_goto (t := 171) C dX11_parts_202 (by decide) ?_
      refine (show G K E 7 (QM K E none 0 0 P) _ _ 171 _ _ (mh E o ad G9 (rh2 B a lf) h) from ?_)
      refine g_iload (n := 173) C dX11_parts_171 rfl rfl ?_
      refine g_bipush (n := 175) (v := 6) C dX11_parts_173 rfl (by decide) ?_
      refine g_icmp_ge (n := 178) (t := 205) C dX11_parts_175 rfl (by decide) (fun zc175 => ?_) (fun zc175 => ?_)
      · exact absurd zc175 (by decide)
      refine g_aload_n (n := 179) C dX11_parts_178 rfl rfl ?_
      refine m_get (n := 182) 25 C dX11_parts_179 rfl (by decide) rfl w_1125 rfl ?_
      refine g_iload (n := 184) C dX11_parts_182 rfl rfl ?_
      refine g_dup2 (n := 185) C dX11_parts_184 rfl rfl rfl ?_
      refine m_iald (n := 186) (v := B 25 3) 25 (3) C dX11_parts_185 rfl I (by decide) rfl rfl (by decide) (by decide) (rh2_25 B a lf (by decide)) ?_
      refine g_aload_n (n := 187) C dX11_parts_186 rfl rfl ?_
      refine m_get (n := 190) 21 C dX11_parts_187 rfl (by decide) rfl w_1121 rfl ?_
      refine g_iload_n (n := 191) C dX11_parts_190 rfl rfl ?_
      refine g_iconst (n := 192) (v := 4) C dX11_parts_191 rfl (by decide) ?_
      refine g_iadd (n := 193) C dX11_parts_192 rfl ?_
      refine g_iload (n := 195) C dX11_parts_193 rfl rfl ?_
      refine g_iadd (n := 196) C dX11_parts_195 rfl ?_
      refine m_iald (n := 197) (v := rle B lf) 21 (a + 4 + 3) C dX11_parts_196 rfl I (by decide) rfl (ixp rfl 4 3) (by omega) (by decide) (by rw [rh2_21 B a lf]; exact rst0_rd3 B a lf) ?_
      refine g_iadd (n := 198) C dX11_parts_197 rfl ?_
      refine m_iast (n := 199) 25 (3) C dX11_parts_198 rfl I (by decide) (fun _ => rfl) rfl (by decide) (by decide) ?_
      refine g_iinc (n := 202) (v := 4) C dX11_parts_199 rfl rfl (by decide) (by decide) ?_
      refine g_goto (t := 171) C dX11_parts_202 (by decide) ?_
      refine (show G K E 7 (QM K E none 0 0 P) _ _ 171 _ _ (mh E o ad G9 (rh3 B a lf) h) from ?_)
      refine g_iload (n := 173) C dX11_parts_171 rfl rfl ?_
      refine g_bipush (n := 175) (v := 6) C dX11_parts_173 rfl (by decide) ?_
      refine g_icmp_ge (n := 178) (t := 205) C dX11_parts_175 rfl (by decide) (fun zc175 => ?_) (fun zc175 => ?_)
      · exact absurd zc175 (by decide)
      refine g_aload_n (n := 179) C dX11_parts_178 rfl rfl ?_
      refine m_get (n := 182) 25 C dX11_parts_179 rfl (by decide) rfl w_1125 rfl ?_
      refine g_iload (n := 184) C dX11_parts_182 rfl rfl ?_
      refine g_dup2 (n := 185) C dX11_parts_184 rfl rfl rfl ?_
      refine m_iald (n := 186) (v := B 25 4) 25 (4) C dX11_parts_185 rfl I (by decide) rfl rfl (by decide) (by decide) (rh3_25 B a lf (by decide)) ?_
      refine g_aload_n (n := 187) C dX11_parts_186 rfl rfl ?_
      refine m_get (n := 190) 21 C dX11_parts_187 rfl (by decide) rfl w_1121 rfl ?_
      refine g_iload_n (n := 191) C dX11_parts_190 rfl rfl ?_
      refine g_iconst (n := 192) (v := 4) C dX11_parts_191 rfl (by decide) ?_
      refine g_iadd (n := 193) C dX11_parts_192 rfl ?_
      refine g_iload (n := 195) C dX11_parts_193 rfl rfl ?_
      refine g_iadd (n := 196) C dX11_parts_195 rfl ?_
      refine m_iald (n := 197) (v := rdi B lf) 21 (a + 4 + 4) C dX11_parts_196 rfl I (by decide) rfl (ixp rfl 4 4) (by omega) (by decide) (by rw [rh3_21 B a lf]; exact rst0_rd4 B a lf) ?_
      refine g_iadd (n := 198) C dX11_parts_197 rfl ?_
      refine m_iast (n := 199) 25 (4) C dX11_parts_198 rfl I (by decide) (fun _ => rfl) rfl (by decide) (by decide) ?_
      refine g_iinc (n := 202) (v := 5) C dX11_parts_199 rfl rfl (by decide) (by decide) ?_
      refine g_goto (t := 171) C dX11_parts_202 (by decide) ?_
      refine (show G K E 7 (QM K E none 0 0 P) _ _ 171 _ _ (mh E o ad G9 (rh4 B a lf) h) from ?_)
      refine g_iload (n := 173) C dX11_parts_171 rfl rfl ?_
      refine g_bipush (n := 175) (v := 6) C dX11_parts_173 rfl (by decide) ?_
      refine g_icmp_ge (n := 178) (t := 205) C dX11_parts_175 rfl (by decide) (fun zc175 => ?_) (fun zc175 => ?_)
      · exact absurd zc175 (by decide)
      refine g_aload_n (n := 179) C dX11_parts_178 rfl rfl ?_
      refine m_get (n := 182) 25 C dX11_parts_179 rfl (by decide) rfl w_1125 rfl ?_
      refine g_iload (n := 184) C dX11_parts_182 rfl rfl ?_
      refine g_dup2 (n := 185) C dX11_parts_184 rfl rfl rfl ?_
      refine m_iald (n := 186) (v := B 25 5) 25 (5) C dX11_parts_185 rfl I (by decide) rfl rfl (by decide) (by decide) (rh4_25 B a lf (by decide)) ?_
      refine g_aload_n (n := 187) C dX11_parts_186 rfl rfl ?_
      refine m_get (n := 190) 21 C dX11_parts_187 rfl (by decide) rfl w_1121 rfl ?_
      refine g_iload_n (n := 191) C dX11_parts_190 rfl rfl ?_
      refine g_iconst (n := 192) (v := 4) C dX11_parts_191 rfl (by decide) ?_
      refine g_iadd (n := 193) C dX11_parts_192 rfl ?_
      refine g_iload (n := 195) C dX11_parts_193 rfl rfl ?_
      refine g_iadd (n := 196) C dX11_parts_195 rfl ?_
      refine m_iald (n := 197) (v := rsh B lf 5) 21 (a + 4 + 5) C dX11_parts_196 rfl I (by decide) rfl (ixp rfl 4 5) (by omega) (by decide) (by rw [rh4_21 B a lf]; exact rst0_rd5 B a lf) ?_
      refine g_iadd (n := 198) C dX11_parts_197 rfl ?_
      refine m_iast (n := 199) 25 (5) C dX11_parts_198 rfl I (by decide) (fun _ => rfl) rfl (by decide) (by decide) ?_
      refine g_iinc (n := 202) (v := 6) C dX11_parts_199 rfl rfl (by decide) (by decide) ?_
      refine g_goto (t := 171) C dX11_parts_202 (by decide) ?_
      refine (show G K E 7 (QM K E none 0 0 P) _ _ 171 _ _ (mh E o ad G9 (rtail B a lf) h) from ?_)
      refine g_iload (n := 173) C dX11_parts_171 rfl rfl ?_
      refine g_bipush (n := 175) (v := 6) C dX11_parts_173 rfl (by decide) ?_
      refine g_icmp_ge (n := 178) (t := 205) C dX11_parts_175 rfl (by decide) (fun zc175 => ?_) (fun zc175 => ?_)
      rotate_left
      · exact absurd zc175 (by decide)
      refine g_vret C dX11_parts_205 (by decide) (by decide) ?_
      exact hp
    ·
      refine g_iload_n (n := 84) C dX11_parts_83 rfl rfl ?_
      refine g_aload_n (n := 85) C dX11_parts_84 rfl rfl ?_
      refine m_get (n := 88) 11 C dX11_parts_85 rfl (by decide) rfl w_1111 rfl ?_
      refine g_iload (n := 90) C dX11_parts_88 rfl rfl ?_
      refine m_iald (n := 91) (v := B 11 1) 11 (1) C dX11_parts_90 rfl I (by decide) rfl rfl (by decide) (by decide) (rfl) ?_
      refine g_imul (n := 92) C dX11_parts_91 rfl ?_
      refine g_bipush (n := 94) (v := 100) C dX11_parts_92 rfl (by decide) ?_
      refine g_idiv (n := 95) C dX11_parts_94 rfl (by decide) ?_
      refine g_istore (n := 97) C dX11_parts_95 rfl (by decide) ?_
      refine g_iload (n := 99) C dX11_parts_97 rfl rfl ?_
      refine g_iconst (n := 100) (v := 3) C dX11_parts_99 rfl (by decide) ?_
      refine g_icmp_ne (n := 103) (t := 128) C dX11_parts_100 rfl (by decide) (fun zc100 => ?_) (fun zc100 => ?_)
      rotate_left
      · exact absurd zc100 (by decide)
      refine g_aload_n (n := 129) C dX11_parts_128 rfl rfl ?_
      refine m_get (n := 132) 21 C dX11_parts_129 rfl (by decide) rfl w_1121 rfl ?_
      refine g_iload_n (n := 133) C dX11_parts_132 rfl rfl ?_
      refine g_iconst (n := 134) (v := 4) C dX11_parts_133 rfl (by decide) ?_
      refine g_iadd (n := 135) C dX11_parts_134 rfl ?_
      refine g_iload (n := 137) C dX11_parts_135 rfl rfl ?_
      refine g_iadd (n := 138) C dX11_parts_137 rfl ?_
      refine g_iload (n := 140) C dX11_parts_138 rfl rfl ?_
      refine m_iast (n := 141) 21 (a + 4 + 1) C dX11_parts_140 rfl I (by decide) (fun _ => rfl) (ixp rfl 4 1) (by omega) (by decide) ?_
      refine g_iload (n := 143) C dX11_parts_141 rfl rfl ?_
      refine g_iload (n := 145) C dX11_parts_143 rfl rfl ?_
      refine g_isub (n := 146) C dX11_parts_145 rfl ?_
      refine g_istore (n := 148) C dX11_parts_146 rfl (by decide) ?_
      refine g_iinc (n := 151) (v := 2) C dX11_parts_148 rfl rfl (by decide) (by decide) ?_
      refine g_goto (t := 69) C dX11_parts_151 (by decide) ?_
      refine (show G K E 7 (QM K E none 0 0 P) _ _ 69 _ _ (mh E o ad G9 (rs1 B a lf) h) from ?_)
      refine g_iload (n := 71) C dX11_parts_69 rfl rfl ?_
      refine g_bipush (n := 73) (v := 6) C dX11_parts_71 rfl (by decide) ?_
      refine g_icmp_ge (n := 76) (t := 154) C dX11_parts_73 rfl (by decide) (fun zc73 => ?_) (fun zc73 => ?_)
      · exact absurd zc73 (by decide)
      refine g_aload_n (n := 77) C dX11_parts_76 rfl rfl ?_
      refine m_get (n := 80) 13 C dX11_parts_77 rfl (by decide) rfl w_1113 rfl ?_
      refine g_if_eq (n := 83) (t := 154) C dX11_parts_80 rfl (by decide) (fun zq80 => absurd zq80 zc80) (fun _ => ?_)
      refine g_iload_n (n := 84) C dX11_parts_83 rfl rfl ?_
      refine g_aload_n (n := 85) C dX11_parts_84 rfl rfl ?_
      refine m_get (n := 88) 11 C dX11_parts_85 rfl (by decide) rfl w_1111 rfl ?_
      refine g_iload (n := 90) C dX11_parts_88 rfl rfl ?_
      refine m_iald (n := 91) (v := B 11 2) 11 (2) C dX11_parts_90 rfl I (by decide) rfl rfl (by decide) (by decide) (by rw [rs1_r B a lf (by decide)]) ?_
      refine g_imul (n := 92) C dX11_parts_91 rfl ?_
      refine g_bipush (n := 94) (v := 100) C dX11_parts_92 rfl (by decide) ?_
      refine g_idiv (n := 95) C dX11_parts_94 rfl (by decide) ?_
      refine g_istore (n := 97) C dX11_parts_95 rfl (by decide) ?_
      refine g_iload (n := 99) C dX11_parts_97 rfl rfl ?_
      refine g_iconst (n := 100) (v := 3) C dX11_parts_99 rfl (by decide) ?_
      refine g_icmp_ne (n := 103) (t := 128) C dX11_parts_100 rfl (by decide) (fun zc100 => ?_) (fun zc100 => ?_)
      rotate_left
      · exact absurd zc100 (by decide)
      refine g_aload_n (n := 129) C dX11_parts_128 rfl rfl ?_
      refine m_get (n := 132) 21 C dX11_parts_129 rfl (by decide) rfl w_1121 rfl ?_
      refine g_iload_n (n := 133) C dX11_parts_132 rfl rfl ?_
      refine g_iconst (n := 134) (v := 4) C dX11_parts_133 rfl (by decide) ?_
      refine g_iadd (n := 135) C dX11_parts_134 rfl ?_
      refine g_iload (n := 137) C dX11_parts_135 rfl rfl ?_
      refine g_iadd (n := 138) C dX11_parts_137 rfl ?_
      refine g_iload (n := 140) C dX11_parts_138 rfl rfl ?_
      refine m_iast (n := 141) 21 (a + 4 + 2) C dX11_parts_140 rfl I (by decide) (fun _ => rfl) (ixp rfl 4 2) (by omega) (by decide) ?_
      refine g_iload (n := 143) C dX11_parts_141 rfl rfl ?_
      refine g_iload (n := 145) C dX11_parts_143 rfl rfl ?_
      refine g_isub (n := 146) C dX11_parts_145 rfl ?_
      refine g_istore (n := 148) C dX11_parts_146 rfl (by decide) ?_
      refine g_iinc (n := 151) (v := 3) C dX11_parts_148 rfl rfl (by decide) (by decide) ?_
      refine g_goto (t := 69) C dX11_parts_151 (by decide) ?_
      refine (show G K E 7 (QM K E none 0 0 P) _ _ 69 _ _ (mh E o ad G9 (rs2 B a lf) h) from ?_)
      refine g_iload (n := 71) C dX11_parts_69 rfl rfl ?_
      refine g_bipush (n := 73) (v := 6) C dX11_parts_71 rfl (by decide) ?_
      refine g_icmp_ge (n := 76) (t := 154) C dX11_parts_73 rfl (by decide) (fun zc73 => ?_) (fun zc73 => ?_)
      · exact absurd zc73 (by decide)
      refine g_aload_n (n := 77) C dX11_parts_76 rfl rfl ?_
      refine m_get (n := 80) 13 C dX11_parts_77 rfl (by decide) rfl w_1113 rfl ?_
      refine g_if_eq (n := 83) (t := 154) C dX11_parts_80 rfl (by decide) (fun zq80 => absurd zq80 zc80) (fun _ => ?_)
      refine g_iload_n (n := 84) C dX11_parts_83 rfl rfl ?_
      refine g_aload_n (n := 85) C dX11_parts_84 rfl rfl ?_
      refine m_get (n := 88) 11 C dX11_parts_85 rfl (by decide) rfl w_1111 rfl ?_
      refine g_iload (n := 90) C dX11_parts_88 rfl rfl ?_
      refine m_iald (n := 91) (v := B 11 3) 11 (3) C dX11_parts_90 rfl I (by decide) rfl rfl (by decide) (by decide) (by rw [rs2_r B a lf (by decide)]) ?_
      refine g_imul (n := 92) C dX11_parts_91 rfl ?_
      refine g_bipush (n := 94) (v := 100) C dX11_parts_92 rfl (by decide) ?_
      refine g_idiv (n := 95) C dX11_parts_94 rfl (by decide) ?_
      refine g_istore (n := 97) C dX11_parts_95 rfl (by decide) ?_
      refine g_iload (n := 99) C dX11_parts_97 rfl rfl ?_
      refine g_iconst (n := 100) (v := 3) C dX11_parts_99 rfl (by decide) ?_
      refine g_icmp_ne (n := 103) (t := 128) C dX11_parts_100 rfl (by decide) (fun zc100 => ?_) (fun zc100 => ?_)
      · exact absurd zc100 (by decide)
      refine g_iconst (n := 104) (v := 0) C dX11_parts_103 rfl (by decide) ?_
      refine g_iload (n := 106) C dX11_parts_104 rfl rfl ?_
      refine g_aload_n (n := 107) C dX11_parts_106 rfl rfl ?_
      refine m_get (n := 110) 11 C dX11_parts_107 rfl (by decide) rfl w_1111 rfl ?_
      refine g_bipush (n := 112) (v := 6) C dX11_parts_110 rfl (by decide) ?_
      refine m_iald (n := 113) (v := B 11 6) 11 (6) C dX11_parts_112 rfl I (by decide) rfl rfl (by decide) (by decide) (by rw [rs2_r B a lf (by decide)]) ?_
      refine g_aload_n (n := 114) C dX11_parts_113 rfl rfl ?_
      refine m_get (n := 117) 25 C dX11_parts_114 rfl (by decide) rfl w_1125 rfl ?_
      refine g_iconst (n := 118) (v := 3) C dX11_parts_117 rfl (by decide) ?_
      refine m_iald (n := 119) (v := B 25 3) 25 (3) C dX11_parts_118 rfl I (by decide) rfl rfl (by decide) (by decide) (by rw [rs2_r B a lf (by decide)]) ?_
      refine g_isub (n := 120) C dX11_parts_119 rfl ?_
      refine g_min (n := 123) C dX11_parts_120 rfl mwM_min w_1308 (roomM hR rfl) ?_
      refine g_max (n := 126) C dX11_parts_123 rfl mwM_max w_1291 (roomM hR rfl) ?_
      refine g_istore (n := 128) C dX11_parts_126 rfl (by decide) ?_
      refine g_aload_n (n := 129) C dX11_parts_128 rfl rfl ?_
      refine m_get (n := 132) 21 C dX11_parts_129 rfl (by decide) rfl w_1121 rfl ?_
      refine g_iload_n (n := 133) C dX11_parts_132 rfl rfl ?_
      refine g_iconst (n := 134) (v := 4) C dX11_parts_133 rfl (by decide) ?_
      refine g_iadd (n := 135) C dX11_parts_134 rfl ?_
      refine g_iload (n := 137) C dX11_parts_135 rfl rfl ?_
      refine g_iadd (n := 138) C dX11_parts_137 rfl ?_
      refine g_iload (n := 140) C dX11_parts_138 rfl rfl ?_
      refine m_iast (n := 141) 21 (a + 4 + 3) C dX11_parts_140 rfl I (by decide) (fun _ => rfl) (ixp rfl 4 3) (by omega) (by decide) ?_
      refine g_iload (n := 143) C dX11_parts_141 rfl rfl ?_
      refine g_iload (n := 145) C dX11_parts_143 rfl rfl ?_
      refine g_isub (n := 146) C dX11_parts_145 rfl ?_
      refine g_istore (n := 148) C dX11_parts_146 rfl (by decide) ?_
      refine g_iinc (n := 151) (v := 4) C dX11_parts_148 rfl rfl (by decide) (by decide) ?_
      refine g_goto (t := 69) C dX11_parts_151 (by decide) ?_
      refine (show G K E 7 (QM K E none 0 0 P) _ _ 69 _ _ (mh E o ad G9 (rs3 B a lf) h) from ?_)
      refine g_iload (n := 71) C dX11_parts_69 rfl rfl ?_
      refine g_bipush (n := 73) (v := 6) C dX11_parts_71 rfl (by decide) ?_
      refine g_icmp_ge (n := 76) (t := 154) C dX11_parts_73 rfl (by decide) (fun zc73 => ?_) (fun zc73 => ?_)
      · exact absurd zc73 (by decide)
      refine g_aload_n (n := 77) C dX11_parts_76 rfl rfl ?_
      refine m_get (n := 80) 13 C dX11_parts_77 rfl (by decide) rfl w_1113 rfl ?_
      refine g_if_eq (n := 83) (t := 154) C dX11_parts_80 rfl (by decide) (fun zq80 => absurd zq80 zc80) (fun _ => ?_)
      refine g_iload_n (n := 84) C dX11_parts_83 rfl rfl ?_
      refine g_aload_n (n := 85) C dX11_parts_84 rfl rfl ?_
      refine m_get (n := 88) 11 C dX11_parts_85 rfl (by decide) rfl w_1111 rfl ?_
      refine g_iload (n := 90) C dX11_parts_88 rfl rfl ?_
      refine m_iald (n := 91) (v := B 11 4) 11 (4) C dX11_parts_90 rfl I (by decide) rfl rfl (by decide) (by decide) (by rw [rs3_r B a lf (by decide)]) ?_
      refine g_imul (n := 92) C dX11_parts_91 rfl ?_
      refine g_bipush (n := 94) (v := 100) C dX11_parts_92 rfl (by decide) ?_
      refine g_idiv (n := 95) C dX11_parts_94 rfl (by decide) ?_
      refine g_istore (n := 97) C dX11_parts_95 rfl (by decide) ?_
      refine g_iload (n := 99) C dX11_parts_97 rfl rfl ?_
      refine g_iconst (n := 100) (v := 3) C dX11_parts_99 rfl (by decide) ?_
      refine g_icmp_ne (n := 103) (t := 128) C dX11_parts_100 rfl (by decide) (fun zc100 => ?_) (fun zc100 => ?_)
      rotate_left
      · exact absurd zc100 (by decide)
      refine g_aload_n (n := 129) C dX11_parts_128 rfl rfl ?_
      refine m_get (n := 132) 21 C dX11_parts_129 rfl (by decide) rfl w_1121 rfl ?_
      refine g_iload_n (n := 133) C dX11_parts_132 rfl rfl ?_
      refine g_iconst (n := 134) (v := 4) C dX11_parts_133 rfl (by decide) ?_
      refine g_iadd (n := 135) C dX11_parts_134 rfl ?_
      refine g_iload (n := 137) C dX11_parts_135 rfl rfl ?_
      refine g_iadd (n := 138) C dX11_parts_137 rfl ?_
      refine g_iload (n := 140) C dX11_parts_138 rfl rfl ?_
      refine m_iast (n := 141) 21 (a + 4 + 4) C dX11_parts_140 rfl I (by decide) (fun _ => rfl) (ixp rfl 4 4) (by omega) (by decide) ?_
      refine g_iload (n := 143) C dX11_parts_141 rfl rfl ?_
      refine g_iload (n := 145) C dX11_parts_143 rfl rfl ?_
      refine g_isub (n := 146) C dX11_parts_145 rfl ?_
      refine g_istore (n := 148) C dX11_parts_146 rfl (by decide) ?_
      refine g_iinc (n := 151) (v := 5) C dX11_parts_148 rfl rfl (by decide) (by decide) ?_
      refine g_goto (t := 69) C dX11_parts_151 (by decide) ?_
      refine (show G K E 7 (QM K E none 0 0 P) _ _ 69 _ _ (mh E o ad G9 (rs4 B a lf) h) from ?_)
      refine g_iload (n := 71) C dX11_parts_69 rfl rfl ?_
      refine g_bipush (n := 73) (v := 6) C dX11_parts_71 rfl (by decide) ?_
      refine g_icmp_ge (n := 76) (t := 154) C dX11_parts_73 rfl (by decide) (fun zc73 => ?_) (fun zc73 => ?_)
      · exact absurd zc73 (by decide)
      refine g_aload_n (n := 77) C dX11_parts_76 rfl rfl ?_
      refine m_get (n := 80) 13 C dX11_parts_77 rfl (by decide) rfl w_1113 rfl ?_
      refine g_if_eq (n := 83) (t := 154) C dX11_parts_80 rfl (by decide) (fun zq80 => absurd zq80 zc80) (fun _ => ?_)
      refine g_iload_n (n := 84) C dX11_parts_83 rfl rfl ?_
      refine g_aload_n (n := 85) C dX11_parts_84 rfl rfl ?_
      refine m_get (n := 88) 11 C dX11_parts_85 rfl (by decide) rfl w_1111 rfl ?_
      refine g_iload (n := 90) C dX11_parts_88 rfl rfl ?_
      refine m_iald (n := 91) (v := B 11 5) 11 (5) C dX11_parts_90 rfl I (by decide) rfl rfl (by decide) (by decide) (by rw [rs4_r B a lf (by decide)]) ?_
      refine g_imul (n := 92) C dX11_parts_91 rfl ?_
      refine g_bipush (n := 94) (v := 100) C dX11_parts_92 rfl (by decide) ?_
      refine g_idiv (n := 95) C dX11_parts_94 rfl (by decide) ?_
      refine g_istore (n := 97) C dX11_parts_95 rfl (by decide) ?_
      refine g_iload (n := 99) C dX11_parts_97 rfl rfl ?_
      refine g_iconst (n := 100) (v := 3) C dX11_parts_99 rfl (by decide) ?_
      refine g_icmp_ne (n := 103) (t := 128) C dX11_parts_100 rfl (by decide) (fun zc100 => ?_) (fun zc100 => ?_)
      rotate_left
      · exact absurd zc100 (by decide)
      refine g_aload_n (n := 129) C dX11_parts_128 rfl rfl ?_
      refine m_get (n := 132) 21 C dX11_parts_129 rfl (by decide) rfl w_1121 rfl ?_
      refine g_iload_n (n := 133) C dX11_parts_132 rfl rfl ?_
      refine g_iconst (n := 134) (v := 4) C dX11_parts_133 rfl (by decide) ?_
      refine g_iadd (n := 135) C dX11_parts_134 rfl ?_
      refine g_iload (n := 137) C dX11_parts_135 rfl rfl ?_
      refine g_iadd (n := 138) C dX11_parts_137 rfl ?_
      refine g_iload (n := 140) C dX11_parts_138 rfl rfl ?_
      refine m_iast (n := 141) 21 (a + 4 + 5) C dX11_parts_140 rfl I (by decide) (fun _ => rfl) (ixp rfl 4 5) (by omega) (by decide) ?_
      refine g_iload (n := 143) C dX11_parts_141 rfl rfl ?_
      refine g_iload (n := 145) C dX11_parts_143 rfl rfl ?_
      refine g_isub (n := 146) C dX11_parts_145 rfl ?_
      refine g_istore (n := 148) C dX11_parts_146 rfl (by decide) ?_
      refine g_iinc (n := 151) (v := 6) C dX11_parts_148 rfl rfl (by decide) (by decide) ?_
      refine g_goto (t := 69) C dX11_parts_151 (by decide) ?_
      refine (show G K E 7 (QM K E none 0 0 P) _ _ 69 _ _ (mh E o ad G9 (rs5 B a lf) h) from ?_)
      refine g_iload (n := 71) C dX11_parts_69 rfl rfl ?_
      refine g_bipush (n := 73) (v := 6) C dX11_parts_71 rfl (by decide) ?_
      refine g_icmp_ge (n := 76) (t := 154) C dX11_parts_73 rfl (by decide) (fun zc73 => ?_) (fun zc73 => ?_)
      rotate_left
      · exact absurd zc73 (by decide)
      refine g_aload_n (n := 155) C dX11_parts_154 rfl rfl ?_
      refine m_get (n := 158) 21 C dX11_parts_155 rfl (by decide) rfl w_1121 rfl ?_
      refine g_iload_n (n := 159) C dX11_parts_158 rfl rfl ?_
      refine g_bipush (n := 161) (v := 8) C dX11_parts_159 rfl (by decide) ?_
      refine g_iadd (n := 162) C dX11_parts_161 rfl ?_
      refine g_dup2 (n := 163) C dX11_parts_162 rfl rfl rfl ?_
      refine m_iald (n := 164) (v := rsh B lf 4) 21 (a + 8) C dX11_parts_163 rfl I (by decide) rfl (ixq rfl 8) (by omega) (by decide) (by unfold rs5; rw [aset_rd _ _ (by omega)]; unfold rs4; rw [show a + 8 = a + 4 + 4 from rfl, aset_same]) ?_
      refine g_iload (n := 166) C dX11_parts_164 rfl rfl ?_
      refine g_iadd (n := 167) C dX11_parts_166 rfl ?_
      refine m_iast (n := 168) 21 (a + 8) C dX11_parts_167 rfl I (by decide) (fun _ => rfl) (ixq rfl 8) (by omega) (by decide) ?_
      refine (show G K E 7 (QM K E none 0 0 P) _ _ 168 _ _ (mh E o ad G9 (rst0 B a lf) h) from ?_)
      refine g_iconst (n := 169) (v := 1) C dX11_parts_168 rfl (by decide) ?_
      refine g_istore (n := 171) C dX11_parts_169 rfl (by decide) ?_
      refine g_iload (n := 173) C dX11_parts_171 rfl rfl ?_
      refine g_bipush (n := 175) (v := 6) C dX11_parts_173 rfl (by decide) ?_
      refine g_icmp_ge (n := 178) (t := 205) C dX11_parts_175 rfl (by decide) (fun zc175 => ?_) (fun zc175 => ?_)
      · exact absurd zc175 (by decide)
      refine g_aload_n (n := 179) C dX11_parts_178 rfl rfl ?_
      refine m_get (n := 182) 25 C dX11_parts_179 rfl (by decide) rfl w_1125 rfl ?_
      refine g_iload (n := 184) C dX11_parts_182 rfl rfl ?_
      refine g_dup2 (n := 185) C dX11_parts_184 rfl rfl rfl ?_
      refine m_iald (n := 186) (v := B 25 1) 25 (1) C dX11_parts_185 rfl I (by decide) rfl rfl (by decide) (by decide) (rh0_25 B a lf 1) ?_
      refine g_aload_n (n := 187) C dX11_parts_186 rfl rfl ?_
      refine m_get (n := 190) 21 C dX11_parts_187 rfl (by decide) rfl w_1121 rfl ?_
      refine g_iload_n (n := 191) C dX11_parts_190 rfl rfl ?_
      refine g_iconst (n := 192) (v := 4) C dX11_parts_191 rfl (by decide) ?_
      refine g_iadd (n := 193) C dX11_parts_192 rfl ?_
      refine g_iload (n := 195) C dX11_parts_193 rfl rfl ?_
      refine g_iadd (n := 196) C dX11_parts_195 rfl ?_
      refine m_iald (n := 197) (v := rsh B lf 1) 21 (a + 4 + 1) C dX11_parts_196 rfl I (by decide) rfl (ixp rfl 4 1) (by omega) (by decide) (rst0_rd1 B a lf) ?_
      refine g_iadd (n := 198) C dX11_parts_197 rfl ?_
      refine m_iast (n := 199) 25 (1) C dX11_parts_198 rfl I (by decide) (fun _ => rfl) rfl (by decide) (by decide) ?_
      refine g_iinc (n := 202) (v := 2) C dX11_parts_199 rfl rfl (by decide) (by decide) ?_
      refine g_goto (t := 171) C dX11_parts_202 (by decide) ?_
      refine (show G K E 7 (QM K E none 0 0 P) _ _ 171 _ _ (mh E o ad G9 (rh1 B a lf) h) from ?_)
      refine g_iload (n := 173) C dX11_parts_171 rfl rfl ?_
      refine g_bipush (n := 175) (v := 6) C dX11_parts_173 rfl (by decide) ?_
      refine g_icmp_ge (n := 178) (t := 205) C dX11_parts_175 rfl (by decide) (fun zc175 => ?_) (fun zc175 => ?_)
      · exact absurd zc175 (by decide)
      refine g_aload_n (n := 179) C dX11_parts_178 rfl rfl ?_
      refine m_get (n := 182) 25 C dX11_parts_179 rfl (by decide) rfl w_1125 rfl ?_
      refine g_iload (n := 184) C dX11_parts_182 rfl rfl ?_
      refine g_dup2 (n := 185) C dX11_parts_184 rfl rfl rfl ?_
      refine m_iald (n := 186) (v := B 25 2) 25 (2) C dX11_parts_185 rfl I (by decide) rfl rfl (by decide) (by decide) (rh1_25 B a lf (by decide)) ?_
      refine g_aload_n (n := 187) C dX11_parts_186 rfl rfl ?_
      refine m_get (n := 190) 21 C dX11_parts_187 rfl (by decide) rfl w_1121 rfl ?_
      refine g_iload_n (n := 191) C dX11_parts_190 rfl rfl ?_
      refine g_iconst (n := 192) (v := 4) C dX11_parts_191 rfl (by decide) ?_
      refine g_iadd (n := 193) C dX11_parts_192 rfl ?_
      refine g_iload (n := 195) C dX11_parts_193 rfl rfl ?_
      refine g_iadd (n := 196) C dX11_parts_195 rfl ?_
      refine m_iald (n := 197) (v := rsh B lf 2) 21 (a + 4 + 2) C dX11_parts_196 rfl I (by decide) rfl (ixp rfl 4 2) (by omega) (by decide) (by rw [rh1_21 B a lf]; exact rst0_rd2 B a lf) ?_
      refine g_iadd (n := 198) C dX11_parts_197 rfl ?_
      refine m_iast (n := 199) 25 (2) C dX11_parts_198 rfl I (by decide) (fun _ => rfl) rfl (by decide) (by decide) ?_
      refine g_iinc (n := 202) (v := 3) C dX11_parts_199 rfl rfl (by decide) (by decide) ?_
      refine g_goto (t := 171) C dX11_parts_202 (by decide) ?_
      refine (show G K E 7 (QM K E none 0 0 P) _ _ 171 _ _ (mh E o ad G9 (rh2 B a lf) h) from ?_)
      refine g_iload (n := 173) C dX11_parts_171 rfl rfl ?_
      refine g_bipush (n := 175) (v := 6) C dX11_parts_173 rfl (by decide) ?_
      refine g_icmp_ge (n := 178) (t := 205) C dX11_parts_175 rfl (by decide) (fun zc175 => ?_) (fun zc175 => ?_)
      · exact absurd zc175 (by decide)
      refine g_aload_n (n := 179) C dX11_parts_178 rfl rfl ?_
      refine m_get (n := 182) 25 C dX11_parts_179 rfl (by decide) rfl w_1125 rfl ?_
      refine g_iload (n := 184) C dX11_parts_182 rfl rfl ?_
      refine g_dup2 (n := 185) C dX11_parts_184 rfl rfl rfl ?_
      refine m_iald (n := 186) (v := B 25 3) 25 (3) C dX11_parts_185 rfl I (by decide) rfl rfl (by decide) (by decide) (rh2_25 B a lf (by decide)) ?_
      refine g_aload_n (n := 187) C dX11_parts_186 rfl rfl ?_
      refine m_get (n := 190) 21 C dX11_parts_187 rfl (by decide) rfl w_1121 rfl ?_
      refine g_iload_n (n := 191) C dX11_parts_190 rfl rfl ?_
      refine g_iconst (n := 192) (v := 4) C dX11_parts_191 rfl (by decide) ?_
      refine g_iadd (n := 193) C dX11_parts_192 rfl ?_
      refine g_iload (n := 195) C dX11_parts_193 rfl rfl ?_
      refine g_iadd (n := 196) C dX11_parts_195 rfl ?_
      refine m_iald (n := 197) (v := rle B lf) 21 (a + 4 + 3) C dX11_parts_196 rfl I (by decide) rfl (ixp rfl 4 3) (by omega) (by decide) (by rw [rh2_21 B a lf]; exact rst0_rd3 B a lf) ?_
      refine g_iadd (n := 198) C dX11_parts_197 rfl ?_
      refine m_iast (n := 199) 25 (3) C dX11_parts_198 rfl I (by decide) (fun _ => rfl) rfl (by decide) (by decide) ?_
      refine g_iinc (n := 202) (v := 4) C dX11_parts_199 rfl rfl (by decide) (by decide) ?_
      refine g_goto (t := 171) C dX11_parts_202 (by decide) ?_
      refine (show G K E 7 (QM K E none 0 0 P) _ _ 171 _ _ (mh E o ad G9 (rh3 B a lf) h) from ?_)
      refine g_iload (n := 173) C dX11_parts_171 rfl rfl ?_
      refine g_bipush (n := 175) (v := 6) C dX11_parts_173 rfl (by decide) ?_
      refine g_icmp_ge (n := 178) (t := 205) C dX11_parts_175 rfl (by decide) (fun zc175 => ?_) (fun zc175 => ?_)
      · exact absurd zc175 (by decide)
      refine g_aload_n (n := 179) C dX11_parts_178 rfl rfl ?_
      refine m_get (n := 182) 25 C dX11_parts_179 rfl (by decide) rfl w_1125 rfl ?_
      refine g_iload (n := 184) C dX11_parts_182 rfl rfl ?_
      refine g_dup2 (n := 185) C dX11_parts_184 rfl rfl rfl ?_
      refine m_iald (n := 186) (v := B 25 4) 25 (4) C dX11_parts_185 rfl I (by decide) rfl rfl (by decide) (by decide) (rh3_25 B a lf (by decide)) ?_
      refine g_aload_n (n := 187) C dX11_parts_186 rfl rfl ?_
      refine m_get (n := 190) 21 C dX11_parts_187 rfl (by decide) rfl w_1121 rfl ?_
      refine g_iload_n (n := 191) C dX11_parts_190 rfl rfl ?_
      refine g_iconst (n := 192) (v := 4) C dX11_parts_191 rfl (by decide) ?_
      refine g_iadd (n := 193) C dX11_parts_192 rfl ?_
      refine g_iload (n := 195) C dX11_parts_193 rfl rfl ?_
      refine g_iadd (n := 196) C dX11_parts_195 rfl ?_
      refine m_iald (n := 197) (v := rdi B lf) 21 (a + 4 + 4) C dX11_parts_196 rfl I (by decide) rfl (ixp rfl 4 4) (by omega) (by decide) (by rw [rh3_21 B a lf]; exact rst0_rd4 B a lf) ?_
      refine g_iadd (n := 198) C dX11_parts_197 rfl ?_
      refine m_iast (n := 199) 25 (4) C dX11_parts_198 rfl I (by decide) (fun _ => rfl) rfl (by decide) (by decide) ?_
      refine g_iinc (n := 202) (v := 5) C dX11_parts_199 rfl rfl (by decide) (by decide) ?_
      refine g_goto (t := 171) C dX11_parts_202 (by decide) ?_
      refine (show G K E 7 (QM K E none 0 0 P) _ _ 171 _ _ (mh E o ad G9 (rh4 B a lf) h) from ?_)
      refine g_iload (n := 173) C dX11_parts_171 rfl rfl ?_
      refine g_bipush (n := 175) (v := 6) C dX11_parts_173 rfl (by decide) ?_
      refine g_icmp_ge (n := 178) (t := 205) C dX11_parts_175 rfl (by decide) (fun zc175 => ?_) (fun zc175 => ?_)
      · exact absurd zc175 (by decide)
      refine g_aload_n (n := 179) C dX11_parts_178 rfl rfl ?_
      refine m_get (n := 182) 25 C dX11_parts_179 rfl (by decide) rfl w_1125 rfl ?_
      refine g_iload (n := 184) C dX11_parts_182 rfl rfl ?_
      refine g_dup2 (n := 185) C dX11_parts_184 rfl rfl rfl ?_
      refine m_iald (n := 186) (v := B 25 5) 25 (5) C dX11_parts_185 rfl I (by decide) rfl rfl (by decide) (by decide) (rh4_25 B a lf (by decide)) ?_
      refine g_aload_n (n := 187) C dX11_parts_186 rfl rfl ?_
      refine m_get (n := 190) 21 C dX11_parts_187 rfl (by decide) rfl w_1121 rfl ?_
      refine g_iload_n (n := 191) C dX11_parts_190 rfl rfl ?_
      refine g_iconst (n := 192) (v := 4) C dX11_parts_191 rfl (by decide) ?_
      refine g_iadd (n := 193) C dX11_parts_192 rfl ?_
      refine g_iload (n := 195) C dX11_parts_193 rfl rfl ?_
      refine g_iadd (n := 196) C dX11_parts_195 rfl ?_
      refine m_iald (n := 197) (v := rsh B lf 5) 21 (a + 4 + 5) C dX11_parts_196 rfl I (by decide) rfl (ixp rfl 4 5) (by omega) (by decide) (by rw [rh4_21 B a lf]; exact rst0_rd5 B a lf) ?_
      refine g_iadd (n := 198) C dX11_parts_197 rfl ?_
      refine m_iast (n := 199) 25 (5) C dX11_parts_198 rfl I (by decide) (fun _ => rfl) rfl (by decide) (by decide) ?_
      refine g_iinc (n := 202) (v := 6) C dX11_parts_199 rfl rfl (by decide) (by decide) ?_
      refine g_goto (t := 171) C dX11_parts_202 (by decide) ?_
      refine (show G K E 7 (QM K E none 0 0 P) _ _ 171 _ _ (mh E o ad G9 (rtail B a lf) h) from ?_)
      refine g_iload (n := 173) C dX11_parts_171 rfl rfl ?_
      refine g_bipush (n := 175) (v := 6) C dX11_parts_173 rfl (by decide) ?_
      refine g_icmp_ge (n := 178) (t := 205) C dX11_parts_175 rfl (by decide) (fun zc175 => ?_) (fun zc175 => ?_)
      rotate_left
      · exact absurd zc175 (by decide)
      refine g_vret C dX11_parts_205 (by decide) (by decide) ?_
      exact hp
  refine g_iload_n (n := 1) C dX11_parts_0 rfl rfl ?_
  refine g_istore_n (n := 2) C dX11_parts_1 rfl (by decide) ?_
  refine g_aload_n (n := 3) C dX11_parts_2 rfl rfl ?_
  refine m_get (n := 6) 13 C dX11_parts_3 rfl (by decide) rfl w_1113 rfl ?_
  refine g_if_eq (n := 9) (t := 63) C dX11_parts_6 rfl (by decide) (fun zc6 => ?_) (fun zc6 => ?_)
  · --t6
    exact g_lv [0, 1, 2, 3] rfl (tail _ _ _ hz (fun k h1 h2 => z k h2) (by have zc16 : ¬ A 11 0 = 1 := (by rw [hz zc6 0]; decide); rw [← (rp_no (x := x) (F := F) zc16 (z 0 (by omega))).2]; have e := hp; rw [(rp_no (x := x) (F := F) zc16 (z 0 (by omega))).1] at e; exact e))
  · --f6
    refine g_aload_n (n := 10) C dX11_parts_9 rfl rfl ?_
    refine m_get (n := 13) 11 C dX11_parts_10 rfl (by decide) rfl w_1111 rfl ?_
    refine g_iconst (n := 14) (v := 0) C dX11_parts_13 rfl (by decide) ?_
    refine m_iald (n := 15) 11 (0) C dX11_parts_14 rfl I (by decide) rfl rfl (by decide) (by decide) rfl ?_
    refine g_iconst (n := 16) (v := 1) C dX11_parts_15 rfl (by decide) ?_
    refine g_icmp_ne (n := 19) (t := 63) C dX11_parts_16 rfl (by decide) (fun zc16 => ?_) (fun zc16 => ?_)
    · --t16
      exact g_lv [0, 1, 2, 3] rfl (tail _ _ _ hz (fun k h1 h2 => z k h2) (by rw [← (rp_no (x := x) (F := F) zc16 (z 0 (by omega))).2]; have e := hp; rw [(rp_no (x := x) (F := F) zc16 (z 0 (by omega))).1] at e; exact e))
    · --f16
      refine g_aload_n (n := 20) C dX11_parts_19 rfl rfl ?_
      refine m_get (n := 23) 21 C dX11_parts_20 rfl (by decide) rfl w_1121 rfl ?_
      refine g_iload_n (n := 24) C dX11_parts_23 rfl rfl ?_
      refine g_iconst (n := 25) (v := 4) C dX11_parts_24 rfl (by decide) ?_
      refine g_iadd (n := 26) C dX11_parts_25 rfl ?_
      refine g_aload_n (n := 27) C dX11_parts_26 rfl rfl ?_
      refine m_get (n := 30) 24 C dX11_parts_27 rfl (by decide) rfl w_1124 rfl ?_
      refine g_iload_n (n := 31) C dX11_parts_30 rfl rfl ?_
      refine g_min (n := 34) C dX11_parts_31 rfl mwM_min w_1308 (roomM hR rfl) ?_
      refine m_iast (n := 35) 21 (a + 4) C dX11_parts_34 rfl I (by decide) (fun _ => rfl) (ixq rfl 4) (by omega) (by decide) ?_
      refine g_aload_n (n := 36) C dX11_parts_35 rfl rfl ?_
      refine g_dup (n := 37) C dX11_parts_36 rfl rfl ?_
      refine m_get (n := 40) 24 C dX11_parts_37 rfl (by decide) rfl w_1124 rfl ?_
      refine g_aload_n (n := 41) C dX11_parts_40 rfl rfl ?_
      refine m_get (n := 44) 21 C dX11_parts_41 rfl (by decide) rfl w_1121 rfl ?_
      refine g_iload_n (n := 45) C dX11_parts_44 rfl rfl ?_
      refine g_iconst (n := 46) (v := 4) C dX11_parts_45 rfl (by decide) ?_
      refine g_iadd (n := 47) C dX11_parts_46 rfl ?_
      refine m_iald (n := 48) (v := imin (F 24) x) 21 (a + 4) C dX11_parts_47 rfl I (by decide) rfl (ixq rfl 4) (by omega) (by decide) (by exact aset_same _ _ _ _) ?_
      refine g_isub (n := 49) C dX11_parts_48 rfl ?_
      refine m_put (n := 52) 24 C dX11_parts_49 rfl (by decide) w_1124 rfl rfl rfl mfs_24 ?_
      refine g_iload_n (n := 53) C dX11_parts_52 rfl rfl ?_
      refine g_aload_n (n := 54) C dX11_parts_53 rfl rfl ?_
      refine m_get (n := 57) 21 C dX11_parts_54 rfl (by decide) rfl w_1121 rfl ?_
      refine g_iload_n (n := 58) C dX11_parts_57 rfl rfl ?_
      refine g_iconst (n := 59) (v := 4) C dX11_parts_58 rfl (by decide) ?_
      refine g_iadd (n := 60) C dX11_parts_59 rfl ?_
      refine m_iald (n := 61) (v := imin (F 24) x) 21 (a + 4) C dX11_parts_60 rfl I (by decide) rfl (ixq rfl 4) (by omega) (by decide) (by exact aset_same _ _ _ _) ?_
      refine g_isub (n := 62) C dX11_parts_61 rfl ?_
      refine g_istore_n (n := 63) C dX11_parts_62 rfl (by decide) ?_
      exact g_lv [0, 1, 2, 3] rfl (tail _ _ _ (fun zq k => absurd zq zc6) (fun k h1 h2 => (aset_rd _ _ (by omega)).trans (z k h2)) (by have e := hp; unfold rpF rpA rco at e; rw [if_pos zc16] at e; exact e))
end
section
/-- the buyer of the greatest hand not below the limit among the first, by the hands from place c on; -1: none -/
def rbuy (H9 : Nat → Int32) (c : Nat) (lim : Int32) : Nat → Int32
  | 0 => -1
  | b + 1 => if H9 (c + b) < lim then rbuy H9 c lim b else if rbuy H9 c lim b < 0 then nI b else if H9 (c + b) ≤ H9 (c + (rbuy H9 c lim b).toNatClampNeg) then rbuy H9 c lim b else nI b
theorem rbuy_in (H9 : Nat → Int32) (c : Nat) (lim : Int32) : ∀ b, b ≤ 6 → rbuy H9 c lim b = -1 ∨ ∃ i, i < b ∧ rbuy H9 c lim b = nI i
  | 0, _ => Or.inl rfl
  | b + 1, h => by
    have ih := rbuy_in H9 c lim b (by omega)
    have up : rbuy H9 c lim b = -1 ∨ ∃ i, i < b + 1 ∧ rbuy H9 c lim b = nI i := ih.imp id (fun ⟨i, h1, h2⟩ => ⟨i, by omega, h2⟩)
    unfold rbuy
    by_cases c1 : H9 (c + b) < lim
    · rw [if_pos c1]; exact up
    · rw [if_neg c1]
      by_cases c2 : rbuy H9 c lim b < 0
      · rw [if_pos c2]; exact Or.inr ⟨b, by omega, rfl⟩
      · rw [if_neg c2]
        by_cases c3 : H9 (c + b) ≤ H9 (c + (rbuy H9 c lim b).toNatClampNeg)
        · rw [if_pos c3]; exact up
        · rw [if_neg c3]; exact Or.inr ⟨b, by omega, rfl⟩
theorem rbuy_ge {H9 : Nat → Int32} {c : Nat} {lim : Int32} {b : Nat} (hb : b ≤ 6) (h : ¬ rbuy H9 c lim b < 0) : ∃ i, i < b ∧ rbuy H9 c lim b = nI i := by
  rcases rbuy_in H9 c lim b hb with q | q
  · rw [q] at h; exact absurd (by decide) h
  · exact q
theorem rbuy_1 {H9 : Nat → Int32} {c : Nat} {lim : Int32} {b : Nat} (h : H9 (c + b) < lim) : rbuy H9 c lim b = rbuy H9 c lim (b + 1) := by
  conv => rhs; unfold rbuy
  rw [if_pos h]
theorem rbuy_2 {H9 : Nat → Int32} {c : Nat} {lim : Int32} {b : Nat} (h : ¬ H9 (c + b) < lim) (h2 : rbuy H9 c lim b < 0) : nI b = rbuy H9 c lim (b + 1) := by
  conv => rhs; unfold rbuy
  rw [if_neg h, if_pos h2]
theorem rbuy_3 {H9 : Nat → Int32} {c : Nat} {lim : Int32} {b i : Nat} (h : ¬ H9 (c + b) < lim) (h2 : ¬ rbuy H9 c lim b < 0) (e : rbuy H9 c lim b = nI i) (hi : i < 6) (h3 : H9 (c + b) ≤ H9 (c + i)) : rbuy H9 c lim b = rbuy H9 c lim (b + 1) := by
  conv => rhs; unfold rbuy
  rw [if_neg h, if_neg h2, if_pos (by rw [e, nI_clamp (by omega)]; exact h3)]
theorem rbuy_4 {H9 : Nat → Int32} {c : Nat} {lim : Int32} {b i : Nat} (h : ¬ H9 (c + b) < lim) (h2 : ¬ rbuy H9 c lim b < 0) (e : rbuy H9 c lim b = nI i) (hi : i < 6) (h3 : ¬ H9 (c + b) ≤ H9 (c + i)) : nI b = rbuy H9 c lim (b + 1) := by
  conv => rhs; unfold rbuy
  rw [if_neg h, if_neg h2, if_neg (by rw [e, nI_clamp (by omega)]; exact h3)]
/-- what a sale of stone j to buyer i does to the reference -/
def rseA (A : Nat → Nat → Int32) (j i : Nat) : Nat → Nat → Int32 := aset (aset A 21 (10 * j + 2) (nI i)) 21 (10 * j + 3) (A 22 (6 * j + i))
theorem rse_row (A : Nat → Nat → Int32) (j i : Nat) {k : Nat} (h : k ≠ 21) : rseA A j i k = A k := (aset_row _ _ _ h).trans (aset_row _ _ _ h)
theorem rse_at (A : Nat → Nat → Int32) (j i k : Nat) : rseA A j i 21 (10 * j + 4 + k) = A 21 (10 * j + 4 + k) := (aset_rd _ _ (by omega)).trans (aset_rd _ _ (by omega))
theorem ix6z {x : Int32} {m : Nat} (hx : x = nI m) : 6 * x = nI (6 * m) := by rw [hx, ← pk_mul]; rfl
theorem dX11_sell_0 : decode cX11_sell 0 = .ok (.aload_n 0, 1) := by decide +kernel
theorem dX11_sell_1 : decode cX11_sell 1 = .ok (.iconst 0, 1) := by decide +kernel
theorem dX11_sell_2 : decode cX11_sell 2 = .ok (.putfield 76, 3) := by decide +kernel
theorem dX11_sell_5 : decode cX11_sell 5 = .ok (.aload_n 0, 1) := by decide +kernel
theorem dX11_sell_6 : decode cX11_sell 6 = .ok (.aload_n 0, 1) := by decide +kernel
theorem dX11_sell_7 : decode cX11_sell 7 = .ok (.iload_n 1, 1) := by decide +kernel
theorem dX11_sell_8 : decode cX11_sell 8 = .ok (.invokevirtual 209, 3) := by decide +kernel
theorem dX11_sell_11 : decode cX11_sell 11 = .ok (.iconst 1, 1) := by decide +kernel
theorem dX11_sell_12 : decode cX11_sell 12 = .ok (.invokevirtual 162, 3) := by decide +kernel
theorem dX11_sell_15 : decode cX11_sell 15 = .ok (.ifCond .ne 40, 3) := by decide +kernel
theorem dX11_sell_18 : decode cX11_sell 18 = .ok (.aload_n 0, 1) := by decide +kernel
theorem dX11_sell_19 : decode cX11_sell 19 = .ok (.iload_n 2, 1) := by decide +kernel
theorem dX11_sell_20 : decode cX11_sell 20 = .ok (.iconst 0, 1) := by decide +kernel
theorem dX11_sell_21 : decode cX11_sell 21 = .ok (.ldc 212, 2) := by decide +kernel
theorem dX11_sell_23 : decode cX11_sell 23 = .ok (.invokestatic 79, 3) := by decide +kernel
theorem dX11_sell_26 : decode cX11_sell 26 = .ok (.ifCond .ne 7, 3) := by decide +kernel
theorem dX11_sell_29 : decode cX11_sell 29 = .ok (.iconst 1, 1) := by decide +kernel
theorem dX11_sell_30 : decode cX11_sell 30 = .ok (.goto 4, 3) := by decide +kernel
theorem dX11_sell_33 : decode cX11_sell 33 = .ok (.iconst 0, 1) := by decide +kernel
theorem dX11_sell_34 : decode cX11_sell 34 = .ok (.iconst 2, 1) := by decide +kernel
theorem dX11_sell_35 : decode cX11_sell 35 = .ok (.invokevirtual 162, 3) := by decide +kernel
theorem dX11_sell_38 : decode cX11_sell 38 = .ok (.ifCond .ne 17, 3) := by decide +kernel
theorem dX11_sell_41 : decode cX11_sell 41 = .ok (.aload_n 0, 1) := by decide +kernel
theorem dX11_sell_42 : decode cX11_sell 42 = .ok (.getfield 51, 3) := by decide +kernel
theorem dX11_sell_45 : decode cX11_sell 45 = .ok (.bipush 10, 2) := by decide +kernel
theorem dX11_sell_47 : decode cX11_sell 47 = .ok (.iload_n 1, 1) := by decide +kernel
theorem dX11_sell_48 : decode cX11_sell 48 = .ok (.imul, 1) := by decide +kernel
theorem dX11_sell_49 : decode cX11_sell 49 = .ok (.iconst 2, 1) := by decide +kernel
theorem dX11_sell_50 : decode cX11_sell 50 = .ok (.iadd, 1) := by decide +kernel
theorem dX11_sell_51 : decode cX11_sell 51 = .ok (.iaload, 1) := by decide +kernel
theorem dX11_sell_52 : decode cX11_sell 52 = .ok (.ifCond .lt 16, 3) := by decide +kernel
theorem dX11_sell_55 : decode cX11_sell 55 = .ok (.aload_n 0, 1) := by decide +kernel
theorem dX11_sell_56 : decode cX11_sell 56 = .ok (.getfield 76, 3) := by decide +kernel
theorem dX11_sell_59 : decode cX11_sell 59 = .ok (.ifCond .eq 7, 3) := by decide +kernel
theorem dX11_sell_62 : decode cX11_sell 62 = .ok (.iconst 0, 1) := by decide +kernel
theorem dX11_sell_63 : decode cX11_sell 63 = .ok (.goto 4, 3) := by decide +kernel
theorem dX11_sell_66 : decode cX11_sell 66 = .ok (.iconst (-1), 1) := by decide +kernel
theorem dX11_sell_67 : decode cX11_sell 67 = .ok (.ireturn, 1) := by decide +kernel
theorem dX11_sell_68 : decode cX11_sell 68 = .ok (.iconst (-1), 1) := by decide +kernel
theorem dX11_sell_69 : decode cX11_sell 69 = .ok (.istore_n 3, 1) := by decide +kernel
theorem dX11_sell_70 : decode cX11_sell 70 = .ok (.iconst 0, 1) := by decide +kernel
theorem dX11_sell_71 : decode cX11_sell 71 = .ok (.istore 4, 2) := by decide +kernel
theorem dX11_sell_73 : decode cX11_sell 73 = .ok (.iload 4, 2) := by decide +kernel
theorem dX11_sell_75 : decode cX11_sell 75 = .ok (.bipush 6, 2) := by decide +kernel
theorem dX11_sell_77 : decode cX11_sell 77 = .ok (.if_icmp .ge 52, 3) := by decide +kernel
theorem dX11_sell_80 : decode cX11_sell 80 = .ok (.aload_n 0, 1) := by decide +kernel
theorem dX11_sell_81 : decode cX11_sell 81 = .ok (.getfield 54, 3) := by decide +kernel
theorem dX11_sell_84 : decode cX11_sell 84 = .ok (.bipush 6, 2) := by decide +kernel
theorem dX11_sell_86 : decode cX11_sell 86 = .ok (.iload_n 1, 1) := by decide +kernel
theorem dX11_sell_87 : decode cX11_sell 87 = .ok (.imul, 1) := by decide +kernel
theorem dX11_sell_88 : decode cX11_sell 88 = .ok (.iload 4, 2) := by decide +kernel
theorem dX11_sell_90 : decode cX11_sell 90 = .ok (.iadd, 1) := by decide +kernel
theorem dX11_sell_91 : decode cX11_sell 91 = .ok (.iaload, 1) := by decide +kernel
theorem dX11_sell_92 : decode cX11_sell 92 = .ok (.istore 5, 2) := by decide +kernel
theorem dX11_sell_94 : decode cX11_sell 94 = .ok (.iload 5, 2) := by decide +kernel
theorem dX11_sell_96 : decode cX11_sell 96 = .ok (.iload_n 2, 1) := by decide +kernel
theorem dX11_sell_97 : decode cX11_sell 97 = .ok (.if_icmp .lt 26, 3) := by decide +kernel
theorem dX11_sell_100 : decode cX11_sell 100 = .ok (.iload_n 3, 1) := by decide +kernel
theorem dX11_sell_101 : decode cX11_sell 101 = .ok (.ifCond .lt 19, 3) := by decide +kernel
theorem dX11_sell_104 : decode cX11_sell 104 = .ok (.iload 5, 2) := by decide +kernel
theorem dX11_sell_106 : decode cX11_sell 106 = .ok (.aload_n 0, 1) := by decide +kernel
theorem dX11_sell_107 : decode cX11_sell 107 = .ok (.getfield 54, 3) := by decide +kernel
theorem dX11_sell_110 : decode cX11_sell 110 = .ok (.bipush 6, 2) := by decide +kernel
theorem dX11_sell_112 : decode cX11_sell 112 = .ok (.iload_n 1, 1) := by decide +kernel
theorem dX11_sell_113 : decode cX11_sell 113 = .ok (.imul, 1) := by decide +kernel
theorem dX11_sell_114 : decode cX11_sell 114 = .ok (.iload_n 3, 1) := by decide +kernel
theorem dX11_sell_115 : decode cX11_sell 115 = .ok (.iadd, 1) := by decide +kernel
theorem dX11_sell_116 : decode cX11_sell 116 = .ok (.iaload, 1) := by decide +kernel
theorem dX11_sell_117 : decode cX11_sell 117 = .ok (.if_icmp .le 6, 3) := by decide +kernel
theorem dX11_sell_120 : decode cX11_sell 120 = .ok (.iload 4, 2) := by decide +kernel
theorem dX11_sell_122 : decode cX11_sell 122 = .ok (.istore_n 3, 1) := by decide +kernel
theorem dX11_sell_123 : decode cX11_sell 123 = .ok (.iinc 4 1, 3) := by decide +kernel
theorem dX11_sell_126 : decode cX11_sell 126 = .ok (.goto (-53), 3) := by decide +kernel
theorem dX11_sell_129 : decode cX11_sell 129 = .ok (.iload_n 3, 1) := by decide +kernel
theorem dX11_sell_130 : decode cX11_sell 130 = .ok (.ifCond .ge 5, 3) := by decide +kernel
theorem dX11_sell_133 : decode cX11_sell 133 = .ok (.iconst (-1), 1) := by decide +kernel
theorem dX11_sell_134 : decode cX11_sell 134 = .ok (.ireturn, 1) := by decide +kernel
theorem dX11_sell_135 : decode cX11_sell 135 = .ok (.aload_n 0, 1) := by decide +kernel
theorem dX11_sell_136 : decode cX11_sell 136 = .ok (.getfield 51, 3) := by decide +kernel
theorem dX11_sell_139 : decode cX11_sell 139 = .ok (.bipush 10, 2) := by decide +kernel
theorem dX11_sell_141 : decode cX11_sell 141 = .ok (.iload_n 1, 1) := by decide +kernel
theorem dX11_sell_142 : decode cX11_sell 142 = .ok (.imul, 1) := by decide +kernel
theorem dX11_sell_143 : decode cX11_sell 143 = .ok (.iconst 2, 1) := by decide +kernel
theorem dX11_sell_144 : decode cX11_sell 144 = .ok (.iadd, 1) := by decide +kernel
theorem dX11_sell_145 : decode cX11_sell 145 = .ok (.iload_n 3, 1) := by decide +kernel
theorem dX11_sell_146 : decode cX11_sell 146 = .ok (.iastore, 1) := by decide +kernel
theorem dX11_sell_147 : decode cX11_sell 147 = .ok (.aload_n 0, 1) := by decide +kernel
theorem dX11_sell_148 : decode cX11_sell 148 = .ok (.getfield 51, 3) := by decide +kernel
theorem dX11_sell_151 : decode cX11_sell 151 = .ok (.bipush 10, 2) := by decide +kernel
theorem dX11_sell_153 : decode cX11_sell 153 = .ok (.iload_n 1, 1) := by decide +kernel
theorem dX11_sell_154 : decode cX11_sell 154 = .ok (.imul, 1) := by decide +kernel
theorem dX11_sell_155 : decode cX11_sell 155 = .ok (.iconst 3, 1) := by decide +kernel
theorem dX11_sell_156 : decode cX11_sell 156 = .ok (.iadd, 1) := by decide +kernel
theorem dX11_sell_157 : decode cX11_sell 157 = .ok (.aload_n 0, 1) := by decide +kernel
theorem dX11_sell_158 : decode cX11_sell 158 = .ok (.getfield 54, 3) := by decide +kernel
theorem dX11_sell_161 : decode cX11_sell 161 = .ok (.bipush 6, 2) := by decide +kernel
theorem dX11_sell_163 : decode cX11_sell 163 = .ok (.iload_n 1, 1) := by decide +kernel
theorem dX11_sell_164 : decode cX11_sell 164 = .ok (.imul, 1) := by decide +kernel
theorem dX11_sell_165 : decode cX11_sell 165 = .ok (.iload_n 3, 1) := by decide +kernel
theorem dX11_sell_166 : decode cX11_sell 166 = .ok (.iadd, 1) := by decide +kernel
theorem dX11_sell_167 : decode cX11_sell 167 = .ok (.iaload, 1) := by decide +kernel
theorem dX11_sell_168 : decode cX11_sell 168 = .ok (.iastore, 1) := by decide +kernel
theorem dX11_sell_169 : decode cX11_sell 169 = .ok (.aload_n 0, 1) := by decide +kernel
theorem dX11_sell_170 : decode cX11_sell 170 = .ok (.bipush 10, 2) := by decide +kernel
theorem dX11_sell_172 : decode cX11_sell 172 = .ok (.iload_n 1, 1) := by decide +kernel
theorem dX11_sell_173 : decode cX11_sell 173 = .ok (.imul, 1) := by decide +kernel
theorem dX11_sell_174 : decode cX11_sell 174 = .ok (.aload_n 0, 1) := by decide +kernel
theorem dX11_sell_175 : decode cX11_sell 175 = .ok (.getfield 51, 3) := by decide +kernel
theorem dX11_sell_178 : decode cX11_sell 178 = .ok (.bipush 10, 2) := by decide +kernel
theorem dX11_sell_180 : decode cX11_sell 180 = .ok (.iload_n 1, 1) := by decide +kernel
theorem dX11_sell_181 : decode cX11_sell 181 = .ok (.imul, 1) := by decide +kernel
theorem dX11_sell_182 : decode cX11_sell 182 = .ok (.iconst 3, 1) := by decide +kernel
theorem dX11_sell_183 : decode cX11_sell 183 = .ok (.iadd, 1) := by decide +kernel
theorem dX11_sell_184 : decode cX11_sell 184 = .ok (.iaload, 1) := by decide +kernel
theorem dX11_sell_185 : decode cX11_sell 185 = .ok (.invokevirtual 213, 3) := by decide +kernel
theorem dX11_sell_188 : decode cX11_sell 188 = .ok (.iload_n 3, 1) := by decide +kernel
theorem dX11_sell_189 : decode cX11_sell 189 = .ok (.ireturn, 1) := by decide +kernel
set_option maxHeartbeats 2000000 in
set_option maxRecDepth 20000 in
theorem ct_sell {l : Launch} {E : Ev} {P : Value → AH → Prop} {o : Nat} {ad : Nat → Nat} {F : Nat → Int32} {A : Nat → Nat → Int32} {h : AH} (I : mI o ad) {m : Nat} (hm : F 23 = nI m) (hm6 : m ≤ 60) {s lim : Int32} (hz : F 13 = 0 → ∀ k, A 11 k = 0) (hzz : ∀ j, j < m → A 21 (10 * j + 2) < 0 → ∀ k, k < 6 → A 21 (10 * j + 4 + k) = 0) (k1 : s < 0 ∨ F 23 - 1 < s → P (.int 0) (mh E o ad (upd (upd F 0 0) 0 1) A h)) (k2 : ∀ j, j < m → s = nI j → (lim < 0 ∨ 1000000 < lim) → P (.int 0) (mh E o ad (upd (upd F 0 0) 0 2) A h)) (k3 : ∀ j, j < m → s = nI j → ¬ (lim < 0 ∨ 1000000 < lim) → ¬ A 21 (10 * j + 2) < 0 → P (.int (-1)) (mh E o ad (upd F 0 0) A h)) (k4 : ∀ j, j < m → s = nI j → ¬ (lim < 0 ∨ 1000000 < lim) → A 21 (10 * j + 2) < 0 → rbuy (A 22) (6 * j) lim 6 = -1 → P (.int (-1)) (mh E o ad (upd F 0 0) A h)) (k5 : ∀ j, j < m → s = nI j → ¬ (lim < 0 ∨ 1000000 < lim) → A 21 (10 * j + 2) < 0 → ∀ i, i < 6 → rbuy (A 22) (6 * j) lim 6 = nI i → P (.int (nI i)) (mh E o ad (rpF (upd F 0 0) (rseA A j i) (A 22 (6 * j + i))) (rpA (upd F 0 0) (rseA A j i) (10 * j) (A 22 (6 * j + i))) h)) : Mt l E yX11_sell cX11_sell 6 (some .int) 3 100 0 0 [.ref o, .int s, .int lim] (mh E o ad F A h) P := by
  refine Mt.of (by decide) (Nat.le_of_ble_eq_true rfl) ?_
  intro K hK hR C
  refine g_aload_n (n := 1) C dX11_sell_0 rfl rfl ?_
  refine g_iconst (n := 2) (v := 0) C dX11_sell_1 rfl (by decide) ?_
  refine m_put (n := 5) 0 C dX11_sell_2 rfl (by decide) w_1100 rfl rfl rfl mfs_0 ?_
  refine g_aload_n (n := 6) C dX11_sell_5 rfl rfl ?_
  refine g_aload_n (n := 7) C dX11_sell_6 rfl rfl ?_
  refine g_iload_n (n := 8) C dX11_sell_7 rfl rfl ?_
  refine g_callV (n := 11) (As := [.int _]) C dX11_sell_8 rfl mw_X11_noStone w_1346 (g_recv C mh_o rfl) rfl rfl (room hR rfl) (ct_noStone (fun za8 zb8 => ?_) (fun za8 => ?_))
  · --k8.0
    obtain ⟨j, hj, rfl⟩ := ix_of za8 zb8 (show upd F 0 0 23 = nI m from hm) (by omega)
    refine g_iconst (n := 12) (v := 1) C dX11_sell_11 rfl (by decide) ?_
    refine g_callV (n := 15) (As := [.int _, .int _]) C dX11_sell_12 rfl mw_X11_throwsIf w_1257 (g_recv C mh_o rfl) rfl rfl (room hR rfl) (ct_throwsIf0 ?_)
    refine g_if_ne (n := 18) (t := 55) C dX11_sell_15 rfl (by decide) (fun zc15 => ?_) (fun zc15 => ?_)
    · exact absurd zc15 (by decide)
    refine g_aload_n (n := 19) C dX11_sell_18 rfl rfl ?_
    refine g_iload_n (n := 20) C dX11_sell_19 rfl rfl ?_
    refine g_iconst (n := 21) (v := 0) C dX11_sell_20 rfl (by decide) ?_
    refine g_ldc (n := 23) C dX11_sell_21 rfl w_1350 ?_
    refine g_callS (n := 26) (As := [.int _, .int _, .int _]) C dX11_sell_23 rfl mw_X11_in w_1273 rfl rfl (room hR rfl) (ct_in (fun za23 zb23 => ?_) (fun za23 => ?_) (fun za23 zb23 => ?_))
    · --k23.0
      refine g_if_ne (n := 29) (t := 33) C dX11_sell_26 rfl (by decide) (fun zc26 => ?_) (fun zc26 => ?_)
      rotate_left
      · exact absurd zc26 (by decide)
      refine g_iconst (n := 34) (v := 0) C dX11_sell_33 rfl (by decide) ?_
      refine g_iconst (n := 35) (v := 2) C dX11_sell_34 rfl (by decide) ?_
      refine g_callV (n := 38) (As := [.int _, .int _]) C dX11_sell_35 rfl mw_X11_throwsIf w_1257 (g_recv C mh_o rfl) rfl rfl (room hR rfl) (ct_throwsIf0 ?_)
      refine g_if_ne (n := 41) (t := 55) C dX11_sell_38 rfl (by decide) (fun zc38 => ?_) (fun zc38 => ?_)
      · exact absurd zc38 (by decide)
      refine g_aload_n (n := 42) C dX11_sell_41 rfl rfl ?_
      refine m_get (n := 45) 21 C dX11_sell_42 rfl (by decide) rfl w_1121 rfl ?_
      refine g_bipush (n := 47) (v := 10) C dX11_sell_45 rfl (by decide) ?_
      refine g_iload_n (n := 48) C dX11_sell_47 rfl rfl ?_
      refine g_imul (n := 49) C dX11_sell_48 rfl ?_
      refine g_iconst (n := 50) (v := 2) C dX11_sell_49 rfl (by decide) ?_
      refine g_iadd (n := 51) C dX11_sell_50 rfl ?_
      refine m_iald (n := 52) 21 (10 * j + 2) C dX11_sell_51 rfl I (by decide) rfl (ix10 rfl 2) (by omega) (by decide) rfl ?_
      refine g_if_lt (n := 55) (t := 68) C dX11_sell_52 rfl (by decide) (fun zc52 => ?_) (fun zc52 => ?_)
      · --t52
        refine g_iconst (n := 69) (v := (-1)) C dX11_sell_68 rfl (by decide) ?_
        refine g_istore_n (n := 70) C dX11_sell_69 rfl (by decide) ?_
        refine g_iconst (n := 71) (v := 0) C dX11_sell_70 rfl (by decide) ?_
        refine g_istore (n := 73) C dX11_sell_71 rfl (by decide) ?_
        have lp : ∀ p : Nat, p ≤ 6 → ∀ (b x : Int32), b = rbuy (A 22) (6 * j) lim p → x = nI p → G K E 6 (QM K E (some .int) 0 0 P) 0 0 73 [(0, .ref o), (1, .int (nI j)), (2, .int lim), (3, .int b), (4, .int x)] [] (mh E o ad (upd F 0 0) A h) := by
          refine loopN (fun p => ∀ (b x : Int32), b = rbuy (A 22) (6 * j) lim p → x = nI p → G K E 6 (QM K E (some .int) 0 0 P) 0 0 73 [(0, .ref o), (1, .int (nI j)), (2, .int lim), (3, .int b), (4, .int x)] [] (mh E o ad (upd F 0 0) A h)) (6) ?_
          intro p hlep ihp b x eb ex
          subst ex
          refine g_iload (n := 75) C dX11_sell_73 rfl rfl ?_
          refine g_bipush (n := 77) (v := 6) C dX11_sell_75 rfl (by decide) ?_
          refine g_icmp_ge (n := 80) (t := 129) C dX11_sell_77 rfl (by decide) (fun zc77 => ?_) (fun zc77 => ?_)
          · --t77
            refine g_iload_n (n := 130) C dX11_sell_129 rfl rfl ?_
            have ep : p = 6 := i_eq (n := 6) rfl zc77 hlep (by decide)
            subst ep
            refine g_if_ge (n := 133) (t := 135) C dX11_sell_130 rfl (by decide) (fun zc130 => ?_) (fun zc130 => ?_)
            · --t130
              obtain ⟨i, hi, ei⟩ := rbuy_ge (Nat.le_refl 6) (by rw [← eb]; exact Int32.not_lt.mpr zc130)
              have ebi : b = nI i := eb.trans ei
              subst ebi
              refine g_aload_n (n := 136) C dX11_sell_135 rfl rfl ?_
              refine m_get (n := 139) 21 C dX11_sell_136 rfl (by decide) rfl w_1121 rfl ?_
              refine g_bipush (n := 141) (v := 10) C dX11_sell_139 rfl (by decide) ?_
              refine g_iload_n (n := 142) C dX11_sell_141 rfl rfl ?_
              refine g_imul (n := 143) C dX11_sell_142 rfl ?_
              refine g_iconst (n := 144) (v := 2) C dX11_sell_143 rfl (by decide) ?_
              refine g_iadd (n := 145) C dX11_sell_144 rfl ?_
              refine g_iload_n (n := 146) C dX11_sell_145 rfl rfl ?_
              refine m_iast (n := 147) 21 (10 * j + 2) C dX11_sell_146 rfl I (by decide) (fun _ => rfl) (ix10 rfl 2) (by omega) (by decide) ?_
              refine g_aload_n (n := 148) C dX11_sell_147 rfl rfl ?_
              refine m_get (n := 151) 21 C dX11_sell_148 rfl (by decide) rfl w_1121 rfl ?_
              refine g_bipush (n := 153) (v := 10) C dX11_sell_151 rfl (by decide) ?_
              refine g_iload_n (n := 154) C dX11_sell_153 rfl rfl ?_
              refine g_imul (n := 155) C dX11_sell_154 rfl ?_
              refine g_iconst (n := 156) (v := 3) C dX11_sell_155 rfl (by decide) ?_
              refine g_iadd (n := 157) C dX11_sell_156 rfl ?_
              refine g_aload_n (n := 158) C dX11_sell_157 rfl rfl ?_
              refine m_get (n := 161) 22 C dX11_sell_158 rfl (by decide) rfl w_1122 rfl ?_
              refine g_bipush (n := 163) (v := 6) C dX11_sell_161 rfl (by decide) ?_
              refine g_iload_n (n := 164) C dX11_sell_163 rfl rfl ?_
              refine g_imul (n := 165) C dX11_sell_164 rfl ?_
              refine g_iload_n (n := 166) C dX11_sell_165 rfl rfl ?_
              refine g_iadd (n := 167) C dX11_sell_166 rfl ?_
              refine m_iald (n := 168) (v := A 22 (6 * j + i)) 22 (6 * j + i) C dX11_sell_167 rfl I (by decide) rfl (ix6 rfl i) (by omega) (by decide) (rfl) ?_
              refine m_iast (n := 169) 21 (10 * j + 3) C dX11_sell_168 rfl I (by decide) (fun _ => rfl) (ix10 rfl 3) (by omega) (by decide) ?_
              refine g_aload_n (n := 170) C dX11_sell_169 rfl rfl ?_
              refine g_bipush (n := 172) (v := 10) C dX11_sell_170 rfl (by decide) ?_
              refine g_iload_n (n := 173) C dX11_sell_172 rfl rfl ?_
              refine g_imul (n := 174) C dX11_sell_173 rfl ?_
              refine g_aload_n (n := 175) C dX11_sell_174 rfl rfl ?_
              refine m_get (n := 178) 21 C dX11_sell_175 rfl (by decide) rfl w_1121 rfl ?_
              refine g_bipush (n := 180) (v := 10) C dX11_sell_178 rfl (by decide) ?_
              refine g_iload_n (n := 181) C dX11_sell_180 rfl rfl ?_
              refine g_imul (n := 182) C dX11_sell_181 rfl ?_
              refine g_iconst (n := 183) (v := 3) C dX11_sell_182 rfl (by decide) ?_
              refine g_iadd (n := 184) C dX11_sell_183 rfl ?_
              refine m_iald (n := 185) (v := A 22 (6 * j + i)) 21 (10 * j + 3) C dX11_sell_184 rfl I (by decide) rfl (ix10 rfl 3) (by omega) (by decide) (aset_same _ _ _ _) ?_
              refine (show G K E 6 _ _ _ 185 _ _ (mh E o ad (upd F 0 0) (rseA A j i) h) from ?_)
              rw [show (10 : Int32) * nI j = nI (10 * j) from ix10z rfl]
              refine g_callV (n := 188) (As := [.int _, .int _]) C dX11_sell_185 rfl mw_X11_parts w_1355 (g_recv C mh_o rfl) rfl rfl (room hR rfl) (ct_parts I (a := 10 * j) (by omega) (show upd F 0 0 13 = 0 → ∀ k, rseA A j i 11 k = 0 from fun zq k => (congrFun (rse_row A j i (by decide)) k).trans (hz zq k)) (fun k hk => (rse_at A j i k).trans (hzz j hj (by assumption) k hk)) ?_)
              refine g_iload_n (n := 189) C dX11_sell_188 rfl rfl ?_
              refine g_iret C dX11_sell_189 (by decide) (by decide) ?_
              exact k5 j hj rfl (n_or (by assumption) (by assumption)) (by assumption) i hi ei
            · --f130
              refine g_iconst (n := 134) (v := (-1)) C dX11_sell_133 rfl (by decide) ?_
              refine g_iret C dX11_sell_134 (by decide) (by decide) ?_
              rcases rbuy_in (A 22) (6 * j) lim 6 (Nat.le_refl 6) with zq | ⟨i, hi, ei⟩
              · exact k4 j hj rfl (n_or (by assumption) (by assumption)) (by assumption) zq
              · exact absurd (show 0 ≤ b by rw [eb, ei]; exact nI_pos' (by omega)) (by assumption)
          · --f77
            refine g_aload_n (n := 81) C dX11_sell_80 rfl rfl ?_
            refine m_get (n := 84) 22 C dX11_sell_81 rfl (by decide) rfl w_1122 rfl ?_
            refine g_bipush (n := 86) (v := 6) C dX11_sell_84 rfl (by decide) ?_
            refine g_iload_n (n := 87) C dX11_sell_86 rfl rfl ?_
            refine g_imul (n := 88) C dX11_sell_87 rfl ?_
            refine g_iload (n := 90) C dX11_sell_88 rfl rfl ?_
            refine g_iadd (n := 91) C dX11_sell_90 rfl ?_
            refine m_iald (n := 92) 22 (6 * j + p) C dX11_sell_91 rfl I (by decide) rfl (ix6 rfl p) (by have := (i_lt (n := 6) rfl zc77 hlep (by decide)); omega) (by decide) rfl ?_
            refine g_istore (n := 94) C dX11_sell_92 rfl (by decide) ?_
            refine g_iload (n := 96) C dX11_sell_94 rfl rfl ?_
            refine g_iload_n (n := 97) C dX11_sell_96 rfl rfl ?_
            refine g_icmp_lt (n := 100) (t := 123) C dX11_sell_97 rfl (by decide) (fun zc97 => ?_) (fun zc97 => ?_)
            · --t97
              refine g_iinc (n := 126) C dX11_sell_123 rfl rfl rfl (by decide) ?_
              refine g_goto (t := 73) C dX11_sell_126 (by decide) ?_
              exact g_lv [0, 1, 2, 3, 4] rfl (ihp (i_lt (n := 6) rfl zc77 hlep (by decide)) _ _ (by first | exact eb.trans (rbuy_1 zc97) | exact rbuy_2 zc97 (by rw [← eb]; exact zc101) | exact eb.trans (rbuy_3 zc97 (by rw [← eb]; exact zc101) ei (by omega) zc117) | exact rbuy_4 zc97 (by rw [← eb]; exact zc101) ei (by omega) zc117) (nI_1 p))
            · --f97
              refine g_iload_n (n := 101) C dX11_sell_100 rfl rfl ?_
              refine g_if_lt (n := 104) (t := 120) C dX11_sell_101 rfl (by decide) (fun zc101 => ?_) (fun zc101 => ?_)
              ·
                refine g_iload (n := 122) C dX11_sell_120 rfl rfl ?_
                refine g_istore_n (n := 123) C dX11_sell_122 rfl (by decide) ?_
                refine g_iinc (n := 126) C dX11_sell_123 rfl rfl rfl (by decide) ?_
                refine g_goto (t := 73) C dX11_sell_126 (by decide) ?_
                exact g_lv [0, 1, 2, 3, 4] rfl (ihp (i_lt (n := 6) rfl zc77 hlep (by decide)) _ _ (by first | exact eb.trans (rbuy_1 zc97) | exact rbuy_2 zc97 (by rw [← eb]; exact zc101) | exact eb.trans (rbuy_3 zc97 (by rw [← eb]; exact zc101) ei (by omega) zc117) | exact rbuy_4 zc97 (by rw [← eb]; exact zc101) ei (by omega) zc117) (nI_1 p))
              ·
                obtain ⟨i, hi, ei⟩ := rbuy_ge (by omega) (by rw [← eb]; exact zc101)
                refine g_iload (n := 106) C dX11_sell_104 rfl rfl ?_
                refine g_aload_n (n := 107) C dX11_sell_106 rfl rfl ?_
                refine m_get (n := 110) 22 C dX11_sell_107 rfl (by decide) rfl w_1122 rfl ?_
                refine g_bipush (n := 112) (v := 6) C dX11_sell_110 rfl (by decide) ?_
                refine g_iload_n (n := 113) C dX11_sell_112 rfl rfl ?_
                refine g_imul (n := 114) C dX11_sell_113 rfl ?_
                refine g_iload_n (n := 115) C dX11_sell_114 rfl rfl ?_
                refine g_iadd (n := 116) C dX11_sell_115 rfl ?_
                refine m_iald (n := 117) 22 (6 * j + i) C dX11_sell_116 rfl I (by decide) rfl (by rw [eb, ei]; exact ix6 rfl i) (by omega) (by decide) rfl ?_
                refine g_icmp_le (n := 120) (t := 123) C dX11_sell_117 rfl (by decide) (fun zc117 => ?_) (fun zc117 => ?_)
                · --t117
                  refine g_iinc (n := 126) C dX11_sell_123 rfl rfl rfl (by decide) ?_
                  refine g_goto (t := 73) C dX11_sell_126 (by decide) ?_
                  exact g_lv [0, 1, 2, 3, 4] rfl (ihp (i_lt (n := 6) rfl zc77 hlep (by decide)) _ _ (by first | exact eb.trans (rbuy_1 zc97) | exact rbuy_2 zc97 (by rw [← eb]; exact zc101) | exact eb.trans (rbuy_3 zc97 (by rw [← eb]; exact zc101) ei (by omega) zc117) | exact rbuy_4 zc97 (by rw [← eb]; exact zc101) ei (by omega) zc117) (nI_1 p))
                · --f117
                  refine g_iload (n := 122) C dX11_sell_120 rfl rfl ?_
                  refine g_istore_n (n := 123) C dX11_sell_122 rfl (by decide) ?_
                  refine g_iinc (n := 126) C dX11_sell_123 rfl rfl rfl (by decide) ?_
                  refine g_goto (t := 73) C dX11_sell_126 (by decide) ?_
                  exact g_lv [0, 1, 2, 3, 4] rfl (ihp (i_lt (n := 6) rfl zc77 hlep (by decide)) _ _ (by first | exact eb.trans (rbuy_1 zc97) | exact rbuy_2 zc97 (by rw [← eb]; exact zc101) | exact eb.trans (rbuy_3 zc97 (by rw [← eb]; exact zc101) ei (by omega) zc117) | exact rbuy_4 zc97 (by rw [← eb]; exact zc101) ei (by omega) zc117) (nI_1 p))
        exact g_lv [0, 1, 2, 3, 4] rfl (lp 0 (Nat.zero_le _) _ _ rfl rfl)
      · --f52
        refine g_aload_n (n := 56) C dX11_sell_55 rfl rfl ?_
        refine m_get (n := 59) 0 C dX11_sell_56 rfl (by decide) rfl w_1100 rfl ?_
        refine g_if_eq (n := 62) (t := 66) C dX11_sell_59 rfl (by decide) (fun zc59 => ?_) (fun zc59 => ?_)
        rotate_left
        · exact absurd (show (0 : Int32) = 0 from rfl) zc59
        refine g_iconst (n := 67) (v := (-1)) C dX11_sell_66 rfl (by decide) ?_
        refine g_iret C dX11_sell_67 (by decide) (by decide) ?_
        first | exact k1 (by assumption) | exact k2 j hj rfl (Or.inl (by assumption)) | exact k2 j hj rfl (Or.inr (by assumption)) | exact k3 j hj rfl (n_or (by assumption) (by assumption)) (Int32.not_lt.mpr (Int32.not_lt.mp (by assumption)))
    · --k23.1
      refine g_if_ne (n := 29) (t := 33) C dX11_sell_26 rfl (by decide) (fun zc26 => ?_) (fun zc26 => ?_)
      · exact absurd zc26 (by decide)
      refine g_iconst (n := 30) (v := 1) C dX11_sell_29 rfl (by decide) ?_
      refine g_goto (t := 34) C dX11_sell_30 (by decide) ?_
      refine g_iconst (n := 35) (v := 2) C dX11_sell_34 rfl (by decide) ?_
      refine g_callV (n := 38) (As := [.int _, .int _]) C dX11_sell_35 rfl mw_X11_throwsIf w_1257 (g_recv C mh_o rfl) rfl rfl (room hR rfl) (ct_throwsIf1 ?_)
      refine g_if_ne (n := 41) (t := 55) C dX11_sell_38 rfl (by decide) (fun zc38 => ?_) (fun zc38 => ?_)
      rotate_left
      · exact absurd zc38 (by decide)
      refine g_aload_n (n := 56) C dX11_sell_55 rfl rfl ?_
      refine m_get (n := 59) 0 C dX11_sell_56 rfl (by decide) rfl w_1100 rfl ?_
      refine g_if_eq (n := 62) (t := 66) C dX11_sell_59 rfl (by decide) (fun zc59 => ?_) (fun zc59 => ?_)
      · exact absurd (show (2 : Int32) = 0 from zc59) (by decide)
      refine g_iconst (n := 63) (v := 0) C dX11_sell_62 rfl (by decide) ?_
      refine g_goto (t := 67) C dX11_sell_63 (by decide) ?_
      refine g_iret C dX11_sell_67 (by decide) (by decide) ?_
      first | exact k1 (by assumption) | exact k2 j hj rfl (Or.inl (by assumption)) | exact k2 j hj rfl (Or.inr (by assumption)) | exact k3 j hj rfl (n_or (by assumption) (by assumption)) (Int32.not_lt.mpr (Int32.not_lt.mp (by assumption)))
    · --k23.2
      refine g_if_ne (n := 29) (t := 33) C dX11_sell_26 rfl (by decide) (fun zc26 => ?_) (fun zc26 => ?_)
      · exact absurd zc26 (by decide)
      refine g_iconst (n := 30) (v := 1) C dX11_sell_29 rfl (by decide) ?_
      refine g_goto (t := 34) C dX11_sell_30 (by decide) ?_
      refine g_iconst (n := 35) (v := 2) C dX11_sell_34 rfl (by decide) ?_
      refine g_callV (n := 38) (As := [.int _, .int _]) C dX11_sell_35 rfl mw_X11_throwsIf w_1257 (g_recv C mh_o rfl) rfl rfl (room hR rfl) (ct_throwsIf1 ?_)
      refine g_if_ne (n := 41) (t := 55) C dX11_sell_38 rfl (by decide) (fun zc38 => ?_) (fun zc38 => ?_)
      rotate_left
      · exact absurd zc38 (by decide)
      refine g_aload_n (n := 56) C dX11_sell_55 rfl rfl ?_
      refine m_get (n := 59) 0 C dX11_sell_56 rfl (by decide) rfl w_1100 rfl ?_
      refine g_if_eq (n := 62) (t := 66) C dX11_sell_59 rfl (by decide) (fun zc59 => ?_) (fun zc59 => ?_)
      · exact absurd (show (2 : Int32) = 0 from zc59) (by decide)
      refine g_iconst (n := 63) (v := 0) C dX11_sell_62 rfl (by decide) ?_
      refine g_goto (t := 67) C dX11_sell_63 (by decide) ?_
      refine g_iret C dX11_sell_67 (by decide) (by decide) ?_
      first | exact k1 (by assumption) | exact k2 j hj rfl (Or.inl (by assumption)) | exact k2 j hj rfl (Or.inr (by assumption)) | exact k3 j hj rfl (n_or (by assumption) (by assumption)) (Int32.not_lt.mpr (Int32.not_lt.mp (by assumption)))
  · --k8.1
    refine g_iconst (n := 12) (v := 1) C dX11_sell_11 rfl (by decide) ?_
    refine g_callV (n := 15) (As := [.int _, .int _]) C dX11_sell_12 rfl mw_X11_throwsIf w_1257 (g_recv C mh_o rfl) rfl rfl (room hR rfl) (ct_throwsIf1 ?_)
    refine g_if_ne (n := 18) (t := 55) C dX11_sell_15 rfl (by decide) (fun zc15 => ?_) (fun zc15 => ?_)
    rotate_left
    · exact absurd zc15 (by decide)
    refine g_aload_n (n := 56) C dX11_sell_55 rfl rfl ?_
    refine m_get (n := 59) 0 C dX11_sell_56 rfl (by decide) rfl w_1100 rfl ?_
    refine g_if_eq (n := 62) (t := 66) C dX11_sell_59 rfl (by decide) (fun zc59 => ?_) (fun zc59 => ?_)
    · exact absurd (show (1 : Int32) = 0 from zc59) (by decide)
    refine g_iconst (n := 63) (v := 0) C dX11_sell_62 rfl (by decide) ?_
    refine g_goto (t := 67) C dX11_sell_63 (by decide) ?_
    refine g_iret C dX11_sell_67 (by decide) (by decide) ?_
    first | exact k1 (by assumption) | exact k2 j hj rfl (Or.inl (by assumption)) | exact k2 j hj rfl (Or.inr (by assumption)) | exact k3 j hj rfl (n_or (by assumption) (by assumption)) (Int32.not_lt.mpr (Int32.not_lt.mp (by assumption)))
end
section
def fz (A : Nat → Nat → Int32) (p : Nat) : Nat → Nat → Int32 := fun a b => if a = 28 ∧ b < p then 0 else A a b
theorem fz_0 (A : Nat → Nat → Int32) : fz A 0 = A := by
  funext a b
  unfold fz
  rw [if_neg (fun q => absurd q.2 (Nat.not_lt_zero _))]
theorem fz_s (A : Nat → Nat → Int32) (p : Nat) : aset (fz A p) 28 p 0 = fz A (p + 1) := by
  funext a b
  unfold aset fz
  by_cases h1 : a = 28
  · rw [if_pos h1]
    by_cases h2 : b = p
    · rw [if_pos h2, if_pos ⟨h1, by omega⟩]
    · rw [if_neg h2]
      by_cases h3 : b < p
      · rw [if_pos ⟨h1, h3⟩, if_pos ⟨h1, by omega⟩]
      · rw [if_neg (fun q => h3 q.2), if_neg (fun q => by have := q.2; omega)]
  · rw [if_neg h1, if_neg (fun q => h1 q.1), if_neg (fun q => h1 q.1)]
def rplace (x y w h : Int32) : Int32 := ((8 * h + y) * 10 + w) * 10 + x
def npl (x y w h : Nat) : Nat := ((8 * h + y) * 10 + w) * 10 + x
theorem rplace_n (x y w h : Nat) : rplace (nI x) (nI y) (nI w) (nI h) = nI (npl x y w h) := by
  unfold rplace npl
  rw [show (8 : Int32) = nI 8 from rfl, show (10 : Int32) = nI 10 from rfl, pk_mul, nI_add, pk_mul, nI_add, pk_mul, nI_add]
/-- a piece from cell x, y on, w and h the sizes less 1, has no flaw -/
def rclr (Z : Nat → Int32) (x y w h : Nat) : Prop := ∀ j i, j ≤ h → i ≤ w → Z (10 * (y + j) + (x + i)) = 0
def rclr2 (Z : Nat → Int32) (x y w p q : Nat) : Prop := (∀ j i, j < p → i ≤ w → Z (10 * (y + j) + (x + i)) = 0) ∧ ∀ i, i < q → Z (10 * (y + p) + (x + i)) = 0
theorem dX11_rough_0 : decode cX11_rough 0 = .ok (.aload_n 0, 1) := by decide +kernel
theorem dX11_rough_1 : decode cX11_rough 1 = .ok (.iconst 0, 1) := by decide +kernel
theorem dX11_rough_2 : decode cX11_rough 2 = .ok (.putfield 76, 3) := by decide +kernel
theorem dX11_rough_5 : decode cX11_rough 5 = .ok (.aload_n 0, 1) := by decide +kernel
theorem dX11_rough_6 : decode cX11_rough 6 = .ok (.iload_n 1, 1) := by decide +kernel
theorem dX11_rough_7 : decode cX11_rough 7 = .ok (.iconst 1, 1) := by decide +kernel
theorem dX11_rough_8 : decode cX11_rough 8 = .ok (.bipush 10, 2) := by decide +kernel
theorem dX11_rough_10 : decode cX11_rough 10 = .ok (.invokestatic 79, 3) := by decide +kernel
theorem dX11_rough_13 : decode cX11_rough 13 = .ok (.ifCond .eq 13, 3) := by decide +kernel
theorem dX11_rough_16 : decode cX11_rough 16 = .ok (.iload_n 2, 1) := by decide +kernel
theorem dX11_rough_17 : decode cX11_rough 17 = .ok (.iconst 1, 1) := by decide +kernel
theorem dX11_rough_18 : decode cX11_rough 18 = .ok (.bipush 8, 2) := by decide +kernel
theorem dX11_rough_20 : decode cX11_rough 20 = .ok (.invokestatic 79, 3) := by decide +kernel
theorem dX11_rough_23 : decode cX11_rough 23 = .ok (.ifCond .ne 7, 3) := by decide +kernel
theorem dX11_rough_26 : decode cX11_rough 26 = .ok (.iconst 1, 1) := by decide +kernel
theorem dX11_rough_27 : decode cX11_rough 27 = .ok (.goto 4, 3) := by decide +kernel
theorem dX11_rough_30 : decode cX11_rough 30 = .ok (.iconst 0, 1) := by decide +kernel
theorem dX11_rough_31 : decode cX11_rough 31 = .ok (.iconst 1, 1) := by decide +kernel
theorem dX11_rough_32 : decode cX11_rough 32 = .ok (.invokevirtual 162, 3) := by decide +kernel
theorem dX11_rough_35 : decode cX11_rough 35 = .ok (.ifCond .eq 4, 3) := by decide +kernel
theorem dX11_rough_38 : decode cX11_rough 38 = .ok (.return_, 1) := by decide +kernel
theorem dX11_rough_39 : decode cX11_rough 39 = .ok (.aload_n 0, 1) := by decide +kernel
theorem dX11_rough_40 : decode cX11_rough 40 = .ok (.iload_n 1, 1) := by decide +kernel
theorem dX11_rough_41 : decode cX11_rough 41 = .ok (.putfield 60, 3) := by decide +kernel
theorem dX11_rough_44 : decode cX11_rough 44 = .ok (.aload_n 0, 1) := by decide +kernel
theorem dX11_rough_45 : decode cX11_rough 45 = .ok (.iload_n 2, 1) := by decide +kernel
theorem dX11_rough_46 : decode cX11_rough 46 = .ok (.putfield 63, 3) := by decide +kernel
theorem dX11_rough_49 : decode cX11_rough 49 = .ok (.iconst 0, 1) := by decide +kernel
theorem dX11_rough_50 : decode cX11_rough 50 = .ok (.istore_n 3, 1) := by decide +kernel
theorem dX11_rough_51 : decode cX11_rough 51 = .ok (.iload_n 3, 1) := by decide +kernel
theorem dX11_rough_52 : decode cX11_rough 52 = .ok (.bipush 80, 2) := by decide +kernel
theorem dX11_rough_54 : decode cX11_rough 54 = .ok (.if_icmp .ge 16, 3) := by decide +kernel
theorem dX11_rough_57 : decode cX11_rough 57 = .ok (.aload_n 0, 1) := by decide +kernel
theorem dX11_rough_58 : decode cX11_rough 58 = .ok (.getfield 66, 3) := by decide +kernel
theorem dX11_rough_61 : decode cX11_rough 61 = .ok (.iload_n 3, 1) := by decide +kernel
theorem dX11_rough_62 : decode cX11_rough 62 = .ok (.iconst 0, 1) := by decide +kernel
theorem dX11_rough_63 : decode cX11_rough 63 = .ok (.bastore, 1) := by decide +kernel
theorem dX11_rough_64 : decode cX11_rough 64 = .ok (.iinc 3 1, 3) := by decide +kernel
theorem dX11_rough_67 : decode cX11_rough 67 = .ok (.goto (-16), 3) := by decide +kernel
theorem dX11_rough_70 : decode cX11_rough 70 = .ok (.return_, 1) := by decide +kernel
set_option maxHeartbeats 400000 in
set_option maxRecDepth 20000 in
theorem ct_rough {l : Launch} {E : Ev} {P : Value → AH → Prop} {o : Nat} {ad : Nat → Nat} {F : Nat → Int32} {A : Nat → Nat → Int32} {h : AH} (I : mI o ad) {w g : Int32} (k1 : (w < 1 ∨ 10 < w) ∨ (g < 1 ∨ 8 < g) → P .null (mh E o ad (upd (upd F 0 0) 0 1) A h)) (k2 : ¬ ((w < 1 ∨ 10 < w) ∨ (g < 1 ∨ 8 < g)) → P .null (mh E o ad (upd (upd (upd F 0 0) 26 w) 27 g) (fz A 80) h)) : Mt l E yX11_rough cX11_rough 4 none 2 70 0 0 [.ref o, .int w, .int g] (mh E o ad F A h) P := by
  refine Mt.of (by decide) (Nat.le_of_ble_eq_true rfl) ?_
  intro K hK hR C
  refine g_aload_n (n := 1) C dX11_rough_0 rfl rfl ?_
  refine g_iconst (n := 2) (v := 0) C dX11_rough_1 rfl (by decide) ?_
  refine m_put (n := 5) 0 C dX11_rough_2 rfl (by decide) w_1100 rfl rfl rfl mfs_0 ?_
  refine g_aload_n (n := 6) C dX11_rough_5 rfl rfl ?_
  refine g_iload_n (n := 7) C dX11_rough_6 rfl rfl ?_
  refine g_iconst (n := 8) (v := 1) C dX11_rough_7 rfl (by decide) ?_
  refine g_bipush (n := 10) (v := 10) C dX11_rough_8 rfl (by decide) ?_
  refine g_callS (n := 13) (As := [.int _, .int _, .int _]) C dX11_rough_10 rfl mw_X11_in w_1273 rfl rfl (room hR rfl) (ct_in (fun za10 zb10 => ?_) (fun za10 => ?_) (fun za10 zb10 => ?_))
  · --k10.0
    refine g_if_eq (n := 16) (t := 26) C dX11_rough_13 rfl (by decide) (fun zc13 => ?_) (fun zc13 => ?_)
    · exact absurd zc13 (by decide)
    refine g_iload_n (n := 17) C dX11_rough_16 rfl rfl ?_
    refine g_iconst (n := 18) (v := 1) C dX11_rough_17 rfl (by decide) ?_
    refine g_bipush (n := 20) (v := 8) C dX11_rough_18 rfl (by decide) ?_
    refine g_callS (n := 23) (As := [.int _, .int _, .int _]) C dX11_rough_20 rfl mw_X11_in w_1273 rfl rfl (room hR rfl) (ct_in (fun za20 zb20 => ?_) (fun za20 => ?_) (fun za20 zb20 => ?_))
    · --k20.0
      refine g_if_ne (n := 26) (t := 30) C dX11_rough_23 rfl (by decide) (fun zc23 => ?_) (fun zc23 => ?_)
      rotate_left
      · exact absurd zc23 (by decide)
      refine g_iconst (n := 31) (v := 0) C dX11_rough_30 rfl (by decide) ?_
      refine g_iconst (n := 32) (v := 1) C dX11_rough_31 rfl (by decide) ?_
      refine g_callV (n := 35) (As := [.int _, .int _]) C dX11_rough_32 rfl mw_X11_throwsIf w_1257 (g_recv C mh_o rfl) rfl rfl (room hR rfl) (ct_throwsIf0 ?_)
      refine g_if_eq (n := 38) (t := 39) C dX11_rough_35 rfl (by decide) (fun zc35 => ?_) (fun zc35 => ?_)
      rotate_left
      · exact absurd zc35 (by decide)
      refine g_aload_n (n := 40) C dX11_rough_39 rfl rfl ?_
      refine g_iload_n (n := 41) C dX11_rough_40 rfl rfl ?_
      refine m_put (n := 44) 26 C dX11_rough_41 rfl (by decide) w_1126 rfl rfl rfl mfs_26 ?_
      refine g_aload_n (n := 45) C dX11_rough_44 rfl rfl ?_
      refine g_iload_n (n := 46) C dX11_rough_45 rfl rfl ?_
      refine m_put (n := 49) 27 C dX11_rough_46 rfl (by decide) w_1127 rfl rfl rfl mfs_27 ?_
      refine g_iconst (n := 50) (v := 0) C dX11_rough_49 rfl (by decide) ?_
      refine g_istore_n (n := 51) C dX11_rough_50 rfl (by decide) ?_
      have lp : ∀ p : Nat, p ≤ 80 → ∀ (x : Int32) (B : Nat → Nat → Int32), x = nI p → B = fz A p → G K E 4 (QM K E none 0 0 P) 0 0 51 [(0, .ref o), (1, .int w), (2, .int g), (3, .int x)] [] (mh E o ad (upd (upd (upd F 0 0) 26 w) 27 g) B h) := by
        refine loopN (fun p => ∀ (x : Int32) (B : Nat → Nat → Int32), x = nI p → B = fz A p → G K E 4 (QM K E none 0 0 P) 0 0 51 [(0, .ref o), (1, .int w), (2, .int g), (3, .int x)] [] (mh E o ad (upd (upd (upd F 0 0) 26 w) 27 g) B h)) (80) ?_
        intro p hlep ihp x B ex eB
        subst ex
        refine g_iload_n (n := 52) C dX11_rough_51 rfl rfl ?_
        refine g_bipush (n := 54) (v := 80) C dX11_rough_52 rfl (by decide) ?_
        refine g_icmp_ge (n := 57) (t := 70) C dX11_rough_54 rfl (by decide) (fun zc54 => ?_) (fun zc54 => ?_)
        · --t54
          refine g_vret C dX11_rough_70 (by decide) (by decide) ?_
          have ep : p = 80 := i_eq (n := 80) rfl zc54 hlep (by decide)
          subst ep
          rw [eB]
          exact k2 (n_or (n_or (by assumption) (by assumption)) (n_or (by assumption) (by assumption)))
        · --f54
          refine g_aload_n (n := 58) C dX11_rough_57 rfl rfl ?_
          refine m_get (n := 61) 28 C dX11_rough_58 rfl (by decide) rfl w_1128 rfl ?_
          refine g_iload_n (n := 62) C dX11_rough_61 rfl rfl ?_
          refine g_iconst (n := 63) (v := 0) C dX11_rough_62 rfl (by decide) ?_
          refine m_zast (n := 64) 28 (p) C dX11_rough_63 rfl I (by decide) (fun _ => rfl) rfl (i_lt (n := 80) rfl zc54 hlep (by decide)) (by decide) (by rfl) ?_
          refine g_iinc (n := 67) C dX11_rough_64 rfl rfl rfl (by decide) ?_
          refine g_goto (t := 51) C dX11_rough_67 (by decide) ?_
          exact g_lv [0, 1, 2, 3] rfl (ihp (i_lt (n := 80) rfl zc54 hlep (by decide)) _ _ (nI_1 p) (by rw [eB]; exact fz_s A p))
      exact g_lv [0, 1, 2, 3] rfl (lp 0 (Nat.zero_le _) _ _ rfl (fz_0 A).symm)
    · --k20.1
      refine g_if_ne (n := 26) (t := 30) C dX11_rough_23 rfl (by decide) (fun zc23 => ?_) (fun zc23 => ?_)
      · exact absurd zc23 (by decide)
      refine g_iconst (n := 27) (v := 1) C dX11_rough_26 rfl (by decide) ?_
      refine g_goto (t := 31) C dX11_rough_27 (by decide) ?_
      refine g_iconst (n := 32) (v := 1) C dX11_rough_31 rfl (by decide) ?_
      refine g_callV (n := 35) (As := [.int _, .int _]) C dX11_rough_32 rfl mw_X11_throwsIf w_1257 (g_recv C mh_o rfl) rfl rfl (room hR rfl) (ct_throwsIf1 ?_)
      refine g_if_eq (n := 38) (t := 39) C dX11_rough_35 rfl (by decide) (fun zc35 => ?_) (fun zc35 => ?_)
      · exact absurd zc35 (by decide)
      refine g_vret C dX11_rough_38 (by decide) (by decide) ?_
      first | exact k1 (Or.inl (Or.inl (by assumption))) | exact k1 (Or.inl (Or.inr (by assumption))) | exact k1 (Or.inr (Or.inl (by assumption))) | exact k1 (Or.inr (Or.inr (by assumption)))
    · --k20.2
      refine g_if_ne (n := 26) (t := 30) C dX11_rough_23 rfl (by decide) (fun zc23 => ?_) (fun zc23 => ?_)
      · exact absurd zc23 (by decide)
      refine g_iconst (n := 27) (v := 1) C dX11_rough_26 rfl (by decide) ?_
      refine g_goto (t := 31) C dX11_rough_27 (by decide) ?_
      refine g_iconst (n := 32) (v := 1) C dX11_rough_31 rfl (by decide) ?_
      refine g_callV (n := 35) (As := [.int _, .int _]) C dX11_rough_32 rfl mw_X11_throwsIf w_1257 (g_recv C mh_o rfl) rfl rfl (room hR rfl) (ct_throwsIf1 ?_)
      refine g_if_eq (n := 38) (t := 39) C dX11_rough_35 rfl (by decide) (fun zc35 => ?_) (fun zc35 => ?_)
      · exact absurd zc35 (by decide)
      refine g_vret C dX11_rough_38 (by decide) (by decide) ?_
      first | exact k1 (Or.inl (Or.inl (by assumption))) | exact k1 (Or.inl (Or.inr (by assumption))) | exact k1 (Or.inr (Or.inl (by assumption))) | exact k1 (Or.inr (Or.inr (by assumption)))
  · --k10.1
    refine g_if_eq (n := 16) (t := 26) C dX11_rough_13 rfl (by decide) (fun zc13 => ?_) (fun zc13 => ?_)
    rotate_left
    · exact absurd zc13 (by decide)
    refine g_iconst (n := 27) (v := 1) C dX11_rough_26 rfl (by decide) ?_
    refine g_goto (t := 31) C dX11_rough_27 (by decide) ?_
    refine g_iconst (n := 32) (v := 1) C dX11_rough_31 rfl (by decide) ?_
    refine g_callV (n := 35) (As := [.int _, .int _]) C dX11_rough_32 rfl mw_X11_throwsIf w_1257 (g_recv C mh_o rfl) rfl rfl (room hR rfl) (ct_throwsIf1 ?_)
    refine g_if_eq (n := 38) (t := 39) C dX11_rough_35 rfl (by decide) (fun zc35 => ?_) (fun zc35 => ?_)
    · exact absurd zc35 (by decide)
    refine g_vret C dX11_rough_38 (by decide) (by decide) ?_
    first | exact k1 (Or.inl (Or.inl (by assumption))) | exact k1 (Or.inl (Or.inr (by assumption))) | exact k1 (Or.inr (Or.inl (by assumption))) | exact k1 (Or.inr (Or.inr (by assumption)))
  · --k10.2
    refine g_if_eq (n := 16) (t := 26) C dX11_rough_13 rfl (by decide) (fun zc13 => ?_) (fun zc13 => ?_)
    rotate_left
    · exact absurd zc13 (by decide)
    refine g_iconst (n := 27) (v := 1) C dX11_rough_26 rfl (by decide) ?_
    refine g_goto (t := 31) C dX11_rough_27 (by decide) ?_
    refine g_iconst (n := 32) (v := 1) C dX11_rough_31 rfl (by decide) ?_
    refine g_callV (n := 35) (As := [.int _, .int _]) C dX11_rough_32 rfl mw_X11_throwsIf w_1257 (g_recv C mh_o rfl) rfl rfl (room hR rfl) (ct_throwsIf1 ?_)
    refine g_if_eq (n := 38) (t := 39) C dX11_rough_35 rfl (by decide) (fun zc35 => ?_) (fun zc35 => ?_)
    · exact absurd zc35 (by decide)
    refine g_vret C dX11_rough_38 (by decide) (by decide) ?_
    first | exact k1 (Or.inl (Or.inl (by assumption))) | exact k1 (Or.inl (Or.inr (by assumption))) | exact k1 (Or.inr (Or.inl (by assumption))) | exact k1 (Or.inr (Or.inr (by assumption)))
theorem dX11_flaw_0 : decode cX11_flaw 0 = .ok (.aload_n 0, 1) := by decide +kernel
theorem dX11_flaw_1 : decode cX11_flaw 1 = .ok (.iconst 0, 1) := by decide +kernel
theorem dX11_flaw_2 : decode cX11_flaw 2 = .ok (.putfield 76, 3) := by decide +kernel
theorem dX11_flaw_5 : decode cX11_flaw 5 = .ok (.aload_n 0, 1) := by decide +kernel
theorem dX11_flaw_6 : decode cX11_flaw 6 = .ok (.iload_n 1, 1) := by decide +kernel
theorem dX11_flaw_7 : decode cX11_flaw 7 = .ok (.iconst 0, 1) := by decide +kernel
theorem dX11_flaw_8 : decode cX11_flaw 8 = .ok (.aload_n 0, 1) := by decide +kernel
theorem dX11_flaw_9 : decode cX11_flaw 9 = .ok (.getfield 60, 3) := by decide +kernel
theorem dX11_flaw_12 : decode cX11_flaw 12 = .ok (.iconst 1, 1) := by decide +kernel
theorem dX11_flaw_13 : decode cX11_flaw 13 = .ok (.isub, 1) := by decide +kernel
theorem dX11_flaw_14 : decode cX11_flaw 14 = .ok (.invokestatic 79, 3) := by decide +kernel
theorem dX11_flaw_17 : decode cX11_flaw 17 = .ok (.ifCond .eq 17, 3) := by decide +kernel
theorem dX11_flaw_20 : decode cX11_flaw 20 = .ok (.iload_n 2, 1) := by decide +kernel
theorem dX11_flaw_21 : decode cX11_flaw 21 = .ok (.iconst 0, 1) := by decide +kernel
theorem dX11_flaw_22 : decode cX11_flaw 22 = .ok (.aload_n 0, 1) := by decide +kernel
theorem dX11_flaw_23 : decode cX11_flaw 23 = .ok (.getfield 63, 3) := by decide +kernel
theorem dX11_flaw_26 : decode cX11_flaw 26 = .ok (.iconst 1, 1) := by decide +kernel
theorem dX11_flaw_27 : decode cX11_flaw 27 = .ok (.isub, 1) := by decide +kernel
theorem dX11_flaw_28 : decode cX11_flaw 28 = .ok (.invokestatic 79, 3) := by decide +kernel
theorem dX11_flaw_31 : decode cX11_flaw 31 = .ok (.ifCond .ne 7, 3) := by decide +kernel
theorem dX11_flaw_34 : decode cX11_flaw 34 = .ok (.iconst 1, 1) := by decide +kernel
theorem dX11_flaw_35 : decode cX11_flaw 35 = .ok (.goto 4, 3) := by decide +kernel
theorem dX11_flaw_38 : decode cX11_flaw 38 = .ok (.iconst 0, 1) := by decide +kernel
theorem dX11_flaw_39 : decode cX11_flaw 39 = .ok (.iconst 1, 1) := by decide +kernel
theorem dX11_flaw_40 : decode cX11_flaw 40 = .ok (.invokevirtual 162, 3) := by decide +kernel
theorem dX11_flaw_43 : decode cX11_flaw 43 = .ok (.ifCond .eq 5, 3) := by decide +kernel
theorem dX11_flaw_46 : decode cX11_flaw 46 = .ok (.iconst 0, 1) := by decide +kernel
theorem dX11_flaw_47 : decode cX11_flaw 47 = .ok (.ireturn, 1) := by decide +kernel
theorem dX11_flaw_48 : decode cX11_flaw 48 = .ok (.aload_n 0, 1) := by decide +kernel
theorem dX11_flaw_49 : decode cX11_flaw 49 = .ok (.getfield 66, 3) := by decide +kernel
theorem dX11_flaw_52 : decode cX11_flaw 52 = .ok (.bipush 10, 2) := by decide +kernel
theorem dX11_flaw_54 : decode cX11_flaw 54 = .ok (.iload_n 2, 1) := by decide +kernel
theorem dX11_flaw_55 : decode cX11_flaw 55 = .ok (.imul, 1) := by decide +kernel
theorem dX11_flaw_56 : decode cX11_flaw 56 = .ok (.iload_n 1, 1) := by decide +kernel
theorem dX11_flaw_57 : decode cX11_flaw 57 = .ok (.iadd, 1) := by decide +kernel
theorem dX11_flaw_58 : decode cX11_flaw 58 = .ok (.baload, 1) := by decide +kernel
theorem dX11_flaw_59 : decode cX11_flaw 59 = .ok (.istore 4, 2) := by decide +kernel
theorem dX11_flaw_61 : decode cX11_flaw 61 = .ok (.aload_n 0, 1) := by decide +kernel
theorem dX11_flaw_62 : decode cX11_flaw 62 = .ok (.getfield 66, 3) := by decide +kernel
theorem dX11_flaw_65 : decode cX11_flaw 65 = .ok (.bipush 10, 2) := by decide +kernel
theorem dX11_flaw_67 : decode cX11_flaw 67 = .ok (.iload_n 2, 1) := by decide +kernel
theorem dX11_flaw_68 : decode cX11_flaw 68 = .ok (.imul, 1) := by decide +kernel
theorem dX11_flaw_69 : decode cX11_flaw 69 = .ok (.iload_n 1, 1) := by decide +kernel
theorem dX11_flaw_70 : decode cX11_flaw 70 = .ok (.iadd, 1) := by decide +kernel
theorem dX11_flaw_71 : decode cX11_flaw 71 = .ok (.iload_n 3, 1) := by decide +kernel
theorem dX11_flaw_72 : decode cX11_flaw 72 = .ok (.bastore, 1) := by decide +kernel
theorem dX11_flaw_73 : decode cX11_flaw 73 = .ok (.iload 4, 2) := by decide +kernel
theorem dX11_flaw_75 : decode cX11_flaw 75 = .ok (.iload_n 3, 1) := by decide +kernel
theorem dX11_flaw_76 : decode cX11_flaw 76 = .ok (.if_icmp .eq 7, 3) := by decide +kernel
theorem dX11_flaw_79 : decode cX11_flaw 79 = .ok (.iconst 1, 1) := by decide +kernel
theorem dX11_flaw_80 : decode cX11_flaw 80 = .ok (.goto 4, 3) := by decide +kernel
theorem dX11_flaw_83 : decode cX11_flaw 83 = .ok (.iconst 0, 1) := by decide +kernel
theorem dX11_flaw_84 : decode cX11_flaw 84 = .ok (.ireturn, 1) := by decide +kernel
set_option maxHeartbeats 400000 in
set_option maxRecDepth 20000 in
theorem ct_flaw {l : Launch} {E : Ev} {P : Value → AH → Prop} {o : Nat} {ad : Nat → Nat} {F : Nat → Int32} {A : Nat → Nat → Int32} {h : AH} (I : mI o ad) {W H : Nat} (hw : F 26 = nI W) (hh : F 27 = nI H) (hW : W ≤ 10) (hH : H ≤ 8) {x y z : Int32} (hz : z = 0 ∨ z = 1) (k1 : (x < 0 ∨ F 26 - 1 < x) ∨ (y < 0 ∨ F 27 - 1 < y) → P (.int 0) (mh E o ad (upd (upd F 0 0) 0 1) A h)) (k2 : ∀ i j, i < W → j < H → x = nI i → y = nI j → A 28 (10 * j + i) = z → P (.int 0) (mh E o ad (upd F 0 0) (aset A 28 (10 * j + i) z) h)) (k3 : ∀ i j, i < W → j < H → x = nI i → y = nI j → ¬ A 28 (10 * j + i) = z → P (.int 1) (mh E o ad (upd F 0 0) (aset A 28 (10 * j + i) z) h)) : Mt l E yX11_flaw cX11_flaw 5 (some .boolean) 2 70 0 0 [.ref o, .int x, .int y, .int z] (mh E o ad F A h) P := by
  refine Mt.of (by decide) (Nat.le_of_ble_eq_true rfl) ?_
  intro K hK hR C
  refine g_aload_n (n := 1) C dX11_flaw_0 rfl rfl ?_
  refine g_iconst (n := 2) (v := 0) C dX11_flaw_1 rfl (by decide) ?_
  refine m_put (n := 5) 0 C dX11_flaw_2 rfl (by decide) w_1100 rfl rfl rfl mfs_0 ?_
  refine g_aload_n (n := 6) C dX11_flaw_5 rfl rfl ?_
  refine g_iload_n (n := 7) C dX11_flaw_6 rfl rfl ?_
  refine g_iconst (n := 8) (v := 0) C dX11_flaw_7 rfl (by decide) ?_
  refine g_aload_n (n := 9) C dX11_flaw_8 rfl rfl ?_
  refine m_get (n := 12) 26 C dX11_flaw_9 rfl (by decide) rfl w_1126 rfl ?_
  refine g_iconst (n := 13) (v := 1) C dX11_flaw_12 rfl (by decide) ?_
  refine g_isub (n := 14) C dX11_flaw_13 rfl ?_
  refine g_callS (n := 17) (As := [.int _, .int _, .int _]) C dX11_flaw_14 rfl mw_X11_in w_1273 rfl rfl (room hR rfl) (ct_in (fun za14 zb14 => ?_) (fun za14 => ?_) (fun za14 zb14 => ?_))
  · --k14.0
    refine g_if_eq (n := 20) (t := 34) C dX11_flaw_17 rfl (by decide) (fun zc17 => ?_) (fun zc17 => ?_)
    · exact absurd zc17 (by decide)
    refine g_iload_n (n := 21) C dX11_flaw_20 rfl rfl ?_
    refine g_iconst (n := 22) (v := 0) C dX11_flaw_21 rfl (by decide) ?_
    refine g_aload_n (n := 23) C dX11_flaw_22 rfl rfl ?_
    refine m_get (n := 26) 27 C dX11_flaw_23 rfl (by decide) rfl w_1127 rfl ?_
    refine g_iconst (n := 27) (v := 1) C dX11_flaw_26 rfl (by decide) ?_
    refine g_isub (n := 28) C dX11_flaw_27 rfl ?_
    refine g_callS (n := 31) (As := [.int _, .int _, .int _]) C dX11_flaw_28 rfl mw_X11_in w_1273 rfl rfl (room hR rfl) (ct_in (fun za28 zb28 => ?_) (fun za28 => ?_) (fun za28 zb28 => ?_))
    · --k28.0
      refine g_if_ne (n := 34) (t := 38) C dX11_flaw_31 rfl (by decide) (fun zc31 => ?_) (fun zc31 => ?_)
      rotate_left
      · exact absurd zc31 (by decide)
      refine g_iconst (n := 39) (v := 0) C dX11_flaw_38 rfl (by decide) ?_
      refine g_iconst (n := 40) (v := 1) C dX11_flaw_39 rfl (by decide) ?_
      refine g_callV (n := 43) (As := [.int _, .int _]) C dX11_flaw_40 rfl mw_X11_throwsIf w_1257 (g_recv C mh_o rfl) rfl rfl (room hR rfl) (ct_throwsIf0 ?_)
      refine g_if_eq (n := 46) (t := 48) C dX11_flaw_43 rfl (by decide) (fun zc43 => ?_) (fun zc43 => ?_)
      rotate_left
      · exact absurd zc43 (by decide)
      obtain ⟨i, hi, rfl⟩ := ix_of za14 zb14 (show upd F 0 0 26 = nI W from hw) (by omega)
      obtain ⟨j, hj, rfl⟩ := ix_of za28 zb28 (show upd F 0 0 27 = nI H from hh) (by omega)
      refine g_aload_n (n := 49) C dX11_flaw_48 rfl rfl ?_
      refine m_get (n := 52) 28 C dX11_flaw_49 rfl (by decide) rfl w_1128 rfl ?_
      refine g_bipush (n := 54) (v := 10) C dX11_flaw_52 rfl (by decide) ?_
      refine g_iload_n (n := 55) C dX11_flaw_54 rfl rfl ?_
      refine g_imul (n := 56) C dX11_flaw_55 rfl ?_
      refine g_iload_n (n := 57) C dX11_flaw_56 rfl rfl ?_
      refine g_iadd (n := 58) C dX11_flaw_57 rfl ?_
      refine m_zald (n := 59) 28 (10 * j + i) C dX11_flaw_58 rfl I (by decide) rfl (ix10 rfl i) (by omega) (by decide) rfl ?_
      refine g_istore (n := 61) C dX11_flaw_59 rfl (by decide) ?_
      refine g_aload_n (n := 62) C dX11_flaw_61 rfl rfl ?_
      refine m_get (n := 65) 28 C dX11_flaw_62 rfl (by decide) rfl w_1128 rfl ?_
      refine g_bipush (n := 67) (v := 10) C dX11_flaw_65 rfl (by decide) ?_
      refine g_iload_n (n := 68) C dX11_flaw_67 rfl rfl ?_
      refine g_imul (n := 69) C dX11_flaw_68 rfl ?_
      refine g_iload_n (n := 70) C dX11_flaw_69 rfl rfl ?_
      refine g_iadd (n := 71) C dX11_flaw_70 rfl ?_
      refine g_iload_n (n := 72) C dX11_flaw_71 rfl rfl ?_
      refine m_zast (n := 73) 28 (10 * j + i) C dX11_flaw_72 rfl I (by decide) (fun _ => rfl) (ix10 rfl i) (by omega) (by decide) (by rcases hz with rfl | rfl <;> rfl) ?_
      refine g_iload (n := 75) C dX11_flaw_73 rfl rfl ?_
      refine g_iload_n (n := 76) C dX11_flaw_75 rfl rfl ?_
      refine g_icmp_eq (n := 79) (t := 83) C dX11_flaw_76 rfl (by decide) (fun zc76 => ?_) (fun zc76 => ?_)
      · --t76
        refine g_iconst (n := 84) (v := 0) C dX11_flaw_83 rfl (by decide) ?_
        refine g_zret C dX11_flaw_84 (by decide) (by decide) (by rfl) ?_
        first | exact k1 (Or.inl (Or.inl (by assumption))) | exact k1 (Or.inl (Or.inr (by assumption))) | exact k1 (Or.inr (Or.inl (by assumption))) | exact k1 (Or.inr (Or.inr (by assumption))) | exact k2 i j hi hj rfl rfl (by assumption) | exact k3 i j hi hj rfl rfl (by assumption)
      · --f76
        refine g_iconst (n := 80) (v := 1) C dX11_flaw_79 rfl (by decide) ?_
        refine g_goto (t := 84) C dX11_flaw_80 (by decide) ?_
        refine g_zret C dX11_flaw_84 (by decide) (by decide) (by rfl) ?_
        first | exact k1 (Or.inl (Or.inl (by assumption))) | exact k1 (Or.inl (Or.inr (by assumption))) | exact k1 (Or.inr (Or.inl (by assumption))) | exact k1 (Or.inr (Or.inr (by assumption))) | exact k2 i j hi hj rfl rfl (by assumption) | exact k3 i j hi hj rfl rfl (by assumption)
    · --k28.1
      refine g_if_ne (n := 34) (t := 38) C dX11_flaw_31 rfl (by decide) (fun zc31 => ?_) (fun zc31 => ?_)
      · exact absurd zc31 (by decide)
      refine g_iconst (n := 35) (v := 1) C dX11_flaw_34 rfl (by decide) ?_
      refine g_goto (t := 39) C dX11_flaw_35 (by decide) ?_
      refine g_iconst (n := 40) (v := 1) C dX11_flaw_39 rfl (by decide) ?_
      refine g_callV (n := 43) (As := [.int _, .int _]) C dX11_flaw_40 rfl mw_X11_throwsIf w_1257 (g_recv C mh_o rfl) rfl rfl (room hR rfl) (ct_throwsIf1 ?_)
      refine g_if_eq (n := 46) (t := 48) C dX11_flaw_43 rfl (by decide) (fun zc43 => ?_) (fun zc43 => ?_)
      · exact absurd zc43 (by decide)
      refine g_iconst (n := 47) (v := 0) C dX11_flaw_46 rfl (by decide) ?_
      refine g_zret C dX11_flaw_47 (by decide) (by decide) (by rfl) ?_
      first | exact k1 (Or.inl (Or.inl (by assumption))) | exact k1 (Or.inl (Or.inr (by assumption))) | exact k1 (Or.inr (Or.inl (by assumption))) | exact k1 (Or.inr (Or.inr (by assumption))) | exact k2 i j hi hj rfl rfl (by assumption) | exact k3 i j hi hj rfl rfl (by assumption)
    · --k28.2
      refine g_if_ne (n := 34) (t := 38) C dX11_flaw_31 rfl (by decide) (fun zc31 => ?_) (fun zc31 => ?_)
      · exact absurd zc31 (by decide)
      refine g_iconst (n := 35) (v := 1) C dX11_flaw_34 rfl (by decide) ?_
      refine g_goto (t := 39) C dX11_flaw_35 (by decide) ?_
      refine g_iconst (n := 40) (v := 1) C dX11_flaw_39 rfl (by decide) ?_
      refine g_callV (n := 43) (As := [.int _, .int _]) C dX11_flaw_40 rfl mw_X11_throwsIf w_1257 (g_recv C mh_o rfl) rfl rfl (room hR rfl) (ct_throwsIf1 ?_)
      refine g_if_eq (n := 46) (t := 48) C dX11_flaw_43 rfl (by decide) (fun zc43 => ?_) (fun zc43 => ?_)
      · exact absurd zc43 (by decide)
      refine g_iconst (n := 47) (v := 0) C dX11_flaw_46 rfl (by decide) ?_
      refine g_zret C dX11_flaw_47 (by decide) (by decide) (by rfl) ?_
      first | exact k1 (Or.inl (Or.inl (by assumption))) | exact k1 (Or.inl (Or.inr (by assumption))) | exact k1 (Or.inr (Or.inl (by assumption))) | exact k1 (Or.inr (Or.inr (by assumption))) | exact k2 i j hi hj rfl rfl (by assumption) | exact k3 i j hi hj rfl rfl (by assumption)
  · --k14.1
    refine g_if_eq (n := 20) (t := 34) C dX11_flaw_17 rfl (by decide) (fun zc17 => ?_) (fun zc17 => ?_)
    rotate_left
    · exact absurd zc17 (by decide)
    refine g_iconst (n := 35) (v := 1) C dX11_flaw_34 rfl (by decide) ?_
    refine g_goto (t := 39) C dX11_flaw_35 (by decide) ?_
    refine g_iconst (n := 40) (v := 1) C dX11_flaw_39 rfl (by decide) ?_
    refine g_callV (n := 43) (As := [.int _, .int _]) C dX11_flaw_40 rfl mw_X11_throwsIf w_1257 (g_recv C mh_o rfl) rfl rfl (room hR rfl) (ct_throwsIf1 ?_)
    refine g_if_eq (n := 46) (t := 48) C dX11_flaw_43 rfl (by decide) (fun zc43 => ?_) (fun zc43 => ?_)
    · exact absurd zc43 (by decide)
    refine g_iconst (n := 47) (v := 0) C dX11_flaw_46 rfl (by decide) ?_
    refine g_zret C dX11_flaw_47 (by decide) (by decide) (by rfl) ?_
    first | exact k1 (Or.inl (Or.inl (by assumption))) | exact k1 (Or.inl (Or.inr (by assumption))) | exact k1 (Or.inr (Or.inl (by assumption))) | exact k1 (Or.inr (Or.inr (by assumption))) | exact k2 i j hi hj rfl rfl (by assumption) | exact k3 i j hi hj rfl rfl (by assumption)
  · --k14.2
    refine g_if_eq (n := 20) (t := 34) C dX11_flaw_17 rfl (by decide) (fun zc17 => ?_) (fun zc17 => ?_)
    rotate_left
    · exact absurd zc17 (by decide)
    refine g_iconst (n := 35) (v := 1) C dX11_flaw_34 rfl (by decide) ?_
    refine g_goto (t := 39) C dX11_flaw_35 (by decide) ?_
    refine g_iconst (n := 40) (v := 1) C dX11_flaw_39 rfl (by decide) ?_
    refine g_callV (n := 43) (As := [.int _, .int _]) C dX11_flaw_40 rfl mw_X11_throwsIf w_1257 (g_recv C mh_o rfl) rfl rfl (room hR rfl) (ct_throwsIf1 ?_)
    refine g_if_eq (n := 46) (t := 48) C dX11_flaw_43 rfl (by decide) (fun zc43 => ?_) (fun zc43 => ?_)
    · exact absurd zc43 (by decide)
    refine g_iconst (n := 47) (v := 0) C dX11_flaw_46 rfl (by decide) ?_
    refine g_zret C dX11_flaw_47 (by decide) (by decide) (by rfl) ?_
    first | exact k1 (Or.inl (Or.inl (by assumption))) | exact k1 (Or.inl (Or.inr (by assumption))) | exact k1 (Or.inr (Or.inl (by assumption))) | exact k1 (Or.inr (Or.inr (by assumption))) | exact k2 i j hi hj rfl rfl (by assumption) | exact k3 i j hi hj rfl rfl (by assumption)
theorem dX11_placeOf_0 : decode cX11_placeOf 0 = .ok (.bipush 8, 2) := by decide +kernel
theorem dX11_placeOf_2 : decode cX11_placeOf 2 = .ok (.iload_n 3, 1) := by decide +kernel
theorem dX11_placeOf_3 : decode cX11_placeOf 3 = .ok (.imul, 1) := by decide +kernel
theorem dX11_placeOf_4 : decode cX11_placeOf 4 = .ok (.iload_n 1, 1) := by decide +kernel
theorem dX11_placeOf_5 : decode cX11_placeOf 5 = .ok (.iadd, 1) := by decide +kernel
theorem dX11_placeOf_6 : decode cX11_placeOf 6 = .ok (.bipush 10, 2) := by decide +kernel
theorem dX11_placeOf_8 : decode cX11_placeOf 8 = .ok (.imul, 1) := by decide +kernel
theorem dX11_placeOf_9 : decode cX11_placeOf 9 = .ok (.iload_n 2, 1) := by decide +kernel
theorem dX11_placeOf_10 : decode cX11_placeOf 10 = .ok (.iadd, 1) := by decide +kernel
theorem dX11_placeOf_11 : decode cX11_placeOf 11 = .ok (.bipush 10, 2) := by decide +kernel
theorem dX11_placeOf_13 : decode cX11_placeOf 13 = .ok (.imul, 1) := by decide +kernel
theorem dX11_placeOf_14 : decode cX11_placeOf 14 = .ok (.iload_n 0, 1) := by decide +kernel
theorem dX11_placeOf_15 : decode cX11_placeOf 15 = .ok (.iadd, 1) := by decide +kernel
theorem dX11_placeOf_16 : decode cX11_placeOf 16 = .ok (.ireturn, 1) := by decide +kernel
set_option maxHeartbeats 400000 in
set_option maxRecDepth 20000 in
theorem ct_place {l : Launch} {E : Ev} {P : Value → AH → Prop}  {h : AH} {a b c d : Int32} (hp : P (.int (rplace a b c d)) h) : Mt l E yX11_placeOf cX11_placeOf 4 (some .int) 0 0 0 0 [.int a, .int b, .int c, .int d] (h) P := by
  refine Mt.of (by decide) (Nat.le_of_ble_eq_true rfl) ?_
  intro K hK hR C
  refine g_bipush (n := 2) (v := 8) C dX11_placeOf_0 rfl (by decide) ?_
  refine g_iload_n (n := 3) C dX11_placeOf_2 rfl rfl ?_
  refine g_imul (n := 4) C dX11_placeOf_3 rfl ?_
  refine g_iload_n (n := 5) C dX11_placeOf_4 rfl rfl ?_
  refine g_iadd (n := 6) C dX11_placeOf_5 rfl ?_
  refine g_bipush (n := 8) (v := 10) C dX11_placeOf_6 rfl (by decide) ?_
  refine g_imul (n := 9) C dX11_placeOf_8 rfl ?_
  refine g_iload_n (n := 10) C dX11_placeOf_9 rfl rfl ?_
  refine g_iadd (n := 11) C dX11_placeOf_10 rfl ?_
  refine g_bipush (n := 13) (v := 10) C dX11_placeOf_11 rfl (by decide) ?_
  refine g_imul (n := 14) C dX11_placeOf_13 rfl ?_
  refine g_iload_n (n := 15) C dX11_placeOf_14 rfl rfl ?_
  refine g_iadd (n := 16) C dX11_placeOf_15 rfl ?_
  refine g_iret C dX11_placeOf_16 (by decide) (by decide) ?_
  exact hp
theorem le_of_gt {a h p : Nat} (c : nI a + nI h < nI (a + p)) (hp : p ≤ h + 1) (hb : a + h < 100) : p = h + 1 := by
  rw [nI_add] at c
  rcases Nat.lt_or_ge h p with q | q
  · omega
  · exact absurd c (nI_nlt (by omega) (by omega))
theorem lt_of_ngt {a h p : Nat} (c : ¬ nI a + nI h < nI (a + p)) (hp : p ≤ h + 1) (hb : a + h < 100) : p < h + 1 := by
  rw [nI_add] at c
  rcases Nat.lt_or_ge p (h + 1) with q | q
  · exact q
  · exact absurd (nI_lt (by omega) (by omega)) c
theorem rclr2_n {Z : Nat → Int32} {x y w p : Nat} (h : rclr2 Z x y w p (w + 1)) : rclr2 Z x y w (p + 1) 0 := by
  refine ⟨fun j i hj hi => ?_, fun i hi => absurd hi (Nat.not_lt_zero _)⟩
  rcases Nat.lt_or_ge j p with q | q
  · exact h.1 j i q hi
  · have e : j = p := by omega
    subst e
    exact h.2 i (by omega)
theorem rclr2_s {Z : Nat → Int32} {x y w p q : Nat} (h : rclr2 Z x y w p q) (h2 : Z (10 * (y + p) + (x + q)) = 0) : rclr2 Z x y w p (q + 1) := by
  refine ⟨h.1, fun i hi => ?_⟩
  rcases Nat.lt_or_ge i q with c | c
  · exact h.2 i c
  · have e : i = q := by omega
    subst e
    exact h2
theorem rclr2_end {Z : Nat → Int32} {x y w h : Nat} : rclr2 Z x y w (h + 1) 0 ↔ rclr Z x y w h := ⟨fun k j i hj hi => k.1 j i (by omega) hi, fun k => ⟨fun j i hj hi => k j i (by omega) hi, fun i hi => absurd hi (Nat.not_lt_zero _)⟩⟩
theorem rclr2_nn {Z : Nat → Int32} {x y w p : Nat} (h : rclr2 Z x y w (p + 1) 0) : rclr2 Z x y w p (w + 1) := ⟨fun j i hj hi => h.1 j i (by omega) hi, fun i hi => h.1 p i (by omega) (by omega)⟩
theorem dX11_isClear_0 : decode cX11_isClear 0 = .ok (.iconst 1, 1) := by decide +kernel
theorem dX11_isClear_1 : decode cX11_isClear 1 = .ok (.istore 5, 2) := by decide +kernel
theorem dX11_isClear_3 : decode cX11_isClear 3 = .ok (.iload_n 2, 1) := by decide +kernel
theorem dX11_isClear_4 : decode cX11_isClear 4 = .ok (.istore 6, 2) := by decide +kernel
theorem dX11_isClear_6 : decode cX11_isClear 6 = .ok (.iload 6, 2) := by decide +kernel
theorem dX11_isClear_8 : decode cX11_isClear 8 = .ok (.iload_n 2, 1) := by decide +kernel
theorem dX11_isClear_9 : decode cX11_isClear 9 = .ok (.iload 4, 2) := by decide +kernel
theorem dX11_isClear_11 : decode cX11_isClear 11 = .ok (.iadd, 1) := by decide +kernel
theorem dX11_isClear_12 : decode cX11_isClear 12 = .ok (.if_icmp .gt 54, 3) := by decide +kernel
theorem dX11_isClear_15 : decode cX11_isClear 15 = .ok (.iload_n 1, 1) := by decide +kernel
theorem dX11_isClear_16 : decode cX11_isClear 16 = .ok (.istore 7, 2) := by decide +kernel
theorem dX11_isClear_18 : decode cX11_isClear 18 = .ok (.iload 7, 2) := by decide +kernel
theorem dX11_isClear_20 : decode cX11_isClear 20 = .ok (.iload_n 1, 1) := by decide +kernel
theorem dX11_isClear_21 : decode cX11_isClear 21 = .ok (.iload_n 3, 1) := by decide +kernel
theorem dX11_isClear_22 : decode cX11_isClear 22 = .ok (.iadd, 1) := by decide +kernel
theorem dX11_isClear_23 : decode cX11_isClear 23 = .ok (.if_icmp .gt 37, 3) := by decide +kernel
theorem dX11_isClear_26 : decode cX11_isClear 26 = .ok (.iload 5, 2) := by decide +kernel
theorem dX11_isClear_28 : decode cX11_isClear 28 = .ok (.ifCond .eq 23, 3) := by decide +kernel
theorem dX11_isClear_31 : decode cX11_isClear 31 = .ok (.aload_n 0, 1) := by decide +kernel
theorem dX11_isClear_32 : decode cX11_isClear 32 = .ok (.getfield 66, 3) := by decide +kernel
theorem dX11_isClear_35 : decode cX11_isClear 35 = .ok (.bipush 10, 2) := by decide +kernel
theorem dX11_isClear_37 : decode cX11_isClear 37 = .ok (.iload 6, 2) := by decide +kernel
theorem dX11_isClear_39 : decode cX11_isClear 39 = .ok (.imul, 1) := by decide +kernel
theorem dX11_isClear_40 : decode cX11_isClear 40 = .ok (.iload 7, 2) := by decide +kernel
theorem dX11_isClear_42 : decode cX11_isClear 42 = .ok (.iadd, 1) := by decide +kernel
theorem dX11_isClear_43 : decode cX11_isClear 43 = .ok (.baload, 1) := by decide +kernel
theorem dX11_isClear_44 : decode cX11_isClear 44 = .ok (.ifCond .ne 7, 3) := by decide +kernel
theorem dX11_isClear_47 : decode cX11_isClear 47 = .ok (.iconst 1, 1) := by decide +kernel
theorem dX11_isClear_48 : decode cX11_isClear 48 = .ok (.goto 4, 3) := by decide +kernel
theorem dX11_isClear_51 : decode cX11_isClear 51 = .ok (.iconst 0, 1) := by decide +kernel
theorem dX11_isClear_52 : decode cX11_isClear 52 = .ok (.istore 5, 2) := by decide +kernel
theorem dX11_isClear_54 : decode cX11_isClear 54 = .ok (.iinc 7 1, 3) := by decide +kernel
theorem dX11_isClear_57 : decode cX11_isClear 57 = .ok (.goto (-39), 3) := by decide +kernel
theorem dX11_isClear_60 : decode cX11_isClear 60 = .ok (.iinc 6 1, 3) := by decide +kernel
theorem dX11_isClear_63 : decode cX11_isClear 63 = .ok (.goto (-57), 3) := by decide +kernel
theorem dX11_isClear_66 : decode cX11_isClear 66 = .ok (.iload 5, 2) := by decide +kernel
theorem dX11_isClear_68 : decode cX11_isClear 68 = .ok (.ireturn, 1) := by decide +kernel
set_option maxHeartbeats 1000000 in
set_option maxRecDepth 20000 in
theorem ct_clear {l : Launch} {E : Ev} {P : Value → AH → Prop} {o : Nat} {ad : Nat → Nat} {F : Nat → Int32} {A : Nat → Nat → Int32} {h : AH} (I : mI o ad) {x y w g : Nat} (hx : x + w < 10) (hy : y + g < 8) (k1 : rclr (A 28) x y w g → P (.int 1) (mh E o ad F A h)) (k2 : ¬ rclr (A 28) x y w g → P (.int 0) (mh E o ad F A h)) : Mt l E yX11_isClear cX11_isClear 8 (some .boolean) 0 0 0 0 [.ref o, .int (nI x), .int (nI y), .int (nI w), .int (nI g)] (mh E o ad F A h) P := by
  refine Mt.of (by decide) (Nat.le_of_ble_eq_true rfl) ?_
  intro K hK hR C
  refine g_iconst (n := 1) (v := 1) C dX11_isClear_0 rfl (by decide) ?_
  refine g_istore (n := 3) C dX11_isClear_1 rfl (by decide) ?_
  refine g_iload_n (n := 4) C dX11_isClear_3 rfl rfl ?_
  refine g_istore (n := 6) C dX11_isClear_4 rfl (by decide) ?_
  have lp : ∀ p : Nat, p ≤ g + 1 → ∀ (b t : Int32), ((b = 1 ∧ rclr2 (A 28) x y w p 0) ∨ (b = 0 ∧ ¬ rclr2 (A 28) x y w p 0)) → t = nI (y + p) → G K E 8 (QM K E (some .boolean) 0 0 P) 0 0 6 [(0, .ref o), (1, .int (nI x)), (2, .int (nI y)), (3, .int (nI w)), (4, .int (nI g)), (5, .int b), (6, .int t)] [] (mh E o ad F A h) := by
    refine loopN (fun p => ∀ (b t : Int32), ((b = 1 ∧ rclr2 (A 28) x y w p 0) ∨ (b = 0 ∧ ¬ rclr2 (A 28) x y w p 0)) → t = nI (y + p) → G K E 8 (QM K E (some .boolean) 0 0 P) 0 0 6 [(0, .ref o), (1, .int (nI x)), (2, .int (nI y)), (3, .int (nI w)), (4, .int (nI g)), (5, .int b), (6, .int t)] [] (mh E o ad F A h)) (g + 1) ?_
    intro p hlep ihp b t eb et
    subst et
    refine g_iload (n := 8) C dX11_isClear_6 rfl rfl ?_
    refine g_iload_n (n := 9) C dX11_isClear_8 rfl rfl ?_
    refine g_iload (n := 11) C dX11_isClear_9 rfl rfl ?_
    refine g_iadd (n := 12) C dX11_isClear_11 rfl ?_
    refine g_icmp_gt (n := 15) (t := 66) C dX11_isClear_12 rfl (by decide) (fun zc12 => ?_) (fun zc12 => ?_)
    · --t12
      refine g_iload (n := 68) C dX11_isClear_66 rfl rfl ?_
      refine g_zret C dX11_isClear_68 (by decide) (by decide) (by rcases eb with ⟨e1, e2⟩ | ⟨e1, e2⟩ <;> rw [e1] <;> rfl) ?_
      have ep : p = g + 1 := le_of_gt zc12 hlep (by omega)
      subst ep
      rcases eb with ⟨e1, e2⟩ | ⟨e1, e2⟩
      · rw [e1]; exact k1 (rclr2_end.mp e2)
      · rw [e1]; exact k2 (fun zq => e2 (rclr2_end.mpr zq))
    · --f12
      refine g_iload_n (n := 16) C dX11_isClear_15 rfl rfl ?_
      refine g_istore (n := 18) C dX11_isClear_16 rfl (by decide) ?_
      have lq : ∀ q : Nat, q ≤ w + 1 → ∀ (b t : Int32), ((b = 1 ∧ rclr2 (A 28) x y w p q) ∨ (b = 0 ∧ ¬ rclr2 (A 28) x y w p q)) → t = nI (x + q) → G K E 8 (QM K E (some .boolean) 0 0 P) 0 0 18 [(0, .ref o), (1, .int (nI x)), (2, .int (nI y)), (3, .int (nI w)), (4, .int (nI g)), (5, .int b), (6, .int (nI (y + p))), (7, .int t)] [] (mh E o ad F A h) := by
        refine loopN (fun q => ∀ (b t : Int32), ((b = 1 ∧ rclr2 (A 28) x y w p q) ∨ (b = 0 ∧ ¬ rclr2 (A 28) x y w p q)) → t = nI (x + q) → G K E 8 (QM K E (some .boolean) 0 0 P) 0 0 18 [(0, .ref o), (1, .int (nI x)), (2, .int (nI y)), (3, .int (nI w)), (4, .int (nI g)), (5, .int b), (6, .int (nI (y + p))), (7, .int t)] [] (mh E o ad F A h)) (w + 1) ?_
        intro q hleq ihq b t eb2 et
        subst et
        refine g_iload (n := 20) C dX11_isClear_18 rfl rfl ?_
        refine g_iload_n (n := 21) C dX11_isClear_20 rfl rfl ?_
        refine g_iload_n (n := 22) C dX11_isClear_21 rfl rfl ?_
        refine g_iadd (n := 23) C dX11_isClear_22 rfl ?_
        refine g_icmp_gt (n := 26) (t := 60) C dX11_isClear_23 rfl (by decide) (fun zc23 => ?_) (fun zc23 => ?_)
        · --t23
          refine g_iinc (n := 63) C dX11_isClear_60 rfl rfl rfl (by decide) ?_
          refine g_goto (t := 6) C dX11_isClear_63 (by decide) ?_
          exact g_lv [0, 1, 2, 3, 4, 5, 6] rfl (ihp (lt_of_ngt zc12 hlep (by omega)) _ _ (by have eq9 : q = w + 1 := le_of_gt zc23 hleq (by omega); subst eq9; exact eb2.imp (fun zq => ⟨zq.1, rclr2_n zq.2⟩) (fun zq => ⟨zq.1, fun zr => zq.2 (rclr2_nn zr)⟩)) (nI_1 (y + p)))
        · --f23
          refine g_iload (n := 28) C dX11_isClear_26 rfl rfl ?_
          refine g_if_eq (n := 31) (t := 51) C dX11_isClear_28 rfl (by decide) (fun zc28 => ?_) (fun zc28 => ?_)
          · --t28
            refine g_iconst (n := 52) (v := 0) C dX11_isClear_51 rfl (by decide) ?_
            refine g_istore (n := 54) C dX11_isClear_52 rfl (by decide) ?_
            refine g_iinc (n := 57) C dX11_isClear_54 rfl rfl rfl (by decide) ?_
            refine g_goto (t := 18) C dX11_isClear_57 (by decide) ?_
            exact g_lv [0, 1, 2, 3, 4, 5, 6, 7] rfl (ihq (lt_of_ngt zc23 hleq (by omega)) _ _ (by first | exact eb2.elim (fun zq => absurd (zq.1.symm.trans zc28) (by decide)) (fun zq => Or.inr ⟨rfl, fun zr => zq.2 ⟨zr.1, fun i hi => zr.2 i (by omega)⟩⟩) | exact eb2.elim (fun zq => Or.inl ⟨rfl, rclr2_s zq.2 zc44⟩) (fun zq => absurd zq.1 zc28) | exact Or.inr ⟨rfl, fun zr => zc44 (zr.2 q (by omega))⟩) (nI_1 (x + q)))
          · --f28
            refine g_aload_n (n := 32) C dX11_isClear_31 rfl rfl ?_
            refine m_get (n := 35) 28 C dX11_isClear_32 rfl (by decide) rfl w_1128 rfl ?_
            refine g_bipush (n := 37) (v := 10) C dX11_isClear_35 rfl (by decide) ?_
            refine g_iload (n := 39) C dX11_isClear_37 rfl rfl ?_
            refine g_imul (n := 40) C dX11_isClear_39 rfl ?_
            refine g_iload (n := 42) C dX11_isClear_40 rfl rfl ?_
            refine g_iadd (n := 43) C dX11_isClear_42 rfl ?_
            refine m_zald (n := 44) 28 (10 * (y + p) + (x + q)) C dX11_isClear_43 rfl I (by decide) rfl (ix10 rfl (x + q)) (by have := lt_of_ngt zc12 hlep (by omega); have := lt_of_ngt zc23 hleq (by omega); omega) (by decide) rfl ?_
            refine g_if_ne (n := 47) (t := 51) C dX11_isClear_44 rfl (by decide) (fun zc44 => ?_) (fun zc44 => ?_)
            · --t44
              refine g_iconst (n := 52) (v := 0) C dX11_isClear_51 rfl (by decide) ?_
              refine g_istore (n := 54) C dX11_isClear_52 rfl (by decide) ?_
              refine g_iinc (n := 57) C dX11_isClear_54 rfl rfl rfl (by decide) ?_
              refine g_goto (t := 18) C dX11_isClear_57 (by decide) ?_
              exact g_lv [0, 1, 2, 3, 4, 5, 6, 7] rfl (ihq (lt_of_ngt zc23 hleq (by omega)) _ _ (by first | exact eb2.elim (fun zq => absurd (zq.1.symm.trans zc28) (by decide)) (fun zq => Or.inr ⟨rfl, fun zr => zq.2 ⟨zr.1, fun i hi => zr.2 i (by omega)⟩⟩) | exact eb2.elim (fun zq => Or.inl ⟨rfl, rclr2_s zq.2 zc44⟩) (fun zq => absurd zq.1 zc28) | exact Or.inr ⟨rfl, fun zr => zc44 (zr.2 q (by omega))⟩) (nI_1 (x + q)))
            · --f44
              refine g_iconst (n := 48) (v := 1) C dX11_isClear_47 rfl (by decide) ?_
              refine g_goto (t := 52) C dX11_isClear_48 (by decide) ?_
              refine g_istore (n := 54) C dX11_isClear_52 rfl (by decide) ?_
              refine g_iinc (n := 57) C dX11_isClear_54 rfl rfl rfl (by decide) ?_
              refine g_goto (t := 18) C dX11_isClear_57 (by decide) ?_
              exact g_lv [0, 1, 2, 3, 4, 5, 6, 7] rfl (ihq (lt_of_ngt zc23 hleq (by omega)) _ _ (by first | exact eb2.elim (fun zq => absurd (zq.1.symm.trans zc28) (by decide)) (fun zq => Or.inr ⟨rfl, fun zr => zq.2 ⟨zr.1, fun i hi => zr.2 i (by omega)⟩⟩) | exact eb2.elim (fun zq => Or.inl ⟨rfl, rclr2_s zq.2 zc44⟩) (fun zq => absurd zq.1 zc28) | exact Or.inr ⟨rfl, fun zr => zc44 (zr.2 q (by omega))⟩) (nI_1 (x + q)))
      exact g_lv [0, 1, 2, 3, 4, 5, 6, 7] rfl (lq 0 (Nat.zero_le _) _ _ eb rfl)
  exact g_lv [0, 1, 2, 3, 4, 5, 6] rfl (lp 0 (Nat.zero_le _) _ _ (Or.inl ⟨rfl, fun _ _ hj => absurd hj (Nat.not_lt_zero _), fun _ hi => absurd hi (Nat.not_lt_zero _)⟩) rfl)
def rskp (A : Nat → Nat → Int32) (t a b : Nat) : Prop := A 29 a + A 29 b < A 29 t ∨ (A 29 a + A 29 b = A 29 t ∧ A 30 t ≤ A 30 a + A 30 b + 1)
theorem dX11_better_0 : decode cX11_better 0 = .ok (.aload_n 0, 1) := by decide +kernel
theorem dX11_better_1 : decode cX11_better 1 = .ok (.getfield 70, 3) := by decide +kernel
theorem dX11_better_4 : decode cX11_better 4 = .ok (.iload_n 2, 1) := by decide +kernel
theorem dX11_better_5 : decode cX11_better 5 = .ok (.iaload, 1) := by decide +kernel
theorem dX11_better_6 : decode cX11_better 6 = .ok (.aload_n 0, 1) := by decide +kernel
theorem dX11_better_7 : decode cX11_better 7 = .ok (.getfield 70, 3) := by decide +kernel
theorem dX11_better_10 : decode cX11_better 10 = .ok (.iload_n 3, 1) := by decide +kernel
theorem dX11_better_11 : decode cX11_better 11 = .ok (.iaload, 1) := by decide +kernel
theorem dX11_better_12 : decode cX11_better 12 = .ok (.iadd, 1) := by decide +kernel
theorem dX11_better_13 : decode cX11_better 13 = .ok (.istore 4, 2) := by decide +kernel
theorem dX11_better_15 : decode cX11_better 15 = .ok (.aload_n 0, 1) := by decide +kernel
theorem dX11_better_16 : decode cX11_better 16 = .ok (.getfield 73, 3) := by decide +kernel
theorem dX11_better_19 : decode cX11_better 19 = .ok (.iload_n 2, 1) := by decide +kernel
theorem dX11_better_20 : decode cX11_better 20 = .ok (.iaload, 1) := by decide +kernel
theorem dX11_better_21 : decode cX11_better 21 = .ok (.aload_n 0, 1) := by decide +kernel
theorem dX11_better_22 : decode cX11_better 22 = .ok (.getfield 73, 3) := by decide +kernel
theorem dX11_better_25 : decode cX11_better 25 = .ok (.iload_n 3, 1) := by decide +kernel
theorem dX11_better_26 : decode cX11_better 26 = .ok (.iaload, 1) := by decide +kernel
theorem dX11_better_27 : decode cX11_better 27 = .ok (.iadd, 1) := by decide +kernel
theorem dX11_better_28 : decode cX11_better 28 = .ok (.iconst 1, 1) := by decide +kernel
theorem dX11_better_29 : decode cX11_better 29 = .ok (.iadd, 1) := by decide +kernel
theorem dX11_better_30 : decode cX11_better 30 = .ok (.istore 5, 2) := by decide +kernel
theorem dX11_better_32 : decode cX11_better 32 = .ok (.iload 4, 2) := by decide +kernel
theorem dX11_better_34 : decode cX11_better 34 = .ok (.aload_n 0, 1) := by decide +kernel
theorem dX11_better_35 : decode cX11_better 35 = .ok (.getfield 70, 3) := by decide +kernel
theorem dX11_better_38 : decode cX11_better 38 = .ok (.iload_n 1, 1) := by decide +kernel
theorem dX11_better_39 : decode cX11_better 39 = .ok (.iaload, 1) := by decide +kernel
theorem dX11_better_40 : decode cX11_better 40 = .ok (.if_icmp .lt 25, 3) := by decide +kernel
theorem dX11_better_43 : decode cX11_better 43 = .ok (.iload 4, 2) := by decide +kernel
theorem dX11_better_45 : decode cX11_better 45 = .ok (.aload_n 0, 1) := by decide +kernel
theorem dX11_better_46 : decode cX11_better 46 = .ok (.getfield 70, 3) := by decide +kernel
theorem dX11_better_49 : decode cX11_better 49 = .ok (.iload_n 1, 1) := by decide +kernel
theorem dX11_better_50 : decode cX11_better 50 = .ok (.iaload, 1) := by decide +kernel
theorem dX11_better_51 : decode cX11_better 51 = .ok (.if_icmp .ne 15, 3) := by decide +kernel
theorem dX11_better_54 : decode cX11_better 54 = .ok (.iload 5, 2) := by decide +kernel
theorem dX11_better_56 : decode cX11_better 56 = .ok (.aload_n 0, 1) := by decide +kernel
theorem dX11_better_57 : decode cX11_better 57 = .ok (.getfield 73, 3) := by decide +kernel
theorem dX11_better_60 : decode cX11_better 60 = .ok (.iload_n 1, 1) := by decide +kernel
theorem dX11_better_61 : decode cX11_better 61 = .ok (.iaload, 1) := by decide +kernel
theorem dX11_better_62 : decode cX11_better 62 = .ok (.if_icmp .lt 4, 3) := by decide +kernel
theorem dX11_better_65 : decode cX11_better 65 = .ok (.return_, 1) := by decide +kernel
theorem dX11_better_66 : decode cX11_better 66 = .ok (.aload_n 0, 1) := by decide +kernel
theorem dX11_better_67 : decode cX11_better 67 = .ok (.getfield 70, 3) := by decide +kernel
theorem dX11_better_70 : decode cX11_better 70 = .ok (.iload_n 1, 1) := by decide +kernel
theorem dX11_better_71 : decode cX11_better 71 = .ok (.iload 4, 2) := by decide +kernel
theorem dX11_better_73 : decode cX11_better 73 = .ok (.iastore, 1) := by decide +kernel
theorem dX11_better_74 : decode cX11_better 74 = .ok (.aload_n 0, 1) := by decide +kernel
theorem dX11_better_75 : decode cX11_better 75 = .ok (.getfield 73, 3) := by decide +kernel
theorem dX11_better_78 : decode cX11_better 78 = .ok (.iload_n 1, 1) := by decide +kernel
theorem dX11_better_79 : decode cX11_better 79 = .ok (.iload 5, 2) := by decide +kernel
theorem dX11_better_81 : decode cX11_better 81 = .ok (.iastore, 1) := by decide +kernel
theorem dX11_better_82 : decode cX11_better 82 = .ok (.return_, 1) := by decide +kernel
set_option maxHeartbeats 400000 in
set_option maxRecDepth 20000 in
theorem ct_better {l : Launch} {E : Ev} {P : Value → AH → Prop} {o : Nat} {ad : Nat → Nat} {F : Nat → Int32} {A : Nat → Nat → Int32} {h : AH} (I : mI o ad) {t a b : Nat} (ht : t < 6400) (ha : a < 6400) (hb : b < 6400) (k1 : rskp A t a b → P .null (mh E o ad F A h)) (k2 : ¬ rskp A t a b → P .null (mh E o ad F (aset (aset A 29 t (A 29 a + A 29 b)) 30 t (A 30 a + A 30 b + 1)) h)) : Mt l E yX11_better cX11_better 6 none 0 0 0 0 [.ref o, .int (nI t), .int (nI a), .int (nI b)] (mh E o ad F A h) P := by
  refine Mt.of (by decide) (Nat.le_of_ble_eq_true rfl) ?_
  intro K hK hR C
  refine g_aload_n (n := 1) C dX11_better_0 rfl rfl ?_
  refine m_get (n := 4) 29 C dX11_better_1 rfl (by decide) rfl w_1129 rfl ?_
  refine g_iload_n (n := 5) C dX11_better_4 rfl rfl ?_
  refine m_iald (n := 6) 29 (a) C dX11_better_5 rfl I (by decide) rfl rfl (by omega) (by decide) rfl ?_
  refine g_aload_n (n := 7) C dX11_better_6 rfl rfl ?_
  refine m_get (n := 10) 29 C dX11_better_7 rfl (by decide) rfl w_1129 rfl ?_
  refine g_iload_n (n := 11) C dX11_better_10 rfl rfl ?_
  refine m_iald (n := 12) 29 (b) C dX11_better_11 rfl I (by decide) rfl rfl (by omega) (by decide) rfl ?_
  refine g_iadd (n := 13) C dX11_better_12 rfl ?_
  refine g_istore (n := 15) C dX11_better_13 rfl (by decide) ?_
  refine g_aload_n (n := 16) C dX11_better_15 rfl rfl ?_
  refine m_get (n := 19) 30 C dX11_better_16 rfl (by decide) rfl w_1130 rfl ?_
  refine g_iload_n (n := 20) C dX11_better_19 rfl rfl ?_
  refine m_iald (n := 21) 30 (a) C dX11_better_20 rfl I (by decide) rfl rfl (by omega) (by decide) rfl ?_
  refine g_aload_n (n := 22) C dX11_better_21 rfl rfl ?_
  refine m_get (n := 25) 30 C dX11_better_22 rfl (by decide) rfl w_1130 rfl ?_
  refine g_iload_n (n := 26) C dX11_better_25 rfl rfl ?_
  refine m_iald (n := 27) 30 (b) C dX11_better_26 rfl I (by decide) rfl rfl (by omega) (by decide) rfl ?_
  refine g_iadd (n := 28) C dX11_better_27 rfl ?_
  refine g_iconst (n := 29) (v := 1) C dX11_better_28 rfl (by decide) ?_
  refine g_iadd (n := 30) C dX11_better_29 rfl ?_
  refine g_istore (n := 32) C dX11_better_30 rfl (by decide) ?_
  refine g_iload (n := 34) C dX11_better_32 rfl rfl ?_
  refine g_aload_n (n := 35) C dX11_better_34 rfl rfl ?_
  refine m_get (n := 38) 29 C dX11_better_35 rfl (by decide) rfl w_1129 rfl ?_
  refine g_iload_n (n := 39) C dX11_better_38 rfl rfl ?_
  refine m_iald (n := 40) 29 (t) C dX11_better_39 rfl I (by decide) rfl rfl (by omega) (by decide) rfl ?_
  refine g_icmp_lt (n := 43) (t := 65) C dX11_better_40 rfl (by decide) (fun zc40 => ?_) (fun zc40 => ?_)
  · --t40
    refine g_vret C dX11_better_65 (by decide) (by decide) ?_
    first | exact k1 (Or.inl (by assumption)) | exact k1 (Or.inr ⟨by assumption, Int32.not_lt.mp (by assumption)⟩)
  · --f40
    refine g_iload (n := 45) C dX11_better_43 rfl rfl ?_
    refine g_aload_n (n := 46) C dX11_better_45 rfl rfl ?_
    refine m_get (n := 49) 29 C dX11_better_46 rfl (by decide) rfl w_1129 rfl ?_
    refine g_iload_n (n := 50) C dX11_better_49 rfl rfl ?_
    refine m_iald (n := 51) 29 (t) C dX11_better_50 rfl I (by decide) rfl rfl (by omega) (by decide) rfl ?_
    refine g_icmp_ne (n := 54) (t := 66) C dX11_better_51 rfl (by decide) (fun zc51 => ?_) (fun zc51 => ?_)
    · --t51
      refine g_aload_n (n := 67) C dX11_better_66 rfl rfl ?_
      refine m_get (n := 70) 29 C dX11_better_67 rfl (by decide) rfl w_1129 rfl ?_
      refine g_iload_n (n := 71) C dX11_better_70 rfl rfl ?_
      refine g_iload (n := 73) C dX11_better_71 rfl rfl ?_
      refine m_iast (n := 74) 29 (t) C dX11_better_73 rfl I (by decide) (fun _ => rfl) rfl (by omega) (by decide) ?_
      refine g_aload_n (n := 75) C dX11_better_74 rfl rfl ?_
      refine m_get (n := 78) 30 C dX11_better_75 rfl (by decide) rfl w_1130 rfl ?_
      refine g_iload_n (n := 79) C dX11_better_78 rfl rfl ?_
      refine g_iload (n := 81) C dX11_better_79 rfl rfl ?_
      refine m_iast (n := 82) 30 (t) C dX11_better_81 rfl I (by decide) (fun _ => rfl) rfl (by omega) (by decide) ?_
      refine g_vret C dX11_better_82 (by decide) (by decide) ?_
      first | exact k2 (by rintro (zq | zq) <;> first | exact absurd zq (by assumption) | exact absurd zq.1 (by assumption) | exact absurd zq.2 (Int32.not_le.mpr (by assumption)))
    · --f51
      refine g_iload (n := 56) C dX11_better_54 rfl rfl ?_
      refine g_aload_n (n := 57) C dX11_better_56 rfl rfl ?_
      refine m_get (n := 60) 30 C dX11_better_57 rfl (by decide) rfl w_1130 rfl ?_
      refine g_iload_n (n := 61) C dX11_better_60 rfl rfl ?_
      refine m_iald (n := 62) 30 (t) C dX11_better_61 rfl I (by decide) rfl rfl (by omega) (by decide) rfl ?_
      refine g_icmp_lt (n := 65) (t := 66) C dX11_better_62 rfl (by decide) (fun zc62 => ?_) (fun zc62 => ?_)
      · --t62
        refine g_aload_n (n := 67) C dX11_better_66 rfl rfl ?_
        refine m_get (n := 70) 29 C dX11_better_67 rfl (by decide) rfl w_1129 rfl ?_
        refine g_iload_n (n := 71) C dX11_better_70 rfl rfl ?_
        refine g_iload (n := 73) C dX11_better_71 rfl rfl ?_
        refine m_iast (n := 74) 29 (t) C dX11_better_73 rfl I (by decide) (fun _ => rfl) rfl (by omega) (by decide) ?_
        refine g_aload_n (n := 75) C dX11_better_74 rfl rfl ?_
        refine m_get (n := 78) 30 C dX11_better_75 rfl (by decide) rfl w_1130 rfl ?_
        refine g_iload_n (n := 79) C dX11_better_78 rfl rfl ?_
        refine g_iload (n := 81) C dX11_better_79 rfl rfl ?_
        refine m_iast (n := 82) 30 (t) C dX11_better_81 rfl I (by decide) (fun _ => rfl) rfl (by omega) (by decide) ?_
        refine g_vret C dX11_better_82 (by decide) (by decide) ?_
        first | exact k2 (by rintro (zq | zq) <;> first | exact absurd zq (by assumption) | exact absurd zq.1 (by assumption) | exact absurd zq.2 (Int32.not_le.mpr (by assumption)))
      · --f62
        refine g_vret C dX11_better_65 (by decide) (by decide) ?_
        first | exact k1 (Or.inl (by assumption)) | exact k1 (Or.inr ⟨by assumption, Int32.not_lt.mp (by assumption)⟩)
end
section
/-- one more cut tried: what both pieces are worth together, with how many cuts -/
def bt (c a b : Int32 × Int32) : Int32 × Int32 := if a.1 + b.1 < c.1 then c else if a.1 + b.1 = c.1 then (if c.2 ≤ a.2 + b.2 + 1 then c else (a.1 + b.1, a.2 + b.2 + 1)) else (a.1 + b.1, a.2 + b.2 + 1)
def tvf (T : Nat → Nat → Nat → Nat → Int32 × Int32) (c : Int32 × Int32) (x y w h : Nat) : Nat → Int32 × Int32
  | 0 => c
  | k + 1 => bt (tvf T c x y w h k) (T x y k h) (T (x + k + 1) y (w - k - 1) h)
def thf (T : Nat → Nat → Nat → Nat → Int32 × Int32) (c : Int32 × Int32) (x y w h : Nat) : Nat → Int32 × Int32
  | 0 => c
  | k + 1 => bt (thf T c x y w h k) (T x y w k) (T x (y + k + 1) w (h - k - 1))
noncomputable def tba (Z : Nat → Int32) (x y w h : Nat) : Int32 × Int32 := (@ite _ (rclr Z x y w h) (Classical.propDecidable _) (nI (w + 1) * nI (h + 1) * (nI (w + 1) * nI (h + 1))) 0, 0)
noncomputable def tstep (Z : Nat → Int32) (T : Nat → Nat → Nat → Nat → Int32 × Int32) (x y w h : Nat) : Int32 × Int32 := thf T (tvf T (tba Z x y w h) x y w h w) x y w h h
noncomputable def trec (Z : Nat → Int32) : Nat → Nat → Nat → Nat → Nat → Int32 × Int32
  | 0 => fun x y w h => tba Z x y w h
  | n + 1 => fun x y w h => tstep Z (trec Z n) x y w h
theorem tvf_cong {T T' : Nat → Nat → Nat → Nat → Int32 × Int32} {c : Int32 × Int32} {x y w h : Nat} : ∀ k, k ≤ w → (∀ x y w' , w' < w → T x y w' h = T' x y w' h) → tvf T c x y w h k = tvf T' c x y w h k
  | 0, _, _ => rfl
  | k + 1, hk, e => by
    unfold tvf
    rw [tvf_cong k (by omega) e, e x y k (by omega), e (x + k + 1) y (w - k - 1) (by omega)]
theorem thf_cong {T T' : Nat → Nat → Nat → Nat → Int32 × Int32} {c : Int32 × Int32} {x y w h : Nat} : ∀ k, k ≤ h → (∀ x y h', h' < h → T x y w h' = T' x y w h') → thf T c x y w h k = thf T' c x y w h k
  | 0, _, _ => rfl
  | k + 1, hk, e => by
    unfold thf
    rw [thf_cong k (by omega) e, e x y k (by omega), e x (y + k + 1) (h - k - 1) (by omega)]
theorem tstep_cong {Z : Nat → Int32} {T T' : Nat → Nat → Nat → Nat → Int32 × Int32} {x y w h : Nat} (e : ∀ x y w' h', w' + h' < w + h → T x y w' h' = T' x y w' h') : tstep Z T x y w h = tstep Z T' x y w h := by
  unfold tstep
  rw [tvf_cong (T' := T') w (Nat.le_refl w) (fun x y w' hw => e x y w' h (by omega)), thf_cong (T' := T') h (Nat.le_refl h) (fun x y h' hh => e x y w h' (by omega))]
theorem trec_fuel (Z : Nat → Int32) : ∀ n m x y w h, w + h ≤ n → w + h ≤ m → trec Z n x y w h = trec Z m x y w h := by
  intro n
  induction n with
  | zero =>
    intro m x y w h h1 h2
    have e1 : w = 0 := by omega
    have e2 : h = 0 := by omega
    subst e1; subst e2
    cases m with
    | zero => rfl
    | succ m => rfl
  | succ n ih =>
    intro m x y w h h1 h2
    cases m with
    | zero =>
      have e1 : w = 0 := by omega
      have e2 : h = 0 := by omega
      subst e1; subst e2
      rfl
    | succ m => exact tstep_cong (fun x y w' h' hlt => ih m x y w' h' (by omega) (by omega))
/-- what a piece is worth at most, and the fewest cuts for it -/
noncomputable def rT (Z : Nat → Int32) (x y w h : Nat) : Int32 × Int32 := trec Z (w + h) x y w h
theorem rT_step (Z : Nat → Int32) (x y w h : Nat) : rT Z x y w h = tstep Z (rT Z) x y w h := by
  unfold rT
  rw [trec_fuel Z (w + h) (w + h + 1) x y w h (by omega) (by omega)]
  exact tstep_cong (fun x y w' h' hlt => trec_fuel Z _ _ x y w' h' (by omega) (by omega))
def lex4 (h w y x p q r s : Nat) : Prop := h < p ∨ (h = p ∧ (w < q ∨ (w = q ∧ (y < r ∨ (y = r ∧ x < s)))))
/-- of a rough W wide and H high all pieces before (p, q, r, s) are weighed -/
def wdone (Z : Nat → Int32) (W H : Nat) (B : Nat → Nat → Int32) (p q r s : Nat) : Prop := ∀ x y w h, x + w < W → y + h < H → lex4 h w y x p q r s → B 29 (npl x y w h) = (rT Z x y w h).1 ∧ B 30 (npl x y w h) = (rT Z x y w h).2
def wkeep (A B : Nat → Nat → Int32) : Prop := ∀ k, k ≠ 29 → k ≠ 30 → B k = A k
theorem npl_inj {x y w h x' y' w' h' : Nat} (h1 : x < 10) (h2 : y < 8) (h3 : w < 10) (h1' : x' < 10) (h2' : y' < 8) (h3' : w' < 10) (e : npl x y w h = npl x' y' w' h') : x = x' ∧ y = y' ∧ w = w' ∧ h = h' := by
  unfold npl at e
  omega
def aset2 (B : Nat → Nat → Int32) (t : Nat) (v : Int32 × Int32) : Nat → Nat → Int32 := aset (aset B 29 t v.1) 30 t v.2
theorem aset2_keep {A B : Nat → Nat → Int32} {t : Nat} {v : Int32 × Int32} (h : wkeep A B) : wkeep A (aset2 B t v) := fun k h1 h2 => by
  unfold aset2
  rw [aset_row _ _ _ h2, aset_row _ _ _ h1]
  exact h k h1 h2
theorem aset2_29 (B : Nat → Nat → Int32) (t : Nat) (v : Int32 × Int32) : aset2 B t v 29 t = v.1 := by
  unfold aset2
  rw [aset_row _ _ _ (by decide), aset_same]
theorem aset2_30 (B : Nat → Nat → Int32) (t : Nat) (v : Int32 × Int32) : aset2 B t v 30 t = v.2 := aset_same _ _ _ _
theorem aset2_29n (B : Nat → Nat → Int32) {t u : Nat} (v : Int32 × Int32) (h : u ≠ t) : aset2 B t v 29 u = B 29 u := by
  unfold aset2
  rw [aset_row _ _ _ (by decide), aset_rd _ _ h]
theorem aset2_30n (B : Nat → Nat → Int32) {t u : Nat} (v : Int32 × Int32) (h : u ≠ t) : aset2 B t v 30 u = B 30 u := by
  unfold aset2
  rw [aset_rd _ _ h, aset_row _ _ _ (by decide)]
theorem aset2_2 (B : Nat → Nat → Int32) (t : Nat) (v v' : Int32 × Int32) : aset (aset (aset2 B t v) 29 t v'.1) 30 t v'.2 = aset2 B t v' := by
  funext a b
  unfold aset2 aset
  by_cases h1 : a = 30
  · subst h1
    by_cases h2 : b = t <;> simp [h2]
  · by_cases h3 : a = 29
    · subst h3
      by_cases h2 : b = t <;> simp [h2]
    · simp [h1, h3]
/-- a try of a cut, in the arrays -/
theorem bt_set {B : Nat → Nat → Int32} {t a b : Nat} {v va vb : Int32 × Int32} (hat : a ≠ t) (hbt : b ≠ t) (ea : B 29 a = va.1 ∧ B 30 a = va.2) (eb : B 29 b = vb.1 ∧ B 30 b = vb.2) : (rskp (aset2 B t v) t a b → aset2 B t v = aset2 B t (bt v va vb)) ∧ (¬ rskp (aset2 B t v) t a b → aset (aset (aset2 B t v) 29 t (aset2 B t v 29 a + aset2 B t v 29 b)) 30 t (aset2 B t v 30 a + aset2 B t v 30 b + 1) = aset2 B t (bt v va vb)) := by
  rw [aset2_29n _ _ hat, aset2_29n _ _ hbt, aset2_30n _ _ hat, aset2_30n _ _ hbt, ea.1, ea.2, eb.1, eb.2]
  have key : rskp (aset2 B t v) t a b ↔ (va.1 + vb.1 < v.1 ∨ (va.1 + vb.1 = v.1 ∧ v.2 ≤ va.2 + vb.2 + 1)) := by
    unfold rskp
    rw [aset2_29n _ _ hat, aset2_29n _ _ hbt, aset2_30n _ _ hat, aset2_30n _ _ hbt, ea.1, ea.2, eb.1, eb.2, aset2_29, aset2_30]
  rw [key]
  constructor
  · intro h
    congr 1
    unfold bt
    rcases h with h | ⟨h, h2⟩
    · rw [if_pos h]
    · rw [if_neg (by rw [h]; exact fun zq => Int32.lt_irrefl zq), if_pos h, if_pos h2]
  · intro h
    have e : bt v va vb = (va.1 + vb.1, va.2 + vb.2 + 1) := by
      unfold bt
      rw [if_neg (fun q => h (Or.inl q))]
      by_cases c : va.1 + vb.1 = v.1
      · rw [if_pos c, if_neg (fun q => h (Or.inr ⟨c, q⟩))]
      · rw [if_neg c]
    rw [e]
    exact aset2_2 B t v (va.1 + vb.1, va.2 + vb.2 + 1)
/-- the piece at hand is weighed too -/
theorem wdone_s {Z : Nat → Int32} {W H : Nat} {B : Nat → Nat → Int32} {p q r s : Nat} (hW : W ≤ 10) (hH : H ≤ 8) (h : wdone Z W H B p q r s) (hx : s + q < W) (hy : r + p < H) (v : Int32 × Int32) (hv : v = rT Z s r q p) : wdone Z W H (aset2 B (npl s r q p) v) p q r (s + 1) := by
  intro x y w h9 h1 h2 h3
  by_cases e : x = s ∧ y = r ∧ w = q ∧ h9 = p
  · obtain ⟨rfl, rfl, rfl, rfl⟩ := e
    rw [aset2_29, aset2_30, hv]
    exact ⟨rfl, rfl⟩
  · have ne : npl x y w h9 ≠ npl s r q p := fun z => by
      have := npl_inj (by omega) (by omega) (by omega) (by omega) (by omega) (by omega) z
      exact e ⟨this.1, this.2.1, this.2.2.1, this.2.2.2⟩
    rw [aset2_29n _ _ ne, aset2_30n _ _ ne]
    exact h x y w h9 h1 h2 (by unfold lex4 at h3 ⊢; omega)
theorem wdone_set {Z : Nat → Int32} {W H : Nat} {B : Nat → Nat → Int32} {p q r s : Nat} (hW : W ≤ 10) (hH : H ≤ 8) (h : wdone Z W H B p q r s) (hx : s + q < W) (hy : r + p < H) (v : Int32 × Int32) : wdone Z W H (aset2 B (npl s r q p) v) p q r s := by
  intro x y w h9 h1 h2 h3
  have ne : npl x y w h9 ≠ npl s r q p := fun z => by
    have := npl_inj (by omega) (by omega) (by omega) (by omega) (by omega) (by omega) z
    unfold lex4 at h3
    omega
  rw [aset2_29n _ _ ne, aset2_30n _ _ ne]
  exact h x y w h9 h1 h2 h3
theorem lt_ge {N p a : Nat} {x : Int32} (hx : x = nI N) (c : ¬ x ≤ nI p + nI a) (h : p ≤ N - a) (hN : N < 100) (ha : a < 100) : p + a < N := by
  rw [nI_add] at c
  rcases Nat.lt_or_ge (p + a) N with q | q
  · exact q
  · exact absurd (by rw [hx]; exact nI_le q (by omega)) c
theorem eq_ge {N p a : Nat} {x : Int32} (hx : x = nI N) (c : x ≤ nI p + nI a) (h : p ≤ N - a) (hN : N < 100) (ha : a < 100) (h9 : a ≤ N) : p = N - a := by
  rw [hx, nI_add] at c
  have := (nI_leI (by omega) (by omega)).mp c
  omega
theorem npl_lt {x y w h : Nat} (h1 : x + w < 10) (h2 : y + h < 8) : npl x y w h < 6400 := by
  unfold npl
  omega
theorem dX11_weighs_0 : decode cX11_weighs 0 = .ok (.iconst 0, 1) := by decide +kernel
theorem dX11_weighs_1 : decode cX11_weighs 1 = .ok (.istore_n 1, 1) := by decide +kernel
theorem dX11_weighs_2 : decode cX11_weighs 2 = .ok (.iload_n 1, 1) := by decide +kernel
theorem dX11_weighs_3 : decode cX11_weighs 3 = .ok (.aload_n 0, 1) := by decide +kernel
theorem dX11_weighs_4 : decode cX11_weighs 4 = .ok (.getfield 63, 3) := by decide +kernel
theorem dX11_weighs_7 : decode cX11_weighs 7 = .ok (.if_icmp .ge 214, 3) := by decide +kernel
theorem dX11_weighs_10 : decode cX11_weighs 10 = .ok (.iconst 0, 1) := by decide +kernel
theorem dX11_weighs_11 : decode cX11_weighs 11 = .ok (.istore_n 2, 1) := by decide +kernel
theorem dX11_weighs_12 : decode cX11_weighs 12 = .ok (.iload_n 2, 1) := by decide +kernel
theorem dX11_weighs_13 : decode cX11_weighs 13 = .ok (.aload_n 0, 1) := by decide +kernel
theorem dX11_weighs_14 : decode cX11_weighs 14 = .ok (.getfield 60, 3) := by decide +kernel
theorem dX11_weighs_17 : decode cX11_weighs 17 = .ok (.if_icmp .ge 198, 3) := by decide +kernel
theorem dX11_weighs_20 : decode cX11_weighs 20 = .ok (.iconst 0, 1) := by decide +kernel
theorem dX11_weighs_21 : decode cX11_weighs 21 = .ok (.istore_n 3, 1) := by decide +kernel
theorem dX11_weighs_22 : decode cX11_weighs 22 = .ok (.iload_n 3, 1) := by decide +kernel
theorem dX11_weighs_23 : decode cX11_weighs 23 = .ok (.iload_n 1, 1) := by decide +kernel
theorem dX11_weighs_24 : decode cX11_weighs 24 = .ok (.iadd, 1) := by decide +kernel
theorem dX11_weighs_25 : decode cX11_weighs 25 = .ok (.aload_n 0, 1) := by decide +kernel
theorem dX11_weighs_26 : decode cX11_weighs 26 = .ok (.getfield 63, 3) := by decide +kernel
theorem dX11_weighs_29 : decode cX11_weighs 29 = .ok (.if_icmp .ge 180, 3) := by decide +kernel
theorem dX11_weighs_32 : decode cX11_weighs 32 = .ok (.iconst 0, 1) := by decide +kernel
theorem dX11_weighs_33 : decode cX11_weighs 33 = .ok (.istore 4, 2) := by decide +kernel
theorem dX11_weighs_35 : decode cX11_weighs 35 = .ok (.iload 4, 2) := by decide +kernel
theorem dX11_weighs_37 : decode cX11_weighs 37 = .ok (.iload_n 2, 1) := by decide +kernel
theorem dX11_weighs_38 : decode cX11_weighs 38 = .ok (.iadd, 1) := by decide +kernel
theorem dX11_weighs_39 : decode cX11_weighs 39 = .ok (.aload_n 0, 1) := by decide +kernel
theorem dX11_weighs_40 : decode cX11_weighs 40 = .ok (.getfield 60, 3) := by decide +kernel
theorem dX11_weighs_43 : decode cX11_weighs 43 = .ok (.if_icmp .ge 160, 3) := by decide +kernel
theorem dX11_weighs_46 : decode cX11_weighs 46 = .ok (.iload 4, 2) := by decide +kernel
theorem dX11_weighs_48 : decode cX11_weighs 48 = .ok (.iload_n 3, 1) := by decide +kernel
theorem dX11_weighs_49 : decode cX11_weighs 49 = .ok (.iload_n 2, 1) := by decide +kernel
theorem dX11_weighs_50 : decode cX11_weighs 50 = .ok (.iload_n 1, 1) := by decide +kernel
theorem dX11_weighs_51 : decode cX11_weighs 51 = .ok (.invokestatic 217, 3) := by decide +kernel
theorem dX11_weighs_54 : decode cX11_weighs 54 = .ok (.istore 5, 2) := by decide +kernel
theorem dX11_weighs_56 : decode cX11_weighs 56 = .ok (.iload_n 2, 1) := by decide +kernel
theorem dX11_weighs_57 : decode cX11_weighs 57 = .ok (.iconst 1, 1) := by decide +kernel
theorem dX11_weighs_58 : decode cX11_weighs 58 = .ok (.iadd, 1) := by decide +kernel
theorem dX11_weighs_59 : decode cX11_weighs 59 = .ok (.iload_n 1, 1) := by decide +kernel
theorem dX11_weighs_60 : decode cX11_weighs 60 = .ok (.iconst 1, 1) := by decide +kernel
theorem dX11_weighs_61 : decode cX11_weighs 61 = .ok (.iadd, 1) := by decide +kernel
theorem dX11_weighs_62 : decode cX11_weighs 62 = .ok (.imul, 1) := by decide +kernel
theorem dX11_weighs_63 : decode cX11_weighs 63 = .ok (.istore 6, 2) := by decide +kernel
theorem dX11_weighs_65 : decode cX11_weighs 65 = .ok (.aload_n 0, 1) := by decide +kernel
theorem dX11_weighs_66 : decode cX11_weighs 66 = .ok (.getfield 70, 3) := by decide +kernel
theorem dX11_weighs_69 : decode cX11_weighs 69 = .ok (.iload 5, 2) := by decide +kernel
theorem dX11_weighs_71 : decode cX11_weighs 71 = .ok (.aload_n 0, 1) := by decide +kernel
theorem dX11_weighs_72 : decode cX11_weighs 72 = .ok (.iload 4, 2) := by decide +kernel
theorem dX11_weighs_74 : decode cX11_weighs 74 = .ok (.iload_n 3, 1) := by decide +kernel
theorem dX11_weighs_75 : decode cX11_weighs 75 = .ok (.iload_n 2, 1) := by decide +kernel
theorem dX11_weighs_76 : decode cX11_weighs 76 = .ok (.iload_n 1, 1) := by decide +kernel
theorem dX11_weighs_77 : decode cX11_weighs 77 = .ok (.invokevirtual 221, 3) := by decide +kernel
theorem dX11_weighs_80 : decode cX11_weighs 80 = .ok (.ifCond .eq 11, 3) := by decide +kernel
theorem dX11_weighs_83 : decode cX11_weighs 83 = .ok (.iload 6, 2) := by decide +kernel
theorem dX11_weighs_85 : decode cX11_weighs 85 = .ok (.iload 6, 2) := by decide +kernel
theorem dX11_weighs_87 : decode cX11_weighs 87 = .ok (.imul, 1) := by decide +kernel
theorem dX11_weighs_88 : decode cX11_weighs 88 = .ok (.goto 4, 3) := by decide +kernel
theorem dX11_weighs_91 : decode cX11_weighs 91 = .ok (.iconst 0, 1) := by decide +kernel
theorem dX11_weighs_92 : decode cX11_weighs 92 = .ok (.iastore, 1) := by decide +kernel
theorem dX11_weighs_93 : decode cX11_weighs 93 = .ok (.aload_n 0, 1) := by decide +kernel
theorem dX11_weighs_94 : decode cX11_weighs 94 = .ok (.getfield 73, 3) := by decide +kernel
theorem dX11_weighs_97 : decode cX11_weighs 97 = .ok (.iload 5, 2) := by decide +kernel
theorem dX11_weighs_99 : decode cX11_weighs 99 = .ok (.iconst 0, 1) := by decide +kernel
theorem dX11_weighs_100 : decode cX11_weighs 100 = .ok (.iastore, 1) := by decide +kernel
theorem dX11_weighs_101 : decode cX11_weighs 101 = .ok (.iconst 0, 1) := by decide +kernel
theorem dX11_weighs_102 : decode cX11_weighs 102 = .ok (.istore 7, 2) := by decide +kernel
theorem dX11_weighs_104 : decode cX11_weighs 104 = .ok (.iload 7, 2) := by decide +kernel
theorem dX11_weighs_106 : decode cX11_weighs 106 = .ok (.iload_n 2, 1) := by decide +kernel
theorem dX11_weighs_107 : decode cX11_weighs 107 = .ok (.if_icmp .ge 42, 3) := by decide +kernel
theorem dX11_weighs_110 : decode cX11_weighs 110 = .ok (.aload_n 0, 1) := by decide +kernel
theorem dX11_weighs_111 : decode cX11_weighs 111 = .ok (.iload 5, 2) := by decide +kernel
theorem dX11_weighs_113 : decode cX11_weighs 113 = .ok (.iload 4, 2) := by decide +kernel
theorem dX11_weighs_115 : decode cX11_weighs 115 = .ok (.iload_n 3, 1) := by decide +kernel
theorem dX11_weighs_116 : decode cX11_weighs 116 = .ok (.iload 7, 2) := by decide +kernel
theorem dX11_weighs_118 : decode cX11_weighs 118 = .ok (.iload_n 1, 1) := by decide +kernel
theorem dX11_weighs_119 : decode cX11_weighs 119 = .ok (.invokestatic 217, 3) := by decide +kernel
theorem dX11_weighs_122 : decode cX11_weighs 122 = .ok (.iload 4, 2) := by decide +kernel
theorem dX11_weighs_124 : decode cX11_weighs 124 = .ok (.iload 7, 2) := by decide +kernel
theorem dX11_weighs_126 : decode cX11_weighs 126 = .ok (.iadd, 1) := by decide +kernel
theorem dX11_weighs_127 : decode cX11_weighs 127 = .ok (.iconst 1, 1) := by decide +kernel
theorem dX11_weighs_128 : decode cX11_weighs 128 = .ok (.iadd, 1) := by decide +kernel
theorem dX11_weighs_129 : decode cX11_weighs 129 = .ok (.iload_n 3, 1) := by decide +kernel
theorem dX11_weighs_130 : decode cX11_weighs 130 = .ok (.iload_n 2, 1) := by decide +kernel
theorem dX11_weighs_131 : decode cX11_weighs 131 = .ok (.iload 7, 2) := by decide +kernel
theorem dX11_weighs_133 : decode cX11_weighs 133 = .ok (.isub, 1) := by decide +kernel
theorem dX11_weighs_134 : decode cX11_weighs 134 = .ok (.iconst 1, 1) := by decide +kernel
theorem dX11_weighs_135 : decode cX11_weighs 135 = .ok (.isub, 1) := by decide +kernel
theorem dX11_weighs_136 : decode cX11_weighs 136 = .ok (.iload_n 1, 1) := by decide +kernel
theorem dX11_weighs_137 : decode cX11_weighs 137 = .ok (.invokestatic 217, 3) := by decide +kernel
theorem dX11_weighs_140 : decode cX11_weighs 140 = .ok (.invokevirtual 225, 3) := by decide +kernel
theorem dX11_weighs_143 : decode cX11_weighs 143 = .ok (.iinc 7 1, 3) := by decide +kernel
theorem dX11_weighs_146 : decode cX11_weighs 146 = .ok (.goto (-42), 3) := by decide +kernel
theorem dX11_weighs_149 : decode cX11_weighs 149 = .ok (.iconst 0, 1) := by decide +kernel
theorem dX11_weighs_150 : decode cX11_weighs 150 = .ok (.istore 7, 2) := by decide +kernel
theorem dX11_weighs_152 : decode cX11_weighs 152 = .ok (.iload 7, 2) := by decide +kernel
theorem dX11_weighs_154 : decode cX11_weighs 154 = .ok (.iload_n 1, 1) := by decide +kernel
theorem dX11_weighs_155 : decode cX11_weighs 155 = .ok (.if_icmp .ge 42, 3) := by decide +kernel
theorem dX11_weighs_158 : decode cX11_weighs 158 = .ok (.aload_n 0, 1) := by decide +kernel
theorem dX11_weighs_159 : decode cX11_weighs 159 = .ok (.iload 5, 2) := by decide +kernel
theorem dX11_weighs_161 : decode cX11_weighs 161 = .ok (.iload 4, 2) := by decide +kernel
theorem dX11_weighs_163 : decode cX11_weighs 163 = .ok (.iload_n 3, 1) := by decide +kernel
theorem dX11_weighs_164 : decode cX11_weighs 164 = .ok (.iload_n 2, 1) := by decide +kernel
theorem dX11_weighs_165 : decode cX11_weighs 165 = .ok (.iload 7, 2) := by decide +kernel
theorem dX11_weighs_167 : decode cX11_weighs 167 = .ok (.invokestatic 217, 3) := by decide +kernel
theorem dX11_weighs_170 : decode cX11_weighs 170 = .ok (.iload 4, 2) := by decide +kernel
theorem dX11_weighs_172 : decode cX11_weighs 172 = .ok (.iload_n 3, 1) := by decide +kernel
theorem dX11_weighs_173 : decode cX11_weighs 173 = .ok (.iload 7, 2) := by decide +kernel
theorem dX11_weighs_175 : decode cX11_weighs 175 = .ok (.iadd, 1) := by decide +kernel
theorem dX11_weighs_176 : decode cX11_weighs 176 = .ok (.iconst 1, 1) := by decide +kernel
theorem dX11_weighs_177 : decode cX11_weighs 177 = .ok (.iadd, 1) := by decide +kernel
theorem dX11_weighs_178 : decode cX11_weighs 178 = .ok (.iload_n 2, 1) := by decide +kernel
theorem dX11_weighs_179 : decode cX11_weighs 179 = .ok (.iload_n 1, 1) := by decide +kernel
theorem dX11_weighs_180 : decode cX11_weighs 180 = .ok (.iload 7, 2) := by decide +kernel
theorem dX11_weighs_182 : decode cX11_weighs 182 = .ok (.isub, 1) := by decide +kernel
theorem dX11_weighs_183 : decode cX11_weighs 183 = .ok (.iconst 1, 1) := by decide +kernel
theorem dX11_weighs_184 : decode cX11_weighs 184 = .ok (.isub, 1) := by decide +kernel
theorem dX11_weighs_185 : decode cX11_weighs 185 = .ok (.invokestatic 217, 3) := by decide +kernel
theorem dX11_weighs_188 : decode cX11_weighs 188 = .ok (.invokevirtual 225, 3) := by decide +kernel
theorem dX11_weighs_191 : decode cX11_weighs 191 = .ok (.iinc 7 1, 3) := by decide +kernel
theorem dX11_weighs_194 : decode cX11_weighs 194 = .ok (.goto (-42), 3) := by decide +kernel
theorem dX11_weighs_197 : decode cX11_weighs 197 = .ok (.iinc 4 1, 3) := by decide +kernel
theorem dX11_weighs_200 : decode cX11_weighs 200 = .ok (.goto (-165), 3) := by decide +kernel
theorem dX11_weighs_203 : decode cX11_weighs 203 = .ok (.iinc 3 1, 3) := by decide +kernel
theorem dX11_weighs_206 : decode cX11_weighs 206 = .ok (.goto (-184), 3) := by decide +kernel
theorem dX11_weighs_209 : decode cX11_weighs 209 = .ok (.iinc 2 1, 3) := by decide +kernel
theorem dX11_weighs_212 : decode cX11_weighs 212 = .ok (.goto (-200), 3) := by decide +kernel
theorem dX11_weighs_215 : decode cX11_weighs 215 = .ok (.iinc 1 1, 3) := by decide +kernel
theorem dX11_weighs_218 : decode cX11_weighs 218 = .ok (.goto (-216), 3) := by decide +kernel
theorem dX11_weighs_221 : decode cX11_weighs 221 = .ok (.return_, 1) := by decide +kernel
set_option maxHeartbeats 4000000 in
set_option maxRecDepth 20000 in
theorem ct_weighs {l : Launch} {E : Ev} {P : Value → AH → Prop} {o : Nat} {ad : Nat → Nat} {F : Nat → Int32} {A : Nat → Nat → Int32} {h : AH} (I : mI o ad) {W H : Nat} (hw : F 26 = nI W) (hh : F 27 = nI H) (hW : W ≤ 10) (hH : H ≤ 8) (hp : ∀ B, wkeep A B → wdone (A 28) W H B H 0 0 0 → P .null (mh E o ad F B h)) : Mt l E yX11_weighs cX11_weighs 8 none 1 60 0 0 [.ref o] (mh E o ad F A h) P := by
  refine Mt.of (by decide) (Nat.le_of_ble_eq_true rfl) ?_
  intro K hK hR C
  refine g_iconst (n := 1) (v := 0) C dX11_weighs_0 rfl (by decide) ?_
  refine g_istore_n (n := 2) C dX11_weighs_1 rfl (by decide) ?_
  have lp : ∀ p : Nat, p ≤ H → ∀ (t : Int32) (B : Nat → Nat → Int32), t = nI p → wkeep A B → wdone (A 28) W H B p 0 0 0 → G K E 8 (QM K E none 0 0 P) 0 0 2 [(0, .ref o), (1, .int t)] [] (mh E o ad F B h) := by
    refine loopN (fun p => ∀ (t : Int32) (B : Nat → Nat → Int32), t = nI p → wkeep A B → wdone (A 28) W H B p 0 0 0 → G K E 8 (QM K E none 0 0 P) 0 0 2 [(0, .ref o), (1, .int t)] [] (mh E o ad F B h)) (H) ?_
    intro p hlep ihp t B et kB dB
    subst et
    refine g_iload_n (n := 3) C dX11_weighs_2 rfl rfl ?_
    refine g_aload_n (n := 4) C dX11_weighs_3 rfl rfl ?_
    refine m_get (n := 7) 27 C dX11_weighs_4 rfl (by decide) rfl w_1127 rfl ?_
    refine g_icmp_ge (n := 10) (t := 221) C dX11_weighs_7 rfl (by decide) (fun zc7 => ?_) (fun zc7 => ?_)
    · --t7
      refine g_vret C dX11_weighs_221 (by decide) (by decide) ?_
      have ep : p = H := i_eq hh zc7 hlep (by omega)
      subst ep
      exact hp B kB dB
    · --f7
      refine g_iconst (n := 11) (v := 0) C dX11_weighs_10 rfl (by decide) ?_
      refine g_istore_n (n := 12) C dX11_weighs_11 rfl (by decide) ?_
      have lq : ∀ q : Nat, q ≤ W → ∀ (t : Int32) (B : Nat → Nat → Int32), t = nI q → wkeep A B → wdone (A 28) W H B p q 0 0 → G K E 8 (QM K E none 0 0 P) 0 0 12 [(0, .ref o), (1, .int (nI p)), (2, .int t)] [] (mh E o ad F B h) := by
        refine loopN (fun q => ∀ (t : Int32) (B : Nat → Nat → Int32), t = nI q → wkeep A B → wdone (A 28) W H B p q 0 0 → G K E 8 (QM K E none 0 0 P) 0 0 12 [(0, .ref o), (1, .int (nI p)), (2, .int t)] [] (mh E o ad F B h)) (W) ?_
        intro q hleq ihq t B et kB dB
        subst et
        refine g_iload_n (n := 13) C dX11_weighs_12 rfl rfl ?_
        refine g_aload_n (n := 14) C dX11_weighs_13 rfl rfl ?_
        refine m_get (n := 17) 26 C dX11_weighs_14 rfl (by decide) rfl w_1126 rfl ?_
        refine g_icmp_ge (n := 20) (t := 215) C dX11_weighs_17 rfl (by decide) (fun zc17 => ?_) (fun zc17 => ?_)
        · --t17
          refine g_iinc (n := 218) C dX11_weighs_215 rfl rfl rfl (by decide) ?_
          refine g_goto (t := 2) C dX11_weighs_218 (by decide) ?_
          exact g_lv [0, 1] rfl (ihp (i_lt hh zc7 hlep (by omega)) _ _ (nI_1 p) kB (fun x y w h h1 h2 h3 => dB x y w h h1 h2 (by have := i_eq hw zc17 hleq (by omega); unfold lex4 at h3 ⊢; omega)))
        · --f17
          refine g_iconst (n := 21) (v := 0) C dX11_weighs_20 rfl (by decide) ?_
          refine g_istore_n (n := 22) C dX11_weighs_21 rfl (by decide) ?_
          have lr : ∀ r : Nat, r ≤ H - p → ∀ (t : Int32) (B : Nat → Nat → Int32), t = nI r → wkeep A B → wdone (A 28) W H B p q r 0 → G K E 8 (QM K E none 0 0 P) 0 0 22 [(0, .ref o), (1, .int (nI p)), (2, .int (nI q)), (3, .int t)] [] (mh E o ad F B h) := by
            refine loopN (fun r => ∀ (t : Int32) (B : Nat → Nat → Int32), t = nI r → wkeep A B → wdone (A 28) W H B p q r 0 → G K E 8 (QM K E none 0 0 P) 0 0 22 [(0, .ref o), (1, .int (nI p)), (2, .int (nI q)), (3, .int t)] [] (mh E o ad F B h)) (H - p) ?_
            intro r hler ihr t B et kB dB
            subst et
            have hp8 : p < H := (i_lt hh zc7 hlep (by omega))
            refine g_iload_n (n := 23) C dX11_weighs_22 rfl rfl ?_
            refine g_iload_n (n := 24) C dX11_weighs_23 rfl rfl ?_
            refine g_iadd (n := 25) C dX11_weighs_24 rfl ?_
            refine g_aload_n (n := 26) C dX11_weighs_25 rfl rfl ?_
            refine m_get (n := 29) 27 C dX11_weighs_26 rfl (by decide) rfl w_1127 rfl ?_
            refine g_icmp_ge (n := 32) (t := 209) C dX11_weighs_29 rfl (by decide) (fun zc29 => ?_) (fun zc29 => ?_)
            · --t29
              refine g_iinc (n := 212) C dX11_weighs_209 rfl rfl rfl (by decide) ?_
              refine g_goto (t := 12) C dX11_weighs_212 (by decide) ?_
              exact g_lv [0, 1, 2] rfl (ihq (i_lt hw zc17 hleq (by omega)) _ _ (nI_1 q) kB (fun x y w h h1 h2 h3 => dB x y w h h1 h2 (by have := eq_ge hh zc29 hler (by omega) (by omega) (by omega); unfold lex4 at h3 ⊢; omega)))
            · --f29
              refine g_iconst (n := 33) (v := 0) C dX11_weighs_32 rfl (by decide) ?_
              refine g_istore (n := 35) C dX11_weighs_33 rfl (by decide) ?_
              have ls : ∀ s : Nat, s ≤ W - q → ∀ (t : Int32) (B : Nat → Nat → Int32), t = nI s → wkeep A B → wdone (A 28) W H B p q r s → G K E 8 (QM K E none 0 0 P) 0 0 35 [(0, .ref o), (1, .int (nI p)), (2, .int (nI q)), (3, .int (nI r)), (4, .int t)] [] (mh E o ad F B h) := by
                refine loopN (fun s => ∀ (t : Int32) (B : Nat → Nat → Int32), t = nI s → wkeep A B → wdone (A 28) W H B p q r s → G K E 8 (QM K E none 0 0 P) 0 0 35 [(0, .ref o), (1, .int (nI p)), (2, .int (nI q)), (3, .int (nI r)), (4, .int t)] [] (mh E o ad F B h)) (W - q) ?_
                intro s hles ihs t B et kB dB
                subst et
                have hq8 : q < W := (i_lt hw zc17 hleq (by omega))
                refine g_iload (n := 37) C dX11_weighs_35 rfl rfl ?_
                refine g_iload_n (n := 38) C dX11_weighs_37 rfl rfl ?_
                refine g_iadd (n := 39) C dX11_weighs_38 rfl ?_
                refine g_aload_n (n := 40) C dX11_weighs_39 rfl rfl ?_
                refine m_get (n := 43) 26 C dX11_weighs_40 rfl (by decide) rfl w_1126 rfl ?_
                refine g_icmp_ge (n := 46) (t := 203) C dX11_weighs_43 rfl (by decide) (fun zc43 => ?_) (fun zc43 => ?_)
                · --t43
                  refine g_iinc (n := 206) C dX11_weighs_203 rfl rfl rfl (by decide) ?_
                  refine g_goto (t := 22) C dX11_weighs_206 (by decide) ?_
                  exact g_lv [0, 1, 2, 3] rfl (ihr (by have := (lt_ge hh zc29 hler (by omega) (by omega)); omega) _ _ (nI_1 r) kB (fun x y w h h1 h2 h3 => dB x y w h h1 h2 (by have := eq_ge hw zc43 hles (by omega) (by omega) (by omega); unfold lex4 at h3 ⊢; omega)))
                · --f43
                  have hp9 : p < H := (i_lt hh zc7 hlep (by omega))
                  have hq9 : q < W := (i_lt hw zc17 hleq (by omega))
                  have hy9 : r + p < H := (lt_ge hh zc29 hler (by omega) (by omega))
                  have hx9 : s + q < W := (lt_ge hw zc43 hles (by omega) (by omega))
                  have hpx : s + q < 10 := by omega
                  have hpy : r + p < 8 := by omega
                  refine g_iload (n := 48) C dX11_weighs_46 rfl rfl ?_
                  refine g_iload_n (n := 49) C dX11_weighs_48 rfl rfl ?_
                  refine g_iload_n (n := 50) C dX11_weighs_49 rfl rfl ?_
                  refine g_iload_n (n := 51) C dX11_weighs_50 rfl rfl ?_
                  refine g_callS (n := 54) (As := [.int _, .int _, .int _, .int _]) C dX11_weighs_51 rfl mw_X11_placeOf w_1379 rfl rfl (room hR rfl) (ct_place ?_)
                  rw [rplace_n]
                  refine g_istore (n := 56) C dX11_weighs_54 rfl (by decide) ?_
                  refine g_iload_n (n := 57) C dX11_weighs_56 rfl rfl ?_
                  refine g_iconst (n := 58) (v := 1) C dX11_weighs_57 rfl (by decide) ?_
                  refine g_iadd (n := 59) C dX11_weighs_58 rfl ?_
                  refine g_iload_n (n := 60) C dX11_weighs_59 rfl rfl ?_
                  refine g_iconst (n := 61) (v := 1) C dX11_weighs_60 rfl (by decide) ?_
                  refine g_iadd (n := 62) C dX11_weighs_61 rfl ?_
                  refine g_imul (n := 63) C dX11_weighs_62 rfl ?_
                  rw [nI_1, nI_1]
                  refine g_istore (n := 65) C dX11_weighs_63 rfl (by decide) ?_
                  have mid : ∀ (c6 : Int32) (v : Int32 × Int32), v = tba (A 28) s r q p → G K E 8 (QM K E none 0 0 P) 0 0 101 [(0, .ref o), (1, .int (nI p)), (2, .int (nI q)), (3, .int (nI r)), (4, .int (nI s)), (5, .int (nI (npl s r q p))), (6, .int c6)] [] (mh E o ad F (aset2 B (npl s r q p) v) h) := by
                    intro c6 v ev0
                    refine g_iconst (n := 102) (v := 0) C dX11_weighs_101 rfl (by decide) ?_
                    refine g_istore (n := 104) C dX11_weighs_102 rfl (by decide) ?_
                    have lk : ∀ k : Nat, k ≤ q → ∀ (t7 : Int32) (v : Int32 × Int32), t7 = nI k → v = tvf (rT (A 28)) (tba (A 28) s r q p) s r q p k → G K E 8 (QM K E none 0 0 P) 0 0 104 [(0, .ref o), (1, .int (nI p)), (2, .int (nI q)), (3, .int (nI r)), (4, .int (nI s)), (5, .int (nI (npl s r q p))), (6, .int c6), (7, .int t7)] [] (mh E o ad F (aset2 B (npl s r q p) v) h) := by
                      refine loopN (fun k => ∀ (t7 : Int32) (v : Int32 × Int32), t7 = nI k → v = tvf (rT (A 28)) (tba (A 28) s r q p) s r q p k → G K E 8 (QM K E none 0 0 P) 0 0 104 [(0, .ref o), (1, .int (nI p)), (2, .int (nI q)), (3, .int (nI r)), (4, .int (nI s)), (5, .int (nI (npl s r q p))), (6, .int c6), (7, .int t7)] [] (mh E o ad F (aset2 B (npl s r q p) v) h)) (q) ?_
                      intro k hlek ihk t7 v e7 ev
                      subst e7
                      refine g_iload (n := 106) C dX11_weighs_104 rfl rfl ?_
                      refine g_iload_n (n := 107) C dX11_weighs_106 rfl rfl ?_
                      refine g_icmp_ge (n := 110) (t := 149) C dX11_weighs_107 rfl (by decide) (fun zc107 => ?_) (fun zc107 => ?_)
                      · --t107
                        refine g_iconst (n := 150) (v := 0) C dX11_weighs_149 rfl (by decide) ?_
                        refine g_istore (n := 152) C dX11_weighs_150 rfl (by decide) ?_
                        have ll : ∀ l : Nat, l ≤ p → ∀ (t7 : Int32) (v : Int32 × Int32), t7 = nI l → v = thf (rT (A 28)) (tvf (rT (A 28)) (tba (A 28) s r q p) s r q p q) s r q p l → G K E 8 (QM K E none 0 0 P) 0 0 152 [(0, .ref o), (1, .int (nI p)), (2, .int (nI q)), (3, .int (nI r)), (4, .int (nI s)), (5, .int (nI (npl s r q p))), (6, .int c6), (7, .int t7)] [] (mh E o ad F (aset2 B (npl s r q p) v) h) := by
                          refine loopN (fun l => ∀ (t7 : Int32) (v : Int32 × Int32), t7 = nI l → v = thf (rT (A 28)) (tvf (rT (A 28)) (tba (A 28) s r q p) s r q p q) s r q p l → G K E 8 (QM K E none 0 0 P) 0 0 152 [(0, .ref o), (1, .int (nI p)), (2, .int (nI q)), (3, .int (nI r)), (4, .int (nI s)), (5, .int (nI (npl s r q p))), (6, .int c6), (7, .int t7)] [] (mh E o ad F (aset2 B (npl s r q p) v) h)) (p) ?_
                          intro l hlel ihl t7 v e7 ev2
                          subst e7
                          refine g_iload (n := 154) C dX11_weighs_152 rfl rfl ?_
                          refine g_iload_n (n := 155) C dX11_weighs_154 rfl rfl ?_
                          refine g_icmp_ge (n := 158) (t := 197) C dX11_weighs_155 rfl (by decide) (fun zc155 => ?_) (fun zc155 => ?_)
                          · --t155
                            refine g_iinc (n := 200) C dX11_weighs_197 rfl rfl rfl (by decide) ?_
                            refine g_goto (t := 35) C dX11_weighs_200 (by decide) ?_
                            exact g_lv [0, 1, 2, 3, 4] rfl (ihs (by omega) _ _ (nI_1 s) (aset2_keep kB) (wdone_s hW hH dB hx9 hy9 _ (by rw [rT_step, ev2]; unfold tstep; have el := i_eq (n := p) rfl zc155 hlel (by omega); rw [el])))
                          · --f155
                            have hl9 : l < p := i_lt (n := p) rfl zc155 hlel (by omega)
                            refine g_aload_n (n := 159) C dX11_weighs_158 rfl rfl ?_
                            refine g_iload (n := 161) C dX11_weighs_159 rfl rfl ?_
                            refine g_iload (n := 163) C dX11_weighs_161 rfl rfl ?_
                            refine g_iload_n (n := 164) C dX11_weighs_163 rfl rfl ?_
                            refine g_iload_n (n := 165) C dX11_weighs_164 rfl rfl ?_
                            refine g_iload (n := 167) C dX11_weighs_165 rfl rfl ?_
                            refine g_callS (n := 170) (As := [.int _, .int _, .int _, .int _]) C dX11_weighs_167 rfl mw_X11_placeOf w_1379 rfl rfl (room hR rfl) (ct_place ?_)
                            rw [rplace_n]
                            refine g_iload (n := 172) C dX11_weighs_170 rfl rfl ?_
                            refine g_iload_n (n := 173) C dX11_weighs_172 rfl rfl ?_
                            refine g_iload (n := 175) C dX11_weighs_173 rfl rfl ?_
                            refine g_iadd (n := 176) C dX11_weighs_175 rfl ?_
                            refine g_iconst (n := 177) (v := 1) C dX11_weighs_176 rfl (by decide) ?_
                            refine g_iadd (n := 178) C dX11_weighs_177 rfl ?_
                            refine g_iload_n (n := 179) C dX11_weighs_178 rfl rfl ?_
                            refine g_iload_n (n := 180) C dX11_weighs_179 rfl rfl ?_
                            refine g_iload (n := 182) C dX11_weighs_180 rfl rfl ?_
                            refine g_isub (n := 183) C dX11_weighs_182 rfl ?_
                            refine g_iconst (n := 184) (v := 1) C dX11_weighs_183 rfl (by decide) ?_
                            refine g_isub (n := 185) C dX11_weighs_184 rfl ?_
                            rw [show nI r + nI l + 1 = nI (r + l + 1) from by rw [nI_add, nI_1], show nI p - nI l - 1 = nI (p - l - 1) from by rw [pk_sub (by omega)]; exact pk_sub (b := 1) (by omega)]
                            refine g_callS (n := 188) (As := [.int _, .int _, .int _, .int _]) C dX11_weighs_185 rfl mw_X11_placeOf w_1379 rfl rfl (room hR rfl) (ct_place ?_)
                            rw [rplace_n]
                            have bs := bt_set (B := B) (t := npl s r q p) (v := v) (va := rT (A 28) s r q l) (vb := rT (A 28) s (r + l + 1) q (p - l - 1)) (fun zz => by have := npl_inj (by omega) (by omega) (by omega) (by omega) (by omega) (by omega) zz; omega) (fun zz => by have := npl_inj (by omega) (by omega) (by omega) (by omega) (by omega) (by omega) zz; omega) (dB s r q l (by omega) (by omega) (by unfold lex4; omega)) (dB s (r + l + 1) q (p - l - 1) (by omega) (by omega) (by unfold lex4; omega))
                            refine g_callV (n := 191) (As := [.int _, .int _, .int _]) C dX11_weighs_188 rfl mw_X11_better w_1386 (g_recv C mh_o rfl) rfl rfl (room hR rfl) (ct_better I (npl_lt hpx hpy) (npl_lt (by omega) (by omega)) (npl_lt (by omega) (by omega)) (fun zk => ?_) (fun zk => ?_))
                            ·
                              rw [bs.1 zk]
                              refine g_iinc (n := 194) C dX11_weighs_191 rfl rfl rfl (by decide) ?_
                              refine g_goto (t := 152) C dX11_weighs_194 (by decide) ?_
                              exact g_lv [0, 1, 2, 3, 4, 5, 6, 7] rfl (ihl hl9 _ _ (nI_1 l) (by rw [ev2]; rfl))
                            ·
                              rw [bs.2 zk]
                              refine g_iinc (n := 194) C dX11_weighs_191 rfl rfl rfl (by decide) ?_
                              refine g_goto (t := 152) C dX11_weighs_194 (by decide) ?_
                              exact g_lv [0, 1, 2, 3, 4, 5, 6, 7] rfl (ihl hl9 _ _ (nI_1 l) (by rw [ev2]; rfl))
                        exact g_lv [0, 1, 2, 3, 4, 5, 6, 7] rfl (ll 0 (Nat.zero_le _) _ _ rfl (by have ek := i_eq (n := q) rfl zc107 hlek (by omega); subst ek; exact ev))
                      · --f107
                        have hk9 : k < q := i_lt (n := q) rfl zc107 hlek (by omega)
                        refine g_aload_n (n := 111) C dX11_weighs_110 rfl rfl ?_
                        refine g_iload (n := 113) C dX11_weighs_111 rfl rfl ?_
                        refine g_iload (n := 115) C dX11_weighs_113 rfl rfl ?_
                        refine g_iload_n (n := 116) C dX11_weighs_115 rfl rfl ?_
                        refine g_iload (n := 118) C dX11_weighs_116 rfl rfl ?_
                        refine g_iload_n (n := 119) C dX11_weighs_118 rfl rfl ?_
                        refine g_callS (n := 122) (As := [.int _, .int _, .int _, .int _]) C dX11_weighs_119 rfl mw_X11_placeOf w_1379 rfl rfl (room hR rfl) (ct_place ?_)
                        rw [rplace_n]
                        refine g_iload (n := 124) C dX11_weighs_122 rfl rfl ?_
                        refine g_iload (n := 126) C dX11_weighs_124 rfl rfl ?_
                        refine g_iadd (n := 127) C dX11_weighs_126 rfl ?_
                        refine g_iconst (n := 128) (v := 1) C dX11_weighs_127 rfl (by decide) ?_
                        refine g_iadd (n := 129) C dX11_weighs_128 rfl ?_
                        refine g_iload_n (n := 130) C dX11_weighs_129 rfl rfl ?_
                        refine g_iload_n (n := 131) C dX11_weighs_130 rfl rfl ?_
                        refine g_iload (n := 133) C dX11_weighs_131 rfl rfl ?_
                        refine g_isub (n := 134) C dX11_weighs_133 rfl ?_
                        refine g_iconst (n := 135) (v := 1) C dX11_weighs_134 rfl (by decide) ?_
                        refine g_isub (n := 136) C dX11_weighs_135 rfl ?_
                        refine g_iload_n (n := 137) C dX11_weighs_136 rfl rfl ?_
                        rw [show nI s + nI k + 1 = nI (s + k + 1) from by rw [nI_add, nI_1], show nI q - nI k - 1 = nI (q - k - 1) from by rw [pk_sub (by omega)]; exact pk_sub (b := 1) (by omega)]
                        refine g_callS (n := 140) (As := [.int _, .int _, .int _, .int _]) C dX11_weighs_137 rfl mw_X11_placeOf w_1379 rfl rfl (room hR rfl) (ct_place ?_)
                        rw [rplace_n]
                        have bs := bt_set (B := B) (t := npl s r q p) (v := v) (va := rT (A 28) s r k p) (vb := rT (A 28) (s + k + 1) r (q - k - 1) p) (fun zz => by have := npl_inj (by omega) (by omega) (by omega) (by omega) (by omega) (by omega) zz; omega) (fun zz => by have := npl_inj (by omega) (by omega) (by omega) (by omega) (by omega) (by omega) zz; omega) (dB s r k p (by omega) (by omega) (by unfold lex4; omega)) (dB (s + k + 1) r (q - k - 1) p (by omega) (by omega) (by unfold lex4; omega))
                        refine g_callV (n := 143) (As := [.int _, .int _, .int _]) C dX11_weighs_140 rfl mw_X11_better w_1386 (g_recv C mh_o rfl) rfl rfl (room hR rfl) (ct_better I (npl_lt hpx hpy) (npl_lt (by omega) (by omega)) (npl_lt (by omega) (by omega)) (fun zk => ?_) (fun zk => ?_))
                        ·
                          rw [bs.1 zk]
                          refine g_iinc (n := 146) C dX11_weighs_143 rfl rfl rfl (by decide) ?_
                          refine g_goto (t := 104) C dX11_weighs_146 (by decide) ?_
                          exact g_lv [0, 1, 2, 3, 4, 5, 6, 7] rfl (ihk hk9 _ _ (nI_1 k) (by rw [ev]; rfl))
                        ·
                          rw [bs.2 zk]
                          refine g_iinc (n := 146) C dX11_weighs_143 rfl rfl rfl (by decide) ?_
                          refine g_goto (t := 104) C dX11_weighs_146 (by decide) ?_
                          exact g_lv [0, 1, 2, 3, 4, 5, 6, 7] rfl (ihk hk9 _ _ (nI_1 k) (by rw [ev]; rfl))
                    exact g_lv [0, 1, 2, 3, 4, 5, 6, 7] rfl (lk 0 (Nat.zero_le _) _ _ rfl ev0)
                  refine g_aload_n (n := 66) C dX11_weighs_65 rfl rfl ?_
                  refine m_get (n := 69) 29 C dX11_weighs_66 rfl (by decide) rfl w_1129 rfl ?_
                  refine g_iload (n := 71) C dX11_weighs_69 rfl rfl ?_
                  refine g_aload_n (n := 72) C dX11_weighs_71 rfl rfl ?_
                  refine g_iload (n := 74) C dX11_weighs_72 rfl rfl ?_
                  refine g_iload_n (n := 75) C dX11_weighs_74 rfl rfl ?_
                  refine g_iload_n (n := 76) C dX11_weighs_75 rfl rfl ?_
                  refine g_iload_n (n := 77) C dX11_weighs_76 rfl rfl ?_
                  refine g_callV (n := 80) (As := [.int _, .int _, .int _, .int _]) C dX11_weighs_77 rfl mw_X11_isClear w_1382 (g_recv C mh_o rfl) rfl rfl (room hR rfl) (ct_clear I hpx hpy (fun za77 => ?_) (fun za77 => ?_))
                  · --k77.0
                    refine g_if_eq (n := 83) (t := 91) C dX11_weighs_80 rfl (by decide) (fun zc80 => ?_) (fun zc80 => ?_)
                    · exact absurd zc80 (by decide)
                    refine g_iload (n := 85) C dX11_weighs_83 rfl rfl ?_
                    refine g_iload (n := 87) C dX11_weighs_85 rfl rfl ?_
                    refine g_imul (n := 88) C dX11_weighs_87 rfl ?_
                    refine g_goto (t := 92) C dX11_weighs_88 (by decide) ?_
                    refine m_iast (n := 93) 29 (npl s r q p) C dX11_weighs_92 rfl I (by decide) (fun _ => rfl) rfl (npl_lt hpx hpy) (by decide) ?_
                    refine g_aload_n (n := 94) C dX11_weighs_93 rfl rfl ?_
                    refine m_get (n := 97) 30 C dX11_weighs_94 rfl (by decide) rfl w_1130 rfl ?_
                    refine g_iload (n := 99) C dX11_weighs_97 rfl rfl ?_
                    refine g_iconst (n := 100) (v := 0) C dX11_weighs_99 rfl (by decide) ?_
                    refine m_iast (n := 101) 30 (npl s r q p) C dX11_weighs_100 rfl I (by decide) (fun _ => rfl) rfl (npl_lt hpx hpy) (by decide) ?_
                    exact g_lv [0, 1, 2, 3, 4, 5, 6] rfl (mid _ (_, 0) (by unfold tba; first | rw [if_pos (show rclr (A 28) s r q p by rw [← kB 28 (by decide) (by decide)]; assumption)] | rw [if_neg (show ¬ rclr (A 28) s r q p by rw [← kB 28 (by decide) (by decide)]; assumption)]))
                  · --k77.1
                    refine g_if_eq (n := 83) (t := 91) C dX11_weighs_80 rfl (by decide) (fun zc80 => ?_) (fun zc80 => ?_)
                    rotate_left
                    · exact absurd zc80 (by decide)
                    refine g_iconst (n := 92) (v := 0) C dX11_weighs_91 rfl (by decide) ?_
                    refine m_iast (n := 93) 29 (npl s r q p) C dX11_weighs_92 rfl I (by decide) (fun _ => rfl) rfl (npl_lt hpx hpy) (by decide) ?_
                    refine g_aload_n (n := 94) C dX11_weighs_93 rfl rfl ?_
                    refine m_get (n := 97) 30 C dX11_weighs_94 rfl (by decide) rfl w_1130 rfl ?_
                    refine g_iload (n := 99) C dX11_weighs_97 rfl rfl ?_
                    refine g_iconst (n := 100) (v := 0) C dX11_weighs_99 rfl (by decide) ?_
                    refine m_iast (n := 101) 30 (npl s r q p) C dX11_weighs_100 rfl I (by decide) (fun _ => rfl) rfl (npl_lt hpx hpy) (by decide) ?_
                    exact g_lv [0, 1, 2, 3, 4, 5, 6] rfl (mid _ (_, 0) (by unfold tba; first | rw [if_pos (show rclr (A 28) s r q p by rw [← kB 28 (by decide) (by decide)]; assumption)] | rw [if_neg (show ¬ rclr (A 28) s r q p by rw [← kB 28 (by decide) (by decide)]; assumption)]))
              exact g_lv [0, 1, 2, 3, 4] rfl (ls 0 (Nat.zero_le _) _ _ rfl kB dB)
          exact g_lv [0, 1, 2, 3] rfl (lr 0 (Nat.zero_le _) _ _ rfl kB dB)
      exact g_lv [0, 1, 2] rfl (lq 0 (Nat.zero_le _) _ _ rfl kB dB)
  exact g_lv [0, 1] rfl (lp 0 (Nat.zero_le _) _ _ rfl (fun _ _ _ => rfl) (fun x y w h h1 h2 h3 => by unfold lex4 at h3; omega))
end
section
theorem n_pred {x : Int32} {n : Nat} (hx : x = nI n) (h : 1 ≤ n) : x - 1 = nI (n - 1) := by
  rw [hx]
  exact pk_sub (b := 1) h
/-- how many of the first n places have p -/
noncomputable def rcnt (p : Nat → Prop) : Nat → Int32
  | 0 => 0
  | n + 1 => rcnt p n + @ite _ (p n) (Classical.propDecidable _) 1 0
theorem rcnt_1 {p : Nat → Prop} {n : Nat} (h : p n) : rcnt p n + 1 = rcnt p (n + 1) := by
  conv => rhs; unfold rcnt
  rw [if_pos h]
theorem rcnt_0 {p : Nat → Prop} {n : Nat} (h : ¬ p n) : rcnt p n + 0 = rcnt p (n + 1) := by
  conv => rhs; unfold rcnt
  rw [if_neg h]
noncomputable def rsum (p : Nat → Prop) (v : Nat → Int32) : Nat → Int32
  | 0 => 0
  | n + 1 => rsum p v n + @ite _ (p n) (Classical.propDecidable _) (v n) 0
theorem rsum_1 {p : Nat → Prop} {v : Nat → Int32} {n : Nat} (h : p n) : rsum p v n + v n = rsum p v (n + 1) := by
  conv => rhs; unfold rsum
  rw [if_pos h]
theorem rsum_0 {p : Nat → Prop} {v : Nat → Int32} {n : Nat} (h : ¬ p n) : rsum p v n + 0 = rsum p v (n + 1) := by
  conv => rhs; unfold rsum
  rw [if_neg h]
theorem dX11_most_0 : decode cX11_most 0 = .ok (.aload_n 0, 1) := by decide +kernel
theorem dX11_most_1 : decode cX11_most 1 = .ok (.iconst 0, 1) := by decide +kernel
theorem dX11_most_2 : decode cX11_most 2 = .ok (.putfield 76, 3) := by decide +kernel
theorem dX11_most_5 : decode cX11_most 5 = .ok (.aload_n 0, 1) := by decide +kernel
theorem dX11_most_6 : decode cX11_most 6 = .ok (.invokevirtual 229, 3) := by decide +kernel
theorem dX11_most_9 : decode cX11_most 9 = .ok (.aload_n 0, 1) := by decide +kernel
theorem dX11_most_10 : decode cX11_most 10 = .ok (.getfield 70, 3) := by decide +kernel
theorem dX11_most_13 : decode cX11_most 13 = .ok (.iconst 0, 1) := by decide +kernel
theorem dX11_most_14 : decode cX11_most 14 = .ok (.iconst 0, 1) := by decide +kernel
theorem dX11_most_15 : decode cX11_most 15 = .ok (.aload_n 0, 1) := by decide +kernel
theorem dX11_most_16 : decode cX11_most 16 = .ok (.getfield 60, 3) := by decide +kernel
theorem dX11_most_19 : decode cX11_most 19 = .ok (.iconst 1, 1) := by decide +kernel
theorem dX11_most_20 : decode cX11_most 20 = .ok (.isub, 1) := by decide +kernel
theorem dX11_most_21 : decode cX11_most 21 = .ok (.aload_n 0, 1) := by decide +kernel
theorem dX11_most_22 : decode cX11_most 22 = .ok (.getfield 63, 3) := by decide +kernel
theorem dX11_most_25 : decode cX11_most 25 = .ok (.iconst 1, 1) := by decide +kernel
theorem dX11_most_26 : decode cX11_most 26 = .ok (.isub, 1) := by decide +kernel
theorem dX11_most_27 : decode cX11_most 27 = .ok (.invokestatic 217, 3) := by decide +kernel
theorem dX11_most_30 : decode cX11_most 30 = .ok (.iaload, 1) := by decide +kernel
theorem dX11_most_31 : decode cX11_most 31 = .ok (.ireturn, 1) := by decide +kernel
set_option maxHeartbeats 400000 in
set_option maxRecDepth 20000 in
theorem ct_most {l : Launch} {E : Ev} {P : Value → AH → Prop} {o : Nat} {ad : Nat → Nat} {F : Nat → Int32} {A : Nat → Nat → Int32} {h : AH} (I : mI o ad) {W H : Nat} (hw : F 26 = nI W) (hh : F 27 = nI H) (hW : W ≤ 10) (hH : H ≤ 8) (hW1 : 1 ≤ W) (hH1 : 1 ≤ H) (hp : ∀ B, wkeep A B → P (.int (rT (A 28) 0 0 (W - 1) (H - 1)).1) (mh E o ad (upd F 0 0) B h)) : Mt l E yX11_most cX11_most 1 (some .int) 2 90 0 0 [.ref o] (mh E o ad F A h) P := by
  refine Mt.of (by decide) (Nat.le_of_ble_eq_true rfl) ?_
  intro K hK hR C
  refine g_aload_n (n := 1) C dX11_most_0 rfl rfl ?_
  refine g_iconst (n := 2) (v := 0) C dX11_most_1 rfl (by decide) ?_
  refine m_put (n := 5) 0 C dX11_most_2 rfl (by decide) w_1100 rfl rfl rfl mfs_0 ?_
  refine g_aload_n (n := 6) C dX11_most_5 rfl rfl ?_
  refine g_callV (n := 9) (As := []) C dX11_most_6 rfl mw_X11_weighs w_1375 (g_recv C mh_o rfl) rfl rfl (room hR rfl) (ct_weighs I (show upd F 0 0 26 = nI W from hw) (show upd F 0 0 27 = nI H from hh) hW hH (fun B kB dB => ?_))
  refine g_aload_n (n := 10) C dX11_most_9 rfl rfl ?_
  refine m_get (n := 13) 29 C dX11_most_10 rfl (by decide) rfl w_1129 rfl ?_
  refine g_iconst (n := 14) (v := 0) C dX11_most_13 rfl (by decide) ?_
  refine g_iconst (n := 15) (v := 0) C dX11_most_14 rfl (by decide) ?_
  refine g_aload_n (n := 16) C dX11_most_15 rfl rfl ?_
  refine m_get (n := 19) 26 C dX11_most_16 rfl (by decide) rfl w_1126 rfl ?_
  refine g_iconst (n := 20) (v := 1) C dX11_most_19 rfl (by decide) ?_
  refine g_isub (n := 21) C dX11_most_20 rfl ?_
  refine g_aload_n (n := 22) C dX11_most_21 rfl rfl ?_
  refine m_get (n := 25) 27 C dX11_most_22 rfl (by decide) rfl w_1127 rfl ?_
  refine g_iconst (n := 26) (v := 1) C dX11_most_25 rfl (by decide) ?_
  refine g_isub (n := 27) C dX11_most_26 rfl ?_
  rw [n_pred (show upd F 0 0 26 = nI W from hw) hW1, n_pred (show upd F 0 0 27 = nI H from hh) hH1]
  refine g_callS (n := 30) (As := [.int _, .int _, .int _, .int _]) C dX11_most_27 rfl mw_X11_placeOf w_1379 rfl rfl (room hR rfl) (ct_place ?_)
  rw [show rplace 0 0 (nI (W - 1)) (nI (H - 1)) = nI (npl 0 0 (W - 1) (H - 1)) from rplace_n 0 0 (W - 1) (H - 1)]
  refine m_iald (n := 31) (v := (rT (A 28) 0 0 (W - 1) (H - 1)).1) 29 (npl 0 0 (W - 1) (H - 1)) C dX11_most_30 rfl I (by decide) rfl rfl (npl_lt (by omega) (by omega)) (by decide) ((dB 0 0 (W - 1) (H - 1) (by omega) (by omega) (by unfold lex4; omega)).1) ?_
  refine g_iret C dX11_most_31 (by decide) (by decide) ?_
  exact hp B kB
theorem dX11_cuts_0 : decode cX11_cuts 0 = .ok (.aload_n 0, 1) := by decide +kernel
theorem dX11_cuts_1 : decode cX11_cuts 1 = .ok (.iconst 0, 1) := by decide +kernel
theorem dX11_cuts_2 : decode cX11_cuts 2 = .ok (.putfield 76, 3) := by decide +kernel
theorem dX11_cuts_5 : decode cX11_cuts 5 = .ok (.aload_n 0, 1) := by decide +kernel
theorem dX11_cuts_6 : decode cX11_cuts 6 = .ok (.invokevirtual 229, 3) := by decide +kernel
theorem dX11_cuts_9 : decode cX11_cuts 9 = .ok (.aload_n 0, 1) := by decide +kernel
theorem dX11_cuts_10 : decode cX11_cuts 10 = .ok (.getfield 73, 3) := by decide +kernel
theorem dX11_cuts_13 : decode cX11_cuts 13 = .ok (.iconst 0, 1) := by decide +kernel
theorem dX11_cuts_14 : decode cX11_cuts 14 = .ok (.iconst 0, 1) := by decide +kernel
theorem dX11_cuts_15 : decode cX11_cuts 15 = .ok (.aload_n 0, 1) := by decide +kernel
theorem dX11_cuts_16 : decode cX11_cuts 16 = .ok (.getfield 60, 3) := by decide +kernel
theorem dX11_cuts_19 : decode cX11_cuts 19 = .ok (.iconst 1, 1) := by decide +kernel
theorem dX11_cuts_20 : decode cX11_cuts 20 = .ok (.isub, 1) := by decide +kernel
theorem dX11_cuts_21 : decode cX11_cuts 21 = .ok (.aload_n 0, 1) := by decide +kernel
theorem dX11_cuts_22 : decode cX11_cuts 22 = .ok (.getfield 63, 3) := by decide +kernel
theorem dX11_cuts_25 : decode cX11_cuts 25 = .ok (.iconst 1, 1) := by decide +kernel
theorem dX11_cuts_26 : decode cX11_cuts 26 = .ok (.isub, 1) := by decide +kernel
theorem dX11_cuts_27 : decode cX11_cuts 27 = .ok (.invokestatic 217, 3) := by decide +kernel
theorem dX11_cuts_30 : decode cX11_cuts 30 = .ok (.iaload, 1) := by decide +kernel
theorem dX11_cuts_31 : decode cX11_cuts 31 = .ok (.ireturn, 1) := by decide +kernel
set_option maxHeartbeats 400000 in
set_option maxRecDepth 20000 in
theorem ct_cuts {l : Launch} {E : Ev} {P : Value → AH → Prop} {o : Nat} {ad : Nat → Nat} {F : Nat → Int32} {A : Nat → Nat → Int32} {h : AH} (I : mI o ad) {W H : Nat} (hw : F 26 = nI W) (hh : F 27 = nI H) (hW : W ≤ 10) (hH : H ≤ 8) (hW1 : 1 ≤ W) (hH1 : 1 ≤ H) (hp : ∀ B, wkeep A B → P (.int (rT (A 28) 0 0 (W - 1) (H - 1)).2) (mh E o ad (upd F 0 0) B h)) : Mt l E yX11_cuts cX11_cuts 1 (some .int) 2 90 0 0 [.ref o] (mh E o ad F A h) P := by
  refine Mt.of (by decide) (Nat.le_of_ble_eq_true rfl) ?_
  intro K hK hR C
  refine g_aload_n (n := 1) C dX11_cuts_0 rfl rfl ?_
  refine g_iconst (n := 2) (v := 0) C dX11_cuts_1 rfl (by decide) ?_
  refine m_put (n := 5) 0 C dX11_cuts_2 rfl (by decide) w_1100 rfl rfl rfl mfs_0 ?_
  refine g_aload_n (n := 6) C dX11_cuts_5 rfl rfl ?_
  refine g_callV (n := 9) (As := []) C dX11_cuts_6 rfl mw_X11_weighs w_1375 (g_recv C mh_o rfl) rfl rfl (room hR rfl) (ct_weighs I (show upd F 0 0 26 = nI W from hw) (show upd F 0 0 27 = nI H from hh) hW hH (fun B kB dB => ?_))
  refine g_aload_n (n := 10) C dX11_cuts_9 rfl rfl ?_
  refine m_get (n := 13) 30 C dX11_cuts_10 rfl (by decide) rfl w_1130 rfl ?_
  refine g_iconst (n := 14) (v := 0) C dX11_cuts_13 rfl (by decide) ?_
  refine g_iconst (n := 15) (v := 0) C dX11_cuts_14 rfl (by decide) ?_
  refine g_aload_n (n := 16) C dX11_cuts_15 rfl rfl ?_
  refine m_get (n := 19) 26 C dX11_cuts_16 rfl (by decide) rfl w_1126 rfl ?_
  refine g_iconst (n := 20) (v := 1) C dX11_cuts_19 rfl (by decide) ?_
  refine g_isub (n := 21) C dX11_cuts_20 rfl ?_
  refine g_aload_n (n := 22) C dX11_cuts_21 rfl rfl ?_
  refine m_get (n := 25) 27 C dX11_cuts_22 rfl (by decide) rfl w_1127 rfl ?_
  refine g_iconst (n := 26) (v := 1) C dX11_cuts_25 rfl (by decide) ?_
  refine g_isub (n := 27) C dX11_cuts_26 rfl ?_
  rw [n_pred (show upd F 0 0 26 = nI W from hw) hW1, n_pred (show upd F 0 0 27 = nI H from hh) hH1]
  refine g_callS (n := 30) (As := [.int _, .int _, .int _, .int _]) C dX11_cuts_27 rfl mw_X11_placeOf w_1379 rfl rfl (room hR rfl) (ct_place ?_)
  rw [show rplace 0 0 (nI (W - 1)) (nI (H - 1)) = nI (npl 0 0 (W - 1) (H - 1)) from rplace_n 0 0 (W - 1) (H - 1)]
  refine m_iald (n := 31) (v := (rT (A 28) 0 0 (W - 1) (H - 1)).2) 30 (npl 0 0 (W - 1) (H - 1)) C dX11_cuts_30 rfl I (by decide) rfl rfl (npl_lt (by omega) (by omega)) (by decide) ((dB 0 0 (W - 1) (H - 1) (by omega) (by omega) (by unfold lex4; omega)).2) ?_
  refine g_iret C dX11_cuts_31 (by decide) (by decide) ?_
  exact hp B kB
theorem dX11_count_0 : decode cX11_count 0 = .ok (.aload_n 0, 1) := by decide +kernel
theorem dX11_count_1 : decode cX11_count 1 = .ok (.iconst 0, 1) := by decide +kernel
theorem dX11_count_2 : decode cX11_count 2 = .ok (.putfield 76, 3) := by decide +kernel
theorem dX11_count_5 : decode cX11_count 5 = .ok (.iconst 0, 1) := by decide +kernel
theorem dX11_count_6 : decode cX11_count 6 = .ok (.istore_n 2, 1) := by decide +kernel
theorem dX11_count_7 : decode cX11_count 7 = .ok (.iload_n 1, 1) := by decide +kernel
theorem dX11_count_8 : decode cX11_count 8 = .ok (.tableswitch 287 0 14 #[76, 81, 86, 121, 126, 166, 171, 171, 171, 171, 171, 180, 180, 223, 223], 76) := by decide +kernel
theorem dX11_count_84 : decode cX11_count 84 = .ok (.aload_n 0, 1) := by decide +kernel
theorem dX11_count_85 : decode cX11_count 85 = .ok (.getfield 189, 3) := by decide +kernel
theorem dX11_count_88 : decode cX11_count 88 = .ok (.ireturn, 1) := by decide +kernel
theorem dX11_count_89 : decode cX11_count 89 = .ok (.aload_n 0, 1) := by decide +kernel
theorem dX11_count_90 : decode cX11_count 90 = .ok (.getfield 83, 3) := by decide +kernel
theorem dX11_count_93 : decode cX11_count 93 = .ok (.ireturn, 1) := by decide +kernel
theorem dX11_count_94 : decode cX11_count 94 = .ok (.iconst 0, 1) := by decide +kernel
theorem dX11_count_95 : decode cX11_count 95 = .ok (.istore_n 3, 1) := by decide +kernel
theorem dX11_count_96 : decode cX11_count 96 = .ok (.iload_n 3, 1) := by decide +kernel
theorem dX11_count_97 : decode cX11_count 97 = .ok (.aload_n 0, 1) := by decide +kernel
theorem dX11_count_98 : decode cX11_count 98 = .ok (.getfield 83, 3) := by decide +kernel
theorem dX11_count_101 : decode cX11_count 101 = .ok (.if_icmp .ge 26, 3) := by decide +kernel
theorem dX11_count_104 : decode cX11_count 104 = .ok (.iload_n 2, 1) := by decide +kernel
theorem dX11_count_105 : decode cX11_count 105 = .ok (.aload_n 0, 1) := by decide +kernel
theorem dX11_count_106 : decode cX11_count 106 = .ok (.getfield 23, 3) := by decide +kernel
theorem dX11_count_109 : decode cX11_count 109 = .ok (.iload_n 3, 1) := by decide +kernel
theorem dX11_count_110 : decode cX11_count 110 = .ok (.iaload, 1) := by decide +kernel
theorem dX11_count_111 : decode cX11_count 111 = .ok (.ifCond .ge 7, 3) := by decide +kernel
theorem dX11_count_114 : decode cX11_count 114 = .ok (.iconst 1, 1) := by decide +kernel
theorem dX11_count_115 : decode cX11_count 115 = .ok (.goto 4, 3) := by decide +kernel
theorem dX11_count_118 : decode cX11_count 118 = .ok (.iconst 0, 1) := by decide +kernel
theorem dX11_count_119 : decode cX11_count 119 = .ok (.iadd, 1) := by decide +kernel
theorem dX11_count_120 : decode cX11_count 120 = .ok (.istore_n 2, 1) := by decide +kernel
theorem dX11_count_121 : decode cX11_count 121 = .ok (.iinc 3 1, 3) := by decide +kernel
theorem dX11_count_124 : decode cX11_count 124 = .ok (.goto (-28), 3) := by decide +kernel
theorem dX11_count_127 : decode cX11_count 127 = .ok (.iload_n 2, 1) := by decide +kernel
theorem dX11_count_128 : decode cX11_count 128 = .ok (.ireturn, 1) := by decide +kernel
theorem dX11_count_129 : decode cX11_count 129 = .ok (.aload_n 0, 1) := by decide +kernel
theorem dX11_count_130 : decode cX11_count 130 = .ok (.getfield 86, 3) := by decide +kernel
theorem dX11_count_133 : decode cX11_count 133 = .ok (.ireturn, 1) := by decide +kernel
theorem dX11_count_134 : decode cX11_count 134 = .ok (.iconst 0, 1) := by decide +kernel
theorem dX11_count_135 : decode cX11_count 135 = .ok (.istore_n 3, 1) := by decide +kernel
theorem dX11_count_136 : decode cX11_count 136 = .ok (.iload_n 3, 1) := by decide +kernel
theorem dX11_count_137 : decode cX11_count 137 = .ok (.aload_n 0, 1) := by decide +kernel
theorem dX11_count_138 : decode cX11_count 138 = .ok (.getfield 86, 3) := by decide +kernel
theorem dX11_count_141 : decode cX11_count 141 = .ok (.if_icmp .ge 31, 3) := by decide +kernel
theorem dX11_count_144 : decode cX11_count 144 = .ok (.iload_n 2, 1) := by decide +kernel
theorem dX11_count_145 : decode cX11_count 145 = .ok (.aload_n 0, 1) := by decide +kernel
theorem dX11_count_146 : decode cX11_count 146 = .ok (.getfield 51, 3) := by decide +kernel
theorem dX11_count_149 : decode cX11_count 149 = .ok (.bipush 10, 2) := by decide +kernel
theorem dX11_count_151 : decode cX11_count 151 = .ok (.iload_n 3, 1) := by decide +kernel
theorem dX11_count_152 : decode cX11_count 152 = .ok (.imul, 1) := by decide +kernel
theorem dX11_count_153 : decode cX11_count 153 = .ok (.iconst 2, 1) := by decide +kernel
theorem dX11_count_154 : decode cX11_count 154 = .ok (.iadd, 1) := by decide +kernel
theorem dX11_count_155 : decode cX11_count 155 = .ok (.iaload, 1) := by decide +kernel
theorem dX11_count_156 : decode cX11_count 156 = .ok (.ifCond .lt 7, 3) := by decide +kernel
theorem dX11_count_159 : decode cX11_count 159 = .ok (.iconst 1, 1) := by decide +kernel
theorem dX11_count_160 : decode cX11_count 160 = .ok (.goto 4, 3) := by decide +kernel
theorem dX11_count_163 : decode cX11_count 163 = .ok (.iconst 0, 1) := by decide +kernel
theorem dX11_count_164 : decode cX11_count 164 = .ok (.iadd, 1) := by decide +kernel
theorem dX11_count_165 : decode cX11_count 165 = .ok (.istore_n 2, 1) := by decide +kernel
theorem dX11_count_166 : decode cX11_count 166 = .ok (.iinc 3 1, 3) := by decide +kernel
theorem dX11_count_169 : decode cX11_count 169 = .ok (.goto (-33), 3) := by decide +kernel
theorem dX11_count_172 : decode cX11_count 172 = .ok (.iload_n 2, 1) := by decide +kernel
theorem dX11_count_173 : decode cX11_count 173 = .ok (.ireturn, 1) := by decide +kernel
theorem dX11_count_174 : decode cX11_count 174 = .ok (.aload_n 0, 1) := by decide +kernel
theorem dX11_count_175 : decode cX11_count 175 = .ok (.getfield 206, 3) := by decide +kernel
theorem dX11_count_178 : decode cX11_count 178 = .ok (.ireturn, 1) := by decide +kernel
theorem dX11_count_179 : decode cX11_count 179 = .ok (.aload_n 0, 1) := by decide +kernel
theorem dX11_count_180 : decode cX11_count 180 = .ok (.getfield 57, 3) := by decide +kernel
theorem dX11_count_183 : decode cX11_count 183 = .ok (.iload_n 1, 1) := by decide +kernel
theorem dX11_count_184 : decode cX11_count 184 = .ok (.iconst 5, 1) := by decide +kernel
theorem dX11_count_185 : decode cX11_count 185 = .ok (.isub, 1) := by decide +kernel
theorem dX11_count_186 : decode cX11_count 186 = .ok (.iaload, 1) := by decide +kernel
theorem dX11_count_187 : decode cX11_count 187 = .ok (.ireturn, 1) := by decide +kernel
theorem dX11_count_188 : decode cX11_count 188 = .ok (.iconst 0, 1) := by decide +kernel
theorem dX11_count_189 : decode cX11_count 189 = .ok (.istore_n 3, 1) := by decide +kernel
theorem dX11_count_190 : decode cX11_count 190 = .ok (.iload_n 3, 1) := by decide +kernel
theorem dX11_count_191 : decode cX11_count 191 = .ok (.aload_n 0, 1) := by decide +kernel
theorem dX11_count_192 : decode cX11_count 192 = .ok (.getfield 83, 3) := by decide +kernel
theorem dX11_count_195 : decode cX11_count 195 = .ok (.if_icmp .ge 34, 3) := by decide +kernel
theorem dX11_count_198 : decode cX11_count 198 = .ok (.iload_n 2, 1) := by decide +kernel
theorem dX11_count_199 : decode cX11_count 199 = .ok (.aload_n 0, 1) := by decide +kernel
theorem dX11_count_200 : decode cX11_count 200 = .ok (.iload_n 3, 1) := by decide +kernel
theorem dX11_count_201 : decode cX11_count 201 = .ok (.invokevirtual 203, 3) := by decide +kernel
theorem dX11_count_204 : decode cX11_count 204 = .ok (.iload_n 1, 1) := by decide +kernel
theorem dX11_count_205 : decode cX11_count 205 = .ok (.bipush 10, 2) := by decide +kernel
theorem dX11_count_207 : decode cX11_count 207 = .ok (.isub, 1) := by decide +kernel
theorem dX11_count_208 : decode cX11_count 208 = .ok (.if_icmp .ne 12, 3) := by decide +kernel
theorem dX11_count_211 : decode cX11_count 211 = .ok (.aload_n 0, 1) := by decide +kernel
theorem dX11_count_212 : decode cX11_count 212 = .ok (.getfield 29, 3) := by decide +kernel
theorem dX11_count_215 : decode cX11_count 215 = .ok (.iload_n 3, 1) := by decide +kernel
theorem dX11_count_216 : decode cX11_count 216 = .ok (.iaload, 1) := by decide +kernel
theorem dX11_count_217 : decode cX11_count 217 = .ok (.goto 4, 3) := by decide +kernel
theorem dX11_count_220 : decode cX11_count 220 = .ok (.iconst 0, 1) := by decide +kernel
theorem dX11_count_221 : decode cX11_count 221 = .ok (.iadd, 1) := by decide +kernel
theorem dX11_count_222 : decode cX11_count 222 = .ok (.istore_n 2, 1) := by decide +kernel
theorem dX11_count_223 : decode cX11_count 223 = .ok (.iinc 3 1, 3) := by decide +kernel
theorem dX11_count_226 : decode cX11_count 226 = .ok (.goto (-36), 3) := by decide +kernel
theorem dX11_count_229 : decode cX11_count 229 = .ok (.iload_n 2, 1) := by decide +kernel
theorem dX11_count_230 : decode cX11_count 230 = .ok (.ireturn, 1) := by decide +kernel
theorem dX11_count_231 : decode cX11_count 231 = .ok (.iconst 0, 1) := by decide +kernel
theorem dX11_count_232 : decode cX11_count 232 = .ok (.istore_n 3, 1) := by decide +kernel
theorem dX11_count_233 : decode cX11_count 233 = .ok (.iload_n 3, 1) := by decide +kernel
theorem dX11_count_234 : decode cX11_count 234 = .ok (.bipush 96, 2) := by decide +kernel
theorem dX11_count_236 : decode cX11_count 236 = .ok (.if_icmp .ge 57, 3) := by decide +kernel
theorem dX11_count_239 : decode cX11_count 239 = .ok (.iload_n 2, 1) := by decide +kernel
theorem dX11_count_240 : decode cX11_count 240 = .ok (.iload_n 1, 1) := by decide +kernel
theorem dX11_count_241 : decode cX11_count 241 = .ok (.bipush 13, 2) := by decide +kernel
theorem dX11_count_243 : decode cX11_count 243 = .ok (.if_icmp .ne 24, 3) := by decide +kernel
theorem dX11_count_246 : decode cX11_count 246 = .ok (.aload_n 0, 1) := by decide +kernel
theorem dX11_count_247 : decode cX11_count 247 = .ok (.iload_n 3, 1) := by decide +kernel
theorem dX11_count_248 : decode cX11_count 248 = .ok (.invokevirtual 198, 3) := by decide +kernel
theorem dX11_count_251 : decode cX11_count 251 = .ok (.aload_n 0, 1) := by decide +kernel
theorem dX11_count_252 : decode cX11_count 252 = .ok (.iload_n 3, 1) := by decide +kernel
theorem dX11_count_253 : decode cX11_count 253 = .ok (.invokevirtual 201, 3) := by decide +kernel
theorem dX11_count_256 : decode cX11_count 256 = .ok (.if_icmp .ne 7, 3) := by decide +kernel
theorem dX11_count_259 : decode cX11_count 259 = .ok (.iconst 1, 1) := by decide +kernel
theorem dX11_count_260 : decode cX11_count 260 = .ok (.goto 25, 3) := by decide +kernel
theorem dX11_count_263 : decode cX11_count 263 = .ok (.iconst 0, 1) := by decide +kernel
theorem dX11_count_264 : decode cX11_count 264 = .ok (.goto 21, 3) := by decide +kernel
theorem dX11_count_267 : decode cX11_count 267 = .ok (.aload_n 0, 1) := by decide +kernel
theorem dX11_count_268 : decode cX11_count 268 = .ok (.iload_n 3, 1) := by decide +kernel
theorem dX11_count_269 : decode cX11_count 269 = .ok (.invokevirtual 198, 3) := by decide +kernel
theorem dX11_count_272 : decode cX11_count 272 = .ok (.aload_n 0, 1) := by decide +kernel
theorem dX11_count_273 : decode cX11_count 273 = .ok (.iload_n 3, 1) := by decide +kernel
theorem dX11_count_274 : decode cX11_count 274 = .ok (.invokevirtual 201, 3) := by decide +kernel
theorem dX11_count_277 : decode cX11_count 277 = .ok (.if_icmp .le 7, 3) := by decide +kernel
theorem dX11_count_280 : decode cX11_count 280 = .ok (.iconst 1, 1) := by decide +kernel
theorem dX11_count_281 : decode cX11_count 281 = .ok (.goto 4, 3) := by decide +kernel
theorem dX11_count_284 : decode cX11_count 284 = .ok (.iconst 0, 1) := by decide +kernel
theorem dX11_count_285 : decode cX11_count 285 = .ok (.iadd, 1) := by decide +kernel
theorem dX11_count_286 : decode cX11_count 286 = .ok (.istore_n 2, 1) := by decide +kernel
theorem dX11_count_287 : decode cX11_count 287 = .ok (.iinc 3 1, 3) := by decide +kernel
theorem dX11_count_290 : decode cX11_count 290 = .ok (.goto (-57), 3) := by decide +kernel
theorem dX11_count_293 : decode cX11_count 293 = .ok (.iload_n 2, 1) := by decide +kernel
theorem dX11_count_294 : decode cX11_count 294 = .ok (.ireturn, 1) := by decide +kernel
theorem dX11_count_295 : decode cX11_count 295 = .ok (.iconst (-1), 1) := by decide +kernel
theorem dX11_count_296 : decode cX11_count 296 = .ok (.ireturn, 1) := by decide +kernel
set_option maxHeartbeats 4000000 in
set_option maxRecDepth 20000 in
theorem ct_count {l : Launch} {E : Ev} {P : Value → AH → Prop} {o : Nat} {ad : Nat → Nat} {F : Nat → Int32} {A : Nat → Nat → Int32} {h : AH} (I : mI o ad) {n : Nat} (hn : F 9 = nI n) (hn3 : n ≤ 30) {m : Nat} (hm : F 23 = nI m) (hm6 : m ≤ 60) {w : Int32} (k0 : w = 0 → P (.int (F 1)) (mh E o ad (upd F 0 0) A h)) (k1 : w = 1 → P (.int (F 9)) (mh E o ad (upd F 0 0) A h)) (k2 : w = 2 → P (.int (rcnt (fun p => A 6 p < 0) n)) (mh E o ad (upd F 0 0) A h)) (k3 : w = 3 → P (.int (F 23)) (mh E o ad (upd F 0 0) A h)) (k4 : w = 4 → P (.int (rcnt (fun j => ¬ A 21 (10 * j + 2) < 0) m)) (mh E o ad (upd F 0 0) A h)) (k5 : w = 5 → P (.int (F 24)) (mh E o ad (upd F 0 0) A h)) (k6 : w = 6 → P (.int (A 25 1)) (mh E o ad (upd F 0 0) A h)) (k7 : w = 7 → P (.int (A 25 2)) (mh E o ad (upd F 0 0) A h)) (k8 : w = 8 → P (.int (A 25 3)) (mh E o ad (upd F 0 0) A h)) (k9 : w = 9 → P (.int (A 25 4)) (mh E o ad (upd F 0 0) A h)) (k10 : w = 10 → P (.int (A 25 5)) (mh E o ad (upd F 0 0) A h)) (k11 : w = 11 → P (.int (rsum (fun p => rbond F A p = w - 10) (A 8) n)) (mh E o ad (upd F 0 0) A h)) (k12 : w = 12 → P (.int (rsum (fun p => rbond F A p = w - 10) (A 8) n)) (mh E o ad (upd F 0 0) A h)) (k13 : w = 13 → P (.int (rcnt (fun s => rlow (F 2) A (nI s) n = rhigh (F 2) A (nI s) n) 96)) (mh E o ad (upd F 0 0) A h)) (k14 : w = 14 → P (.int (rcnt (fun s => rhigh (F 2) A (nI s) n < rlow (F 2) A (nI s) n) 96)) (mh E o ad (upd F 0 0) A h)) (k15 : ¬ w = 0 → ¬ w = 1 → ¬ w = 2 → ¬ w = 3 → ¬ w = 4 → ¬ w = 5 → ¬ w = 6 → ¬ w = 7 → ¬ w = 8 → ¬ w = 9 → ¬ w = 10 → ¬ w = 11 → ¬ w = 12 → ¬ w = 13 → ¬ w = 14 → P (.int (-1)) (mh E o ad (upd F 0 0) A h)) : Mt l E yX11_count cX11_count 4 (some .int) 4 150 0 0 [.ref o, .int w] (mh E o ad F A h) P := by
  refine Mt.of (by decide) (Nat.le_of_ble_eq_true rfl) ?_
  intro K hK hR C
  refine g_aload_n (n := 1) C dX11_count_0 rfl rfl ?_
  refine g_iconst (n := 2) (v := 0) C dX11_count_1 rfl (by decide) ?_
  refine m_put (n := 5) 0 C dX11_count_2 rfl (by decide) w_1100 rfl rfl rfl mfs_0 ?_
  refine g_iconst (n := 6) (v := 0) C dX11_count_5 rfl (by decide) ?_
  refine g_istore_n (n := 7) C dX11_count_6 rfl (by decide) ?_
  refine g_iload_n (n := 8) C dX11_count_7 rfl rfl ?_
  refine g_case (v := 0) (fun zc8_0 => ?_) (fun zc8_0 => ?_)
  · --case 0
    refine g_tableIn (t := 84) C dX11_count_8 (by decide) (by decide) (by rfl) (by decide) ?_
    refine g_aload_n (n := 85) C dX11_count_84 rfl rfl ?_
    refine m_get (n := 88) 1 C dX11_count_85 rfl (by decide) rfl w_1101 rfl ?_
    refine g_iret C dX11_count_88 (by decide) (by decide) ?_
    exact k0 zc8_0
  refine g_case (v := 1) (fun zc8_1 => ?_) (fun zc8_1 => ?_)
  · --case 1
    refine g_tableIn (t := 89) C dX11_count_8 (by decide) (by decide) (by rfl) (by decide) ?_
    refine g_aload_n (n := 90) C dX11_count_89 rfl rfl ?_
    refine m_get (n := 93) 9 C dX11_count_90 rfl (by decide) rfl w_1109 rfl ?_
    refine g_iret C dX11_count_93 (by decide) (by decide) ?_
    exact k1 zc8_1
  refine g_case (v := 2) (fun zc8_2 => ?_) (fun zc8_2 => ?_)
  · --case 2
    refine g_tableIn (t := 94) C dX11_count_8 (by decide) (by decide) (by rfl) (by decide) ?_
    refine g_iconst (n := 95) (v := 0) C dX11_count_94 rfl (by decide) ?_
    refine g_istore_n (n := 96) C dX11_count_95 rfl (by decide) ?_
    have lp : ∀ p : Nat, p ≤ n → ∀ (v t : Int32), v = rcnt (fun p => A 6 p < 0) p → t = nI p → G K E 4 (QM K E (some .int) 0 0 P) 0 0 96 [(0, .ref o), (1, .int w), (2, .int v), (3, .int t)] [] (mh E o ad (upd F 0 0) A h) := by
      refine loopN (fun p => ∀ (v t : Int32), v = rcnt (fun p => A 6 p < 0) p → t = nI p → G K E 4 (QM K E (some .int) 0 0 P) 0 0 96 [(0, .ref o), (1, .int w), (2, .int v), (3, .int t)] [] (mh E o ad (upd F 0 0) A h)) (n) ?_
      intro p hlep ihp v t ev et
      subst et
      refine g_iload_n (n := 97) C dX11_count_96 rfl rfl ?_
      refine g_aload_n (n := 98) C dX11_count_97 rfl rfl ?_
      refine m_get (n := 101) 9 C dX11_count_98 rfl (by decide) rfl w_1109 rfl ?_
      refine g_icmp_ge (n := 104) (t := 127) C dX11_count_101 rfl (by decide) (fun zc101 => ?_) (fun zc101 => ?_)
      · --t101
        refine g_iload_n (n := 128) C dX11_count_127 rfl rfl ?_
        refine g_iret C dX11_count_128 (by decide) (by decide) ?_
        have ep : p = n := i_eq (show upd F 0 0 9 = nI n from hn) zc101 hlep (by omega)
        subst ep
        rw [ev]
        exact k2 zc8_2
      · --f101
        have hj30 : p < 30 := by have := i_lt (show upd F 0 0 9 = nI n from hn) zc101 hlep (by omega); omega
        refine g_iload_n (n := 105) C dX11_count_104 rfl rfl ?_
        refine g_aload_n (n := 106) C dX11_count_105 rfl rfl ?_
        refine m_get (n := 109) 6 C dX11_count_106 rfl (by decide) rfl w_1106 rfl ?_
        refine g_iload_n (n := 110) C dX11_count_109 rfl rfl ?_
        refine m_iald (n := 111) 6 (p) C dX11_count_110 rfl I (by decide) rfl rfl hj30 (by decide) rfl ?_
        refine g_if_ge (n := 114) (t := 118) C dX11_count_111 rfl (by decide) (fun zc111 => ?_) (fun zc111 => ?_)
        · --t111
          refine g_iconst (n := 119) (v := 0) C dX11_count_118 rfl (by decide) ?_
          refine g_iadd (n := 120) C dX11_count_119 rfl ?_
          refine g_istore_n (n := 121) C dX11_count_120 rfl (by decide) ?_
          refine g_iinc (n := 124) C dX11_count_121 rfl rfl rfl (by decide) ?_
          refine g_goto (t := 96) C dX11_count_124 (by decide) ?_
          exact g_lv [0, 1, 2, 3] rfl (ihp (i_lt (show upd F 0 0 9 = nI n from hn) zc101 hlep (by omega)) _ _ (by rw [ev]; first | exact rcnt_1 (by assumption) | exact rcnt_0 (by assumption) | exact rcnt_1 (Int32.not_le.mp (by assumption)) | exact rcnt_0 (Int32.not_lt.mpr (by assumption)) | exact rcnt_0 (fun zq => zq (by assumption))) (nI_1 p))
        · --f111
          refine g_iconst (n := 115) (v := 1) C dX11_count_114 rfl (by decide) ?_
          refine g_goto (t := 119) C dX11_count_115 (by decide) ?_
          refine g_iadd (n := 120) C dX11_count_119 rfl ?_
          refine g_istore_n (n := 121) C dX11_count_120 rfl (by decide) ?_
          refine g_iinc (n := 124) C dX11_count_121 rfl rfl rfl (by decide) ?_
          refine g_goto (t := 96) C dX11_count_124 (by decide) ?_
          exact g_lv [0, 1, 2, 3] rfl (ihp (i_lt (show upd F 0 0 9 = nI n from hn) zc101 hlep (by omega)) _ _ (by rw [ev]; first | exact rcnt_1 (by assumption) | exact rcnt_0 (by assumption) | exact rcnt_1 (Int32.not_le.mp (by assumption)) | exact rcnt_0 (Int32.not_lt.mpr (by assumption)) | exact rcnt_0 (fun zq => zq (by assumption))) (nI_1 p))
    exact g_lv [0, 1, 2, 3] rfl (lp 0 (Nat.zero_le _) _ _ rfl rfl)
  refine g_case (v := 3) (fun zc8_3 => ?_) (fun zc8_3 => ?_)
  · --case 3
    refine g_tableIn (t := 129) C dX11_count_8 (by decide) (by decide) (by rfl) (by decide) ?_
    refine g_aload_n (n := 130) C dX11_count_129 rfl rfl ?_
    refine m_get (n := 133) 23 C dX11_count_130 rfl (by decide) rfl w_1123 rfl ?_
    refine g_iret C dX11_count_133 (by decide) (by decide) ?_
    exact k3 zc8_3
  refine g_case (v := 4) (fun zc8_4 => ?_) (fun zc8_4 => ?_)
  · --case 4
    refine g_tableIn (t := 134) C dX11_count_8 (by decide) (by decide) (by rfl) (by decide) ?_
    refine g_iconst (n := 135) (v := 0) C dX11_count_134 rfl (by decide) ?_
    refine g_istore_n (n := 136) C dX11_count_135 rfl (by decide) ?_
    have lp : ∀ p : Nat, p ≤ m → ∀ (v t : Int32), v = rcnt (fun j => ¬ A 21 (10 * j + 2) < 0) p → t = nI p → G K E 4 (QM K E (some .int) 0 0 P) 0 0 136 [(0, .ref o), (1, .int w), (2, .int v), (3, .int t)] [] (mh E o ad (upd F 0 0) A h) := by
      refine loopN (fun p => ∀ (v t : Int32), v = rcnt (fun j => ¬ A 21 (10 * j + 2) < 0) p → t = nI p → G K E 4 (QM K E (some .int) 0 0 P) 0 0 136 [(0, .ref o), (1, .int w), (2, .int v), (3, .int t)] [] (mh E o ad (upd F 0 0) A h)) (m) ?_
      intro p hlep ihp v t ev et
      subst et
      refine g_iload_n (n := 137) C dX11_count_136 rfl rfl ?_
      refine g_aload_n (n := 138) C dX11_count_137 rfl rfl ?_
      refine m_get (n := 141) 23 C dX11_count_138 rfl (by decide) rfl w_1123 rfl ?_
      refine g_icmp_ge (n := 144) (t := 172) C dX11_count_141 rfl (by decide) (fun zc141 => ?_) (fun zc141 => ?_)
      · --t141
        refine g_iload_n (n := 173) C dX11_count_172 rfl rfl ?_
        refine g_iret C dX11_count_173 (by decide) (by decide) ?_
        have ep : p = m := i_eq (show upd F 0 0 23 = nI m from hm) zc141 hlep (by omega)
        subst ep
        rw [ev]
        exact k4 zc8_4
      · --f141
        have hj60 : p < 60 := by have := i_lt (show upd F 0 0 23 = nI m from hm) zc141 hlep (by omega); omega
        refine g_iload_n (n := 145) C dX11_count_144 rfl rfl ?_
        refine g_aload_n (n := 146) C dX11_count_145 rfl rfl ?_
        refine m_get (n := 149) 21 C dX11_count_146 rfl (by decide) rfl w_1121 rfl ?_
        refine g_bipush (n := 151) (v := 10) C dX11_count_149 rfl (by decide) ?_
        refine g_iload_n (n := 152) C dX11_count_151 rfl rfl ?_
        refine g_imul (n := 153) C dX11_count_152 rfl ?_
        refine g_iconst (n := 154) (v := 2) C dX11_count_153 rfl (by decide) ?_
        refine g_iadd (n := 155) C dX11_count_154 rfl ?_
        refine m_iald (n := 156) 21 (10 * p + 2) C dX11_count_155 rfl I (by decide) rfl (ix10 rfl 2) (by omega) (by decide) rfl ?_
        refine g_if_lt (n := 159) (t := 163) C dX11_count_156 rfl (by decide) (fun zc156 => ?_) (fun zc156 => ?_)
        · --t156
          refine g_iconst (n := 164) (v := 0) C dX11_count_163 rfl (by decide) ?_
          refine g_iadd (n := 165) C dX11_count_164 rfl ?_
          refine g_istore_n (n := 166) C dX11_count_165 rfl (by decide) ?_
          refine g_iinc (n := 169) C dX11_count_166 rfl rfl rfl (by decide) ?_
          refine g_goto (t := 136) C dX11_count_169 (by decide) ?_
          exact g_lv [0, 1, 2, 3] rfl (ihp (i_lt (show upd F 0 0 23 = nI m from hm) zc141 hlep (by omega)) _ _ (by rw [ev]; first | exact rcnt_1 (by assumption) | exact rcnt_0 (by assumption) | exact rcnt_1 (Int32.not_le.mp (by assumption)) | exact rcnt_0 (Int32.not_lt.mpr (by assumption)) | exact rcnt_0 (fun zq => zq (by assumption))) (nI_1 p))
        · --f156
          refine g_iconst (n := 160) (v := 1) C dX11_count_159 rfl (by decide) ?_
          refine g_goto (t := 164) C dX11_count_160 (by decide) ?_
          refine g_iadd (n := 165) C dX11_count_164 rfl ?_
          refine g_istore_n (n := 166) C dX11_count_165 rfl (by decide) ?_
          refine g_iinc (n := 169) C dX11_count_166 rfl rfl rfl (by decide) ?_
          refine g_goto (t := 136) C dX11_count_169 (by decide) ?_
          exact g_lv [0, 1, 2, 3] rfl (ihp (i_lt (show upd F 0 0 23 = nI m from hm) zc141 hlep (by omega)) _ _ (by rw [ev]; first | exact rcnt_1 (by assumption) | exact rcnt_0 (by assumption) | exact rcnt_1 (Int32.not_le.mp (by assumption)) | exact rcnt_0 (Int32.not_lt.mpr (by assumption)) | exact rcnt_0 (fun zq => zq (by assumption))) (nI_1 p))
    exact g_lv [0, 1, 2, 3] rfl (lp 0 (Nat.zero_le _) _ _ rfl rfl)
  refine g_case (v := 5) (fun zc8_5 => ?_) (fun zc8_5 => ?_)
  · --case 5
    refine g_tableIn (t := 174) C dX11_count_8 (by decide) (by decide) (by rfl) (by decide) ?_
    refine g_aload_n (n := 175) C dX11_count_174 rfl rfl ?_
    refine m_get (n := 178) 24 C dX11_count_175 rfl (by decide) rfl w_1124 rfl ?_
    refine g_iret C dX11_count_178 (by decide) (by decide) ?_
    exact k5 zc8_5
  refine g_case (v := 6) (fun zc8_6 => ?_) (fun zc8_6 => ?_)
  · --case 6
    refine g_tableIn (t := 179) C dX11_count_8 (by decide) (by decide) (by rfl) (by decide) ?_
    refine g_aload_n (n := 180) C dX11_count_179 rfl rfl ?_
    refine m_get (n := 183) 25 C dX11_count_180 rfl (by decide) rfl w_1125 rfl ?_
    refine g_iload_n (n := 184) C dX11_count_183 rfl rfl ?_
    refine g_iconst (n := 185) (v := 5) C dX11_count_184 rfl (by decide) ?_
    refine g_isub (n := 186) C dX11_count_185 rfl ?_
    refine m_iald (n := 187) 25 (1) C dX11_count_186 rfl I (by decide) rfl (by rw [zc8_6]; rfl) (by decide) (by decide) rfl ?_
    refine g_iret C dX11_count_187 (by decide) (by decide) ?_
    exact k6 zc8_6
  refine g_case (v := 7) (fun zc8_7 => ?_) (fun zc8_7 => ?_)
  · --case 7
    refine g_tableIn (t := 179) C dX11_count_8 (by decide) (by decide) (by rfl) (by decide) ?_
    refine g_aload_n (n := 180) C dX11_count_179 rfl rfl ?_
    refine m_get (n := 183) 25 C dX11_count_180 rfl (by decide) rfl w_1125 rfl ?_
    refine g_iload_n (n := 184) C dX11_count_183 rfl rfl ?_
    refine g_iconst (n := 185) (v := 5) C dX11_count_184 rfl (by decide) ?_
    refine g_isub (n := 186) C dX11_count_185 rfl ?_
    refine m_iald (n := 187) 25 (2) C dX11_count_186 rfl I (by decide) rfl (by rw [zc8_7]; rfl) (by decide) (by decide) rfl ?_
    refine g_iret C dX11_count_187 (by decide) (by decide) ?_
    exact k7 zc8_7
  refine g_case (v := 8) (fun zc8_8 => ?_) (fun zc8_8 => ?_)
  · --case 8
    refine g_tableIn (t := 179) C dX11_count_8 (by decide) (by decide) (by rfl) (by decide) ?_
    refine g_aload_n (n := 180) C dX11_count_179 rfl rfl ?_
    refine m_get (n := 183) 25 C dX11_count_180 rfl (by decide) rfl w_1125 rfl ?_
    refine g_iload_n (n := 184) C dX11_count_183 rfl rfl ?_
    refine g_iconst (n := 185) (v := 5) C dX11_count_184 rfl (by decide) ?_
    refine g_isub (n := 186) C dX11_count_185 rfl ?_
    refine m_iald (n := 187) 25 (3) C dX11_count_186 rfl I (by decide) rfl (by rw [zc8_8]; rfl) (by decide) (by decide) rfl ?_
    refine g_iret C dX11_count_187 (by decide) (by decide) ?_
    exact k8 zc8_8
  refine g_case (v := 9) (fun zc8_9 => ?_) (fun zc8_9 => ?_)
  · --case 9
    refine g_tableIn (t := 179) C dX11_count_8 (by decide) (by decide) (by rfl) (by decide) ?_
    refine g_aload_n (n := 180) C dX11_count_179 rfl rfl ?_
    refine m_get (n := 183) 25 C dX11_count_180 rfl (by decide) rfl w_1125 rfl ?_
    refine g_iload_n (n := 184) C dX11_count_183 rfl rfl ?_
    refine g_iconst (n := 185) (v := 5) C dX11_count_184 rfl (by decide) ?_
    refine g_isub (n := 186) C dX11_count_185 rfl ?_
    refine m_iald (n := 187) 25 (4) C dX11_count_186 rfl I (by decide) rfl (by rw [zc8_9]; rfl) (by decide) (by decide) rfl ?_
    refine g_iret C dX11_count_187 (by decide) (by decide) ?_
    exact k9 zc8_9
  refine g_case (v := 10) (fun zc8_10 => ?_) (fun zc8_10 => ?_)
  · --case 10
    refine g_tableIn (t := 179) C dX11_count_8 (by decide) (by decide) (by rfl) (by decide) ?_
    refine g_aload_n (n := 180) C dX11_count_179 rfl rfl ?_
    refine m_get (n := 183) 25 C dX11_count_180 rfl (by decide) rfl w_1125 rfl ?_
    refine g_iload_n (n := 184) C dX11_count_183 rfl rfl ?_
    refine g_iconst (n := 185) (v := 5) C dX11_count_184 rfl (by decide) ?_
    refine g_isub (n := 186) C dX11_count_185 rfl ?_
    refine m_iald (n := 187) 25 (5) C dX11_count_186 rfl I (by decide) rfl (by rw [zc8_10]; rfl) (by decide) (by decide) rfl ?_
    refine g_iret C dX11_count_187 (by decide) (by decide) ?_
    exact k10 zc8_10
  refine g_case (v := 11) (fun zc8_11 => ?_) (fun zc8_11 => ?_)
  · --case 11
    refine g_tableIn (t := 188) C dX11_count_8 (by decide) (by decide) (by rfl) (by decide) ?_
    refine g_iconst (n := 189) (v := 0) C dX11_count_188 rfl (by decide) ?_
    refine g_istore_n (n := 190) C dX11_count_189 rfl (by decide) ?_
    have lp : ∀ p : Nat, p ≤ n → ∀ (v t : Int32), v = rsum (fun p => rbond F A p = w - 10) (A 8) p → t = nI p → G K E 4 (QM K E (some .int) 0 0 P) 0 0 190 [(0, .ref o), (1, .int w), (2, .int v), (3, .int t)] [] (mh E o ad (upd F 0 0) A h) := by
      refine loopN (fun p => ∀ (v t : Int32), v = rsum (fun p => rbond F A p = w - 10) (A 8) p → t = nI p → G K E 4 (QM K E (some .int) 0 0 P) 0 0 190 [(0, .ref o), (1, .int w), (2, .int v), (3, .int t)] [] (mh E o ad (upd F 0 0) A h)) (n) ?_
      intro p hlep ihp v t ev et
      subst et
      refine g_iload_n (n := 191) C dX11_count_190 rfl rfl ?_
      refine g_aload_n (n := 192) C dX11_count_191 rfl rfl ?_
      refine m_get (n := 195) 9 C dX11_count_192 rfl (by decide) rfl w_1109 rfl ?_
      refine g_icmp_ge (n := 198) (t := 229) C dX11_count_195 rfl (by decide) (fun zc195 => ?_) (fun zc195 => ?_)
      · --t195
        refine g_iload_n (n := 230) C dX11_count_229 rfl rfl ?_
        refine g_iret C dX11_count_230 (by decide) (by decide) ?_
        have ep : p = n := i_eq (show upd F 0 0 9 = nI n from hn) zc195 hlep (by omega)
        subst ep
        rw [ev]
        first | exact k11 zc8_11 | exact k12 zc8_12
      · --f195
        have hj30 : p < 30 := by have := i_lt (show upd F 0 0 9 = nI n from hn) zc195 hlep (by omega); omega
        refine g_iload_n (n := 199) C dX11_count_198 rfl rfl ?_
        refine g_aload_n (n := 200) C dX11_count_199 rfl rfl ?_
        refine g_iload_n (n := 201) C dX11_count_200 rfl rfl ?_
        refine g_callV (n := 204) (As := [.int _]) C dX11_count_201 rfl mw_X11_bondOf w_1329 (g_recv C mh_o rfl) rfl rfl (room hR rfl) (ct_bondOf I hj30 ?_)
        refine g_iload_n (n := 205) C dX11_count_204 rfl rfl ?_
        refine g_bipush (n := 207) (v := 10) C dX11_count_205 rfl (by decide) ?_
        refine g_isub (n := 208) C dX11_count_207 rfl ?_
        refine g_icmp_ne (n := 211) (t := 220) C dX11_count_208 rfl (by decide) (fun zc208 => ?_) (fun zc208 => ?_)
        · --t208
          refine g_iconst (n := 221) (v := 0) C dX11_count_220 rfl (by decide) ?_
          refine g_iadd (n := 222) C dX11_count_221 rfl ?_
          refine g_istore_n (n := 223) C dX11_count_222 rfl (by decide) ?_
          refine g_iinc (n := 226) C dX11_count_223 rfl rfl rfl (by decide) ?_
          refine g_goto (t := 190) C dX11_count_226 (by decide) ?_
          exact g_lv [0, 1, 2, 3] rfl (ihp (i_lt (show upd F 0 0 9 = nI n from hn) zc195 hlep (by omega)) _ _ (by rw [ev]; first | exact rsum_1 (by assumption) | exact rsum_0 (by assumption)) (nI_1 p))
        · --f208
          refine g_aload_n (n := 212) C dX11_count_211 rfl rfl ?_
          refine m_get (n := 215) 8 C dX11_count_212 rfl (by decide) rfl w_1108 rfl ?_
          refine g_iload_n (n := 216) C dX11_count_215 rfl rfl ?_
          refine m_iald (n := 217) 8 (p) C dX11_count_216 rfl I (by decide) rfl rfl hj30 (by decide) rfl ?_
          refine g_goto (t := 221) C dX11_count_217 (by decide) ?_
          refine g_iadd (n := 222) C dX11_count_221 rfl ?_
          refine g_istore_n (n := 223) C dX11_count_222 rfl (by decide) ?_
          refine g_iinc (n := 226) C dX11_count_223 rfl rfl rfl (by decide) ?_
          refine g_goto (t := 190) C dX11_count_226 (by decide) ?_
          exact g_lv [0, 1, 2, 3] rfl (ihp (i_lt (show upd F 0 0 9 = nI n from hn) zc195 hlep (by omega)) _ _ (by rw [ev]; first | exact rsum_1 (by assumption) | exact rsum_0 (by assumption)) (nI_1 p))
    exact g_lv [0, 1, 2, 3] rfl (lp 0 (Nat.zero_le _) _ _ rfl rfl)
  refine g_case (v := 12) (fun zc8_12 => ?_) (fun zc8_12 => ?_)
  · --case 12
    refine g_tableIn (t := 188) C dX11_count_8 (by decide) (by decide) (by rfl) (by decide) ?_
    refine g_iconst (n := 189) (v := 0) C dX11_count_188 rfl (by decide) ?_
    refine g_istore_n (n := 190) C dX11_count_189 rfl (by decide) ?_
    have lp : ∀ p : Nat, p ≤ n → ∀ (v t : Int32), v = rsum (fun p => rbond F A p = w - 10) (A 8) p → t = nI p → G K E 4 (QM K E (some .int) 0 0 P) 0 0 190 [(0, .ref o), (1, .int w), (2, .int v), (3, .int t)] [] (mh E o ad (upd F 0 0) A h) := by
      refine loopN (fun p => ∀ (v t : Int32), v = rsum (fun p => rbond F A p = w - 10) (A 8) p → t = nI p → G K E 4 (QM K E (some .int) 0 0 P) 0 0 190 [(0, .ref o), (1, .int w), (2, .int v), (3, .int t)] [] (mh E o ad (upd F 0 0) A h)) (n) ?_
      intro p hlep ihp v t ev et
      subst et
      refine g_iload_n (n := 191) C dX11_count_190 rfl rfl ?_
      refine g_aload_n (n := 192) C dX11_count_191 rfl rfl ?_
      refine m_get (n := 195) 9 C dX11_count_192 rfl (by decide) rfl w_1109 rfl ?_
      refine g_icmp_ge (n := 198) (t := 229) C dX11_count_195 rfl (by decide) (fun zc195 => ?_) (fun zc195 => ?_)
      · --t195
        refine g_iload_n (n := 230) C dX11_count_229 rfl rfl ?_
        refine g_iret C dX11_count_230 (by decide) (by decide) ?_
        have ep : p = n := i_eq (show upd F 0 0 9 = nI n from hn) zc195 hlep (by omega)
        subst ep
        rw [ev]
        first | exact k11 zc8_11 | exact k12 zc8_12
      · --f195
        have hj30 : p < 30 := by have := i_lt (show upd F 0 0 9 = nI n from hn) zc195 hlep (by omega); omega
        refine g_iload_n (n := 199) C dX11_count_198 rfl rfl ?_
        refine g_aload_n (n := 200) C dX11_count_199 rfl rfl ?_
        refine g_iload_n (n := 201) C dX11_count_200 rfl rfl ?_
        refine g_callV (n := 204) (As := [.int _]) C dX11_count_201 rfl mw_X11_bondOf w_1329 (g_recv C mh_o rfl) rfl rfl (room hR rfl) (ct_bondOf I hj30 ?_)
        refine g_iload_n (n := 205) C dX11_count_204 rfl rfl ?_
        refine g_bipush (n := 207) (v := 10) C dX11_count_205 rfl (by decide) ?_
        refine g_isub (n := 208) C dX11_count_207 rfl ?_
        refine g_icmp_ne (n := 211) (t := 220) C dX11_count_208 rfl (by decide) (fun zc208 => ?_) (fun zc208 => ?_)
        · --t208
          refine g_iconst (n := 221) (v := 0) C dX11_count_220 rfl (by decide) ?_
          refine g_iadd (n := 222) C dX11_count_221 rfl ?_
          refine g_istore_n (n := 223) C dX11_count_222 rfl (by decide) ?_
          refine g_iinc (n := 226) C dX11_count_223 rfl rfl rfl (by decide) ?_
          refine g_goto (t := 190) C dX11_count_226 (by decide) ?_
          exact g_lv [0, 1, 2, 3] rfl (ihp (i_lt (show upd F 0 0 9 = nI n from hn) zc195 hlep (by omega)) _ _ (by rw [ev]; first | exact rsum_1 (by assumption) | exact rsum_0 (by assumption)) (nI_1 p))
        · --f208
          refine g_aload_n (n := 212) C dX11_count_211 rfl rfl ?_
          refine m_get (n := 215) 8 C dX11_count_212 rfl (by decide) rfl w_1108 rfl ?_
          refine g_iload_n (n := 216) C dX11_count_215 rfl rfl ?_
          refine m_iald (n := 217) 8 (p) C dX11_count_216 rfl I (by decide) rfl rfl hj30 (by decide) rfl ?_
          refine g_goto (t := 221) C dX11_count_217 (by decide) ?_
          refine g_iadd (n := 222) C dX11_count_221 rfl ?_
          refine g_istore_n (n := 223) C dX11_count_222 rfl (by decide) ?_
          refine g_iinc (n := 226) C dX11_count_223 rfl rfl rfl (by decide) ?_
          refine g_goto (t := 190) C dX11_count_226 (by decide) ?_
          exact g_lv [0, 1, 2, 3] rfl (ihp (i_lt (show upd F 0 0 9 = nI n from hn) zc195 hlep (by omega)) _ _ (by rw [ev]; first | exact rsum_1 (by assumption) | exact rsum_0 (by assumption)) (nI_1 p))
    exact g_lv [0, 1, 2, 3] rfl (lp 0 (Nat.zero_le _) _ _ rfl rfl)
  refine g_case (v := 13) (fun zc8_13 => ?_) (fun zc8_13 => ?_)
  · --case 13
    refine g_tableIn (t := 231) C dX11_count_8 (by decide) (by decide) (by rfl) (by decide) ?_
    refine g_iconst (n := 232) (v := 0) C dX11_count_231 rfl (by decide) ?_
    refine g_istore_n (n := 233) C dX11_count_232 rfl (by decide) ?_
    have lp : ∀ p : Nat, p ≤ 96 → ∀ (v t : Int32), v = rcnt (fun s => rlow (F 2) A (nI s) n = rhigh (F 2) A (nI s) n) p → t = nI p → G K E 4 (QM K E (some .int) 0 0 P) 0 0 233 [(0, .ref o), (1, .int w), (2, .int v), (3, .int t)] [] (mh E o ad (upd F 0 0) A h) := by
      refine loopN (fun p => ∀ (v t : Int32), v = rcnt (fun s => rlow (F 2) A (nI s) n = rhigh (F 2) A (nI s) n) p → t = nI p → G K E 4 (QM K E (some .int) 0 0 P) 0 0 233 [(0, .ref o), (1, .int w), (2, .int v), (3, .int t)] [] (mh E o ad (upd F 0 0) A h)) (96) ?_
      intro p hlep ihp v t ev et
      subst et
      refine g_iload_n (n := 234) C dX11_count_233 rfl rfl ?_
      refine g_bipush (n := 236) (v := 96) C dX11_count_234 rfl (by decide) ?_
      refine g_icmp_ge (n := 239) (t := 293) C dX11_count_236 rfl (by decide) (fun zc236 => ?_) (fun zc236 => ?_)
      · --t236
        refine g_iload_n (n := 294) C dX11_count_293 rfl rfl ?_
        refine g_iret C dX11_count_294 (by decide) (by decide) ?_
        have ep : p = 96 := i_eq (n := 96) rfl zc236 hlep (by omega)
        subst ep
        rw [ev]
        exact k13 zc8_13
      · --f236
        refine g_iload_n (n := 240) C dX11_count_239 rfl rfl ?_
        refine g_iload_n (n := 241) C dX11_count_240 rfl rfl ?_
        refine g_bipush (n := 243) (v := 13) C dX11_count_241 rfl (by decide) ?_
        refine g_icmp_ne (n := 246) (t := 267) C dX11_count_243 rfl (by decide) (fun zc243 => ?_) (fun zc243 => ?_)
        · exact absurd zc8_13 zc243
        refine g_aload_n (n := 247) C dX11_count_246 rfl rfl ?_
        refine g_iload_n (n := 248) C dX11_count_247 rfl rfl ?_
        refine g_callV (n := 251) (As := [.int _]) C dX11_count_248 rfl mw_X11_low w_1313 (g_recv C mh_o rfl) rfl rfl (room hR rfl) (ct_low I hn hn3 ?_)
        refine g_aload_n (n := 252) C dX11_count_251 rfl rfl ?_
        refine g_iload_n (n := 253) C dX11_count_252 rfl rfl ?_
        refine g_callV (n := 256) (As := [.int _]) C dX11_count_253 rfl mw_X11_high w_1317 (g_recv C mh_o rfl) rfl rfl (room hR rfl) (ct_high I hn hn3 ?_)
        refine g_icmp_ne (n := 259) (t := 263) C dX11_count_256 rfl (by decide) (fun zc256 => ?_) (fun zc256 => ?_)
        · --t256
          refine g_iconst (n := 264) (v := 0) C dX11_count_263 rfl (by decide) ?_
          refine g_goto (t := 285) C dX11_count_264 (by decide) ?_
          refine g_iadd (n := 286) C dX11_count_285 rfl ?_
          refine g_istore_n (n := 287) C dX11_count_286 rfl (by decide) ?_
          refine g_iinc (n := 290) C dX11_count_287 rfl rfl rfl (by decide) ?_
          refine g_goto (t := 233) C dX11_count_290 (by decide) ?_
          exact g_lv [0, 1, 2, 3] rfl (ihp (i_lt (n := 96) rfl zc236 hlep (by omega)) _ _ (by rw [ev]; first | exact rcnt_1 (by assumption) | exact rcnt_0 (by assumption) | exact rcnt_1 (Int32.not_le.mp (by assumption)) | exact rcnt_0 (Int32.not_lt.mpr (by assumption)) | exact rcnt_0 (fun zq => zq (by assumption))) (nI_1 p))
        · --f256
          refine g_iconst (n := 260) (v := 1) C dX11_count_259 rfl (by decide) ?_
          refine g_goto (t := 285) C dX11_count_260 (by decide) ?_
          refine g_iadd (n := 286) C dX11_count_285 rfl ?_
          refine g_istore_n (n := 287) C dX11_count_286 rfl (by decide) ?_
          refine g_iinc (n := 290) C dX11_count_287 rfl rfl rfl (by decide) ?_
          refine g_goto (t := 233) C dX11_count_290 (by decide) ?_
          exact g_lv [0, 1, 2, 3] rfl (ihp (i_lt (n := 96) rfl zc236 hlep (by omega)) _ _ (by rw [ev]; first | exact rcnt_1 (by assumption) | exact rcnt_0 (by assumption) | exact rcnt_1 (Int32.not_le.mp (by assumption)) | exact rcnt_0 (Int32.not_lt.mpr (by assumption)) | exact rcnt_0 (fun zq => zq (by assumption))) (nI_1 p))
    exact g_lv [0, 1, 2, 3] rfl (lp 0 (Nat.zero_le _) _ _ rfl rfl)
  refine g_case (v := 14) (fun zc8_14 => ?_) (fun zc8_14 => ?_)
  · --case 14
    refine g_tableIn (t := 231) C dX11_count_8 (by decide) (by decide) (by rfl) (by decide) ?_
    refine g_iconst (n := 232) (v := 0) C dX11_count_231 rfl (by decide) ?_
    refine g_istore_n (n := 233) C dX11_count_232 rfl (by decide) ?_
    have lp : ∀ p : Nat, p ≤ 96 → ∀ (v t : Int32), v = rcnt (fun s => rhigh (F 2) A (nI s) n < rlow (F 2) A (nI s) n) p → t = nI p → G K E 4 (QM K E (some .int) 0 0 P) 0 0 233 [(0, .ref o), (1, .int w), (2, .int v), (3, .int t)] [] (mh E o ad (upd F 0 0) A h) := by
      refine loopN (fun p => ∀ (v t : Int32), v = rcnt (fun s => rhigh (F 2) A (nI s) n < rlow (F 2) A (nI s) n) p → t = nI p → G K E 4 (QM K E (some .int) 0 0 P) 0 0 233 [(0, .ref o), (1, .int w), (2, .int v), (3, .int t)] [] (mh E o ad (upd F 0 0) A h)) (96) ?_
      intro p hlep ihp v t ev et
      subst et
      refine g_iload_n (n := 234) C dX11_count_233 rfl rfl ?_
      refine g_bipush (n := 236) (v := 96) C dX11_count_234 rfl (by decide) ?_
      refine g_icmp_ge (n := 239) (t := 293) C dX11_count_236 rfl (by decide) (fun zc236 => ?_) (fun zc236 => ?_)
      · --t236
        refine g_iload_n (n := 294) C dX11_count_293 rfl rfl ?_
        refine g_iret C dX11_count_294 (by decide) (by decide) ?_
        have ep : p = 96 := i_eq (n := 96) rfl zc236 hlep (by omega)
        subst ep
        rw [ev]
        exact k14 zc8_14
      · --f236
        refine g_iload_n (n := 240) C dX11_count_239 rfl rfl ?_
        refine g_iload_n (n := 241) C dX11_count_240 rfl rfl ?_
        refine g_bipush (n := 243) (v := 13) C dX11_count_241 rfl (by decide) ?_
        refine g_icmp_ne (n := 246) (t := 267) C dX11_count_243 rfl (by decide) (fun zc243 => ?_) (fun zc243 => ?_)
        rotate_left
        · exact absurd zc243 zc8_13
        refine g_aload_n (n := 268) C dX11_count_267 rfl rfl ?_
        refine g_iload_n (n := 269) C dX11_count_268 rfl rfl ?_
        refine g_callV (n := 272) (As := [.int _]) C dX11_count_269 rfl mw_X11_low w_1313 (g_recv C mh_o rfl) rfl rfl (room hR rfl) (ct_low I hn hn3 ?_)
        refine g_aload_n (n := 273) C dX11_count_272 rfl rfl ?_
        refine g_iload_n (n := 274) C dX11_count_273 rfl rfl ?_
        refine g_callV (n := 277) (As := [.int _]) C dX11_count_274 rfl mw_X11_high w_1317 (g_recv C mh_o rfl) rfl rfl (room hR rfl) (ct_high I hn hn3 ?_)
        refine g_icmp_le (n := 280) (t := 284) C dX11_count_277 rfl (by decide) (fun zc277 => ?_) (fun zc277 => ?_)
        · --t277
          refine g_iconst (n := 285) (v := 0) C dX11_count_284 rfl (by decide) ?_
          refine g_iadd (n := 286) C dX11_count_285 rfl ?_
          refine g_istore_n (n := 287) C dX11_count_286 rfl (by decide) ?_
          refine g_iinc (n := 290) C dX11_count_287 rfl rfl rfl (by decide) ?_
          refine g_goto (t := 233) C dX11_count_290 (by decide) ?_
          exact g_lv [0, 1, 2, 3] rfl (ihp (i_lt (n := 96) rfl zc236 hlep (by omega)) _ _ (by rw [ev]; first | exact rcnt_1 (by assumption) | exact rcnt_0 (by assumption) | exact rcnt_1 (Int32.not_le.mp (by assumption)) | exact rcnt_0 (Int32.not_lt.mpr (by assumption)) | exact rcnt_0 (fun zq => zq (by assumption))) (nI_1 p))
        · --f277
          refine g_iconst (n := 281) (v := 1) C dX11_count_280 rfl (by decide) ?_
          refine g_goto (t := 285) C dX11_count_281 (by decide) ?_
          refine g_iadd (n := 286) C dX11_count_285 rfl ?_
          refine g_istore_n (n := 287) C dX11_count_286 rfl (by decide) ?_
          refine g_iinc (n := 290) C dX11_count_287 rfl rfl rfl (by decide) ?_
          refine g_goto (t := 233) C dX11_count_290 (by decide) ?_
          exact g_lv [0, 1, 2, 3] rfl (ihp (i_lt (n := 96) rfl zc236 hlep (by omega)) _ _ (by rw [ev]; first | exact rcnt_1 (by assumption) | exact rcnt_0 (by assumption) | exact rcnt_1 (Int32.not_le.mp (by assumption)) | exact rcnt_0 (Int32.not_lt.mpr (by assumption)) | exact rcnt_0 (fun zq => zq (by assumption))) (nI_1 p))
    exact g_lv [0, 1, 2, 3] rfl (lp 0 (Nat.zero_le _) _ _ rfl rfl)
  refine g_tableOut (t := 295) C dX11_count_8 (by first | exact g_tout15 zc8_0 zc8_1 zc8_2 zc8_3 zc8_4 zc8_5 zc8_6 zc8_7 zc8_8 zc8_9 zc8_10 zc8_11 zc8_12 zc8_13 zc8_14) (by decide) ?_
  refine g_iconst (n := 296) (v := (-1)) C dX11_count_295 rfl (by decide) ?_
  refine g_iret C dX11_count_296 (by decide) (by decide) ?_
  exact k15 zc8_0 zc8_1 zc8_2 zc8_3 zc8_4 zc8_5 zc8_6 zc8_7 zc8_8 zc8_9 zc8_10 zc8_11 zc8_12 zc8_13 zc8_14
end
section
/-! the reference's tape and its reading -/
def pF (F : Nat → Int32) (q b : Nat) : Nat → Int32 := upd (upd F 16 (nI q)) 18 (nI b)
theorem pF_up (F : Nat → Int32) (q b q' : Nat) : upd (pF F q b) 16 (nI q') = pF F q' b := by
  funext k
  unfold pF upd
  by_cases h : k = 18 <;> by_cases h2 : k = 16 <;> simp [h, h2]
theorem pF_inc (F : Nat → Int32) (q b : Nat) : upd (pF F q b) 16 (pF F q b 16 + 1) = pF F (q + 1) b := by
  rw [show pF F q b 16 + 1 = nI (q + 1) from nI_1 q, pF_up]
theorem pF_bg (F : Nat → Int32) (q b : Nat) : upd (pF F q b) 18 (pF F q b 16) = pF F q q := by
  funext k
  unfold pF upd
  by_cases h : k = 18 <;> by_cases h2 : k = 16 <;> simp [h, h2]
theorem pF_ne (F : Nat → Int32) (q b : Nat) {k : Nat} (h : k ≠ 16) (h2 : k ≠ 18) : pF F q b k = F k := by
  unfold pF upd
  rw [if_neg h2, if_neg h]
/-- before place e there stands at q a byte of lo to hi -/
abbrev atc (T : Nat → Int32) (e q : Nat) (lo hi : Int32) : Prop := q < e ∧ lo ≤ T q ∧ T q ≤ hi
def rscF (T : Nat → Int32) (lo hi : Int32) (e : Nat) : Nat → Nat → Nat
  | 0, p => p
  | f + 1, p => if atc T e p lo hi then rscF T lo hi e f (p + 1) else p
/-- the first place from p on without a byte of lo to hi -/
def rsc (T : Nat → Int32) (lo hi : Int32) (e p : Nat) : Nat := rscF T lo hi e (e - p) p
theorem rsc_s {T : Nat → Int32} {lo hi : Int32} {e p : Nat} (h : atc T e p lo hi) : rsc T lo hi e p = rsc T lo hi e (p + 1) := by
  unfold rsc
  rw [show e - p = (e - (p + 1)) + 1 from by have := h.1; omega]
  show (if _ then _ else _) = _
  rw [if_pos h]
theorem rsc_0 {T : Nat → Int32} {lo hi : Int32} {e p : Nat} (h : ¬ atc T e p lo hi) : rsc T lo hi e p = p := by
  unfold rsc
  cases e - p with
  | zero => rfl
  | succ f => show (if _ then _ else _) = _; rw [if_neg h]
theorem rscF_ge (T : Nat → Int32) (lo hi : Int32) (e : Nat) : ∀ f p, p ≤ rscF T lo hi e f p
  | 0, p => Nat.le_refl p
  | f + 1, p => by
    unfold rscF
    by_cases h : atc T e p lo hi
    · rw [if_pos h]
      exact Nat.le_trans (Nat.le_succ p) (rscF_ge T lo hi e f (p + 1))
    · rw [if_neg h]
      exact Nat.le_refl p
theorem rsc_ge (T : Nat → Int32) (lo hi : Int32) (e p : Nat) : p ≤ rsc T lo hi e p := rscF_ge T lo hi e _ p
theorem rscF_le (T : Nat → Int32) (lo hi : Int32) (e : Nat) : ∀ f p, p ≤ e → rscF T lo hi e f p ≤ e
  | 0, p, hp => hp
  | f + 1, p, hp => by
    unfold rscF
    by_cases h : atc T e p lo hi
    · rw [if_pos h]
      exact rscF_le T lo hi e f (p + 1) h.1
    · rw [if_neg h]
      exact hp
theorem rsc_le {T : Nat → Int32} {lo hi : Int32} {e p : Nat} (hp : p ≤ e) : rsc T lo hi e p ≤ e := rscF_le T lo hi e _ p hp
abbrev rbl (A : Nat → Nat → Int32) (e q : Nat) : Nat := rsc (A 14) 32 32 e q
abbrev rlt (A : Nat → Nat → Int32) (e q : Nat) : Nat := rsc (A 14) 97 122 e q
abbrev rdg (A : Nat → Nat → Int32) (e q : Nat) : Nat := rsc (A 14) 48 57 e q
/-- a number of n digits from b on, those past the sixth left out -/
def rnv (T : Nat → Int32) (b : Nat) : Nat → Int32
  | 0 => 0
  | k + 1 => if k < 6 then 10 * rnv T b k + T (b + k) - 48 else rnv T b k
theorem rnv_s {T : Nat → Int32} {b k : Nat} (h : k < 6) : 10 * rnv T b k + T (b + k) - 48 = rnv T b (k + 1) := by
  conv => rhs; unfold rnv
  rw [if_pos h]
theorem rnv_0 {T : Nat → Int32} {b k : Nat} (h : ¬ k < 6) : rnv T b k = rnv T b (k + 1) := by
  conv => rhs; unfold rnv
  rw [if_neg h]
/-- the digits b to r are a number from lo to hi -/
def rnok (T : Nat → Int32) (b r : Nat) (lo hi : Int32) : Prop := b < r ∧ r - b < 7 ∧ lo ≤ rnv T b (r - b) ∧ rnv T b (r - b) ≤ hi
theorem nI_big {a n : Nat} {k : Nat} (c : nI k ≤ nI a - nI n) (h : n ≤ a) (ha : a < 2147483648) (hk : k < 2147483648) : k ≤ a - n := by
  rw [pk_sub h] at c
  exact (nI_leI (by omega) (by omega)).mp c
theorem nI_sml {a n : Nat} {k : Nat} (c : ¬ nI k ≤ nI a - nI n) (h : n ≤ a) (ha : a < 2147483648) (hk : k < 2147483648) : a - n < k := by
  rw [pk_sub h] at c
  exact Nat.lt_of_not_le (fun q => c (nI_le q (by omega)))
theorem dX11_isAt_0 : decode cX11_isAt 0 = .ok (.aload_n 0, 1) := by decide +kernel
theorem dX11_isAt_1 : decode cX11_isAt 1 = .ok (.getfield 92, 3) := by decide +kernel
theorem dX11_isAt_4 : decode cX11_isAt 4 = .ok (.aload_n 0, 1) := by decide +kernel
theorem dX11_isAt_5 : decode cX11_isAt 5 = .ok (.getfield 95, 3) := by decide +kernel
theorem dX11_isAt_8 : decode cX11_isAt 8 = .ok (.if_icmp .ge 33, 3) := by decide +kernel
theorem dX11_isAt_11 : decode cX11_isAt 11 = .ok (.aload_n 0, 1) := by decide +kernel
theorem dX11_isAt_12 : decode cX11_isAt 12 = .ok (.getfield 41, 3) := by decide +kernel
theorem dX11_isAt_15 : decode cX11_isAt 15 = .ok (.aload_n 0, 1) := by decide +kernel
theorem dX11_isAt_16 : decode cX11_isAt 16 = .ok (.getfield 92, 3) := by decide +kernel
theorem dX11_isAt_19 : decode cX11_isAt 19 = .ok (.baload, 1) := by decide +kernel
theorem dX11_isAt_20 : decode cX11_isAt 20 = .ok (.iload_n 1, 1) := by decide +kernel
theorem dX11_isAt_21 : decode cX11_isAt 21 = .ok (.if_icmp .lt 20, 3) := by decide +kernel
theorem dX11_isAt_24 : decode cX11_isAt 24 = .ok (.aload_n 0, 1) := by decide +kernel
theorem dX11_isAt_25 : decode cX11_isAt 25 = .ok (.getfield 41, 3) := by decide +kernel
theorem dX11_isAt_28 : decode cX11_isAt 28 = .ok (.aload_n 0, 1) := by decide +kernel
theorem dX11_isAt_29 : decode cX11_isAt 29 = .ok (.getfield 92, 3) := by decide +kernel
theorem dX11_isAt_32 : decode cX11_isAt 32 = .ok (.baload, 1) := by decide +kernel
theorem dX11_isAt_33 : decode cX11_isAt 33 = .ok (.iload_n 2, 1) := by decide +kernel
theorem dX11_isAt_34 : decode cX11_isAt 34 = .ok (.if_icmp .gt 7, 3) := by decide +kernel
theorem dX11_isAt_37 : decode cX11_isAt 37 = .ok (.iconst 1, 1) := by decide +kernel
theorem dX11_isAt_38 : decode cX11_isAt 38 = .ok (.goto 4, 3) := by decide +kernel
theorem dX11_isAt_41 : decode cX11_isAt 41 = .ok (.iconst 0, 1) := by decide +kernel
theorem dX11_isAt_42 : decode cX11_isAt 42 = .ok (.ireturn, 1) := by decide +kernel
set_option maxHeartbeats 400000 in
set_option maxRecDepth 20000 in
theorem ct_isAt {l : Launch} {E : Ev} {P : Value → AH → Prop} {o : Nat} {ad : Nat → Nat} {F : Nat → Int32} {A : Nat → Nat → Int32} {h : AH} (I : mI o ad) {q b e : Nat} (he : F 17 = nI e) (hqe : q ≤ e) (he4 : e ≤ 400) {lo hi : Int32} (k1 : atc (A 14) e q lo hi → P (.int 1) (mh E o ad (pF F (q) (b)) A h)) (k0 : ¬ atc (A 14) e q lo hi → P (.int 0) (mh E o ad (pF F (q) (b)) A h)) : Mt l E yX11_isAt cX11_isAt 3 (some .boolean) 0 0 0 0 [.ref o, .int lo, .int hi] (mh E o ad (pF F (q) (b)) A h) P := by
  refine Mt.of (by decide) (Nat.le_of_ble_eq_true rfl) ?_
  intro K hK hR C
  refine g_aload_n (n := 1) C dX11_isAt_0 rfl rfl ?_
  refine m_get (n := 4) 16 C dX11_isAt_1 rfl (by decide) rfl w_1116 rfl ?_
  refine g_aload_n (n := 5) C dX11_isAt_4 rfl rfl ?_
  refine m_get (n := 8) 17 C dX11_isAt_5 rfl (by decide) rfl w_1117 rfl ?_
  refine g_icmp_ge (n := 11) (t := 41) C dX11_isAt_8 rfl (by decide) (fun zc8 => ?_) (fun zc8 => ?_)
  · --t8
    refine g_iconst (n := 42) (v := 0) C dX11_isAt_41 rfl (by decide) ?_
    refine g_zret C dX11_isAt_42 (by decide) (by decide) (by rfl) ?_
    first | exact k0 (fun zq => Int32.not_le.mpr zc21 zq.2.1) | exact k0 (fun zq => Int32.not_le.mpr zc34 zq.2.2) | exact k0 (fun zq => by have := i_eq (x := F 17) he zc8 hqe (by omega); have := zq.1; omega)
  · --f8
    refine g_aload_n (n := 12) C dX11_isAt_11 rfl rfl ?_
    refine m_get (n := 15) 14 C dX11_isAt_12 rfl (by decide) rfl w_1114 rfl ?_
    refine g_aload_n (n := 16) C dX11_isAt_15 rfl rfl ?_
    refine m_get (n := 19) 16 C dX11_isAt_16 rfl (by decide) rfl w_1116 rfl ?_
    refine m_bald (n := 20) 14 (q) C dX11_isAt_19 rfl I (by decide) rfl rfl (by have := (i_lt (x := F 17) he zc8 hqe (by omega)); omega) (by decide) rfl ?_
    refine g_iload_n (n := 21) C dX11_isAt_20 rfl rfl ?_
    refine g_icmp_lt (n := 24) (t := 41) C dX11_isAt_21 rfl (by decide) (fun zc21 => ?_) (fun zc21 => ?_)
    · --t21
      refine g_iconst (n := 42) (v := 0) C dX11_isAt_41 rfl (by decide) ?_
      refine g_zret C dX11_isAt_42 (by decide) (by decide) (by rfl) ?_
      first | exact k0 (fun zq => Int32.not_le.mpr zc21 zq.2.1) | exact k0 (fun zq => Int32.not_le.mpr zc34 zq.2.2) | exact k0 (fun zq => by have := i_eq (x := F 17) he zc8 hqe (by omega); have := zq.1; omega)
    · --f21
      refine g_aload_n (n := 25) C dX11_isAt_24 rfl rfl ?_
      refine m_get (n := 28) 14 C dX11_isAt_25 rfl (by decide) rfl w_1114 rfl ?_
      refine g_aload_n (n := 29) C dX11_isAt_28 rfl rfl ?_
      refine m_get (n := 32) 16 C dX11_isAt_29 rfl (by decide) rfl w_1116 rfl ?_
      refine m_bald (n := 33) 14 (q) C dX11_isAt_32 rfl I (by decide) rfl rfl (by have := (i_lt (x := F 17) he zc8 hqe (by omega)); omega) (by decide) rfl ?_
      refine g_iload_n (n := 34) C dX11_isAt_33 rfl rfl ?_
      refine g_icmp_gt (n := 37) (t := 41) C dX11_isAt_34 rfl (by decide) (fun zc34 => ?_) (fun zc34 => ?_)
      · --t34
        refine g_iconst (n := 42) (v := 0) C dX11_isAt_41 rfl (by decide) ?_
        refine g_zret C dX11_isAt_42 (by decide) (by decide) (by rfl) ?_
        first | exact k0 (fun zq => Int32.not_le.mpr zc21 zq.2.1) | exact k0 (fun zq => Int32.not_le.mpr zc34 zq.2.2) | exact k0 (fun zq => by have := i_eq (x := F 17) he zc8 hqe (by omega); have := zq.1; omega)
      · --f34
        refine g_iconst (n := 38) (v := 1) C dX11_isAt_37 rfl (by decide) ?_
        refine g_goto (t := 42) C dX11_isAt_38 (by decide) ?_
        refine g_zret C dX11_isAt_42 (by decide) (by decide) (by rfl) ?_
        exact k1 ⟨(i_lt (x := F 17) he zc8 hqe (by omega)), Int32.not_lt.mp zc21, Int32.not_lt.mp zc34⟩
theorem dX11_blanks_0 : decode cX11_blanks 0 = .ok (.aload_n 0, 1) := by decide +kernel
theorem dX11_blanks_1 : decode cX11_blanks 1 = .ok (.bipush 32, 2) := by decide +kernel
theorem dX11_blanks_3 : decode cX11_blanks 3 = .ok (.bipush 32, 2) := by decide +kernel
theorem dX11_blanks_5 : decode cX11_blanks 5 = .ok (.invokevirtual 98, 3) := by decide +kernel
theorem dX11_blanks_8 : decode cX11_blanks 8 = .ok (.ifCond .eq 16, 3) := by decide +kernel
theorem dX11_blanks_11 : decode cX11_blanks 11 = .ok (.aload_n 0, 1) := by decide +kernel
theorem dX11_blanks_12 : decode cX11_blanks 12 = .ok (.dup, 1) := by decide +kernel
theorem dX11_blanks_13 : decode cX11_blanks 13 = .ok (.getfield 92, 3) := by decide +kernel
theorem dX11_blanks_16 : decode cX11_blanks 16 = .ok (.iconst 1, 1) := by decide +kernel
theorem dX11_blanks_17 : decode cX11_blanks 17 = .ok (.iadd, 1) := by decide +kernel
theorem dX11_blanks_18 : decode cX11_blanks 18 = .ok (.putfield 92, 3) := by decide +kernel
theorem dX11_blanks_21 : decode cX11_blanks 21 = .ok (.goto (-21), 3) := by decide +kernel
theorem dX11_blanks_24 : decode cX11_blanks 24 = .ok (.aload_n 0, 1) := by decide +kernel
theorem dX11_blanks_25 : decode cX11_blanks 25 = .ok (.aload_n 0, 1) := by decide +kernel
theorem dX11_blanks_26 : decode cX11_blanks 26 = .ok (.getfield 92, 3) := by decide +kernel
theorem dX11_blanks_29 : decode cX11_blanks 29 = .ok (.putfield 102, 3) := by decide +kernel
theorem dX11_blanks_32 : decode cX11_blanks 32 = .ok (.return_, 1) := by decide +kernel
set_option maxHeartbeats 400000 in
set_option maxRecDepth 20000 in
theorem ct_blanks {l : Launch} {E : Ev} {P : Value → AH → Prop} {o : Nat} {ad : Nat → Nat} {F : Nat → Int32} {A : Nat → Nat → Int32} {h : AH} (I : mI o ad) {q b e : Nat} (he : F 17 = nI e) (hqe : q ≤ e) (he4 : e ≤ 400) (hp : P .null (mh E o ad (pF F (rbl A e q) (rbl A e q)) A h)) : Mt l E yX11_blanks cX11_blanks 1 none 2 40 0 0 [.ref o] (mh E o ad (pF F (q) (b)) A h) P := by
  refine Mt.of (by decide) (Nat.le_of_ble_eq_true rfl) ?_
  intro K hK hR C
  have lp : ∀ p : Nat, p ≤ e → ∀ (_ : True), rsc (A 14) 32 32 e p = rsc (A 14) 32 32 e (q) → G K E 1 (QM K E none 0 0 P) 0 0 0 [(0, .ref o)] [] (mh E o ad (pF F (p) (b)) A h) := by
    refine loopN (fun p => ∀ (_ : True), rsc (A 14) 32 32 e p = rsc (A 14) 32 32 e (q) → G K E 1 (QM K E none 0 0 P) 0 0 0 [(0, .ref o)] [] (mh E o ad (pF F (p) (b)) A h)) (e) ?_
    intro p hlep ihp _ er
    refine g_aload_n (n := 1) C dX11_blanks_0 rfl rfl ?_
    refine g_bipush (n := 3) (v := 32) C dX11_blanks_1 rfl (by decide) ?_
    refine g_bipush (n := 5) (v := 32) C dX11_blanks_3 rfl (by decide) ?_
    refine g_callV (n := 8) (As := [.int _, .int _]) C dX11_blanks_5 rfl mw_X11_isAt w_1226 (g_recv C mh_o rfl) rfl rfl (room hR rfl) (ct_isAt I (q := p) he hlep he4 (fun za5 => ?_) (fun zb5 => ?_))
    · --k5.0
      refine g_if_eq (n := 11) (t := 24) C dX11_blanks_8 rfl (by decide) (fun zc8 => ?_) (fun zc8 => ?_)
      · exact absurd zc8 (by decide)
      refine g_aload_n (n := 12) C dX11_blanks_11 rfl rfl ?_
      refine g_dup (n := 13) C dX11_blanks_12 rfl rfl ?_
      refine m_get (n := 16) 16 C dX11_blanks_13 rfl (by decide) rfl w_1116 rfl ?_
      refine g_iconst (n := 17) (v := 1) C dX11_blanks_16 rfl (by decide) ?_
      refine g_iadd (n := 18) C dX11_blanks_17 rfl ?_
      refine m_put (n := 21) 16 C dX11_blanks_18 rfl (by decide) w_1116 rfl rfl rfl mfs_16 ?_
      rw [pF_inc]
      refine g_goto (t := 0) C dX11_blanks_21 (by decide) ?_
      exact g_lv [0] rfl (ihp za5.1 .intro ((rsc_s za5).symm.trans er))
    · --k5.1
      refine g_if_eq (n := 11) (t := 24) C dX11_blanks_8 rfl (by decide) (fun zc8 => ?_) (fun zc8 => ?_)
      rotate_left
      · exact absurd zc8 (by decide)
      refine g_aload_n (n := 25) C dX11_blanks_24 rfl rfl ?_
      refine g_aload_n (n := 26) C dX11_blanks_25 rfl rfl ?_
      refine m_get (n := 29) 16 C dX11_blanks_26 rfl (by decide) rfl w_1116 rfl ?_
      refine m_put (n := 32) 18 C dX11_blanks_29 rfl (by decide) w_1118 rfl rfl rfl mfs_18 ?_
      rw [pF_bg]
      refine g_vret C dX11_blanks_32 (by decide) (by decide) ?_
      have ep : p = rbl A e q := (rsc_0 zb5).symm.trans er
      rw [← ep] at hp
      exact hp
  exact g_lv [0] rfl (lp _ (hqe) .intro rfl)
theorem dX11_word_0 : decode cX11_word 0 = .ok (.aload_n 0, 1) := by decide +kernel
theorem dX11_word_1 : decode cX11_word 1 = .ok (.invokevirtual 105, 3) := by decide +kernel
theorem dX11_word_4 : decode cX11_word 4 = .ok (.aload_n 0, 1) := by decide +kernel
theorem dX11_word_5 : decode cX11_word 5 = .ok (.bipush 97, 2) := by decide +kernel
theorem dX11_word_7 : decode cX11_word 7 = .ok (.bipush 122, 2) := by decide +kernel
theorem dX11_word_9 : decode cX11_word 9 = .ok (.invokevirtual 98, 3) := by decide +kernel
theorem dX11_word_12 : decode cX11_word 12 = .ok (.ifCond .eq 16, 3) := by decide +kernel
theorem dX11_word_15 : decode cX11_word 15 = .ok (.aload_n 0, 1) := by decide +kernel
theorem dX11_word_16 : decode cX11_word 16 = .ok (.dup, 1) := by decide +kernel
theorem dX11_word_17 : decode cX11_word 17 = .ok (.getfield 92, 3) := by decide +kernel
theorem dX11_word_20 : decode cX11_word 20 = .ok (.iconst 1, 1) := by decide +kernel
theorem dX11_word_21 : decode cX11_word 21 = .ok (.iadd, 1) := by decide +kernel
theorem dX11_word_22 : decode cX11_word 22 = .ok (.putfield 92, 3) := by decide +kernel
theorem dX11_word_25 : decode cX11_word 25 = .ok (.goto (-21), 3) := by decide +kernel
theorem dX11_word_28 : decode cX11_word 28 = .ok (.return_, 1) := by decide +kernel
set_option maxHeartbeats 400000 in
set_option maxRecDepth 20000 in
theorem ct_word {l : Launch} {E : Ev} {P : Value → AH → Prop} {o : Nat} {ad : Nat → Nat} {F : Nat → Int32} {A : Nat → Nat → Int32} {h : AH} (I : mI o ad) {q b e : Nat} (he : F 17 = nI e) (hqe : q ≤ e) (he4 : e ≤ 400) (hp : P .null (mh E o ad (pF F (rlt A e (rbl A e q)) (rbl A e q)) A h)) : Mt l E yX11_word cX11_word 1 none 4 80 0 0 [.ref o] (mh E o ad (pF F (q) (b)) A h) P := by
  refine Mt.of (by decide) (Nat.le_of_ble_eq_true rfl) ?_
  intro K hK hR C
  refine g_aload_n (n := 1) C dX11_word_0 rfl rfl ?_
  refine g_callV (n := 4) (As := []) C dX11_word_1 rfl mw_X11_blanks w_1222 (g_recv C mh_o rfl) rfl rfl (room hR rfl) (ct_blanks I he hqe he4 ?_)
  have lp : ∀ p : Nat, p ≤ e → ∀ (_ : True), rsc (A 14) 97 122 e p = rsc (A 14) 97 122 e (rbl A e q) → G K E 1 (QM K E none 0 0 P) 0 0 4 [(0, .ref o)] [] (mh E o ad (pF F (p) (rbl A e q)) A h) := by
    refine loopN (fun p => ∀ (_ : True), rsc (A 14) 97 122 e p = rsc (A 14) 97 122 e (rbl A e q) → G K E 1 (QM K E none 0 0 P) 0 0 4 [(0, .ref o)] [] (mh E o ad (pF F (p) (rbl A e q)) A h)) (e) ?_
    intro p hlep ihp _ er
    refine g_aload_n (n := 5) C dX11_word_4 rfl rfl ?_
    refine g_bipush (n := 7) (v := 97) C dX11_word_5 rfl (by decide) ?_
    refine g_bipush (n := 9) (v := 122) C dX11_word_7 rfl (by decide) ?_
    refine g_callV (n := 12) (As := [.int _, .int _]) C dX11_word_9 rfl mw_X11_isAt w_1226 (g_recv C mh_o rfl) rfl rfl (room hR rfl) (ct_isAt I (q := p) he hlep he4 (fun za9 => ?_) (fun zb9 => ?_))
    · --k9.0
      refine g_if_eq (n := 15) (t := 28) C dX11_word_12 rfl (by decide) (fun zc12 => ?_) (fun zc12 => ?_)
      · exact absurd zc12 (by decide)
      refine g_aload_n (n := 16) C dX11_word_15 rfl rfl ?_
      refine g_dup (n := 17) C dX11_word_16 rfl rfl ?_
      refine m_get (n := 20) 16 C dX11_word_17 rfl (by decide) rfl w_1116 rfl ?_
      refine g_iconst (n := 21) (v := 1) C dX11_word_20 rfl (by decide) ?_
      refine g_iadd (n := 22) C dX11_word_21 rfl ?_
      refine m_put (n := 25) 16 C dX11_word_22 rfl (by decide) w_1116 rfl rfl rfl mfs_16 ?_
      rw [pF_inc]
      refine g_goto (t := 4) C dX11_word_25 (by decide) ?_
      exact g_lv [0] rfl (ihp za9.1 .intro ((rsc_s za9).symm.trans er))
    · --k9.1
      refine g_if_eq (n := 15) (t := 28) C dX11_word_12 rfl (by decide) (fun zc12 => ?_) (fun zc12 => ?_)
      rotate_left
      · exact absurd zc12 (by decide)
      refine g_vret C dX11_word_28 (by decide) (by decide) ?_
      have ep : p = rlt A e (rbl A e q) := (rsc_0 zb9).symm.trans er
      rw [← ep] at hp
      exact hp
  exact g_lv [0] rfl (lp _ ((rsc_le hqe)) .intro rfl)
theorem dX11_number_0 : decode cX11_number 0 = .ok (.aload_n 0, 1) := by decide +kernel
theorem dX11_number_1 : decode cX11_number 1 = .ok (.invokevirtual 105, 3) := by decide +kernel
theorem dX11_number_4 : decode cX11_number 4 = .ok (.iconst 0, 1) := by decide +kernel
theorem dX11_number_5 : decode cX11_number 5 = .ok (.istore 4, 2) := by decide +kernel
theorem dX11_number_7 : decode cX11_number 7 = .ok (.aload_n 0, 1) := by decide +kernel
theorem dX11_number_8 : decode cX11_number 8 = .ok (.bipush 48, 2) := by decide +kernel
theorem dX11_number_10 : decode cX11_number 10 = .ok (.bipush 57, 2) := by decide +kernel
theorem dX11_number_12 : decode cX11_number 12 = .ok (.invokevirtual 98, 3) := by decide +kernel
theorem dX11_number_15 : decode cX11_number 15 = .ok (.ifCond .eq 55, 3) := by decide +kernel
theorem dX11_number_18 : decode cX11_number 18 = .ok (.aload_n 0, 1) := by decide +kernel
theorem dX11_number_19 : decode cX11_number 19 = .ok (.getfield 92, 3) := by decide +kernel
theorem dX11_number_22 : decode cX11_number 22 = .ok (.aload_n 0, 1) := by decide +kernel
theorem dX11_number_23 : decode cX11_number 23 = .ok (.getfield 102, 3) := by decide +kernel
theorem dX11_number_26 : decode cX11_number 26 = .ok (.isub, 1) := by decide +kernel
theorem dX11_number_27 : decode cX11_number 27 = .ok (.bipush 6, 2) := by decide +kernel
theorem dX11_number_29 : decode cX11_number 29 = .ok (.if_icmp .ge 24, 3) := by decide +kernel
theorem dX11_number_32 : decode cX11_number 32 = .ok (.bipush 10, 2) := by decide +kernel
theorem dX11_number_34 : decode cX11_number 34 = .ok (.iload 4, 2) := by decide +kernel
theorem dX11_number_36 : decode cX11_number 36 = .ok (.imul, 1) := by decide +kernel
theorem dX11_number_37 : decode cX11_number 37 = .ok (.aload_n 0, 1) := by decide +kernel
theorem dX11_number_38 : decode cX11_number 38 = .ok (.getfield 41, 3) := by decide +kernel
theorem dX11_number_41 : decode cX11_number 41 = .ok (.aload_n 0, 1) := by decide +kernel
theorem dX11_number_42 : decode cX11_number 42 = .ok (.getfield 92, 3) := by decide +kernel
theorem dX11_number_45 : decode cX11_number 45 = .ok (.baload, 1) := by decide +kernel
theorem dX11_number_46 : decode cX11_number 46 = .ok (.iadd, 1) := by decide +kernel
theorem dX11_number_47 : decode cX11_number 47 = .ok (.bipush 48, 2) := by decide +kernel
theorem dX11_number_49 : decode cX11_number 49 = .ok (.isub, 1) := by decide +kernel
theorem dX11_number_50 : decode cX11_number 50 = .ok (.goto 5, 3) := by decide +kernel
theorem dX11_number_53 : decode cX11_number 53 = .ok (.iload 4, 2) := by decide +kernel
theorem dX11_number_55 : decode cX11_number 55 = .ok (.istore 4, 2) := by decide +kernel
theorem dX11_number_57 : decode cX11_number 57 = .ok (.aload_n 0, 1) := by decide +kernel
theorem dX11_number_58 : decode cX11_number 58 = .ok (.dup, 1) := by decide +kernel
theorem dX11_number_59 : decode cX11_number 59 = .ok (.getfield 92, 3) := by decide +kernel
theorem dX11_number_62 : decode cX11_number 62 = .ok (.iconst 1, 1) := by decide +kernel
theorem dX11_number_63 : decode cX11_number 63 = .ok (.iadd, 1) := by decide +kernel
theorem dX11_number_64 : decode cX11_number 64 = .ok (.putfield 92, 3) := by decide +kernel
theorem dX11_number_67 : decode cX11_number 67 = .ok (.goto (-60), 3) := by decide +kernel
theorem dX11_number_70 : decode cX11_number 70 = .ok (.aload_n 0, 1) := by decide +kernel
theorem dX11_number_71 : decode cX11_number 71 = .ok (.getfield 38, 3) := by decide +kernel
theorem dX11_number_74 : decode cX11_number 74 = .ok (.iload_n 1, 1) := by decide +kernel
theorem dX11_number_75 : decode cX11_number 75 = .ok (.iload 4, 2) := by decide +kernel
theorem dX11_number_77 : decode cX11_number 77 = .ok (.iastore, 1) := by decide +kernel
theorem dX11_number_78 : decode cX11_number 78 = .ok (.aload_n 0, 1) := by decide +kernel
theorem dX11_number_79 : decode cX11_number 79 = .ok (.getfield 92, 3) := by decide +kernel
theorem dX11_number_82 : decode cX11_number 82 = .ok (.aload_n 0, 1) := by decide +kernel
theorem dX11_number_83 : decode cX11_number 83 = .ok (.getfield 102, 3) := by decide +kernel
theorem dX11_number_86 : decode cX11_number 86 = .ok (.if_icmp .le 33, 3) := by decide +kernel
theorem dX11_number_89 : decode cX11_number 89 = .ok (.aload_n 0, 1) := by decide +kernel
theorem dX11_number_90 : decode cX11_number 90 = .ok (.getfield 92, 3) := by decide +kernel
theorem dX11_number_93 : decode cX11_number 93 = .ok (.aload_n 0, 1) := by decide +kernel
theorem dX11_number_94 : decode cX11_number 94 = .ok (.getfield 102, 3) := by decide +kernel
theorem dX11_number_97 : decode cX11_number 97 = .ok (.isub, 1) := by decide +kernel
theorem dX11_number_98 : decode cX11_number 98 = .ok (.bipush 7, 2) := by decide +kernel
theorem dX11_number_100 : decode cX11_number 100 = .ok (.if_icmp .ge 19, 3) := by decide +kernel
theorem dX11_number_103 : decode cX11_number 103 = .ok (.iload 4, 2) := by decide +kernel
theorem dX11_number_105 : decode cX11_number 105 = .ok (.iload_n 2, 1) := by decide +kernel
theorem dX11_number_106 : decode cX11_number 106 = .ok (.if_icmp .lt 13, 3) := by decide +kernel
theorem dX11_number_109 : decode cX11_number 109 = .ok (.iload 4, 2) := by decide +kernel
theorem dX11_number_111 : decode cX11_number 111 = .ok (.iload_n 3, 1) := by decide +kernel
theorem dX11_number_112 : decode cX11_number 112 = .ok (.if_icmp .gt 7, 3) := by decide +kernel
theorem dX11_number_115 : decode cX11_number 115 = .ok (.iconst 1, 1) := by decide +kernel
theorem dX11_number_116 : decode cX11_number 116 = .ok (.goto 4, 3) := by decide +kernel
theorem dX11_number_119 : decode cX11_number 119 = .ok (.iconst 0, 1) := by decide +kernel
theorem dX11_number_120 : decode cX11_number 120 = .ok (.ireturn, 1) := by decide +kernel
set_option maxHeartbeats 1000000 in
set_option maxRecDepth 20000 in
theorem ct_number {l : Launch} {E : Ev} {P : Value → AH → Prop} {o : Nat} {ad : Nat → Nat} {F : Nat → Int32} {A : Nat → Nat → Int32} {h : AH} (I : mI o ad) {q b e : Nat} (he : F 17 = nI e) (hqe : q ≤ e) (he4 : e ≤ 400) {to lo hi : Int32} {j : Nat} (hj : j < 7) (hto : to = nI j) (k1 : rnok (A 14) (rbl A e q) (rdg A e (rbl A e q)) lo hi → P (.int 1) (mh E o ad (pF F ((rdg A e (rbl A e q))) ((rbl A e q))) (aset A 12 j (rnv (A 14) (rbl A e q) ((rdg A e (rbl A e q)) - (rbl A e q)))) h)) (k0 : ¬ rnok (A 14) (rbl A e q) (rdg A e (rbl A e q)) lo hi → P (.int 0) (mh E o ad (pF F ((rdg A e (rbl A e q))) ((rbl A e q))) (aset A 12 j (rnv (A 14) (rbl A e q) ((rdg A e (rbl A e q)) - (rbl A e q)))) h)) : Mt l E yX11_number cX11_number 5 (some .boolean) 4 80 0 0 [.ref o, .int to, .int lo, .int hi] (mh E o ad (pF F (q) (b)) A h) P := by
  refine Mt.of (by decide) (Nat.le_of_ble_eq_true rfl) ?_
  intro K hK hR C
  refine g_aload_n (n := 1) C dX11_number_0 rfl rfl ?_
  refine g_callV (n := 4) (As := []) C dX11_number_1 rfl mw_X11_blanks w_1222 (g_recv C mh_o rfl) rfl rfl (room hR rfl) (ct_blanks I he hqe he4 ?_)
  refine g_iconst (n := 5) (v := 0) C dX11_number_4 rfl (by decide) ?_
  refine g_istore (n := 7) C dX11_number_5 rfl (by decide) ?_
  have lp : ∀ p : Nat, p ≤ e → ∀ (v : Int32), rbl A e q ≤ p → v = rnv (A 14) (rbl A e q) (p - (rbl A e q)) → rdg A e p = (rdg A e (rbl A e q)) → G K E 5 (QM K E (some .boolean) 0 0 P) 0 0 7 [(0, .ref o), (1, .int to), (2, .int lo), (3, .int hi), (4, .int v)] [] (mh E o ad (pF F (p) ((rbl A e q))) A h) := by
    refine loopN (fun p => ∀ (v : Int32), rbl A e q ≤ p → v = rnv (A 14) (rbl A e q) (p - (rbl A e q)) → rdg A e p = (rdg A e (rbl A e q)) → G K E 5 (QM K E (some .boolean) 0 0 P) 0 0 7 [(0, .ref o), (1, .int to), (2, .int lo), (3, .int hi), (4, .int v)] [] (mh E o ad (pF F (p) ((rbl A e q))) A h)) (e) ?_
    intro p hlep ihp v hbp ev er
    refine g_aload_n (n := 8) C dX11_number_7 rfl rfl ?_
    refine g_bipush (n := 10) (v := 48) C dX11_number_8 rfl (by decide) ?_
    refine g_bipush (n := 12) (v := 57) C dX11_number_10 rfl (by decide) ?_
    refine g_callV (n := 15) (As := [.int _, .int _]) C dX11_number_12 rfl mw_X11_isAt w_1226 (g_recv C mh_o rfl) rfl rfl (room hR rfl) (ct_isAt I (q := p) he hlep he4 (fun za12 => ?_) (fun zb12 => ?_))
    · --k12.0
      refine g_if_eq (n := 18) (t := 70) C dX11_number_15 rfl (by decide) (fun zc15 => ?_) (fun zc15 => ?_)
      · exact absurd zc15 (by decide)
      refine g_aload_n (n := 19) C dX11_number_18 rfl rfl ?_
      refine m_get (n := 22) 16 C dX11_number_19 rfl (by decide) rfl w_1116 rfl ?_
      refine g_aload_n (n := 23) C dX11_number_22 rfl rfl ?_
      refine m_get (n := 26) 18 C dX11_number_23 rfl (by decide) rfl w_1118 rfl ?_
      refine g_isub (n := 27) C dX11_number_26 rfl ?_
      refine g_bipush (n := 29) (v := 6) C dX11_number_27 rfl (by decide) ?_
      refine g_icmp_ge (n := 32) (t := 53) C dX11_number_29 rfl (by decide) (fun zc29 => ?_) (fun zc29 => ?_)
      · --t29
        refine g_iload (n := 55) C dX11_number_53 rfl rfl ?_
        refine g_istore (n := 57) C dX11_number_55 rfl (by decide) ?_
        refine g_aload_n (n := 58) C dX11_number_57 rfl rfl ?_
        refine g_dup (n := 59) C dX11_number_58 rfl rfl ?_
        refine m_get (n := 62) 16 C dX11_number_59 rfl (by decide) rfl w_1116 rfl ?_
        refine g_iconst (n := 63) (v := 1) C dX11_number_62 rfl (by decide) ?_
        refine g_iadd (n := 64) C dX11_number_63 rfl ?_
        refine m_put (n := 67) 16 C dX11_number_64 rfl (by decide) w_1116 rfl rfl rfl mfs_16 ?_
        rw [pF_inc]
        refine g_goto (t := 7) C dX11_number_67 (by decide) ?_
        exact g_lv [0, 1, 2, 3, 4] rfl (ihp za12.1 _ (by omega) (by rw [Nat.succ_sub hbp, ev]; first | (rw [← rnv_s (nI_sml (k := 6) zc29 hbp (by omega) (by decide)), Nat.add_sub_cancel' hbp]) | exact rnv_0 (Nat.not_lt.mpr (nI_big (k := 6) zc29 hbp (by omega) (by decide)))) ((rsc_s za12).symm.trans er))
      · --f29
        refine g_bipush (n := 34) (v := 10) C dX11_number_32 rfl (by decide) ?_
        refine g_iload (n := 36) C dX11_number_34 rfl rfl ?_
        refine g_imul (n := 37) C dX11_number_36 rfl ?_
        refine g_aload_n (n := 38) C dX11_number_37 rfl rfl ?_
        refine m_get (n := 41) 14 C dX11_number_38 rfl (by decide) rfl w_1114 rfl ?_
        refine g_aload_n (n := 42) C dX11_number_41 rfl rfl ?_
        refine m_get (n := 45) 16 C dX11_number_42 rfl (by decide) rfl w_1116 rfl ?_
        refine m_bald (n := 46) 14 (p) C dX11_number_45 rfl I (by decide) rfl rfl (by have := za12.1; omega) (by decide) rfl ?_
        refine g_iadd (n := 47) C dX11_number_46 rfl ?_
        refine g_bipush (n := 49) (v := 48) C dX11_number_47 rfl (by decide) ?_
        refine g_isub (n := 50) C dX11_number_49 rfl ?_
        refine g_goto (t := 55) C dX11_number_50 (by decide) ?_
        refine g_istore (n := 57) C dX11_number_55 rfl (by decide) ?_
        refine g_aload_n (n := 58) C dX11_number_57 rfl rfl ?_
        refine g_dup (n := 59) C dX11_number_58 rfl rfl ?_
        refine m_get (n := 62) 16 C dX11_number_59 rfl (by decide) rfl w_1116 rfl ?_
        refine g_iconst (n := 63) (v := 1) C dX11_number_62 rfl (by decide) ?_
        refine g_iadd (n := 64) C dX11_number_63 rfl ?_
        refine m_put (n := 67) 16 C dX11_number_64 rfl (by decide) w_1116 rfl rfl rfl mfs_16 ?_
        rw [pF_inc]
        refine g_goto (t := 7) C dX11_number_67 (by decide) ?_
        exact g_lv [0, 1, 2, 3, 4] rfl (ihp za12.1 _ (by omega) (by rw [Nat.succ_sub hbp, ev]; first | (rw [← rnv_s (nI_sml (k := 6) zc29 hbp (by omega) (by decide)), Nat.add_sub_cancel' hbp]) | exact rnv_0 (Nat.not_lt.mpr (nI_big (k := 6) zc29 hbp (by omega) (by decide)))) ((rsc_s za12).symm.trans er))
    · --k12.1
      refine g_if_eq (n := 18) (t := 70) C dX11_number_15 rfl (by decide) (fun zc15 => ?_) (fun zc15 => ?_)
      rotate_left
      · exact absurd zc15 (by decide)
      have ep : p = (rdg A e (rbl A e q)) := (rsc_0 zb12).symm.trans er
      rw [← ep] at k1 k0
      rw [ev]
      refine g_aload_n (n := 71) C dX11_number_70 rfl rfl ?_
      refine m_get (n := 74) 12 C dX11_number_71 rfl (by decide) rfl w_1112 rfl ?_
      refine g_iload_n (n := 75) C dX11_number_74 rfl rfl ?_
      refine g_iload (n := 77) C dX11_number_75 rfl rfl ?_
      refine m_iast (n := 78) 12 (j) C dX11_number_77 rfl I (by decide) (fun _ => rfl) hto hj (by decide) ?_
      refine g_aload_n (n := 79) C dX11_number_78 rfl rfl ?_
      refine m_get (n := 82) 16 C dX11_number_79 rfl (by decide) rfl w_1116 rfl ?_
      refine g_aload_n (n := 83) C dX11_number_82 rfl rfl ?_
      refine m_get (n := 86) 18 C dX11_number_83 rfl (by decide) rfl w_1118 rfl ?_
      refine g_icmp_le (n := 89) (t := 119) C dX11_number_86 rfl (by decide) (fun zc86 => ?_) (fun zc86 => ?_)
      · --t86
        refine g_iconst (n := 120) (v := 0) C dX11_number_119 rfl (by decide) ?_
        refine g_zret C dX11_number_120 (by decide) (by decide) (by rfl) ?_
        first | exact k0 (fun zq => Int32.not_le.mpr zc106 zq.2.2.1) | exact k0 (fun zq => Int32.not_le.mpr zc112 zq.2.2.2) | exact k0 (fun zq => by have := nI_big (k := 7) zc100 hbp (by omega) (by decide); have := zq.2.1; omega) | exact k0 (fun zq => by have := i_eq (x := nI p) rfl zc86 hbp (by omega); have := zq.1; omega)
      · --f86
        refine g_aload_n (n := 90) C dX11_number_89 rfl rfl ?_
        refine m_get (n := 93) 16 C dX11_number_90 rfl (by decide) rfl w_1116 rfl ?_
        refine g_aload_n (n := 94) C dX11_number_93 rfl rfl ?_
        refine m_get (n := 97) 18 C dX11_number_94 rfl (by decide) rfl w_1118 rfl ?_
        refine g_isub (n := 98) C dX11_number_97 rfl ?_
        refine g_bipush (n := 100) (v := 7) C dX11_number_98 rfl (by decide) ?_
        refine g_icmp_ge (n := 103) (t := 119) C dX11_number_100 rfl (by decide) (fun zc100 => ?_) (fun zc100 => ?_)
        · --t100
          refine g_iconst (n := 120) (v := 0) C dX11_number_119 rfl (by decide) ?_
          refine g_zret C dX11_number_120 (by decide) (by decide) (by rfl) ?_
          first | exact k0 (fun zq => Int32.not_le.mpr zc106 zq.2.2.1) | exact k0 (fun zq => Int32.not_le.mpr zc112 zq.2.2.2) | exact k0 (fun zq => by have := nI_big (k := 7) zc100 hbp (by omega) (by decide); have := zq.2.1; omega) | exact k0 (fun zq => by have := i_eq (x := nI p) rfl zc86 hbp (by omega); have := zq.1; omega)
        · --f100
          refine g_iload (n := 105) C dX11_number_103 rfl rfl ?_
          refine g_iload_n (n := 106) C dX11_number_105 rfl rfl ?_
          refine g_icmp_lt (n := 109) (t := 119) C dX11_number_106 rfl (by decide) (fun zc106 => ?_) (fun zc106 => ?_)
          · --t106
            refine g_iconst (n := 120) (v := 0) C dX11_number_119 rfl (by decide) ?_
            refine g_zret C dX11_number_120 (by decide) (by decide) (by rfl) ?_
            first | exact k0 (fun zq => Int32.not_le.mpr zc106 zq.2.2.1) | exact k0 (fun zq => Int32.not_le.mpr zc112 zq.2.2.2) | exact k0 (fun zq => by have := nI_big (k := 7) zc100 hbp (by omega) (by decide); have := zq.2.1; omega) | exact k0 (fun zq => by have := i_eq (x := nI p) rfl zc86 hbp (by omega); have := zq.1; omega)
          · --f106
            refine g_iload (n := 111) C dX11_number_109 rfl rfl ?_
            refine g_iload_n (n := 112) C dX11_number_111 rfl rfl ?_
            refine g_icmp_gt (n := 115) (t := 119) C dX11_number_112 rfl (by decide) (fun zc112 => ?_) (fun zc112 => ?_)
            · --t112
              refine g_iconst (n := 120) (v := 0) C dX11_number_119 rfl (by decide) ?_
              refine g_zret C dX11_number_120 (by decide) (by decide) (by rfl) ?_
              first | exact k0 (fun zq => Int32.not_le.mpr zc106 zq.2.2.1) | exact k0 (fun zq => Int32.not_le.mpr zc112 zq.2.2.2) | exact k0 (fun zq => by have := nI_big (k := 7) zc100 hbp (by omega) (by decide); have := zq.2.1; omega) | exact k0 (fun zq => by have := i_eq (x := nI p) rfl zc86 hbp (by omega); have := zq.1; omega)
            · --f112
              refine g_iconst (n := 116) (v := 1) C dX11_number_115 rfl (by decide) ?_
              refine g_goto (t := 120) C dX11_number_116 (by decide) ?_
              refine g_zret C dX11_number_120 (by decide) (by decide) (by rfl) ?_
              exact k1 ⟨i_lt (x := nI p) rfl zc86 hbp (by omega), nI_sml (k := 7) zc100 hbp (by omega) (by decide), Int32.not_lt.mp zc106, Int32.not_lt.mp zc112⟩
  exact g_lv [0, 1, 2, 3, 4] rfl (lp _ ((rsc_le hqe)) _ (Nat.le_refl _) (by rw [Nat.sub_self]; rfl) rfl)
end
