def SLEN : List Nat := [5, 4, 4, 5, 5, 4, 7, 6, 5, 7, 4]
def SBYT : List (List Int32) := [[97, 112, 97, 114, 116], [102, 105, 108, 108], [98, 111, 110, 100], [99, 111, 115, 116, 115], [102, 105, 114, 115, 116], [108, 97, 110, 100], [108, 105, 99, 101, 110, 99, 101], [108, 101, 110, 100, 101, 114], [117, 110, 116, 105, 108], [100, 105, 103, 103, 101, 114, 115], [112, 117, 109, 112]]
/-- the String constants: class, entry, text, where E keeps the address -/
def SREF : List (String × Nat × String × Nat) := [("GemPits", 59, "a step is 0 to 100", 200), ("GemPits$Agreement", 15, "costs", 23), ("GemPits$Agreement", 23, "first", 24), ("GemPits$Agreement", 33, "land", 25), ("GemPits$Agreement", 39, "licence", 26), ("GemPits$Agreement", 41, "lender", 27), ("GemPits$Agreement", 43, "until", 28), ("GemPits$Agreement", 49, "diggers", 29), ("GemPits$Agreement", 51, "pump", 30), ("GemPits$Law", 20, "apart", 20), ("GemPits$Law", 31, "fill", 21), ("GemPits$Law", 33, "bond", 22), ("GemPits", 80, "the text of the law is wrong", 201), ("GemPits", 89, "the text of the agreement is wrong", 202), ("GemPits", 306, "a square is 0 to 95", 203), ("GemPits", 103, "there are 30 pits", 204), ("GemPits", 296, "there is no such pit", 205), ("GemPits", 117, "gravel is 0 to 100", 206), ("GemPits", 131, "days are 0 to 1000", 207), ("GemPits", 168, "a pit tells 0 to 5", 208), ("GemPits", 171, "a basket is 0 to 99", 209), ("GemPits", 175, "the pit found nothing", 210), ("GemPits", 181, "there are 60 stones", 211), ("GemPits", 192, "money laid out is 0 to 100000, costs 10000000 at most", 212), ("GemPits", 301, "there is no such stone", 213), ("GemPits", 203, "a buyer is 0 to 5", 214), ("GemPits", 309, "money is 0 to 1000000", 215), ("GemPits", 237, "a stone tells 0 to 9", 216), ("GemPits", 243, "a rough is 1 to 10 wide and 1 to 8 high", 217), ("GemPits", 252, "the rough has no such cell", 218), ("GemPitsModel", 121, "apart", 20), ("GemPitsModel", 130, "fill", 21), ("GemPitsModel", 132, "bond", 22), ("GemPitsModel", 134, "costs", 23), ("GemPitsModel", 136, "first", 24), ("GemPitsModel", 138, "land", 25), ("GemPitsModel", 140, "licence", 26), ("GemPitsModel", 142, "diggers", 29), ("GemPitsModel", 144, "pump", 30), ("GemPitsModel", 146, "lender", 27), ("GemPitsModel", 148, "until", 28)]
/-! MY LAYER: abstract heaps (address to thing), one context a body (GX), a judgement G over both; rows that need nothing but the code -/
abbrev AH : Type := Nat → Option va_E
def hset (h : AH) (a : Nat) (e : va_E) : AH := fun b => if b = a then some e else h b
theorem hset_same (h : AH) (a : Nat) (e : va_E) : hset h a e a = some e := if_pos rfl
theorem hset_ne (h : AH) {a b : Nat} (e : va_E) (n : b ≠ a) : hset h a e b = h b := if_neg n
theorem hset_hset (h : AH) (a : Nat) (e e' : va_E) : hset (hset h a e) a e' = hset h a e' := by
  funext b
  unfold hset
  by_cases q : b = a
  · rw [if_pos q, if_pos q]
  · rw [if_neg q, if_neg q, if_neg q]
/-- the run's own numbers: where its heap begins, the classes' ids and slots, the arrays' classes and the constants' addresses -/
abbrev Ev : Type := Nat × va_G × (Nat → Nat)
def eA (E : Ev) : Nat → Prop := fun q => E.1 ≤ q
def eT (E : Ev) : List (ClassId × FieldType) := [(E.2.2 0, .byte), (E.2.2 1, .int), (E.2.2 2, .boolean), (E.2.2 3, .object "java/lang/Object"), (E.2.2 4, .long)]
def hOK (E : Ev) (h : AH) (H : Heap) : Prop := ∀ a e, h a = some e → va_at E.2.1 vwCl (a, e) H ∧ E.1 ≤ a
/-- words that only the tables speak of, which later tables keep -/
def tword : Cond → Bool
  | .castable _ _ => true
  | .declares _ => true
  | .methodLinkNest _ _ _ _ => true
  | _ => false
def TW : List Cond := lw_tbl.filter tword
theorem twm {w : Cond} (i : Nat) (h : lw_tbl[i]? = some w) (g : tword w = true) : w ∈ TW := List.mem_filter.mpr ⟨List.mem_of_getElem? h, g⟩
theorem tword_warm {s U : State} {w : Cond} (g : tword w = true) (hW : s.WarmedH U.vm) (h : va_Nw w s) : va_Nw w U := by
  cases w <;> first | exact va_Nw.warmC hW h | exact va_Nw.warmD hW h | exact va_Nw.warmM hW h | exact absurd g (by decide)
def EXC : List String := ["java/lang/IllegalArgumentException", "java/lang/IndexOutOfBoundsException", "java/lang/UnsupportedOperationException", "java/util/NoSuchElementException", "java/lang/IllegalStateException"]
/-- what the start says of the machine's own things, and nobody changes -/
def zOK (E : Ev) (U : State) (H : Heap) : Prop :=
  vx_Zq Bundle.tN "UNASSIGNED_STACK" Bundle.steD (eA E) U H ∧ vx_Zq Bundle.tN "SUPPRESSED_SENTINEL" Bundle.listD (eA E) U H ∧
  va_Z "java/util/ArrayList" "DEFAULTCAPACITY_EMPTY_ELEMENTDATA" "[Ljava/lang/Object;" (.ref (E.2.2 10)) (eA E) U H ∧
  va_T (.object "java/lang/Object") (E.2.2 10) 0 (fun _ => .null) (eA E) U H ∧
  va_Z "java/lang/String" "COMPACT_STRINGS" "Z" (.int 1) (eA E) U H ∧
  va_Zq "jdk/internal/util/Preconditions" "SIOOBE_FORMATTER" "Ljava/util/function/BiFunction;" (eA E) U H ∧
  vk_S 11 SLEN SBYT (fun i => E.2.2 (20 + i)) (fun i => E.2.2 (40 + i)) (eA E) U H ∧
  (∀ q ∈ SREF, vk_R q.1 q.2.1 q.2.2.1 (E.2.2 q.2.2.2) U) ∧
  va_AO "java/lang/Object" U ∧ va_Mi "[Ljava/lang/Object;" (E.2.2 11) U ∧
  (∀ w ∈ TW, va_Nw w U) ∧
  (∀ a ∈ EXC, ∀ b ∈ EXC, a ≠ b → va_Nc a b U)
theorem zOK.go {E : Ev} {s U : State} {H0 H : Heap} (h : zOK E s H0) (hq : ∀ a : Nat, a < H0.size → ¬ eA E a → H[a]? = H0[a]?) (hW : s.WarmedH U.vm) : zOK E U H := by
  obtain ⟨h1, h2, h3, h4, h5, h6, h7, h8, h9, h10, h11, h12⟩ := h
  exact ⟨(h1.kept hq).moved hW.alike, (h2.kept hq).moved hW.alike, (h3.kept hq).moved hW.alike, (h4.kept hq).moved hW.alike, (h5.kept hq).moved hW.alike, (h6.kept hq).moved hW.alike, (h7.kept hq).moved hW.alike, fun q hq9 => vk_R.warm hW (h8 q hq9), h9.moved hW.alike, h10.moved hW.alike, fun w hw => tword_warm (List.mem_filter.mp hw).2 hW (h11 w hw), fun a ha b hb n => (h12 a ha b hb n).moved hW.alike⟩
/-- what a method is given: its heap holds h, from E.1 on -/
def wOK (E : Ev) (h : AH) (U : State) (H : Heap) : Prop := E.1 ≤ H.size ∧ hOK E h H ∧ va_K E.2.1 vwCl (eT E) U ∧ zOK E U H
theorem wOK.blind {E : Ev} {h : AH} {U : State} (q : wOK E h U U.heap) (g : JFrame) (mk : MethodId) (a : Array Value) : wOK E h (U.calling g mk a) (U.calling g mk a).heap :=
  ⟨q.1, q.2.1, va_K.moved (u := U) (U := U.calling g mk a) (Vm.Alike.refl U.vm) q.2.2.1, q.2.2.2.go (U := U.calling g mk a) (fun _ _ _ => rfl) (State.WarmedH.refl U)⟩
abbrev Cx : Type := Program × Launch × Env × Room × State × MethodId × Array Value × List Frame × Method × Code
abbrev kp (K : Cx) : Program := K.1
abbrev kl (K : Cx) : Launch := K.2.1
abbrev ke (K : Cx) : Env := K.2.2.1
abbrev kR (K : Cx) : Room := K.2.2.2.1
abbrev ks (K : Cx) : State := K.2.2.2.2.1
abbrev km (K : Cx) : MethodId := K.2.2.2.2.2.1
abbrev ka (K : Cx) : Array Value := K.2.2.2.2.2.2.1
abbrev kb (K : Cx) : List Frame := K.2.2.2.2.2.2.2.1
abbrev kM (K : Cx) : Method := K.2.2.2.2.2.2.2.2.1
abbrev kc (K : Cx) : Code := K.2.2.2.2.2.2.2.2.2
def GX (K : Cx) (E : Ev) (cc : ByteArray) (nL : Nat) (own : String) (ret : Option FieldType) (nm : String) : Prop :=
  (kp K).tables.exec = Jvm.exec ∧ (kc K).code = cc ∧ (kc K).maxLocals = nL ∧ (ks K).vm.findClass own = some (km K).cls ∧ (∀ w ∈ GW, w.before (ka K) (ks K) = true) ∧
  (kM K).sig.returnType = ret ∧ (kM K).locks = false ∧ (kM K).name = nm ∧ E.1 ≤ (ks K).heap.size ∧ va_K E.2.1 vwCl (eT E) (ks K) ∧ zOK E (ks K) (ks K).heap
def G (K : Cx) (E : Ev) (nL : Nat) (Q : State → Prop) (cs ss pc : Nat) (lv : List (Nat × Value)) (st : List Value) (h : AH) : Prop :=
  ∀ (H : Heap) (locs : List Loc) (ls : Array Slot), hOK E h H → va_S (eA E) (ks K).heap H locs → lv_has ls nL lv →
    W (kp K) (kl K) (ke K) (kR K) (ks K) (km K) (ka K) (kb K) (kM K) (kc K) H locs cs ss Q (F0 (km K) pc ls st)
def lvk (lv : List (Nat × Value)) (i : Nat) : Option Value := match lv with
  | [] => none
  | (j, v) :: r => if j = i then some v else lvk r i
def lvs (lv : List (Nat × Value)) (i : Nat) (v : Value) : List (Nat × Value) := (i, v) :: lv.filter (fun q => !(q.1 == i) && !(q.1 + 1 == i && q.2.category == 2))
theorem lvk_mem {lv : List (Nat × Value)} {i : Nat} {v : Value} (h : lvk lv i = some v) : (i, v) ∈ lv := by
  induction lv with
  | nil => cases h
  | cons a r ih =>
    obtain ⟨j, w⟩ := a
    unfold lvk at h
    by_cases e : j = i
    · rw [if_pos e] at h
      cases h
      rw [e]
      exact List.mem_cons_self
    · rw [if_neg e] at h
      exact List.mem_cons_of_mem _ (ih h)
theorem lvk_at {ls : Array Slot} {nL : Nat} {lv : List (Nat × Value)} (h : lv_has ls nL lv) {i : Nat} {v : Value} (e : lvk lv i = some v) : ls[i]? = some (.val v) := h.2.2 (i, v) (lvk_mem e)
def lvp (lv : List (Nat × Value)) (is : List Nat) : List (Nat × Value) := is.filterMap (fun i => (lvk lv i).map (fun v => (i, v)))
theorem lvp_has {ls : Array Slot} {nL : Nat} {lv : List (Nat × Value)} (h : lv_has ls nL lv) (is : List Nat) : lv_has ls nL (lvp lv is) := by
  refine ⟨h.1, h.2.1, fun q hq => ?_⟩
  obtain ⟨i, -, hi⟩ := List.mem_filterMap.mp hq
  cases e : lvk lv i with
  | none => rw [e] at hi; cases hi
  | some v =>
    rw [e] at hi
    cases hi
    exact lvk_at h e
theorem lvk_cons {lv : List (Nat × Value)} {i j : Nat} {v w : Value} (h : lvk ((j, w) :: lv) i = some v) : (j = i ∧ w = v) ∨ lvk lv i = some v := by
  unfold lvk at h
  by_cases e : j = i
  · rw [if_pos e] at h
    exact Or.inl ⟨e, Option.some.inj h⟩
  · rw [if_neg e] at h
    exact Or.inr h
section GR
variable {K : Cx} {E : Ev} {cc : ByteArray} {nL : Nat} {own : String} {ret : Option FieldType} {nm : String} {Q : State → Prop} {cs ss pc : Nat} {lv : List (Nat × Value)} {st : List Value} {h : AH}
/-- fewer locals, told by their places -/
theorem g_lv (is : List Nat) {lv' : List (Nat × Value)} (e : lvp lv is = lv') (k : G K E nL Q cs ss pc lv' st h) : G K E nL Q cs ss pc lv st h := fun H locs ls hH hS hL => k H locs ls hH hS (e ▸ lvp_has hL is)
theorem g_wide {c' s' : Nat} (h1 : cs ≤ c') (h2 : ss ≤ s') (k : G K E nL Q c' s' pc lv st h) : G K E nL Q cs ss pc lv st h := fun H locs ls hH hS hL => W.widen h1 h2 (k H locs ls hH hS hL)
theorem GX.gw (C : GX K E cc nL own ret nm) {w : Cond} (hw : w ∈ GW) : w.before (ka K) (ks K) = true := C.2.2.2.2.1 w hw
theorem GX.own (C : GX K E cc nL own ret nm) : (ks K).vm.findClass own = some (km K).cls := C.2.2.2.1
theorem GX.k (C : GX K E cc nL own ret nm) : va_K E.2.1 vwCl (eT E) (ks K) := C.2.2.2.2.2.2.2.2.2.1
theorem GX.z (C : GX K E cc nL own ret nm) : zOK E (ks K) (ks K).heap := C.2.2.2.2.2.2.2.2.2.2
theorem GX.n0 (C : GX K E cc nL own ret nm) : E.1 ≤ (ks K).heap.size := C.2.2.2.2.2.2.2.2.1
theorem GX.ret (C : GX K E cc nL own ret nm) : (kM K).sig.returnType = ret := C.2.2.2.2.2.1
theorem GX.locks (C : GX K E cc nL own ret nm) : (kM K).locks = false := C.2.2.2.2.2.2.1
theorem GX.name (C : GX K E cc nL own ret nm) : (kM K).name = nm := C.2.2.2.2.2.2.2.1
theorem GX.ml (C : GX K E cc nL own ret nm) : (kc K).maxLocals = nL := C.2.2.1
theorem eA_old (C : GX K E cc nL own ret nm) : ∀ q, (ks K).heap.size ≤ q → eA E q := fun q hq => Nat.le_trans C.n0 hq
theorem g_iconst {n : Nat} (C : GX K E cc nL own ret nm) {z : Int} {v : Int32} (hd : decode cc pc = .ok (.iconst z, 1)) (hn : pc + 1 = n) (hv : Int32.ofInt z = v) (k : G K E nL Q cs ss n lv (.int v :: st) h) : G K E nL Q cs ss pc lv (st) h := fun H locs ls hH hS hL => lv_iconst C.1 C.2.1 hd hv (by rw [hn]; exact k H locs ls hH hS hL)
theorem g_bipush {n : Nat} (C : GX K E cc nL own ret nm) {z : Int} {v : Int32} (hd : decode cc pc = .ok (.bipush z, 2)) (hn : pc + 2 = n) (hv : (Int8.ofInt z).toInt32 = v) (k : G K E nL Q cs ss n lv (.int v :: st) h) : G K E nL Q cs ss pc lv (st) h := fun H locs ls hH hS hL => lv_bipush C.1 C.2.1 hd hv (by rw [hn]; exact k H locs ls hH hS hL)
theorem g_sipush {n : Nat} (C : GX K E cc nL own ret nm) {z : Int} {v : Int32} (hd : decode cc pc = .ok (.sipush z, 3)) (hn : pc + 3 = n) (hv : (Int16.ofInt z).toInt32 = v) (k : G K E nL Q cs ss n lv (.int v :: st) h) : G K E nL Q cs ss pc lv (st) h := fun H locs ls hH hS hL => lv_sipush C.1 C.2.1 hd hv (by rw [hn]; exact k H locs ls hH hS hL)
theorem g_lconst {n : Nat} (C : GX K E cc nL own ret nm) {z : Fin 2} {v : Int64} (hd : decode cc pc = .ok (.lconst z, 1)) (hn : pc + 1 = n) (hv : Int64.ofNat (z : Nat) = v) (k : G K E nL Q cs ss n lv (.long v :: st) h) : G K E nL Q cs ss pc lv (st) h := fun H locs ls hH hS hL => lv_lconst C.1 C.2.1 hd hv (by rw [hn]; exact k H locs ls hH hS hL)
theorem g_null {n : Nat} (C : GX K E cc nL own ret nm)  (hd : decode cc pc = .ok (.aconst_null, 1)) (hn : pc + 1 = n)  (k : G K E nL Q cs ss n lv (.null :: st) h) : G K E nL Q cs ss pc lv (st) h := fun H locs ls hH hS hL => lv_null C.1 C.2.1 hd  (by rw [hn]; exact k H locs ls hH hS hL)
theorem g_ldc {n : Nat} (C : GX K E cc nL own ret nm) {i : Nat} {v : Int32} (hd : decode cc pc = .ok (.ldc i, 2)) (hn : pc + 2 = n) (hw : Cond.constant own i v ∈ GW) (k : G K E nL Q cs ss n lv (.int v :: st) h) : G K E nL Q cs ss pc lv (st) h := fun H locs ls hH hS hL => lv_ldc C.1 C.2.1 C.own (C.gw hw) hd (by rw [hn]; exact k H locs ls hH hS hL)
theorem g_iload_n {n : Nat} (C : GX K E cc nL own ret nm) {i : Fin 4} {x : Int32} (hd : decode cc pc = .ok (.iload_n i, 1)) (hn : pc + 1 = n) (hl : lvk lv i.val = some (.int x)) (k : G K E nL Q cs ss n lv (.int x :: st) h) : G K E nL Q cs ss pc lv (st) h := fun H locs ls hH hS hL => lv_iload_n C.1 C.2.1 hd rfl (lvk_at hL hl) (by rw [hn]; exact k H locs ls hH hS hL)
theorem g_iload {n : Nat} (C : GX K E cc nL own ret nm) {i : Nat} {x : Int32} (hd : decode cc pc = .ok (.iload i, 2)) (hn : pc + 2 = n) (hl : lvk lv i = some (.int x)) (k : G K E nL Q cs ss n lv (.int x :: st) h) : G K E nL Q cs ss pc lv (st) h := fun H locs ls hH hS hL => lv_iload C.1 C.2.1 hd (lvk_at hL hl) (by rw [hn]; exact k H locs ls hH hS hL)
theorem g_aload_n {n : Nat} (C : GX K E cc nL own ret nm) {i : Fin 4} {x : Nat} (hd : decode cc pc = .ok (.aload_n i, 1)) (hn : pc + 1 = n) (hl : lvk lv i.val = some (.ref x)) (k : G K E nL Q cs ss n lv (.ref x :: st) h) : G K E nL Q cs ss pc lv (st) h := fun H locs ls hH hS hL => lv_aload_n C.1 C.2.1 hd rfl (lvk_at hL hl) (by rw [hn]; exact k H locs ls hH hS hL)
theorem g_aload {n : Nat} (C : GX K E cc nL own ret nm) {i : Nat} {x : Nat} (hd : decode cc pc = .ok (.aload i, 2)) (hn : pc + 2 = n) (hl : lvk lv i = some (.ref x)) (k : G K E nL Q cs ss n lv (.ref x :: st) h) : G K E nL Q cs ss pc lv (st) h := fun H locs ls hH hS hL => lv_aload C.1 C.2.1 hd (lvk_at hL hl) (by rw [hn]; exact k H locs ls hH hS hL)
theorem g_iadd {n : Nat} (C : GX K E cc nL own ret nm) {x y : Int32} (hd : decode cc pc = .ok (.iadd, 1)) (hn : pc + 1 = n)  (k : G K E nL Q cs ss n lv (.int (x + y) :: st) h) : G K E nL Q cs ss pc lv (.int y :: .int x :: st) h := fun H locs ls hH hS hL => lv_iadd C.1 C.2.1 hd  (by rw [hn]; exact k H locs ls hH hS hL)
theorem g_isub {n : Nat} (C : GX K E cc nL own ret nm) {x y : Int32} (hd : decode cc pc = .ok (.isub, 1)) (hn : pc + 1 = n)  (k : G K E nL Q cs ss n lv (.int (x - y) :: st) h) : G K E nL Q cs ss pc lv (.int y :: .int x :: st) h := fun H locs ls hH hS hL => lv_isub C.1 C.2.1 hd  (by rw [hn]; exact k H locs ls hH hS hL)
theorem g_imul {n : Nat} (C : GX K E cc nL own ret nm) {x y : Int32} (hd : decode cc pc = .ok (.imul, 1)) (hn : pc + 1 = n)  (k : G K E nL Q cs ss n lv (.int (x * y) :: st) h) : G K E nL Q cs ss pc lv (.int y :: .int x :: st) h := fun H locs ls hH hS hL => lv_imul C.1 C.2.1 hd  (by rw [hn]; exact k H locs ls hH hS hL)
theorem g_iand {n : Nat} (C : GX K E cc nL own ret nm) {x y : Int32} (hd : decode cc pc = .ok (.iand, 1)) (hn : pc + 1 = n)  (k : G K E nL Q cs ss n lv (.int (x &&& y) :: st) h) : G K E nL Q cs ss pc lv (.int y :: .int x :: st) h := fun H locs ls hH hS hL => lv_iand C.1 C.2.1 hd  (by rw [hn]; exact k H locs ls hH hS hL)
theorem g_ior {n : Nat} (C : GX K E cc nL own ret nm) {x y : Int32} (hd : decode cc pc = .ok (.ior, 1)) (hn : pc + 1 = n)  (k : G K E nL Q cs ss n lv (.int (x ||| y) :: st) h) : G K E nL Q cs ss pc lv (.int y :: .int x :: st) h := fun H locs ls hH hS hL => lv_ior C.1 C.2.1 hd  (by rw [hn]; exact k H locs ls hH hS hL)
theorem g_ishl {n : Nat} (C : GX K E cc nL own ret nm) {x y : Int32} (hd : decode cc pc = .ok (.ishl, 1)) (hn : pc + 1 = n)  (k : G K E nL Q cs ss n lv (.int (x <<< (y &&& 31)) :: st) h) : G K E nL Q cs ss pc lv (.int y :: .int x :: st) h := fun H locs ls hH hS hL => lv_ishl C.1 C.2.1 hd  (by rw [hn]; exact k H locs ls hH hS hL)
theorem g_ishr {n : Nat} (C : GX K E cc nL own ret nm) {x y : Int32} (hd : decode cc pc = .ok (.ishr, 1)) (hn : pc + 1 = n)  (k : G K E nL Q cs ss n lv (.int (x >>> (y &&& 31)) :: st) h) : G K E nL Q cs ss pc lv (.int y :: .int x :: st) h := fun H locs ls hH hS hL => lv_ishr C.1 C.2.1 hd  (by rw [hn]; exact k H locs ls hH hS hL)
theorem g_idiv {n : Nat} (C : GX K E cc nL own ret nm) {x y : Int32} (hd : decode cc pc = .ok (.idiv, 1)) (hn : pc + 1 = n) (hz : ¬ y = 0) (k : G K E nL Q cs ss n lv (.int (x / y) :: st) h) : G K E nL Q cs ss pc lv (.int y :: .int x :: st) h := fun H locs ls hH hS hL => lv_idiv C.1 C.2.1 hd hz (by rw [hn]; exact k H locs ls hH hS hL)
theorem g_irem {n : Nat} (C : GX K E cc nL own ret nm) {x y : Int32} (hd : decode cc pc = .ok (.irem, 1)) (hn : pc + 1 = n) (hz : ¬ y = 0) (k : G K E nL Q cs ss n lv (.int (x - x / y * y) :: st) h) : G K E nL Q cs ss pc lv (.int y :: .int x :: st) h := fun H locs ls hH hS hL => lv_irem C.1 C.2.1 hd hz (by rw [hn]; exact k H locs ls hH hS hL)
theorem g_ineg {n : Nat} (C : GX K E cc nL own ret nm) {x : Int32} (hd : decode cc pc = .ok (.ineg, 1)) (hn : pc + 1 = n)  (k : G K E nL Q cs ss n lv (.int (-x) :: st) h) : G K E nL Q cs ss pc lv (.int x :: st) h := fun H locs ls hH hS hL => lv_ineg C.1 C.2.1 hd  (by rw [hn]; exact k H locs ls hH hS hL)
theorem g_iushr {n : Nat} (C : GX K E cc nL own ret nm) {x y : Int32} (hd : decode cc pc = .ok (.iushr, 1)) (hn : pc + 1 = n)  (k : G K E nL Q cs ss n lv (.int ((x.toUInt32 >>> (y.toUInt32 &&& Int32.toUInt32 31)).toInt32) :: st) h) : G K E nL Q cs ss pc lv (.int y :: .int x :: st) h := fun H locs ls hH hS hL => lv_iushr C.1 C.2.1 hd rfl (by rw [hn]; exact k H locs ls hH hS hL)
theorem g_i2b {n : Nat} (C : GX K E cc nL own ret nm) {x : Int32} (hd : decode cc pc = .ok (.i2b, 1)) (hn : pc + 1 = n)  (k : G K E nL Q cs ss n lv (.int x.toInt8.toInt32 :: st) h) : G K E nL Q cs ss pc lv (.int x :: st) h := fun H locs ls hH hS hL => lv_i2b C.1 C.2.1 hd rfl (by rw [hn]; exact k H locs ls hH hS hL)
theorem g_i2c {n : Nat} (C : GX K E cc nL own ret nm) {x : Int32} (hd : decode cc pc = .ok (.i2c, 1)) (hn : pc + 1 = n)  (k : G K E nL Q cs ss n lv (.int (x.toUInt32 % 65536).toInt32 :: st) h) : G K E nL Q cs ss pc lv (.int x :: st) h := fun H locs ls hH hS hL => lv_i2c C.1 C.2.1 hd rfl (by rw [hn]; exact k H locs ls hH hS hL)
theorem g_i2l {n : Nat} (C : GX K E cc nL own ret nm) {x : Int32} (hd : decode cc pc = .ok (.i2l, 1)) (hn : pc + 1 = n)  (k : G K E nL Q cs ss n lv (.long x.toInt64 :: st) h) : G K E nL Q cs ss pc lv (.int x :: st) h := fun H locs ls hH hS hL => lv_i2l C.1 C.2.1 hd rfl (by rw [hn]; exact k H locs ls hH hS hL)
theorem g_lcmp {n : Nat} (C : GX K E cc nL own ret nm) {x y : Int64} (hd : decode cc pc = .ok (.lcmp, 1)) (hn : pc + 1 = n)  (k : G K E nL Q cs ss n lv (.int (lg_cmp x y) :: st) h) : G K E nL Q cs ss pc lv (.long y :: .long x :: st) h := fun H locs ls hH hS hL => W.lcmp C.1 C.2.1 hd  (by rw [hn]; exact k H locs ls hH hS hL)
theorem g_dup {n : Nat} (C : GX K E cc nL own ret nm) {a : Value} (hd : decode cc pc = .ok (.dup, 1)) (hn : pc + 1 = n) (hc : a.category = 1) (k : G K E nL Q cs ss n lv (a :: a :: st) h) : G K E nL Q cs ss pc lv (a :: st) h := fun H locs ls hH hS hL => lv_dup C.1 C.2.1 hd hc (by rw [hn]; exact k H locs ls hH hS hL)
theorem g_pop {n : Nat} (C : GX K E cc nL own ret nm) {a : Value} (hd : decode cc pc = .ok (.pop, 1)) (hn : pc + 1 = n) (hc : a.category = 1) (k : G K E nL Q cs ss n lv (st) h) : G K E nL Q cs ss pc lv (a :: st) h := fun H locs ls hH hS hL => lv_pop C.1 C.2.1 hd hc (by rw [hn]; exact k H locs ls hH hS hL)
theorem g_dup_x1 {n : Nat} (C : GX K E cc nL own ret nm) {a b : Value} (hd : decode cc pc = .ok (.dup_x1, 1)) (hn : pc + 1 = n) (hc : a.category = 1) (hc2 : b.category = 1) (k : G K E nL Q cs ss n lv (a :: b :: a :: st) h) : G K E nL Q cs ss pc lv (a :: b :: st) h := fun H locs ls hH hS hL => lv_dup_x1 C.1 C.2.1 hd hc hc2 (by rw [hn]; exact k H locs ls hH hS hL)
theorem g_dup2 {n : Nat} (C : GX K E cc nL own ret nm) {a b : Value} (hd : decode cc pc = .ok (.dup2, 1)) (hn : pc + 1 = n) (hc : a.category = 1) (hc2 : b.category = 1) (k : G K E nL Q cs ss n lv (a :: b :: a :: b :: st) h) : G K E nL Q cs ss pc lv (a :: b :: st) h := fun H locs ls hH hS hL => lv_dup2_11 C.1 C.2.1 hd hc hc2 (by rw [hn]; exact k H locs ls hH hS hL)
theorem g_istore_n {n : Nat} (C : GX K E cc nL own ret nm) {i : Fin 4} {x : Int32} (hd : decode cc pc = .ok (.istore_n i, 1)) (hn : pc + 1 = n) (hi : i.val < nL) (k : G K E nL Q cs ss n (lvs lv i.val (.int x)) st h) : G K E nL Q cs ss pc lv (.int x :: st) h := fun H locs ls hH hS hL => lv_istore_n C.1 C.2.1 hd rfl hL hi rfl (fun ls9 hL9 => by rw [hn]; exact k H locs ls9 hH hS hL9)
theorem g_istore {n : Nat} (C : GX K E cc nL own ret nm) {i : Nat} {x : Int32} (hd : decode cc pc = .ok (.istore i, 2)) (hn : pc + 2 = n) (hi : i < nL) (k : G K E nL Q cs ss n (lvs lv i (.int x)) st h) : G K E nL Q cs ss pc lv (.int x :: st) h := fun H locs ls hH hS hL => lv_istore C.1 C.2.1 hd  hL hi rfl (fun ls9 hL9 => by rw [hn]; exact k H locs ls9 hH hS hL9)
theorem g_astore_n {n : Nat} (C : GX K E cc nL own ret nm) {i : Fin 4} {x : Nat} (hd : decode cc pc = .ok (.astore_n i, 1)) (hn : pc + 1 = n) (hi : i.val < nL) (k : G K E nL Q cs ss n (lvs lv i.val (.ref x)) st h) : G K E nL Q cs ss pc lv (.ref x :: st) h := fun H locs ls hH hS hL => lv_astore_n C.1 C.2.1 hd rfl hL hi rfl (fun ls9 hL9 => by rw [hn]; exact k H locs ls9 hH hS hL9)
theorem g_astore {n : Nat} (C : GX K E cc nL own ret nm) {i : Nat} {x : Nat} (hd : decode cc pc = .ok (.astore i, 2)) (hn : pc + 2 = n) (hi : i < nL) (k : G K E nL Q cs ss n (lvs lv i (.ref x)) st h) : G K E nL Q cs ss pc lv (.ref x :: st) h := fun H locs ls hH hS hL => lv_astore C.1 C.2.1 hd  hL hi rfl (fun ls9 hL9 => by rw [hn]; exact k H locs ls9 hH hS hL9)
theorem lvk_get {lv : List (Nat × Value)} {i : Nat} {v : Value} (e : lvk lv i = some v) : ∃ k : Nat, lv[k]? = some (i, v) := List.getElem?_of_mem (lvk_mem e)
theorem g_iinc {n : Nat} (C : GX K E cc nL own ret nm) {i : Nat} {z : Int} {x v : Int32} (hd : decode cc pc = .ok (.iinc i z, 3)) (hn : pc + 3 = n) (hl : lvk lv i = some (.int x)) (hv : x + Int32.ofInt z = v) (hi : i < nL) (k : G K E nL Q cs ss n (lvs lv i (.int v)) st h) : G K E nL Q cs ss pc lv st h := fun H locs ls hH hS hL => by
  obtain ⟨q, hq⟩ := lvk_get hl
  exact lv_iinc C.1 C.2.1 hd hL hq hv hi rfl (fun ls9 hL9 => by rw [hn]; exact k H locs ls9 hH hS hL9)
theorem g_if_eq {n t : Nat} (C : GX K E cc nL own ret nm) {off : Int} {x : Int32} (hd : decode cc pc = .ok (.ifCond .eq off, 3)) (hn : pc + 3 = n) (ht : (pc : Int) + off = (t : Int)) (kt : x = 0 → G K E nL Q cs ss t lv st h) (kf : ¬ x = 0 → G K E nL Q cs ss n lv st h) : G K E nL Q cs ss pc lv (.int x :: st) h := fun H locs ls hH hS hL => lv_if_eq C.1 C.2.1 hd ht (fun q => kt q H locs ls hH hS hL) (fun q => by rw [hn]; exact kf q H locs ls hH hS hL)
theorem g_if_lt {n t : Nat} (C : GX K E cc nL own ret nm) {off : Int} {x : Int32} (hd : decode cc pc = .ok (.ifCond .lt off, 3)) (hn : pc + 3 = n) (ht : (pc : Int) + off = (t : Int)) (kt : x < 0 → G K E nL Q cs ss t lv st h) (kf : ¬ x < 0 → G K E nL Q cs ss n lv st h) : G K E nL Q cs ss pc lv (.int x :: st) h := fun H locs ls hH hS hL => lv_if_lt C.1 C.2.1 hd ht (fun q => kt q H locs ls hH hS hL) (fun q => by rw [hn]; exact kf q H locs ls hH hS hL)
theorem g_if_ge {n t : Nat} (C : GX K E cc nL own ret nm) {off : Int} {x : Int32} (hd : decode cc pc = .ok (.ifCond .ge off, 3)) (hn : pc + 3 = n) (ht : (pc : Int) + off = (t : Int)) (kt : 0 ≤ x → G K E nL Q cs ss t lv st h) (kf : ¬ 0 ≤ x → G K E nL Q cs ss n lv st h) : G K E nL Q cs ss pc lv (.int x :: st) h := fun H locs ls hH hS hL => lv_if_ge C.1 C.2.1 hd ht (fun q => kt q H locs ls hH hS hL) (fun q => by rw [hn]; exact kf q H locs ls hH hS hL)
theorem g_if_gt {n t : Nat} (C : GX K E cc nL own ret nm) {off : Int} {x : Int32} (hd : decode cc pc = .ok (.ifCond .gt off, 3)) (hn : pc + 3 = n) (ht : (pc : Int) + off = (t : Int)) (kt : 0 < x → G K E nL Q cs ss t lv st h) (kf : ¬ 0 < x → G K E nL Q cs ss n lv st h) : G K E nL Q cs ss pc lv (.int x :: st) h := fun H locs ls hH hS hL => lv_if_gt C.1 C.2.1 hd ht (fun q => kt q H locs ls hH hS hL) (fun q => by rw [hn]; exact kf q H locs ls hH hS hL)
theorem g_if_le {n t : Nat} (C : GX K E cc nL own ret nm) {off : Int} {x : Int32} (hd : decode cc pc = .ok (.ifCond .le off, 3)) (hn : pc + 3 = n) (ht : (pc : Int) + off = (t : Int)) (kt : x ≤ 0 → G K E nL Q cs ss t lv st h) (kf : ¬ x ≤ 0 → G K E nL Q cs ss n lv st h) : G K E nL Q cs ss pc lv (.int x :: st) h := fun H locs ls hH hS hL => lv_if_le C.1 C.2.1 hd ht (fun q => kt q H locs ls hH hS hL) (fun q => by rw [hn]; exact kf q H locs ls hH hS hL)
theorem g_icmp_eq {n t : Nat} (C : GX K E cc nL own ret nm) {off : Int} {x y : Int32} (hd : decode cc pc = .ok (.if_icmp .eq off, 3)) (hn : pc + 3 = n) (ht : (pc : Int) + off = (t : Int)) (kt : x = y → G K E nL Q cs ss t lv st h) (kf : ¬ x = y → G K E nL Q cs ss n lv st h) : G K E nL Q cs ss pc lv (.int y :: .int x :: st) h := fun H locs ls hH hS hL => lv_icmp_eq C.1 C.2.1 hd ht (fun q => kt q H locs ls hH hS hL) (fun q => by rw [hn]; exact kf q H locs ls hH hS hL)
theorem g_icmp_lt {n t : Nat} (C : GX K E cc nL own ret nm) {off : Int} {x y : Int32} (hd : decode cc pc = .ok (.if_icmp .lt off, 3)) (hn : pc + 3 = n) (ht : (pc : Int) + off = (t : Int)) (kt : x < y → G K E nL Q cs ss t lv st h) (kf : ¬ x < y → G K E nL Q cs ss n lv st h) : G K E nL Q cs ss pc lv (.int y :: .int x :: st) h := fun H locs ls hH hS hL => lv_icmp_lt C.1 C.2.1 hd ht (fun q => kt q H locs ls hH hS hL) (fun q => by rw [hn]; exact kf q H locs ls hH hS hL)
theorem g_icmp_ge {n t : Nat} (C : GX K E cc nL own ret nm) {off : Int} {x y : Int32} (hd : decode cc pc = .ok (.if_icmp .ge off, 3)) (hn : pc + 3 = n) (ht : (pc : Int) + off = (t : Int)) (kt : y ≤ x → G K E nL Q cs ss t lv st h) (kf : ¬ y ≤ x → G K E nL Q cs ss n lv st h) : G K E nL Q cs ss pc lv (.int y :: .int x :: st) h := fun H locs ls hH hS hL => lv_icmp_ge C.1 C.2.1 hd ht (fun q => kt q H locs ls hH hS hL) (fun q => by rw [hn]; exact kf q H locs ls hH hS hL)
theorem g_icmp_gt {n t : Nat} (C : GX K E cc nL own ret nm) {off : Int} {x y : Int32} (hd : decode cc pc = .ok (.if_icmp .gt off, 3)) (hn : pc + 3 = n) (ht : (pc : Int) + off = (t : Int)) (kt : y < x → G K E nL Q cs ss t lv st h) (kf : ¬ y < x → G K E nL Q cs ss n lv st h) : G K E nL Q cs ss pc lv (.int y :: .int x :: st) h := fun H locs ls hH hS hL => lv_icmp_gt C.1 C.2.1 hd ht (fun q => kt q H locs ls hH hS hL) (fun q => by rw [hn]; exact kf q H locs ls hH hS hL)
theorem g_icmp_le {n t : Nat} (C : GX K E cc nL own ret nm) {off : Int} {x y : Int32} (hd : decode cc pc = .ok (.if_icmp .le off, 3)) (hn : pc + 3 = n) (ht : (pc : Int) + off = (t : Int)) (kt : x ≤ y → G K E nL Q cs ss t lv st h) (kf : ¬ x ≤ y → G K E nL Q cs ss n lv st h) : G K E nL Q cs ss pc lv (.int y :: .int x :: st) h := fun H locs ls hH hS hL => lv_icmp_le C.1 C.2.1 hd ht (fun q => kt q H locs ls hH hS hL) (fun q => by rw [hn]; exact kf q H locs ls hH hS hL)
theorem g_if_ne {n t : Nat} (C : GX K E cc nL own ret nm) {off : Int} {x : Int32} (hd : decode cc pc = .ok (.ifCond .ne off, 3)) (hn : pc + 3 = n) (ht : (pc : Int) + off = (t : Int)) (kt : ¬ x = 0 → G K E nL Q cs ss t lv st h) (kf : x = 0 → G K E nL Q cs ss n lv st h) : G K E nL Q cs ss pc lv (.int x :: st) h := fun H locs ls hH hS hL => lv_if_ne C.1 C.2.1 hd ht (fun q => kt q H locs ls hH hS hL) (fun q => by rw [hn]; exact kf q H locs ls hH hS hL)
theorem g_icmp_ne {n t : Nat} (C : GX K E cc nL own ret nm) {off : Int} {x y : Int32} (hd : decode cc pc = .ok (.if_icmp .ne off, 3)) (hn : pc + 3 = n) (ht : (pc : Int) + off = (t : Int)) (kt : ¬ x = y → G K E nL Q cs ss t lv st h) (kf : x = y → G K E nL Q cs ss n lv st h) : G K E nL Q cs ss pc lv (.int y :: .int x :: st) h := fun H locs ls hH hS hL => lv_icmp_ne C.1 C.2.1 hd ht (fun q => kt q H locs ls hH hS hL) (fun q => by rw [hn]; exact kf q H locs ls hH hS hL)
theorem g_goto {t : Nat} (C : GX K E cc nL own ret nm) {off : Int} (hd : decode cc pc = .ok (.goto off, 3)) (ht : (pc : Int) + off = (t : Int)) (k : G K E nL Q cs ss t lv st h) : G K E nL Q cs ss pc lv st h := fun H locs ls hH hS hL => lv_goto C.1 C.2.1 hd ht (k H locs ls hH hS hL)
theorem g_tableOut {t : Nat} (C : GX K E cc nL own ret nm) {dflt lo hi : Int} {offs : Array Int} {len : Nat} {x : Int32} (hd : decode cc pc = .ok (.tableswitch dflt lo hi offs, len)) (hq : x.toInt < lo ∨ hi < x.toInt) (ht : (pc : Int) + dflt = (t : Int)) (k : G K E nL Q cs ss t lv st h) : G K E nL Q cs ss pc lv (.int x :: st) h := fun H locs ls hH hS hL => lv_tableOut C.1 C.2.1 hd hq ht (k H locs ls hH hS hL)
theorem g_tableIn {t : Nat} (C : GX K E cc nL own ret nm) {dflt lo hi : Int} {offs : Array Int} {len : Nat} {x : Int32} {off : Int} (hd : decode cc pc = .ok (.tableswitch dflt lo hi offs, len)) (h1 : ¬ x.toInt < lo) (h2 : ¬ hi < x.toInt) (ho : offs[(x.toInt - lo).toNat]? = some off) (ht : (pc : Int) + off = (t : Int)) (k : G K E nL Q cs ss t lv st h) : G K E nL Q cs ss pc lv (.int x :: st) h := fun H locs ls hH hS hL => lv_tableIn C.1 C.2.1 hd h1 h2 ho ht (k H locs ls hH hS hL)
end GR
