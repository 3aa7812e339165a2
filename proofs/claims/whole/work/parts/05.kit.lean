def SLEN : List Nat := [5, 4, 4, 5, 5, 4, 7, 6, 5, 7, 4]
def SBYT : List (List Int32) := [[97, 112, 97, 114, 116], [102, 105, 108, 108], [98, 111, 110, 100], [99, 111, 115, 116, 115], [102, 105, 114, 115, 116], [108, 97, 110, 100], [108, 105, 99, 101, 110, 99, 101], [108, 101, 110, 100, 101, 114], [117, 110, 116, 105, 108], [100, 105, 103, 103, 101, 114, 115], [112, 117, 109, 112]]
/-- the String constants: class, entry, text, where E keeps the address -/
def SREF : List (String × Nat × String × Nat) := [("GemPits", 59, "a step is 0 to 100", 200), ("GemPits$Agreement", 15, "costs", 23), ("GemPits$Agreement", 23, "first", 24), ("GemPits$Agreement", 33, "land", 25), ("GemPits$Agreement", 39, "licence", 26), ("GemPits$Agreement", 41, "lender", 27), ("GemPits$Agreement", 43, "until", 28), ("GemPits$Agreement", 49, "diggers", 29), ("GemPits$Agreement", 51, "pump", 30), ("GemPits$Law", 20, "apart", 20), ("GemPits$Law", 31, "fill", 21), ("GemPits$Law", 33, "bond", 22), ("GemPits", 80, "the text of the law is wrong", 201), ("GemPits", 89, "the text of the agreement is wrong", 202), ("GemPits", 306, "a square is 0 to 95", 203), ("GemPits", 103, "there are 30 pits", 204), ("GemPits", 296, "there is no such pit", 205), ("GemPits", 117, "gravel is 0 to 100", 206), ("GemPits", 131, "days are 0 to 1000", 207), ("GemPits", 168, "a pit tells 0 to 5", 208), ("GemPits", 171, "a basket is 0 to 99", 209), ("GemPits", 175, "the pit found nothing", 210), ("GemPits", 181, "there are 60 stones", 211), ("GemPits", 192, "money laid out is 0 to 100000, costs 10000000 at most", 212), ("GemPits", 301, "there is no such stone", 213), ("GemPits", 203, "a buyer is 0 to 5", 214), ("GemPits", 309, "money is 0 to 1000000", 215), ("GemPits", 237, "a stone tells 0 to 9", 216), ("GemPits", 243, "a rough is 1 to 10 wide and 1 to 8 high", 217), ("GemPits", 252, "the rough has no such cell", 218), ("GemPitsModel", 121, "apart", 20), ("GemPitsModel", 130, "fill", 21), ("GemPitsModel", 132, "bond", 22), ("GemPitsModel", 134, "costs", 23), ("GemPitsModel", 136, "first", 24), ("GemPitsModel", 138, "land", 25), ("GemPitsModel", 140, "licence", 26), ("GemPitsModel", 142, "diggers", 29), ("GemPitsModel", 144, "pump", 30), ("GemPitsModel", 146, "lender", 27), ("GemPitsModel", 148, "until", 28)]
/-! MY LAYER: abstract heaps (address to thing), one context a body (GX), a judgement G over both; rows that need nothing but the code -/
abbrev AH : Type := Nat → Option va_E
def hset (h : AH) (a : Nat) (e : va_E) : AH := fun b => if b = a then some e else h b
theorem hset_same (h : AH) (a : Nat) (e : va_E) : hset h a e a = some e := if_pos rfl
theorem hset_ne (h : AH) {a b : Nat} (e : va_E) (n : b ≠ a) : hset h a e b = h b := if_neg n
theorem hset_hset (h : AH) (a : Nat) (e e' : va_E) : hset (hset h a e) a e' = hset h a e' := by
  funext b
  unfold hset
  by_cases q : b = a
  · rw [if_pos q, if_pos q]
  · rw [if_neg q, if_neg q, if_neg q]
/-- the run's own numbers: where its heap begins, the classes' ids and slots, the arrays' classes and the constants' addresses -/
abbrev Ev : Type := Nat × va_G × (Nat → Nat)
def eA (E : Ev) : Nat → Prop := fun q => E.1 ≤ q
def eT (E : Ev) : List (ClassId × FieldType) := [(E.2.2 0, .byte), (E.2.2 1, .int), (E.2.2 2, .boolean), (E.2.2 3, .object "java/lang/Object"), (E.2.2 4, .long)]
def hOK (E : Ev) (h : AH) (H : Heap) : Prop := ∀ a e, h a = some e → va_at E.2.1 vwCl (a, e) H ∧ E.1 ≤ a
/-- words that only the tables speak of, which later tables keep -/
def tword : Cond → Bool
  | .castable _ _ => true
  | .declares _ => true
  | .methodLinkNest _ _ _ _ => true
  | .privateMethod _ => true
  | _ => false
def TW : List Cond := lw_tbl.filter tword
theorem twm {w : Cond} (i : Nat) (h : lw_tbl[i]? = some w) (g : tword w = true) : w ∈ TW := List.mem_filter.mpr ⟨List.mem_of_getElem? h, g⟩
theorem priv_warm {args args' : Array Value} {s U : State} {y : MethodName} (hW : s.WarmedH U.vm) (h : (Cond.privateMethod y).before args s = true) : (Cond.privateMethod y).before args' U = true := by
  have hal := hW.alike
  have e1 : U.methodNamed? y = s.methodNamed? y := by rw [State.methodNamed?_of_vm (show U.vm = (s.setVm U.vm).vm from rfl), State.methodNamed?_setVm hal]
  have e2 : U.vm.method? = s.vm.method? := funext hal.method?
  simp only [Cond.before, Cond.holds, Cond.value] at h ⊢
  rw [e1, e2]; exact h
theorem tword_warm {s U : State} {w : Cond} (g : tword w = true) (hW : s.WarmedH U.vm) (h : va_Nw w s) : va_Nw w U := by
  cases w <;> first | exact va_Nw.warmC hW h | exact va_Nw.warmD hW h | exact va_Nw.warmM hW h | exact priv_warm hW h | (exact (nomatch g)) | (simp [tword] at g)
def EXC : List String := ["java/lang/IllegalArgumentException", "java/lang/IndexOutOfBoundsException", "java/lang/UnsupportedOperationException", "java/util/NoSuchElementException", "java/lang/IllegalStateException"]
/-- what the start says of the machine's own things, and nobody changes -/
def zOK (E : Ev) (U : State) (H : Heap) : Prop :=
  vx_Zq Bundle.tN "UNASSIGNED_STACK" Bundle.steD (eA E) U H ∧ vx_Zq Bundle.tN "SUPPRESSED_SENTINEL" Bundle.listD (eA E) U H ∧
  va_Z "java/util/ArrayList" "DEFAULTCAPACITY_EMPTY_ELEMENTDATA" "[Ljava/lang/Object;" (.ref (E.2.2 10)) (eA E) U H ∧
  va_T (.object "java/lang/Object") (E.2.2 10) 0 (fun _ => .null) (eA E) U H ∧
  va_Z "java/lang/String" "COMPACT_STRINGS" "Z" (.int 1) (eA E) U H ∧
  va_Zq "jdk/internal/util/Preconditions" "SIOOBE_FORMATTER" "Ljava/util/function/BiFunction;" (eA E) U H ∧
  vk_S 11 SLEN SBYT (fun i => E.2.2 (20 + i)) (fun i => E.2.2 (40 + i)) (eA E) U H ∧
  (∀ q ∈ SREF, vk_R q.1 q.2.1 q.2.2.1 (E.2.2 q.2.2.2) U) ∧
  va_AO "java/lang/Object" U ∧ va_Mi "[Ljava/lang/Object;" (E.2.2 11) U ∧
  (∀ w ∈ TW, va_Nw w U) ∧
  (∀ a ∈ EXC, ∀ b ∈ EXC, a ≠ b → va_Nc a b U)
theorem zOK.go {E : Ev} {s U : State} {H0 H : Heap} (h : zOK E s H0) (hq : ∀ a : Nat, a < H0.size → ¬ eA E a → H[a]? = H0[a]?) (hW : s.WarmedH U.vm) : zOK E U H := by
  obtain ⟨h1, h2, h3, h4, h5, h6, h7, h8, h9, h10, h11, h12⟩ := h
  exact ⟨(h1.kept hq).moved hW.alike, (h2.kept hq).moved hW.alike, (h3.kept hq).moved hW.alike, (h4.kept hq).moved hW.alike, (h5.kept hq).moved hW.alike, (h6.kept hq).moved hW.alike, (h7.kept hq).moved hW.alike, fun q hq9 => vk_R.warm hW (h8 q hq9), h9.moved hW.alike, h10.moved hW.alike, fun w hw => tword_warm (List.mem_filter.mp hw).2 hW (h11 w hw), fun a ha b hb n => (h12 a ha b hb n).moved hW.alike⟩
/-- what a method is given: its heap holds h, from E.1 on -/
def wOK (E : Ev) (h : AH) (U : State) (H : Heap) : Prop := E.1 ≤ H.size ∧ hOK E h H ∧ va_K E.2.1 vwCl (eT E) U ∧ zOK E U H
theorem wOK.blind {E : Ev} {h : AH} {U : State} (q : wOK E h U U.heap) (g : JFrame) (mk : MethodId) (a : Array Value) : wOK E h (U.calling g mk a) (U.calling g mk a).heap :=
  ⟨q.1, q.2.1, va_K.moved (u := U) (U := U.calling g mk a) (Vm.Alike.refl U.vm) q.2.2.1, q.2.2.2.go (U := U.calling g mk a) (fun _ _ _ => rfl) (State.WarmedH.refl U)⟩
abbrev Cx : Type := Program × Launch × Env × Room × State × MethodId × Array Value × List Frame × Method × Code
abbrev kp (K : Cx) : Program := K.1
abbrev kl (K : Cx) : Launch := K.2.1
abbrev ke (K : Cx) : Env := K.2.2.1
abbrev kR (K : Cx) : Room := K.2.2.2.1
abbrev ks (K : Cx) : State := K.2.2.2.2.1
abbrev km (K : Cx) : MethodId := K.2.2.2.2.2.1
abbrev ka (K : Cx) : Array Value := K.2.2.2.2.2.2.1
abbrev kb (K : Cx) : List Frame := K.2.2.2.2.2.2.2.1
abbrev kM (K : Cx) : Method := K.2.2.2.2.2.2.2.2.1
abbrev kc (K : Cx) : Code := K.2.2.2.2.2.2.2.2.2
def GX (K : Cx) (E : Ev) (cc : ByteArray) (nL : Nat) (own : String) (ret : Option FieldType) (nm : String) : Prop :=
  (kp K).tables.exec = Jvm.exec ∧ (kc K).code = cc ∧ (kc K).maxLocals = nL ∧ (ks K).vm.findClass own = some (km K).cls ∧ (∀ w ∈ GW, w.before (ka K) (ks K) = true) ∧
  (kM K).sig.returnType = ret ∧ (kM K).locks = false ∧ (kM K).name = nm ∧ E.1 ≤ (ks K).heap.size ∧ va_K E.2.1 vwCl (eT E) (ks K) ∧ zOK E (ks K) (ks K).heap
def lvk (lv : List (Nat × Value)) (i : Nat) : Option Value := match lv with
  | [] => none
  | (j, v) :: r => if j = i then some v else lvk r i
/-- the locals: what the list says first of a place stands there; numbers of one slot and references alone -/
def lok (ls : Array Slot) (nL : Nat) (lv : List (Nat × Value)) : Prop := ls.size = nL ∧ lv_wf ls ∧ ∀ i v, lvk lv i = some v → ls[i]? = some (.val v) ∧ v.category = 1
def lvs (lv : List (Nat × Value)) (i : Nat) (v : Value) : List (Nat × Value) := (i, v) :: lv
theorem lvk_at {ls : Array Slot} {nL : Nat} {lv : List (Nat × Value)} (h : lok ls nL lv) {i : Nat} {v : Value} (e : lvk lv i = some v) : ls[i]? = some (.val v) := (h.2.2 i v e).1
def lvp (lv : List (Nat × Value)) (is : List Nat) : List (Nat × Value) := is.filterMap (fun i => (lvk lv i).map (fun v => (i, v)))
theorem lvp_mem {lv : List (Nat × Value)} {is : List Nat} {i : Nat} {v : Value} (h : (i, v) ∈ lvp lv is) : lvk lv i = some v := by
  obtain ⟨j, -, hj⟩ := List.mem_filterMap.mp h
  cases e : lvk lv j with
  | none => rw [e] at hj; cases hj
  | some w =>
    rw [e] at hj
    cases hj
    exact e
theorem lvk_mem {lv : List (Nat × Value)} {i : Nat} {v : Value} (h : lvk lv i = some v) : (i, v) ∈ lv := by
  induction lv with
  | nil => cases h
  | cons a r ih =>
    obtain ⟨j, w⟩ := a
    unfold lvk at h
    by_cases e : j = i
    · rw [if_pos e] at h
      cases h
      rw [e]
      exact List.mem_cons_self
    · rw [if_neg e] at h
      exact List.mem_cons_of_mem _ (ih h)
theorem lvp_has {ls : Array Slot} {nL : Nat} {lv : List (Nat × Value)} (h : lok ls nL lv) (is : List Nat) : lok ls nL (lvp lv is) := ⟨h.1, h.2.1, fun i v e => h.2.2 i v (lvp_mem (lvk_mem e))⟩
theorem lok_list {ls : Array Slot} {nL : Nat} {lv : List (Nat × Value)} (h : lok ls nL lv) : lv_has ls nL (lvp lv (List.range nL)) := ⟨h.1, h.2.1, fun q hq => (h.2.2 q.1 q.2 (lvp_mem hq)).1⟩
theorem lvp_in {ls : Array Slot} {nL : Nat} {lv : List (Nat × Value)} (h : lok ls nL lv) {i : Nat} {v : Value} (e : lvk lv i = some v) : (i, v) ∈ lvp lv (List.range nL) := by
  refine List.mem_filterMap.mpr ⟨i, List.mem_range.mpr ?_, by rw [e]; rfl⟩
  have := (Array.getElem?_eq_some_iff.mp (h.2.2 i v e).1).1
  rw [h.1] at this
  exact this
theorem lok_set {ls ls' : Array Slot} {nL : Nat} {lv : List (Nat × Value)} (h : lok ls nL lv) {i : Nat} {v : Value} (hc : v.category = 1) (h' : lv_has ls' nL ((i, v) :: (lvp lv (List.range nL)).filter (fun q => !(q.1 == i) && !(q.1 + 1 == i && q.2.category == 2)))) : lok ls' nL (lvs lv i v) := by
  refine ⟨h'.1, h'.2.1, fun j w e => ?_⟩
  unfold lvs lvk at e
  by_cases q : i = j
  · rw [if_pos q] at e
    cases e
    subst q
    exact ⟨h'.2.2 (i, v) List.mem_cons_self, hc⟩
  · rw [if_neg q] at e
    have hw := (h.2.2 j w e).2
    refine ⟨h'.2.2 (j, w) (List.mem_cons_of_mem _ (List.mem_filter.mpr ⟨lvp_in h e, ?_⟩)), hw⟩
    have q2 : (j == i) = false := beq_eq_false_iff_ne.mpr (fun z => q z.symm)
    show (!(j == i) && !(j + 1 == i && w.category == 2)) = true
    rw [q2, hw]
    simp
def G (K : Cx) (E : Ev) (nL : Nat) (Q : State → Prop) (cs ss pc : Nat) (lv : List (Nat × Value)) (st : List Value) (h : AH) : Prop :=
  ∀ (H : Heap) (locs : List Loc) (ls : Array Slot), hOK E h H → va_S (eA E) (ks K).heap H locs → lok ls nL lv →
    W (kp K) (kl K) (ke K) (kR K) (ks K) (km K) (ka K) (kb K) (kM K) (kc K) H locs cs ss Q (F0 (km K) pc ls st)
section GR
variable {K : Cx} {E : Ev} {cc : ByteArray} {nL : Nat} {own : String} {ret : Option FieldType} {nm : String} {Q : State → Prop} {cs ss pc : Nat} {lv : List (Nat × Value)} {st : List Value} {h : AH}
/-- fewer locals, told by their places -/
theorem g_lv (is : List Nat) {lv' : List (Nat × Value)} (e : lvp lv is = lv') (k : G K E nL Q cs ss pc lv' st h) : G K E nL Q cs ss pc lv st h := fun H locs ls hH hS hL => k H locs ls hH hS (e ▸ lvp_has hL is)
theorem g_wide {c' s' : Nat} (h1 : cs ≤ c') (h2 : ss ≤ s') (k : G K E nL Q c' s' pc lv st h) : G K E nL Q cs ss pc lv st h := fun H locs ls hH hS hL => W.widen h1 h2 (k H locs ls hH hS hL)
theorem GX.gw (C : GX K E cc nL own ret nm) {w : Cond} (hw : w ∈ GW) : w.before (ka K) (ks K) = true := C.2.2.2.2.1 w hw
theorem GX.ow (C : GX K E cc nL own ret nm) : (ks K).vm.findClass own = some (km K).cls := C.2.2.2.1
theorem GX.k (C : GX K E cc nL own ret nm) : va_K E.2.1 vwCl (eT E) (ks K) := C.2.2.2.2.2.2.2.2.2.1
theorem GX.z (C : GX K E cc nL own ret nm) : zOK E (ks K) (ks K).heap := C.2.2.2.2.2.2.2.2.2.2
theorem GX.n0 (C : GX K E cc nL own ret nm) : E.1 ≤ (ks K).heap.size := C.2.2.2.2.2.2.2.2.1
theorem GX.rt (C : GX K E cc nL own ret nm) : (kM K).sig.returnType = ret := C.2.2.2.2.2.1
theorem GX.locks (C : GX K E cc nL own ret nm) : (kM K).locks = false := C.2.2.2.2.2.2.1
theorem GX.name (C : GX K E cc nL own ret nm) : (kM K).name = nm := C.2.2.2.2.2.2.2.1
theorem GX.ml (C : GX K E cc nL own ret nm) : (kc K).maxLocals = nL := C.2.2.1
theorem eA_old (C : GX K E cc nL own ret nm) : ∀ q, (ks K).heap.size ≤ q → eA E q := fun q hq => Nat.le_trans C.n0 hq
theorem g_iconst {n : Nat} (C : GX K E cc nL own ret nm) {z : Int} {v : Int32} (hd : decode cc pc = .ok (.iconst z, 1)) (hn : pc + 1 = n) (hv : Int32.ofInt z = v) (k : G K E nL Q cs ss n lv (.int v :: st) h) : G K E nL Q cs ss pc lv (st) h := fun H locs ls hH hS hL => lv_iconst C.1 C.2.1 hd hv (by rw [hn]; exact k H locs ls hH hS hL)
theorem g_bipush {n : Nat} (C : GX K E cc nL own ret nm) {z : Int} {v : Int32} (hd : decode cc pc = .ok (.bipush z, 2)) (hn : pc + 2 = n) (hv : (Int8.ofInt z).toInt32 = v) (k : G K E nL Q cs ss n lv (.int v :: st) h) : G K E nL Q cs ss pc lv (st) h := fun H locs ls hH hS hL => lv_bipush C.1 C.2.1 hd hv (by rw [hn]; exact k H locs ls hH hS hL)
theorem g_sipush {n : Nat} (C : GX K E cc nL own ret nm) {z : Int} {v : Int32} (hd : decode cc pc = .ok (.sipush z, 3)) (hn : pc + 3 = n) (hv : (Int16.ofInt z).toInt32 = v) (k : G K E nL Q cs ss n lv (.int v :: st) h) : G K E nL Q cs ss pc lv (st) h := fun H locs ls hH hS hL => lv_sipush C.1 C.2.1 hd hv (by rw [hn]; exact k H locs ls hH hS hL)
theorem g_lconst {n : Nat} (C : GX K E cc nL own ret nm) {z : Fin 2} {v : Int64} (hd : decode cc pc = .ok (.lconst z, 1)) (hn : pc + 1 = n) (hv : Int64.ofNat (z : Nat) = v) (k : G K E nL Q cs ss n lv (.long v :: st) h) : G K E nL Q cs ss pc lv (st) h := fun H locs ls hH hS hL => lv_lconst C.1 C.2.1 hd hv (by rw [hn]; exact k H locs ls hH hS hL)
theorem g_null {n : Nat} (C : GX K E cc nL own ret nm)  (hd : decode cc pc = .ok (.aconst_null, 1)) (hn : pc + 1 = n)  (k : G K E nL Q cs ss n lv (.null :: st) h) : G K E nL Q cs ss pc lv (st) h := fun H locs ls hH hS hL => lv_null C.1 C.2.1 hd  (by rw [hn]; exact k H locs ls hH hS hL)
theorem g_ldc {n : Nat} (C : GX K E cc nL own ret nm) {i : Nat} {v : Int32} (hd : decode cc pc = .ok (.ldc i, 2)) (hn : pc + 2 = n) (hw : Cond.constant own i v ∈ GW) (k : G K E nL Q cs ss n lv (.int v :: st) h) : G K E nL Q cs ss pc lv (st) h := fun H locs ls hH hS hL => lv_ldc C.1 C.2.1 C.ow (C.gw hw) hd (by rw [hn]; exact k H locs ls hH hS hL)
theorem g_iload_n {n : Nat} (C : GX K E cc nL own ret nm) {i : Fin 4} {x : Int32} (hd : decode cc pc = .ok (.iload_n i, 1)) (hn : pc + 1 = n) (hl : lvk lv i.val = some (.int x)) (k : G K E nL Q cs ss n lv (.int x :: st) h) : G K E nL Q cs ss pc lv (st) h := fun H locs ls hH hS hL => lv_iload_n C.1 C.2.1 hd rfl (lvk_at hL hl) (by rw [hn]; exact k H locs ls hH hS hL)
theorem g_iload {n : Nat} (C : GX K E cc nL own ret nm) {i : Nat} {x : Int32} (hd : decode cc pc = .ok (.iload i, 2)) (hn : pc + 2 = n) (hl : lvk lv i = some (.int x)) (k : G K E nL Q cs ss n lv (.int x :: st) h) : G K E nL Q cs ss pc lv (st) h := fun H locs ls hH hS hL => lv_iload C.1 C.2.1 hd (lvk_at hL hl) (by rw [hn]; exact k H locs ls hH hS hL)
theorem g_aload_n {n : Nat} (C : GX K E cc nL own ret nm) {i : Fin 4} {x : Nat} (hd : decode cc pc = .ok (.aload_n i, 1)) (hn : pc + 1 = n) (hl : lvk lv i.val = some (.ref x)) (k : G K E nL Q cs ss n lv (.ref x :: st) h) : G K E nL Q cs ss pc lv (st) h := fun H locs ls hH hS hL => lv_aload_n C.1 C.2.1 hd rfl (lvk_at hL hl) (by rw [hn]; exact k H locs ls hH hS hL)
theorem g_aload {n : Nat} (C : GX K E cc nL own ret nm) {i : Nat} {x : Nat} (hd : decode cc pc = .ok (.aload i, 2)) (hn : pc + 2 = n) (hl : lvk lv i = some (.ref x)) (k : G K E nL Q cs ss n lv (.ref x :: st) h) : G K E nL Q cs ss pc lv (st) h := fun H locs ls hH hS hL => lv_aload C.1 C.2.1 hd (lvk_at hL hl) (by rw [hn]; exact k H locs ls hH hS hL)
theorem g_iadd {n : Nat} (C : GX K E cc nL own ret nm) {x y : Int32} (hd : decode cc pc = .ok (.iadd, 1)) (hn : pc + 1 = n)  (k : G K E nL Q cs ss n lv (.int (x + y) :: st) h) : G K E nL Q cs ss pc lv (.int y :: .int x :: st) h := fun H locs ls hH hS hL => lv_iadd C.1 C.2.1 hd  (by rw [hn]; exact k H locs ls hH hS hL)
theorem g_isub {n : Nat} (C : GX K E cc nL own ret nm) {x y : Int32} (hd : decode cc pc = .ok (.isub, 1)) (hn : pc + 1 = n)  (k : G K E nL Q cs ss n lv (.int (x - y) :: st) h) : G K E nL Q cs ss pc lv (.int y :: .int x :: st) h := fun H locs ls hH hS hL => lv_isub C.1 C.2.1 hd  (by rw [hn]; exact k H locs ls hH hS hL)
theorem g_imul {n : Nat} (C : GX K E cc nL own ret nm) {x y : Int32} (hd : decode cc pc = .ok (.imul, 1)) (hn : pc + 1 = n)  (k : G K E nL Q cs ss n lv (.int (x * y) :: st) h) : G K E nL Q cs ss pc lv (.int y :: .int x :: st) h := fun H locs ls hH hS hL => lv_imul C.1 C.2.1 hd  (by rw [hn]; exact k H locs ls hH hS hL)
theorem g_iand {n : Nat} (C : GX K E cc nL own ret nm) {x y : Int32} (hd : decode cc pc = .ok (.iand, 1)) (hn : pc + 1 = n)  (k : G K E nL Q cs ss n lv (.int (x &&& y) :: st) h) : G K E nL Q cs ss pc lv (.int y :: .int x :: st) h := fun H locs ls hH hS hL => lv_iand C.1 C.2.1 hd  (by rw [hn]; exact k H locs ls hH hS hL)
theorem g_ior {n : Nat} (C : GX K E cc nL own ret nm) {x y : Int32} (hd : decode cc pc = .ok (.ior, 1)) (hn : pc + 1 = n)  (k : G K E nL Q cs ss n lv (.int (x ||| y) :: st) h) : G K E nL Q cs ss pc lv (.int y :: .int x :: st) h := fun H locs ls hH hS hL => lv_ior C.1 C.2.1 hd  (by rw [hn]; exact k H locs ls hH hS hL)
theorem g_ishl {n : Nat} (C : GX K E cc nL own ret nm) {x y : Int32} (hd : decode cc pc = .ok (.ishl, 1)) (hn : pc + 1 = n)  (k : G K E nL Q cs ss n lv (.int (x <<< (y &&& 31)) :: st) h) : G K E nL Q cs ss pc lv (.int y :: .int x :: st) h := fun H locs ls hH hS hL => lv_ishl C.1 C.2.1 hd  (by rw [hn]; exact k H locs ls hH hS hL)
theorem g_ishr {n : Nat} (C : GX K E cc nL own ret nm) {x y : Int32} (hd : decode cc pc = .ok (.ishr, 1)) (hn : pc + 1 = n)  (k : G K E nL Q cs ss n lv (.int (x >>> (y &&& 31)) :: st) h) : G K E nL Q cs ss pc lv (.int y :: .int x :: st) h := fun H locs ls hH hS hL => lv_ishr C.1 C.2.1 hd  (by rw [hn]; exact k H locs ls hH hS hL)
theorem g_idiv {n : Nat} (C : GX K E cc nL own ret nm) {x y : Int32} (hd : decode cc pc = .ok (.idiv, 1)) (hn : pc + 1 = n) (hz : ¬ y = 0) (k : G K E nL Q cs ss n lv (.int (x / y) :: st) h) : G K E nL Q cs ss pc lv (.int y :: .int x :: st) h := fun H locs ls hH hS hL => lv_idiv C.1 C.2.1 hd hz (by rw [hn]; exact k H locs ls hH hS hL)
theorem g_irem {n : Nat} (C : GX K E cc nL own ret nm) {x y : Int32} (hd : decode cc pc = .ok (.irem, 1)) (hn : pc + 1 = n) (hz : ¬ y = 0) (k : G K E nL Q cs ss n lv (.int (x - x / y * y) :: st) h) : G K E nL Q cs ss pc lv (.int y :: .int x :: st) h := fun H locs ls hH hS hL => lv_irem C.1 C.2.1 hd hz (by rw [hn]; exact k H locs ls hH hS hL)
theorem g_ineg {n : Nat} (C : GX K E cc nL own ret nm) {x : Int32} (hd : decode cc pc = .ok (.ineg, 1)) (hn : pc + 1 = n)  (k : G K E nL Q cs ss n lv (.int (-x) :: st) h) : G K E nL Q cs ss pc lv (.int x :: st) h := fun H locs ls hH hS hL => lv_ineg C.1 C.2.1 hd  (by rw [hn]; exact k H locs ls hH hS hL)
theorem g_iushr {n : Nat} (C : GX K E cc nL own ret nm) {x y : Int32} (hd : decode cc pc = .ok (.iushr, 1)) (hn : pc + 1 = n)  (k : G K E nL Q cs ss n lv (.int ((x.toUInt32 >>> (y.toUInt32 &&& Int32.toUInt32 31)).toInt32) :: st) h) : G K E nL Q cs ss pc lv (.int y :: .int x :: st) h := fun H locs ls hH hS hL => lv_iushr C.1 C.2.1 hd rfl (by rw [hn]; exact k H locs ls hH hS hL)
theorem g_i2b {n : Nat} (C : GX K E cc nL own ret nm) {x : Int32} (hd : decode cc pc = .ok (.i2b, 1)) (hn : pc + 1 = n)  (k : G K E nL Q cs ss n lv (.int x.toInt8.toInt32 :: st) h) : G K E nL Q cs ss pc lv (.int x :: st) h := fun H locs ls hH hS hL => lv_i2b C.1 C.2.1 hd rfl (by rw [hn]; exact k H locs ls hH hS hL)
theorem g_i2c {n : Nat} (C : GX K E cc nL own ret nm) {x : Int32} (hd : decode cc pc = .ok (.i2c, 1)) (hn : pc + 1 = n)  (k : G K E nL Q cs ss n lv (.int (x.toUInt32 % 65536).toInt32 :: st) h) : G K E nL Q cs ss pc lv (.int x :: st) h := fun H locs ls hH hS hL => lv_i2c C.1 C.2.1 hd rfl (by rw [hn]; exact k H locs ls hH hS hL)
theorem g_i2l {n : Nat} (C : GX K E cc nL own ret nm) {x : Int32} (hd : decode cc pc = .ok (.i2l, 1)) (hn : pc + 1 = n)  (k : G K E nL Q cs ss n lv (.long x.toInt64 :: st) h) : G K E nL Q cs ss pc lv (.int x :: st) h := fun H locs ls hH hS hL => lv_i2l C.1 C.2.1 hd rfl (by rw [hn]; exact k H locs ls hH hS hL)
theorem g_lcmp {n : Nat} (C : GX K E cc nL own ret nm) {x y : Int64} (hd : decode cc pc = .ok (.lcmp, 1)) (hn : pc + 1 = n)  (k : G K E nL Q cs ss n lv (.int (lg_cmp x y) :: st) h) : G K E nL Q cs ss pc lv (.long y :: .long x :: st) h := fun H locs ls hH hS hL => W.lcmp C.1 C.2.1 hd  (by rw [hn]; exact k H locs ls hH hS hL)
theorem g_dup {n : Nat} (C : GX K E cc nL own ret nm) {a : Value} (hd : decode cc pc = .ok (.dup, 1)) (hn : pc + 1 = n) (hc : a.category = 1) (k : G K E nL Q cs ss n lv (a :: a :: st) h) : G K E nL Q cs ss pc lv (a :: st) h := fun H locs ls hH hS hL => lv_dup C.1 C.2.1 hd hc (by rw [hn]; exact k H locs ls hH hS hL)
theorem g_pop {n : Nat} (C : GX K E cc nL own ret nm) {a : Value} (hd : decode cc pc = .ok (.pop, 1)) (hn : pc + 1 = n) (hc : a.category = 1) (k : G K E nL Q cs ss n lv (st) h) : G K E nL Q cs ss pc lv (a :: st) h := fun H locs ls hH hS hL => lv_pop C.1 C.2.1 hd hc (by rw [hn]; exact k H locs ls hH hS hL)
theorem g_dup_x1 {n : Nat} (C : GX K E cc nL own ret nm) {a b : Value} (hd : decode cc pc = .ok (.dup_x1, 1)) (hn : pc + 1 = n) (hc : a.category = 1) (hc2 : b.category = 1) (k : G K E nL Q cs ss n lv (a :: b :: a :: st) h) : G K E nL Q cs ss pc lv (a :: b :: st) h := fun H locs ls hH hS hL => lv_dup_x1 C.1 C.2.1 hd hc hc2 (by rw [hn]; exact k H locs ls hH hS hL)
theorem g_dup2 {n : Nat} (C : GX K E cc nL own ret nm) {a b : Value} (hd : decode cc pc = .ok (.dup2, 1)) (hn : pc + 1 = n) (hc : a.category = 1) (hc2 : b.category = 1) (k : G K E nL Q cs ss n lv (a :: b :: a :: b :: st) h) : G K E nL Q cs ss pc lv (a :: b :: st) h := fun H locs ls hH hS hL => lv_dup2_11 C.1 C.2.1 hd hc hc2 (by rw [hn]; exact k H locs ls hH hS hL)
theorem g_istore_n {n : Nat} (C : GX K E cc nL own ret nm) {i : Fin 4} {x : Int32} (hd : decode cc pc = .ok (.istore_n i, 1)) (hn : pc + 1 = n) (hi : i.val < nL) (k : G K E nL Q cs ss n (lvs lv i.val (.int x)) st h) : G K E nL Q cs ss pc lv (.int x :: st) h := fun H locs ls hH hS hL => lv_istore_n C.1 C.2.1 hd rfl (lok_list hL) hi rfl (fun ls9 hL9 => by rw [hn]; exact k H locs ls9 hH hS (lok_set hL rfl hL9))
theorem g_istore {n : Nat} (C : GX K E cc nL own ret nm) {i : Nat} {x : Int32} (hd : decode cc pc = .ok (.istore i, 2)) (hn : pc + 2 = n) (hi : i < nL) (k : G K E nL Q cs ss n (lvs lv i (.int x)) st h) : G K E nL Q cs ss pc lv (.int x :: st) h := fun H locs ls hH hS hL => lv_istore C.1 C.2.1 hd  (lok_list hL) hi rfl (fun ls9 hL9 => by rw [hn]; exact k H locs ls9 hH hS (lok_set hL rfl hL9))
theorem g_astore_n {n : Nat} (C : GX K E cc nL own ret nm) {i : Fin 4} {x : Nat} (hd : decode cc pc = .ok (.astore_n i, 1)) (hn : pc + 1 = n) (hi : i.val < nL) (k : G K E nL Q cs ss n (lvs lv i.val (.ref x)) st h) : G K E nL Q cs ss pc lv (.ref x :: st) h := fun H locs ls hH hS hL => lv_astore_n C.1 C.2.1 hd rfl (lok_list hL) hi rfl (fun ls9 hL9 => by rw [hn]; exact k H locs ls9 hH hS (lok_set hL rfl hL9))
theorem g_astore {n : Nat} (C : GX K E cc nL own ret nm) {i : Nat} {x : Nat} (hd : decode cc pc = .ok (.astore i, 2)) (hn : pc + 2 = n) (hi : i < nL) (k : G K E nL Q cs ss n (lvs lv i (.ref x)) st h) : G K E nL Q cs ss pc lv (.ref x :: st) h := fun H locs ls hH hS hL => lv_astore C.1 C.2.1 hd  (lok_list hL) hi rfl (fun ls9 hL9 => by rw [hn]; exact k H locs ls9 hH hS (lok_set hL rfl hL9))
theorem g_iinc {n : Nat} (C : GX K E cc nL own ret nm) {i : Nat} {z : Int} {x v : Int32} (hd : decode cc pc = .ok (.iinc i z, 3)) (hn : pc + 3 = n) (hl : lvk lv i = some (.int x)) (hv : x + Int32.ofInt z = v) (hi : i < nL) (k : G K E nL Q cs ss n (lvs lv i (.int v)) st h) : G K E nL Q cs ss pc lv st h := fun H locs ls hH hS hL => by
  obtain ⟨q, hq⟩ := List.getElem?_of_mem (lvp_in hL hl)
  exact lv_iinc C.1 C.2.1 hd (lok_list hL) hq hv hi rfl (fun ls9 hL9 => by rw [hn]; exact k H locs ls9 hH hS (lok_set hL rfl hL9))
theorem g_if_eq {n t : Nat} (C : GX K E cc nL own ret nm) {off : Int} {x : Int32} (hd : decode cc pc = .ok (.ifCond .eq off, 3)) (hn : pc + 3 = n) (ht : (pc : Int) + off = (t : Int)) (kt : x = 0 → G K E nL Q cs ss t lv st h) (kf : ¬ x = 0 → G K E nL Q cs ss n lv st h) : G K E nL Q cs ss pc lv (.int x :: st) h := fun H locs ls hH hS hL => lv_if_eq C.1 C.2.1 hd ht (fun q => kt q H locs ls hH hS hL) (fun q => by rw [hn]; exact kf q H locs ls hH hS hL)
theorem g_if_lt {n t : Nat} (C : GX K E cc nL own ret nm) {off : Int} {x : Int32} (hd : decode cc pc = .ok (.ifCond .lt off, 3)) (hn : pc + 3 = n) (ht : (pc : Int) + off = (t : Int)) (kt : x < 0 → G K E nL Q cs ss t lv st h) (kf : ¬ x < 0 → G K E nL Q cs ss n lv st h) : G K E nL Q cs ss pc lv (.int x :: st) h := fun H locs ls hH hS hL => lv_if_lt C.1 C.2.1 hd ht (fun q => kt q H locs ls hH hS hL) (fun q => by rw [hn]; exact kf q H locs ls hH hS hL)
theorem g_if_ge {n t : Nat} (C : GX K E cc nL own ret nm) {off : Int} {x : Int32} (hd : decode cc pc = .ok (.ifCond .ge off, 3)) (hn : pc + 3 = n) (ht : (pc : Int) + off = (t : Int)) (kt : 0 ≤ x → G K E nL Q cs ss t lv st h) (kf : ¬ 0 ≤ x → G K E nL Q cs ss n lv st h) : G K E nL Q cs ss pc lv (.int x :: st) h := fun H locs ls hH hS hL => lv_if_ge C.1 C.2.1 hd ht (fun q => kt q H locs ls hH hS hL) (fun q => by rw [hn]; exact kf q H locs ls hH hS hL)
theorem g_if_gt {n t : Nat} (C : GX K E cc nL own ret nm) {off : Int} {x : Int32} (hd : decode cc pc = .ok (.ifCond .gt off, 3)) (hn : pc + 3 = n) (ht : (pc : Int) + off = (t : Int)) (kt : 0 < x → G K E nL Q cs ss t lv st h) (kf : ¬ 0 < x → G K E nL Q cs ss n lv st h) : G K E nL Q cs ss pc lv (.int x :: st) h := fun H locs ls hH hS hL => lv_if_gt C.1 C.2.1 hd ht (fun q => kt q H locs ls hH hS hL) (fun q => by rw [hn]; exact kf q H locs ls hH hS hL)
theorem g_if_le {n t : Nat} (C : GX K E cc nL own ret nm) {off : Int} {x : Int32} (hd : decode cc pc = .ok (.ifCond .le off, 3)) (hn : pc + 3 = n) (ht : (pc : Int) + off = (t : Int)) (kt : x ≤ 0 → G K E nL Q cs ss t lv st h) (kf : ¬ x ≤ 0 → G K E nL Q cs ss n lv st h) : G K E nL Q cs ss pc lv (.int x :: st) h := fun H locs ls hH hS hL => lv_if_le C.1 C.2.1 hd ht (fun q => kt q H locs ls hH hS hL) (fun q => by rw [hn]; exact kf q H locs ls hH hS hL)
theorem g_icmp_eq {n t : Nat} (C : GX K E cc nL own ret nm) {off : Int} {x y : Int32} (hd : decode cc pc = .ok (.if_icmp .eq off, 3)) (hn : pc + 3 = n) (ht : (pc : Int) + off = (t : Int)) (kt : x = y → G K E nL Q cs ss t lv st h) (kf : ¬ x = y → G K E nL Q cs ss n lv st h) : G K E nL Q cs ss pc lv (.int y :: .int x :: st) h := fun H locs ls hH hS hL => lv_icmp_eq C.1 C.2.1 hd ht (fun q => kt q H locs ls hH hS hL) (fun q => by rw [hn]; exact kf q H locs ls hH hS hL)
theorem g_icmp_lt {n t : Nat} (C : GX K E cc nL own ret nm) {off : Int} {x y : Int32} (hd : decode cc pc = .ok (.if_icmp .lt off, 3)) (hn : pc + 3 = n) (ht : (pc : Int) + off = (t : Int)) (kt : x < y → G K E nL Q cs ss t lv st h) (kf : ¬ x < y → G K E nL Q cs ss n lv st h) : G K E nL Q cs ss pc lv (.int y :: .int x :: st) h := fun H locs ls hH hS hL => lv_icmp_lt C.1 C.2.1 hd ht (fun q => kt q H locs ls hH hS hL) (fun q => by rw [hn]; exact kf q H locs ls hH hS hL)
theorem g_icmp_ge {n t : Nat} (C : GX K E cc nL own ret nm) {off : Int} {x y : Int32} (hd : decode cc pc = .ok (.if_icmp .ge off, 3)) (hn : pc + 3 = n) (ht : (pc : Int) + off = (t : Int)) (kt : y ≤ x → G K E nL Q cs ss t lv st h) (kf : ¬ y ≤ x → G K E nL Q cs ss n lv st h) : G K E nL Q cs ss pc lv (.int y :: .int x :: st) h := fun H locs ls hH hS hL => lv_icmp_ge C.1 C.2.1 hd ht (fun q => kt q H locs ls hH hS hL) (fun q => by rw [hn]; exact kf q H locs ls hH hS hL)
theorem g_icmp_gt {n t : Nat} (C : GX K E cc nL own ret nm) {off : Int} {x y : Int32} (hd : decode cc pc = .ok (.if_icmp .gt off, 3)) (hn : pc + 3 = n) (ht : (pc : Int) + off = (t : Int)) (kt : y < x → G K E nL Q cs ss t lv st h) (kf : ¬ y < x → G K E nL Q cs ss n lv st h) : G K E nL Q cs ss pc lv (.int y :: .int x :: st) h := fun H locs ls hH hS hL => lv_icmp_gt C.1 C.2.1 hd ht (fun q => kt q H locs ls hH hS hL) (fun q => by rw [hn]; exact kf q H locs ls hH hS hL)
theorem g_icmp_le {n t : Nat} (C : GX K E cc nL own ret nm) {off : Int} {x y : Int32} (hd : decode cc pc = .ok (.if_icmp .le off, 3)) (hn : pc + 3 = n) (ht : (pc : Int) + off = (t : Int)) (kt : x ≤ y → G K E nL Q cs ss t lv st h) (kf : ¬ x ≤ y → G K E nL Q cs ss n lv st h) : G K E nL Q cs ss pc lv (.int y :: .int x :: st) h := fun H locs ls hH hS hL => lv_icmp_le C.1 C.2.1 hd ht (fun q => kt q H locs ls hH hS hL) (fun q => by rw [hn]; exact kf q H locs ls hH hS hL)
theorem g_if_ne {n t : Nat} (C : GX K E cc nL own ret nm) {off : Int} {x : Int32} (hd : decode cc pc = .ok (.ifCond .ne off, 3)) (hn : pc + 3 = n) (ht : (pc : Int) + off = (t : Int)) (kt : ¬ x = 0 → G K E nL Q cs ss t lv st h) (kf : x = 0 → G K E nL Q cs ss n lv st h) : G K E nL Q cs ss pc lv (.int x :: st) h := fun H locs ls hH hS hL => lv_if_ne C.1 C.2.1 hd ht (fun q => kt q H locs ls hH hS hL) (fun q => by rw [hn]; exact kf q H locs ls hH hS hL)
theorem g_icmp_ne {n t : Nat} (C : GX K E cc nL own ret nm) {off : Int} {x y : Int32} (hd : decode cc pc = .ok (.if_icmp .ne off, 3)) (hn : pc + 3 = n) (ht : (pc : Int) + off = (t : Int)) (kt : ¬ x = y → G K E nL Q cs ss t lv st h) (kf : x = y → G K E nL Q cs ss n lv st h) : G K E nL Q cs ss pc lv (.int y :: .int x :: st) h := fun H locs ls hH hS hL => lv_icmp_ne C.1 C.2.1 hd ht (fun q => kt q H locs ls hH hS hL) (fun q => by rw [hn]; exact kf q H locs ls hH hS hL)
theorem g_goto {t : Nat} (C : GX K E cc nL own ret nm) {off : Int} (hd : decode cc pc = .ok (.goto off, 3)) (ht : (pc : Int) + off = (t : Int)) (k : G K E nL Q cs ss t lv st h) : G K E nL Q cs ss pc lv st h := fun H locs ls hH hS hL => lv_goto C.1 C.2.1 hd ht (k H locs ls hH hS hL)
theorem g_tableOut {t : Nat} (C : GX K E cc nL own ret nm) {dflt lo hi : Int} {offs : Array Int} {len : Nat} {x : Int32} (hd : decode cc pc = .ok (.tableswitch dflt lo hi offs, len)) (hq : x.toInt < lo ∨ hi < x.toInt) (ht : (pc : Int) + dflt = (t : Int)) (k : G K E nL Q cs ss t lv st h) : G K E nL Q cs ss pc lv (.int x :: st) h := fun H locs ls hH hS hL => lv_tableOut C.1 C.2.1 hd hq ht (k H locs ls hH hS hL)
theorem g_tableIn {t : Nat} (C : GX K E cc nL own ret nm) {dflt lo hi : Int} {offs : Array Int} {len : Nat} {x : Int32} {off : Int} (hd : decode cc pc = .ok (.tableswitch dflt lo hi offs, len)) (h1 : ¬ x.toInt < lo) (h2 : ¬ hi < x.toInt) (ho : offs[(x.toInt - lo).toNat]? = some off) (ht : (pc : Int) + off = (t : Int)) (k : G K E nL Q cs ss t lv st h) : G K E nL Q cs ss pc lv (.int x :: st) h := fun H locs ls hH hS hL => lv_tableIn C.1 C.2.1 hd h1 h2 ho ht (k H locs ls hH hS hL)
/-- a field of an object -/
theorem g_get {n : Nat} (C : GX K E cc nL own ret nm) {a ci index : Nat} {ref Cn : String} {T : u_T} {N : Nat} {fs : List Value} {v : Value} (f : Nat) (hd : decode cc pc = .ok (.getfield index, 3)) (hn : pc + 3 = n) (he : h a = some (.inr (ci, fs))) (hv : fs[f]? = some v) (hc : vwCl[ci]? = some (Cn, T, N)) (hk : f < N) (hin : ∀ w ∈ u_ws Cn T N, w ∈ GW) (hlink : Cond.fieldLink own index ref (T f).2.1 (T f).2.2.1 ∈ GW) (href : (T f).1 = ref)
    (k : G K E nL Q cs ss n lv (v :: st) h) : G K E nL Q cs ss pc lv (.ref a :: st) h := fun H locs ls hH hS hL =>
  va_get (D := E.2.1) (cl := vwCl) (ws := [(a, .inr (ci, fs))]) (tys := eT E) C.1 C.2.1 C.2.2.2.2.1 hin C.ow C.k (fun j q hq => by
    have hj : j = 0 := by
      have := (List.getElem?_eq_some_iff.mp hq).1
      simpa using this
    subst hj
    cases hq
    exact (hH a _ he).1) 0 rfl hc f hk (C.gw hlink) (fun x hx => by rw [← href]; exact hx) hv hd (by rw [hn]; exact k H locs ls hH hS hL)
theorem hOK_set {h : AH} {H H1 : Heap} {a : Nat} {e0 e : va_E} (hH : hOK E h H) (he : h a = some e0) (h1 : va_at E.2.1 vwCl (a, e) H1) (oq : ∀ q : Nat, q ≠ a → H1[q]? = H[q]?) : hOK E (hset h a e) H1 := by
  intro b x hb
  by_cases q : b = a
  · subst q
    rw [hset_same] at hb
    cases hb
    exact ⟨h1, (hH b _ he).2⟩
  · rw [hset_ne h e q] at hb
    obtain ⟨g1, g2⟩ := hH b x hb
    exact ⟨g1.kept (oq b q), g2⟩
theorem hOK_new {h : AH} {H H1 : Heap} {a : Nat} {e : va_E} (hH : hOK E h H) (h1 : va_at E.2.1 vwCl (a, e) H1) (hN : E.1 ≤ a) (oq : ∀ q : Nat, q < H.size → H1[q]? = H[q]?) (ha : a = H.size) : hOK E (hset h a e) H1 := by
  intro b x hb
  by_cases q : b = a
  · subst q
    rw [hset_same] at hb
    cases hb
    exact ⟨h1, hN⟩
  · rw [hset_ne h e q] at hb
    obtain ⟨g1, g2⟩ := hH b x hb
    exact ⟨g1.kept (oq b g1.lt), g2⟩
theorem hOK_fresh {h : AH} {H : Heap} (hH : hOK E h H) : h H.size = none := by
  cases e : h H.size with
  | none => rfl
  | some x => exact absurd (hH _ x e).1.lt (Nat.lt_irrefl _)
/-- a field that isn't final -/
theorem g_put {n : Nat} (C : GX K E cc nL own ret nm) {a ci index : Nat} {ref Cn : String} {T : u_T} {N : Nat} {fs : List Value} {v : Value} {ty : FieldType} {ty0 : Nat → FieldType} (f : Nat) (hd : decode cc pc = .ok (.putfield index, 3)) (hn : pc + 3 = n) (he : h a = some (.inr (ci, fs))) (hc : vwCl[ci]? = some (Cn, T, N)) (hk : f < N) (hin : ∀ w ∈ u_ws Cn T N, w ∈ GW) (hlink : Cond.fieldLink own index ref (T f).2.1 (T f).2.2.1 ∈ GW) (href : (T f).1 = ref)
    (hty : ∀ k, k < N → parseFieldDescriptor (T k).2.2.1 = some (ty0 k)) (hnm : ∀ a, a < N → ∀ b, b < N → a ≠ b → (T a).2.1 ≠ (T b).2.1) (hfin : (T f).2.2.2 = false) (hdt : ty0 f = ty) (hnar : narrow ty v = v) (hfit : fits ty v = true) (hl : f < fs.length)
    (k : G K E nL Q cs ss n lv st (hset h a (.inr (ci, fs.set f v)))) : G K E nL Q cs ss pc lv (v :: .ref a :: st) h := by
  intro H locs ls hH hS hL
  have hts := C.2.2.2.2.1
  have hK := C.k
  have hap := va_apart (own := own) hts hin ty0 hty hnm hK hc
  obtain ⟨hat, hA⟩ := hH a _ he
  obtain ⟨r, h1, cell, q1, q2, q3, q4⟩ := hat
  have hr : r = (Cn, T, N) := Option.some.inj (h1.symm.trans hc)
  subst hr
  obtain ⟨hSl, hfc, kC, hkC, hkind⟩ := hK.1 ci _ hc
  obtain ⟨cf, kf, fi, fd, hi, hsl⟩ := hSl f hk
  have hlay := hts _ (hin _ (u_in_lay hk))
  unfold u_lay at hlay
  rw [if_neg (by rw [hfin]; decide)] at hlay
  have hst := (u_facts hfc hkC (u_lays hts hin hk) hi).1
  have h6 := u_store hfc hkC hkind hlay hi (by rw [← hdt]; exact hty f hk) hnar hfit
  refine W.putK C.1 C.2.1 (f := fd) ⟨C.ow, C.gw hlink, ⟨_, _, _, by rw [← href]; exact hi⟩, hst⟩ (by rw [q2]; exact h6) q1 q3 (by rw [hsl]; exact k2_hasslot (q4 f hk)) rfl rfl hd fun H' e1 e2 e3 => ?_
  rw [hsl] at e1 ⊢
  rw [hn]
  exact k H' _ ls (hOK_set hH he ⟨_, hc, t_OB.to (V := updV (vp_V fs) f v) ⟨_, e1, q2, q3, t_set q4 hap hk v⟩ (fun j _ => vp_updV_set hl v j)⟩ e3) (hS.put e2 e3 hA) hL
/-- a final field, in its class's constructor -/
theorem g_putF {n : Nat} (C : GX K E cc nL own ret nm) {a ci index : Nat} {ref Cn : String} {T : u_T} {N : Nat} {fs : List Value} {v : Value} {ty : FieldType} {ty0 : Nat → FieldType} (f : Nat) (hd : decode cc pc = .ok (.putfield index, 3)) (hn : pc + 3 = n) (he : h a = some (.inr (ci, fs))) (hc : vwCl[ci]? = some (Cn, T, N)) (hk : f < N) (hin : ∀ w ∈ u_ws Cn T N, w ∈ GW) (hlink : Cond.fieldLink own index ref (T f).2.1 (T f).2.2.1 ∈ GW) (href : (T f).1 = ref)
    (hty : ∀ k, k < N → parseFieldDescriptor (T k).2.2.1 = some (ty0 k)) (hnm : ∀ a, a < N → ∀ b, b < N → a ≠ b → (T a).2.1 ≠ (T b).2.1) (hfin : (T f).2.2.2 = true) (hin2 : nm = "<init>") (hdecl : (T f).1 = own) (hdt : ty0 f = ty) (hnar : narrow ty v = v) (hfit : fits ty v = true) (hl : f < fs.length)
    (k : G K E nL Q cs ss n lv st (hset h a (.inr (ci, fs.set f v)))) : G K E nL Q cs ss pc lv (v :: .ref a :: st) h := by
  intro H locs ls hH hS hL
  have hts := C.2.2.2.2.1
  have hK := C.k
  have hown := C.ow
  have hap := va_apart (own := own) hts hin ty0 hty hnm hK hc
  obtain ⟨hat, hA⟩ := hH a _ he
  obtain ⟨r, h1, cell, q1, q2, q3, q4⟩ := hat
  have hr : r = (Cn, T, N) := Option.some.inj (h1.symm.trans hc)
  subst hr
  obtain ⟨hSl, hfc, kC, hkC, hkind⟩ := hK.1 ci _ hc
  obtain ⟨cf, kf, fi, fd, hi, hsl⟩ := hSl f hk
  have hlay := hts _ (hin _ (u_in_lay hk))
  unfold u_lay at hlay
  rw [if_pos hfin] at hlay
  have hst := (u_facts hfc hkC (u_lays hts hin hk) hi).1
  have hcf : (km K).cls = cf := by
    obtain ⟨_, _, c', _, _, _, -, -, hf', -, -, -, hown2, -⟩ := Cond.laysFinal_spec hlay
    have e1 : c' = cf := by have := hi.symm.trans hf'; simp at this; exact this.1.symm
    rw [hdecl] at hown2
    rw [← e1]; exact Option.some.inj (hown.symm.trans hown2)
  have h6 := u_fits hfc hkC hkind (Or.inr hlay) hi (by rw [← hdt]; exact hty f hk) hnar hfit
  refine W.putFinK C.1 C.2.1 hown (C.gw hlink) (by rw [← href]; exact hi) hst hcf (C.name.trans hin2) (by rw [q2]; exact h6) q1 q3 (by rw [hsl]; exact k2_hasslot (q4 f hk)) rfl rfl hd fun H' e1 e2 e3 => ?_
  rw [hsl] at e1 ⊢
  rw [hn]
  exact k H' _ ls (hOK_set hH he ⟨_, hc, t_OB.to (V := updV (vp_V fs) f v) ⟨_, e1, q2, q3, t_set q4 hap hk v⟩ (fun j _ => vp_updV_set hl v j)⟩ e3) (hS.put e2 e3 hA) hL
theorem hOK_one {h : AH} {H : Heap} {a : Nat} {e : va_E} (hH : hOK E h H) (he : h a = some e) : va_P E.2.1 vwCl [(a, e)] H := fun j q hq => by
  have hj : j = 0 := by
    have := (List.getElem?_eq_some_iff.mp hq).1
    simpa using this
  subst hj
  cases hq
  exact (hH a _ he).1
theorem g_iald {n : Nat} (C : GX K E cc nL own ret nm) {a N : Nat} {f : Nat → Int32} {i : Int32} (hd : decode cc pc = .ok (.iaload, 1)) (hn : pc + 1 = n) (he : h a = some (.inl (E.2.2 1, N, .inl f))) (hin : vp_in i N)
    (k : G K E nL Q cs ss n lv (.int (f i.toNatClampNeg) :: st) h) : G K E nL Q cs ss pc lv (.int i :: .ref a :: st) h := fun H locs ls hH hS hL =>
  va_iald (D := E.2.1) (cl := vwCl) C.1 C.2.1 C.k (hOK_one hH he) 0 1 rfl rfl hin hd (by rw [hn]; exact k H locs ls hH hS hL)
theorem g_bald {n : Nat} (C : GX K E cc nL own ret nm) {a N : Nat} {f : Nat → Int32} {i : Int32} (hd : decode cc pc = .ok (.baload, 1)) (hn : pc + 1 = n) (he : h a = some (.inl (E.2.2 0, N, .inl f))) (hin : vp_in i N)
    (k : G K E nL Q cs ss n lv (.int (f i.toNatClampNeg) :: st) h) : G K E nL Q cs ss pc lv (.int i :: .ref a :: st) h := fun H locs ls hH hS hL =>
  va_bald (D := E.2.1) (cl := vwCl) C.1 C.2.1 C.k (hOK_one hH he) 0 0 rfl rfl hin hd (by rw [hn]; exact k H locs ls hH hS hL)
theorem g_zald {n : Nat} (C : GX K E cc nL own ret nm) {a N : Nat} {f : Nat → Int32} {i : Int32} (hd : decode cc pc = .ok (.baload, 1)) (hn : pc + 1 = n) (he : h a = some (.inl (E.2.2 2, N, .inl f))) (hin : vp_in i N)
    (k : G K E nL Q cs ss n lv (.int (f i.toNatClampNeg) :: st) h) : G K E nL Q cs ss pc lv (.int i :: .ref a :: st) h := fun H locs ls hH hS hL =>
  va_zald (D := E.2.1) (cl := vwCl) C.1 C.2.1 C.k (hOK_one hH he) 0 2 rfl rfl hin hd (by rw [hn]; exact k H locs ls hH hS hL)
theorem g_lald {n : Nat} (C : GX K E cc nL own ret nm) {a N : Nat} {f : Nat → Int64} {i : Int32} (hd : decode cc pc = .ok (.laload, 1)) (hn : pc + 1 = n) (he : h a = some (.inl (E.2.2 4, N, .inr (.inl f)))) (hin : vp_in i N)
    (k : G K E nL Q cs ss n lv (.long (f i.toNatClampNeg) :: st) h) : G K E nL Q cs ss pc lv (.int i :: .ref a :: st) h := fun H locs ls hH hS hL =>
  va_lald (D := E.2.1) (cl := vwCl) C.1 C.2.1 C.k (hOK_one hH he) 0 4 rfl rfl hin hd (by rw [hn]; exact k H locs ls hH hS hL)
theorem g_aald {n : Nat} (C : GX K E cc nL own ret nm) {a N : Nat} {f : Nat → Option Nat} {i : Int32} {b : Nat} (hd : decode cc pc = .ok (.aaload, 1)) (hn : pc + 1 = n) (he : h a = some (.inl (E.2.2 3, N, .inr (.inr (.inr (.inr f)))))) (hin : vp_in i N) (hb : f i.toNatClampNeg = some b)
    (k : G K E nL Q cs ss n lv (.ref b :: st) h) : G K E nL Q cs ss pc lv (.int i :: .ref a :: st) h := fun H locs ls hH hS hL =>
  va_aldq (D := E.2.1) (cl := vwCl) C.1 C.2.1 C.k (hOK_one hH he) 0 3 rfl rfl hin hd (by rw [hn, hb]; exact k H locs ls hH hS hL)
theorem g_alen {n : Nat} (C : GX K E cc nL own ret nm) {a : Nat} {cA : Nat} {x : vp_A} {v : Int32} (t0 : Nat) {ty : FieldType} (hd : decode cc pc = .ok (.arraylength, 1)) (hn : pc + 1 = n) (he : h a = some (.inl (cA, x))) (ht : (eT E)[t0]? = some (cA, ty)) (hv : Int32.ofNat x.1 = v)
    (k : G K E nL Q cs ss n lv (.int v :: st) h) : G K E nL Q cs ss pc lv (.ref a :: st) h := fun H locs ls hH hS hL =>
  va_alen (D := E.2.1) (cl := vwCl) C.1 C.2.1 C.k (hOK_one hH he) 0 t0 rfl ht hv hd (by rw [hn]; exact k H locs ls hH hS hL)
theorem vp_upd_i (cA : ClassId) (N : Nat) (f : Nat → Int32) (j : Nat) (x y : Int32) (hxy : Value.int y = .int x) : vp_cell cA (N, .inl (upd f j x)) = arrV cA N (updV (fun q => .int (f q)) j (.int y)) := by
  rw [vp_cell_i]
  congr 1
  funext q
  by_cases hq : q = j
  · subst hq
    simp [updV, upd, hxy]
  · simp [updV, upd, hq]
theorem g_iast {n : Nat} (C : GX K E cc nL own ret nm) {a N : Nat} {f : Nat → Int32} {i x : Int32} (hd : decode cc pc = .ok (.iastore, 1)) (hn : pc + 1 = n) (he : h a = some (.inl (E.2.2 1, N, .inl f))) (hin : vp_in i N)
    (k : G K E nL Q cs ss n lv st (hset h a (.inl (E.2.2 1, N, .inl (upd f i.toNatClampNeg x))))) : G K E nL Q cs ss pc lv (.int x :: .int i :: .ref a :: st) h := by
  intro H locs ls hH hS hL
  obtain ⟨hat, hA⟩ := hH a _ he
  refine W.iast C.1 C.2.1 hat ((C.k.2 1 _ rfl).1 N (fun j => .int (f j))) (fun q => by cases q) (by show ¬ (i < 0 ∨ (arrV _ _ _).slots.size ≤ _); rw [arrV_size]; exact hin) rfl rfl hd fun H1 e z oq => ?_
  rw [hn]
  refine k H1 _ ls (hOK_set hH he ?_ oq) (hS.put z oq hA) hL
  show H1[a]? = some (vp_cell _ _)
  rw [e, vp_cell_i, arrV_store, ← vp_upd_i _ _ _ _ _ _ rfl]
theorem g_bast {n : Nat} (C : GX K E cc nL own ret nm) {a N : Nat} {f : Nat → Int32} {i x : Int32} (hd : decode cc pc = .ok (.bastore, 1)) (hn : pc + 1 = n) (he : h a = some (.inl (E.2.2 0, N, .inl f))) (hin : vp_in i N)
    (k : G K E nL Q cs ss n lv st (hset h a (.inl (E.2.2 0, N, .inl (upd f i.toNatClampNeg (vp_nar .byte x)))))) : G K E nL Q cs ss pc lv (.int x :: .int i :: .ref a :: st) h := by
  intro H locs ls hH hS hL
  obtain ⟨hat, hA⟩ := hH a _ he
  refine W.bast C.1 C.2.1 hat ((C.k.2 0 _ rfl).1 N (fun j => .int (f j))) (fun q => by cases q) (by show ¬ (i < 0 ∨ (arrV _ _ _).slots.size ≤ _); rw [arrV_size]; exact hin) rfl rfl hd fun H1 e z oq => ?_
  rw [hn]
  refine k H1 _ ls (hOK_set hH he ?_ oq) (hS.put z oq hA) hL
  show H1[a]? = some (vp_cell _ _)
  rw [e, vp_cell_i, vp_cell_i, arrV_store]
  congr 2
  funext q
  by_cases hq : q = i.toNatClampNeg
  · subst hq
    simp [updV, upd, vp_nar]
    try rfl
  · simp [updV, upd, hq]
theorem g_zast {n : Nat} (C : GX K E cc nL own ret nm) {a N : Nat} {f : Nat → Int32} {i x : Int32} (hd : decode cc pc = .ok (.bastore, 1)) (hn : pc + 1 = n) (he : h a = some (.inl (E.2.2 2, N, .inl f))) (hin : vp_in i N)
    (k : G K E nL Q cs ss n lv st (hset h a (.inl (E.2.2 2, N, .inl (upd f i.toNatClampNeg (vp_nar .boolean x)))))) : G K E nL Q cs ss pc lv (.int x :: .int i :: .ref a :: st) h := by
  intro H locs ls hH hS hL
  obtain ⟨hat, hA⟩ := hH a _ he
  refine W.zast C.1 C.2.1 hat ((C.k.2 2 _ rfl).1 N (fun j => .int (f j))) (fun q => by cases q) (by show ¬ (i < 0 ∨ (arrV _ _ _).slots.size ≤ _); rw [arrV_size]; exact hin) rfl rfl hd fun H1 e z oq => ?_
  rw [hn]
  refine k H1 _ ls (hOK_set hH he ?_ oq) (hS.put z oq hA) hL
  show H1[a]? = some (vp_cell _ _)
  rw [e, vp_cell_i, vp_cell_i, arrV_store]
  congr 2
  funext q
  by_cases hq : q = i.toNatClampNeg
  · subst hq
    simp [updV, upd, vp_nar]
    try rfl
  · simp [updV, upd, hq]
theorem g_last {n : Nat} (C : GX K E cc nL own ret nm) {a N : Nat} {f : Nat → Int64} {i : Int32} {x : Int64} (hd : decode cc pc = .ok (.lastore, 1)) (hn : pc + 1 = n) (he : h a = some (.inl (E.2.2 4, N, .inr (.inl f)))) (hin : vp_in i N)
    (k : G K E nL Q cs ss n lv st (hset h a (.inl (E.2.2 4, N, .inr (.inl (vp_updL f i.toNatClampNeg x)))))) : G K E nL Q cs ss pc lv (.long x :: .int i :: .ref a :: st) h := by
  intro H locs ls hH hS hL
  obtain ⟨hat, hA⟩ := hH a _ he
  refine W.last C.1 C.2.1 hat ((C.k.2 4 _ rfl).1 N (fun j => .long (f j))) (fun q => by cases q) (by show ¬ (i < 0 ∨ (arrV _ _ _).slots.size ≤ _); rw [arrV_size]; exact hin) rfl rfl hd fun H1 e z oq => ?_
  rw [hn]
  refine k H1 _ ls (hOK_set hH he ?_ oq) (hS.put z oq hA) hL
  show H1[a]? = some (vp_cell _ _)
  rw [e, vp_cell_l, vp_cell_l, arrV_store]
  congr 2
  funext q
  by_cases hq : q = i.toNatClampNeg
  · subst hq
    simp [updV, vp_updL]
  · simp [updV, vp_updL, hq]
/-- a new object -/
theorem g_new {n : Nat} (C : GX K E cc nL own ret nm) {ci index : Nat} {Cn : String} {T : u_T} {N : Nat} {fs : List Value} {ty0 : Nat → FieldType} (hd : decode cc pc = .ok (.new index, 3)) (hn : pc + 3 = n) (hc : vwCl[ci]? = some (Cn, T, N)) (hin : ∀ w ∈ u_ws Cn T N, w ∈ GW) (hcl : Cond.classLink own index Cn ∈ GW) (hinst : Cond.instantiable Cn N ∈ GW) (hini : Cond.initialized Cn ∈ GW)
    (hty : ∀ k, k < N → parseFieldDescriptor (T k).2.2.1 = some (ty0 k)) (hfs : ∀ j, j < N → defaultValue (ty0 j) = vp_V fs j) (hcells : cs + 1 ≤ (kR K).cells) (hslots : ss + N ≤ (kR K).slots)
    (k : ∀ q : Nat, h q = none → E.1 ≤ q → G K E nL Q (cs + 1) (ss + N) n lv (.ref q :: st) (hset h q (.inr (ci, fs)))) : G K E nL Q cs ss pc lv st h := by
  intro H locs ls hH hS hL
  have hKn := C.k.1 ci _ hc
  have hA := eA_old C
  refine W.newcK C.1 C.2.1 C.ow (C.gw hcl) (C.gw hinst) (C.gw hini) rfl hd hcells hslots hKn.2.1 rfl fun H1 kC hkC e1 z1 o1 => ?_
  rw [hn]
  refine k H.size (hOK_fresh hH) (hA _ hS.1) H1 locs ls (hOK_new hH ?_ (hA _ hS.1) o1 rfl) ⟨Nat.le_trans hS.1 (by omega), fun x h1 h2 => (o1 x (Nat.lt_of_lt_of_le h1 hS.1)).trans (hS.2.1 x h1 h2), hS.2.2⟩ hL
  exact ⟨_, hc, (u_born ty0 C.2.2.2.2.1 hin hKn hkC e1 hty).to hfs⟩
theorem eT_at {t : Nat} {q : ClassId × FieldType} (C : GX K E cc nL own ret nm) (ht : (eT E)[t]? = some q) : va_RA (ks K) q.1 q.2 := (C.k.2 t q ht).2
/-- a new array of numbers -/
theorem g_newa {n : Nat} (C : GX K E cc nL own ret nm) {atype : ArrayType} {ty : FieldType} {cA : ClassId} (t0 : Nat) {N : Nat} {a0 : vp_A} {z : Int32} (hd : decode cc pc = .ok (.newarray atype, 2)) (hn : pc + 2 = n) (hty : newarray.typeOf atype = ty) (ht : (eT E)[t0]? = some (cA, ty)) (hnm : ∀ U : State, va_RA U cA ty → U.vm.findClass ("[" ++ ty.toString) = some cA) (hw : Cond.arrayClass ty ∈ GW)
    (ha : ∀ cA : ClassId, vp_cell cA a0 = arrV cA N (fun _ => defaultValue ty)) (hz : ¬ z < 0) (hN : z.toNatClampNeg = N) (hbytes : N * componentBytes ty ≤ 536870912) (hcells : cs + 1 ≤ (kR K).cells) (hslots : ss + N ≤ (kR K).slots)
    (k : ∀ q : Nat, h q = none → E.1 ≤ q → G K E nL Q (cs + 1) (ss + N) n lv (.ref q :: st) (hset h q (.inl (cA, a0)))) : G K E nL Q cs ss pc lv (.int z :: st) h := by
  intro H locs ls hH hS hL
  have hA := eA_old C
  subst hty
  refine va_newaK C.1 C.2.1 (C.gw hw) rfl hd rfl hz hN hbytes hcells hslots rfl fun H1 cB e1 z1 o1 hAr hNm => ?_
  have hcc : cB = cA := Option.some.inj (hNm.symm.trans (hnm _ (eT_at C ht)))
  subst hcc
  rw [hn]
  refine k H.size (hOK_fresh hH) (hA _ hS.1) H1 locs ls (hOK_new hH ?_ (hA _ hS.1) o1 rfl) ⟨Nat.le_trans hS.1 (by omega), fun x h1 h2 => (o1 x (Nat.lt_of_lt_of_le h1 hS.1)).trans (hS.2.1 x h1 h2), hS.2.2⟩ hL
  show H1[H.size]? = some (vp_cell _ _)
  rw [ha]
  exact e1

def rvo (ret : Option FieldType) (v : Value) : Option Value := match ret with
  | none => none
  | some _ => some v
/-- a method's end: it returns, P says what and over which heap -/
def Qt (E : Ev) (ret : Option FieldType) (P : Value → AH → Prop) : Array Value → State → Outcome → State → Prop := fun _ st oc t => (∃ (v : Value) (h' : AH), oc = .returned (rvo ret v) ∧ P v h' ∧ hOK E h' t.heap) ∧ va_F (eA E) st t
def rmk (fr lo mc ms : Nat) : Room := { frames := fr, cells := mc, slots := ms, locals := lo }
/-- a method's contract: from heap h with the values av it returns, and P holds of its answer and the heap behind it -/
def Mt (l : Launch) (E : Ev) (y : MethodName) (cc : ByteArray) (maxL : Nat) (ret : Option FieldType) (fr lo mc ms : Nat) (av : List Value) (h : AH) (P : Value → AH → Prop) : Prop :=
  Met l y (.code y cc maxL ret :: GW) (rmk fr lo mc ms) (va_Pc av (fun U => wOK E h U U.heap)) (Qt E ret P) mc ms (eA E)
/-- what a throw leaves: its class, the heap -/
def Xt (E : Ev) (PX : String → AH → Prop) : String → State → State → Prop := fun x st t => ∃ h' : AH, PX x h' ∧ hOK E h' t.heap ∧ va_F (eA E) st t
/-- .. returns or throws -/
def Mx (l : Launch) (E : Ev) (y : MethodName) (cc : ByteArray) (maxL : Nat) (ret : Option FieldType) (fr lo mc ms : Nat) (av : List Value) (h : AH) (P : Value → AH → Prop) (PX : String → AH → Prop) : Prop :=
  vx_Met l y (.code y cc maxL ret :: GW) (rmk fr lo mc ms) (va_Pc av (fun U => wOK E h U U.heap)) (Qt E ret P) (Xt E PX) mc ms (eA E)
theorem Qt.mono {E : Ev} {ret : Option FieldType} {P P' : Value → AH → Prop} (hp : ∀ v h, P v h → P' v h) {a : Array Value} {s : State} {o : Outcome} {t : State} (q : Qt E ret P a s o t) : Qt E ret P' a s o t := by
  obtain ⟨⟨v, h', h1, h2, h3⟩, h4⟩ := q
  exact ⟨⟨v, h', h1, hp v h' h2, h3⟩, h4⟩
theorem goodCW {y : MethodName} {cc : ByteArray} {maxL : Nat} {ret : Option FieldType} (hc : Cond.code y cc maxL ret ∈ GW) : GoodIn GW (.code y cc maxL ret :: GW) := fun w hw => (List.mem_cons.mp hw).elim (fun e => by rw [e]; exact gw_good hc) gw_good
theorem good5 {a b c d : Cond} {ws : List Cond} (ha : a ∈ GW) (hb : b ∈ GW) (hc : c ∈ GW) (hd : d ∈ GW) (hw : GoodIn GW ws) : GoodIn GW ([a, b, c, d] ++ ws) := fun w h => (List.mem_append.mp h).elim (fun q => by
  rcases List.mem_cons.mp q with e | q
  · rw [e]; exact gw_good ha
  rcases List.mem_cons.mp q with e | q
  · rw [e]; exact gw_good hb
  rcases List.mem_cons.mp q with e | q
  · rw [e]; exact gw_good hc
  rcases List.mem_cons.mp q with e | q
  · rw [e]; exact gw_good hd
  cases q) (hw w)
theorem good3 {a b c : Cond} {ws : List Cond} (ha : a ∈ GW) (hb : b ∈ GW) (hc : c ∈ GW) (hw : GoodIn GW ws) : GoodIn GW ([a, b, c] ++ ws) := fun w h => (List.mem_append.mp h).elim (fun q => by
  rcases List.mem_cons.mp q with e | q
  · rw [e]; exact gw_good ha
  rcases List.mem_cons.mp q with e | q
  · rw [e]; exact gw_good hb
  rcases List.mem_cons.mp q with e | q
  · rw [e]; exact gw_good hc
  cases q) (hw w)
theorem blindW (av : List Value) (h : AH) : FrameBlind (va_Pc av (fun U => wOK E h U U.heap)) := fun a U g mk q => ⟨q.1, q.2.blind g mk a⟩
/-- the callee's start, seen from the caller's state -/
theorem preW (C : GX K E cc nL own ret nm) {H : Heap} {locs : List Loc} (hH : hOK E h H) (hS : va_S (eA E) (ks K).heap H locs) (av : List Value) : ∀ U : State, U.heap = H → (ks K).WarmedH U.vm → va_Pc av (fun U => wOK E h U U.heap) av.toArray U := fun U hU hW =>
  ⟨rfl, by rw [hU]; exact Nat.le_trans C.n0 hS.1, by rw [hU]; exact hH, va_K.moved hW.alike C.k, by rw [hU]; exact C.z.go hS.2.1 hW⟩
theorem g_back {ret9 : Option FieldType} {mc ms : Nat} {rest : List Value} {a : Array Value} {P : Value → AH → Prop}
    (hr : ∀ (H : Heap) (locs : List Loc) (ls : Array Slot), hOK E h H → va_S (eA E) (ks K).heap H locs → lok ls nL lv → va_Run (kp K) (kl K) (ke K) (kR K) (ks K) (km K) (ka K) (kb K) (kM K) (kc K) H locs cs ss mc ms (F0 (km K) pc ls st) rest (Qt E ret9 P a) (eA E))
    (kk : ∀ v h', P v h' → G K E nL Q (cs + mc) (ss + ms) (pc + 3) lv ((rvo ret9 v).toList ++ rest) h') : G K E nL Q cs ss pc lv st h := by
  intro H locs ls hH hS hL T hT X
  obtain ⟨v, st₀, t, T', L, h0, X', hLf, e1, e2, ⟨⟨v', h', hv, hp, hh⟩, hz, hk⟩, hst⟩ := hr H locs ls hH hS hL T hT X
  cases hv
  rw [h0] at hz hk
  obtain ⟨t2, a1, b1⟩ := kk v' h' hp T'.heap (locs ++ L) ls (by rw [e1]; exact hh)
    ⟨Nat.le_trans hS.1 (by rw [e1]; exact hz), fun q h1 h2 => by rw [e1, hk q (Nat.lt_of_lt_of_le h1 hS.1) h2]; exact hS.2.1 q h1 h2, fun q hq => by
      rcases List.mem_append.mp hq with h | h
      · exact hS.2.2 q h
      · exact hLf q h⟩ hL T' rfl X'
  exact ⟨t2, hst t2 a1, b1⟩
/-- where a method's own words stand: its code, 'it is made of a class' .. -/
def mwV (y : MethodName) (cc : ByteArray) (maxL : Nat) (ret : Option FieldType) (n : Nat) : Prop := Cond.instanceMethod y ∈ GW ∧ Cond.selects y.cls y y ∈ GW ∧ Cond.initialized y.cls ∈ GW ∧ Cond.code y cc maxL ret ∈ GW ∧ y.cls ≠ "java/lang/invoke/MethodHandle" ∧ y.cls ≠ "java/lang/invoke/VarHandle" ∧ (parseMethodDescriptor y.desc).map (fun d => d.parameters.length) = some n
def mwS (y : MethodName) (cc : ByteArray) (maxL : Nat) (ret : Option FieldType) (n : Nat) : Prop := Cond.static y ∈ GW ∧ Cond.initialized y.cls ∈ GW ∧ Cond.code y cc maxL ret ∈ GW ∧ y.cls ≠ "java/lang/invoke/MethodHandle" ∧ y.cls ≠ "java/lang/invoke/VarHandle" ∧ (parseMethodDescriptor y.desc).map (fun d => d.parameters.length) = some n
def mwI (y : MethodName) (cc : ByteArray) (maxL : Nat) (n : Nat) : Prop := Cond.instanceMethod y ∈ GW ∧ Cond.initialized y.cls ∈ GW ∧ Cond.code y cc maxL none ∈ GW ∧ y.name = "<init>" ∧ y.cls ≠ "java/lang/invoke/MethodHandle" ∧ y.cls ≠ "java/lang/invoke/VarHandle" ∧ (parseMethodDescriptor y.desc).map (fun d => d.parameters.length) = some n
def roomOK (K : Cx) (cs ss fr lo mc ms maxL : Nat) (rest : List Value) : Prop := fr + 1 ≤ (kR K).frames ∧ 8 + (maxL + 11) + lo ≤ (kR K).locals ∧ cs + mc ≤ (kR K).cells ∧ ss + ms ≤ (kR K).slots ∧ (rest.map fun v => v.category).sum ≤ 8
theorem g_callV {y : MethodName} {bytes : ByteArray} {maxL idx n0 : Nat} {ret9 : Option FieldType} {fr lo mc ms : Nat} {b : Nat} {As rest : List Value} {n : Nat} (C : GX K E cc nL own ret nm) (hd : decode cc pc = .ok (.invokevirtual idx, 3)) (hn : pc + 3 = n) (hw : mwV y bytes maxL ret9 n0) (hl : Cond.methodLink own idx y ∈ GW) (hrc : ∀ (H : Heap) (locs : List Loc), hOK E h H → va_S (eA E) (ks K).heap H locs → ∃ cellB : Cell, H[b]? = some cellB ∧ cellB.vm.isStatics = false ∧ (ks K).vm.findClass y.cls = some cellB.cls)
    (hst : st = As.reverse ++ .ref b :: rest) (hlen : As.length = n0) (hR : roomOK K cs ss fr lo mc ms maxL rest) (hM : Mt (kl K) E y bytes maxL ret9 fr lo mc ms (.ref b :: As) h (fun v h' => G K E nL Q (cs + mc) (ss + ms) n lv ((rvo ret9 v).toList ++ rest) h')) : G K E nL Q cs ss pc lv st h := by
  subst hn
  obtain ⟨w1, w2, w3, w4, w5, w6, w7⟩ := hw
  obtain ⟨r1, r2, r3, r4, r5⟩ := hR
  refine g_back (ret9 := ret9) (mc := mc) (ms := ms) (rest := rest) (a := (Value.ref b :: As).toArray) (fun H locs ls hH hS hL => ?_) (fun v h' hp => hp)
  exact va_runV (Ts := GW) (C := y.cls) ⟨C.1, C.2.1, C.ml, C.ow, C.2.2.2.2.1⟩ hM (cwV n0 C.2.2.2.2.1 (good5 hl w1 w2 w3 (goodCW w4)) rfl rfl rfl ⟨rfl, w5, w6, w7⟩ ⟨r1, r2⟩) ⟨blindW _ _, hrc H locs hH hS, preW C hH hS _⟩ rfl hlen hL.1 hst (lv_room r5) hd ⟨r3, r4⟩
theorem g_recv (C : GX K E cc nL own ret nm) {b ci : Nat} {fs : List Value} {q : vw_C} (he : h b = some (.inr (ci, fs))) (hc : vwCl[ci]? = some q) : ∀ (H : Heap) (locs : List Loc), hOK E h H → va_S (eA E) (ks K).heap H locs → ∃ cellB : Cell, H[b]? = some cellB ∧ cellB.vm.isStatics = false ∧ (ks K).vm.findClass q.1 = some cellB.cls := fun H _ hH _ => va_recv C.k (hOK_one hH he) (q0 := 0) hc rfl
theorem g_callS {y : MethodName} {bytes : ByteArray} {maxL idx n0 : Nat} {ret9 : Option FieldType} {fr lo mc ms : Nat} {As rest : List Value} {n : Nat} (C : GX K E cc nL own ret nm) (hd : decode cc pc = .ok (.invokestatic idx, 3)) (hn : pc + 3 = n) (hw : mwS y bytes maxL ret9 n0) (hl : Cond.methodLink own idx y ∈ GW)
    (hst : st = As.reverse ++ rest) (hlen : As.length = n0) (hR : roomOK K cs ss fr lo mc ms maxL rest) (hM : Mt (kl K) E y bytes maxL ret9 fr lo mc ms As h (fun v h' => G K E nL Q (cs + mc) (ss + ms) n lv ((rvo ret9 v).toList ++ rest) h')) : G K E nL Q cs ss pc lv st h := by
  subst hn
  obtain ⟨w1, w2, w3, w4, w5, w6⟩ := hw
  obtain ⟨r1, r2, r3, r4, r5⟩ := hR
  refine g_back (ret9 := ret9) (mc := mc) (ms := ms) (rest := rest) (a := As.toArray) (fun H locs ls hH hS hL => ?_) (fun v h' hp => hp)
  exact va_runS (Ts := GW) ⟨C.1, C.2.1, C.ml, C.ow, C.2.2.2.2.1⟩ hM (va_cwS n0 C.2.2.2.2.1 (good3 hl w1 w2 (goodCW w3)) rfl rfl rfl ⟨w4, w5, w6⟩ ⟨r1, r2⟩) ⟨blindW _ _, preW C hH hS _⟩ rfl hlen hL.1 hst (lv_room r5) hd ⟨r3, r4⟩
theorem g_callI {y : MethodName} {bytes : ByteArray} {maxL idx n0 : Nat} {fr lo mc ms : Nat} {b : Nat} {As rest : List Value} {n : Nat} (C : GX K E cc nL own ret nm) (hd : decode cc pc = .ok (.invokespecial idx, 3)) (hn : pc + 3 = n) (hw : mwI y bytes maxL n0) (hl : Cond.methodLink own idx y ∈ GW)
    (hst : st = As.reverse ++ .ref b :: rest) (hlen : As.length = n0) (hR : roomOK K cs ss fr lo mc ms maxL rest) (hM : Mt (kl K) E y bytes maxL none fr lo mc ms (.ref b :: As) h (fun _ h' => G K E nL Q (cs + mc) (ss + ms) n lv rest h')) : G K E nL Q cs ss pc lv st h := by
  subst hn
  obtain ⟨w1, w2, w3, w4, w5, w6, w7⟩ := hw
  obtain ⟨r1, r2, r3, r4, r5⟩ := hR
  refine g_back (ret9 := none) (mc := mc) (ms := ms) (rest := rest) (a := (Value.ref b :: As).toArray) (fun H locs ls hH hS hL => ?_) (fun v h' hp => hp)
  exact va_runI (Ts := GW) ⟨C.1, C.2.1, C.ml, C.ow, C.2.2.2.2.1⟩ hM (cwI n0 C.2.2.2.2.1 (goodCW w3) rfl rfl rfl (C.gw w2) (C.gw hl) (C.gw w1) w4 ⟨w5, w6, w7⟩ ⟨r1, r2⟩) ⟨blindW _ _, preW C hH hS _⟩ rfl hlen hL.1 hst (lv_room r5) hd ⟨r3, r4⟩
theorem GX.tw (C : GX K E cc nL own ret nm) {w : Cond} (hw : w ∈ TW) : va_Nw w (ks K) := C.z.2.2.2.2.2.2.2.2.2.2.1 w hw
theorem g_callIN {y : MethodName} {bytes : ByteArray} {maxL idx n0 : Nat} {host : String} {fr lo mc ms : Nat} {b : Nat} {As rest : List Value} {n : Nat} (C : GX K E cc nL own ret nm) (hd : decode cc pc = .ok (.invokespecial idx, 3)) (hn : pc + 3 = n) (hw : mwI y bytes maxL n0) (hl : Cond.methodLinkNest own idx y host ∈ TW)
    (hst : st = As.reverse ++ .ref b :: rest) (hlen : As.length = n0) (hR : roomOK K cs ss fr lo mc ms maxL rest) (hM : Mt (kl K) E y bytes maxL none fr lo mc ms (.ref b :: As) h (fun _ h' => G K E nL Q (cs + mc) (ss + ms) n lv rest h')) : G K E nL Q cs ss pc lv st h := by
  subst hn
  obtain ⟨w1, w2, w3, w4, w5, w6, w7⟩ := hw
  obtain ⟨r1, r2, r3, r4, r5⟩ := hR
  refine g_back (ret9 := none) (mc := mc) (ms := ms) (rest := rest) (a := (Value.ref b :: As).toArray) (fun H locs ls hH hS hL => ?_) (fun v h' hp => hp)
  exact va_runIN (Ts := GW) ⟨C.1, C.2.1, C.ml, C.ow, C.2.2.2.2.1⟩ hM ⟨va_cnB n0 C.2.2.2.2.1 (goodCW w3) rfl rfl rfl (C.tw hl) (C.gw w2) ⟨w5, w6, w7⟩ ⟨r1, r2⟩, w4, C.gw w1⟩ ⟨blindW _ _, preW C hH hS _⟩ rfl hlen hL.1 hst (lv_room r5) hd ⟨r3, r4⟩
/-- java.lang.Object's own constructor -/
theorem g_objInit {n idx : Nat} {a : Nat} (C : GX K E cc nL own ret nm) (hd : decode cc pc = .ok (.invokespecial idx, 3)) (hn : pc + 3 = n) (hl : Cond.methodLink own idx Lib.objectInit ∈ GW) (hi : Cond.instanceMethod Lib.objectInit ∈ GW) (hc : Cond.code Lib.objectInit ⟨#[0xb1]⟩ 1 none ∈ GW) (hf : 1 ≤ (kR K).frames) (hlo : (st.map fun v => v.category).sum + 12 ≤ (kR K).locals) (k : G K E nL Q cs ss n lv st h) : G K E nL Q cs ss pc lv (.ref a :: st) h := fun H locs ls hH hS hL =>
  W.objInit C.1 C.2.1 C.ow (C.gw hl) (C.gw hi) (C.gw hc) rfl (by rw [C.ml]; exact hL.1) rfl hd hf (by show 2 * 0 + _ + 12 ≤ _; omega) (by subst hn; exact k H locs ls hH hS hL)
def mwM (y : MethodName) (cc : ByteArray) (maxL : Nat) : Prop := Cond.static y ∈ GW ∧ Cond.initialized "java/lang/Math" ∈ GW ∧ Cond.code y cc maxL (some .int) ∈ GW
theorem g_max {n idx : Nat} {x y : Int32} (C : GX K E cc nL own ret nm) (hd : decode cc pc = .ok (.invokestatic idx, 3)) (hn : pc + 3 = n) (hw : mwM Lib.Math.max.name Lib.Math.max.code 2) (hl : Cond.methodLink own idx Lib.Math.max.name ∈ GW) (hR : 1 ≤ (kR K).frames ∧ (st.map fun v => v.category).sum + 13 ≤ (kR K).locals ∧ cs ≤ (kR K).cells ∧ ss ≤ (kR K).slots) (k : G K E nL Q cs ss n lv (.int (if x < y then y else x) :: st) h) : G K E nL Q cs ss pc lv (.int y :: .int x :: st) h := fun H locs ls hH hS hL =>
  va_mmax C.1 C.2.1 (by rw [C.ml]; exact hL.1.symm) C.ow (C.gw hl) (C.gw hw.1) (C.gw hw.2.1) (C.gw hw.2.2) hR.1 hR.2.1 hR.2.2.1 hR.2.2.2 hd (by rw [hn]; exact k H locs ls hH hS hL)
theorem g_min {n idx : Nat} {x y : Int32} (C : GX K E cc nL own ret nm) (hd : decode cc pc = .ok (.invokestatic idx, 3)) (hn : pc + 3 = n) (hw : mwM Lib.Math.min.name Lib.Math.min.code 2) (hl : Cond.methodLink own idx Lib.Math.min.name ∈ GW) (hR : 1 ≤ (kR K).frames ∧ (st.map fun v => v.category).sum + 13 ≤ (kR K).locals ∧ cs ≤ (kR K).cells ∧ ss ≤ (kR K).slots) (k : G K E nL Q cs ss n lv (.int (if y < x then y else x) :: st) h) : G K E nL Q cs ss pc lv (.int y :: .int x :: st) h := fun H locs ls hH hS hL =>
  va_mmin C.1 C.2.1 (by rw [C.ml]; exact hL.1.symm) C.ow (C.gw hl) (C.gw hw.1) (C.gw hw.2.1) (C.gw hw.2.2) hR.1 hR.2.1 hR.2.2.1 hR.2.2.2 hd (by rw [hn]; exact k H locs ls hH hS hL)
theorem g_abs {n idx : Nat} {x : Int32} (C : GX K E cc nL own ret nm) (hd : decode cc pc = .ok (.invokestatic idx, 3)) (hn : pc + 3 = n) (hw : mwM Lib.Math.abs.name Lib.Math.abs.code 1) (hl : Cond.methodLink own idx Lib.Math.abs.name ∈ GW) (hR : 1 ≤ (kR K).frames ∧ (st.map fun v => v.category).sum + 13 ≤ (kR K).locals ∧ cs ≤ (kR K).cells ∧ ss ≤ (kR K).slots) (k : G K E nL Q cs ss n lv (.int (if 0 ≤ x then x else 0 - x) :: st) h) : G K E nL Q cs ss pc lv (.int x :: st) h := fun H locs ls hH hS hL =>
  va_mabs C.1 C.2.1 (by rw [C.ml]; exact hL.1.symm) C.ow (C.gw hl) (C.gw hw.1) (C.gw hw.2.1) (C.gw hw.2.2) hR.1 hR.2.1 hR.2.2.1 hR.2.2.2 hd (by rw [hn]; exact k H locs ls hH hS hL)
/-- the method's end, as its contract asks for -/
abbrev QM (K : Cx) (E : Ev) (ret : Option FieldType) (mc ms : Nat) (P : Value → AH → Prop) : State → Prop := MQ (kb K) (Qt E ret P) (ka K) (ks K) mc ms (eA E)
abbrev QX (K : Cx) (E : Ev) (ret : Option FieldType) (mc ms : Nat) (P : Value → AH → Prop) (PX : String → AH → Prop) : State → Prop := vx_MQ (kb K) (Qt E ret P) (Xt E PX) (ka K) (ks K) mc ms (eA E)
theorem Qt.mk9 {K : Cx} {E : Ev} {ret : Option FieldType} {v : Value} {h : AH} {P : Value → AH → Prop} {H : Heap} {locs : List Loc} (hp : P v h) (hH : hOK E h H) (hS : va_S (eA E) (ks K).heap H locs) {o : Outcome} (ho : o = .returned (rvo ret v)) : ∀ t : State, t.heap = H → (ks K).WarmedH t.vm → Qt E ret P (ka K) (ks K) o t := fun t ht _ => ⟨⟨v, h, ho, hp, by rw [ht]; exact hH⟩, hS.F ht⟩
theorem g_iret {v : Int32} {mc ms : Nat} {P : Value → AH → Prop} (C : GX K E cc nL own (some .int) nm) (hd : decode cc pc = .ok (.ireturn, 1)) (hc : cs ≤ mc) (hs : ss ≤ ms) (hp : P (.int v) h) : G K E nL (QM K E (some .int) mc ms P) cs ss pc lv [.int v] h := fun H locs ls hH hS hL =>
  W.widen hc hs (W.iret C.1 C.2.1 C.rt (Qt.mk9 hp hH hS rfl) hS.2.2 hd C.locks)
theorem g_zret {v : Int32} {mc ms : Nat} {ty : FieldType} {P : Value → AH → Prop} (C : GX K E cc nL own (some ty) nm) (hd : decode cc pc = .ok (.ireturn, 1)) (hc : cs ≤ mc) (hs : ss ≤ ms) (hnar : narrow ty (.int v) = .int v) (hp : P (.int v) h) : G K E nL (QM K E (some ty) mc ms P) cs ss pc lv [.int v] h := fun H locs ls hH hS hL =>
  W.widen hc hs (W.zret C.1 C.2.1 C.rt hnar (Qt.mk9 hp hH hS rfl) hS.2.2 hd C.locks)
theorem g_vret {mc ms : Nat} {P : Value → AH → Prop} (C : GX K E cc nL own none nm) (hd : decode cc pc = .ok (.return_, 1)) (hc : cs ≤ mc) (hs : ss ≤ ms) (hp : P .null h) : G K E nL (QM K E none mc ms P) cs ss pc lv [] h := fun H locs ls hH hS hL =>
  W.widen hc hs (W.vret C.1 C.2.1 C.rt (Qt.mk9 hp hH hS rfl) hS.2.2 hd C.locks)
theorem g_aret {a : Nat} {mc ms : Nat} {ty : FieldType} {P : Value → AH → Prop} (C : GX K E cc nL own (some ty) nm) (hd : decode cc pc = .ok (.areturn, 1)) (hrt : (∃ n, ty = .object n) ∨ ∃ t, ty = .array t) (hc : cs ≤ mc) (hs : ss ≤ ms) (hp : P (.ref a) h) : G K E nL (QM K E (some ty) mc ms P) cs ss pc lv [.ref a] h := fun H locs ls hH hS hL =>
  W.widen hc hs (W.aret C.1 C.2.1 C.rt hrt (Or.inr ⟨a, rfl⟩) (Qt.mk9 hp hH hS rfl) hS.2.2 hd C.locks)
theorem g_x {mc ms : Nat} {P : Value → AH → Prop} {PX : String → AH → Prop} (k : G K E nL (QM K E ret mc ms P) cs ss pc lv st h) : G K E nL (QX K E ret mc ms P PX) cs ss pc lv st h := fun H locs ls hH hS hL => vx_ret (k H locs ls hH hS hL)
end GR
theorem lok_of {ls : Array Slot} {nL : Nat} {lv : List (Nat × Value)} (h : lv_has ls nL lv) (hc : lv.all (fun q => q.2.category == 1) = true) : lok ls nL lv := ⟨h.1, h.2.1, fun i v e => ⟨h.2.2 (i, v) (lvk_mem e), by have := List.all_eq_true.mp hc (i, v) (lvk_mem e); simpa using this⟩⟩
/-- a contract, by the walk of the body -/
theorem Mt.of {l : Launch} {E : Ev} {y : MethodName} {cc : ByteArray} {maxL : Nat} {ret : Option FieldType} {fr lo mc ms : Nat} {av : List Value} {h : AH} {P : Value → AH → Prop} (hy : plainName y.cls = true) (hlen : (lg_sl av).length ≤ maxL)
    (body : ∀ K : Cx, kl K = l → kR K = rmk fr lo mc ms → GX K E cc maxL y.cls ret y.name → G K E maxL (QM K E ret mc ms P) 0 0 0 (lv_args 0 av) [] h) (hcat : (lv_args 0 av).all (fun q => q.2.category == 1) = true := by rfl) : Mt l E y cc maxL ret fr lo mc ms av h P := by
  refine Met.ofW (cc := cc) (maxL := maxL) (ret := ret) hy rfl ?_
  intro p e s m args below meth c s₁ B hml hv
  obtain ⟨rfl, hN, hH, hK, hZ⟩ := hv
  have hts := atoms_spec (ws := .code y cc maxL ret :: GW) B.pre
  have C : GX (p, l, e, rmk fr lo mc ms, s, m, av.toArray, below, meth, c) E cc maxL y.cls ret y.name := ⟨B.exec, B.bytes, hml, findClass_of_methodNamed B.named, fun w hw => hts w (List.mem_cons_of_mem _ hw), B.returns, B.notSynchronized, (name_of_methodNamed B.named B.method).1, hN, hK, hZ⟩
  have hl := lv_entry av (n := maxL) hlen
  rw [lg_entry_eq]
  exact body _ rfl rfl C s.heap [] _ hH va_S.rf (lok_of hl hcat)
theorem Mx.of {l : Launch} {E : Ev} {y : MethodName} {cc : ByteArray} {maxL : Nat} {ret : Option FieldType} {fr lo mc ms : Nat} {av : List Value} {h : AH} {P : Value → AH → Prop} {PX : String → AH → Prop} (hy : plainName y.cls = true) (hlen : (lg_sl av).length ≤ maxL)
    (body : ∀ K : Cx, kl K = l → kR K = rmk fr lo mc ms → (∀ x ∈ (kc K).exceptionTable.toList, False) → GX K E cc maxL y.cls ret y.name → G K E maxL (QX K E ret mc ms P PX) 0 0 0 (lv_args 0 av) [] h) (hcat : (lv_args 0 av).all (fun q => q.2.category == 1) = true := by rfl) : Mx l E y cc maxL ret fr lo mc ms av h P PX := by
  refine vx_ofW (cc := cc) (maxL := maxL) (ret := ret) hy rfl ?_
  intro p e s m args below meth c s₁ B hml ht hv
  obtain ⟨rfl, hN, hH, hK, hZ⟩ := hv
  have hts := atoms_spec (ws := .code y cc maxL ret :: GW) B.pre
  have C : GX (p, l, e, rmk fr lo mc ms, s, m, av.toArray, below, meth, c) E cc maxL y.cls ret y.name := ⟨B.exec, B.bytes, hml, findClass_of_methodNamed B.named, fun w hw => hts w (List.mem_cons_of_mem _ hw), B.returns, B.notSynchronized, (name_of_methodNamed B.named B.method).1, hN, hK, hZ⟩
  have hl := lv_entry av (n := maxL) hlen
  rw [lg_entry_eq]
  exact body _ rfl rfl ht C s.heap [] _ hH va_S.rf (lok_of hl hcat)
theorem Mt.mono {l : Launch} {E : Ev} {y : MethodName} {cc : ByteArray} {maxL : Nat} {ret : Option FieldType} {fr lo mc ms : Nat} {av : List Value} {h : AH} {P P' : Value → AH → Prop} (hp : ∀ v h, P v h → P' v h) (q : Mt l E y cc maxL ret fr lo mc ms av h P) : Mt l E y cc maxL ret fr lo mc ms av h P' := by
  unfold Mt Met at q ⊢
  exact MetFree.mono q (fun _ _ h => h) (fun _ _ _ _ _ h => h) (fun _ _ _ _ _ h => ⟨h.1.mono hp, h.2⟩)
section GXX
variable {K : Cx} {E : Ev} {cc : ByteArray} {nL : Nat} {own : String} {ret : Option FieldType} {nm : String} {Q : State → Prop} {cs ss pc : Nat} {lv : List (Nat × Value)} {st : List Value} {h : AH}
/-- the body's frame with something of class x thrown over it -/
def Gx (K : Cx) (E : Ev) (nL : Nat) (Q : State → Prop) (cs ss pc : Nat) (lv : List (Nat × Value)) (rest : List Value) (h : AH) (x : String) : Prop :=
  ∀ (H : Heap) (locs : List Loc) (ls : Array Slot) (q : Addr) (ce : Cell), hOK E h H → va_S (eA E) (ks K).heap H locs → lok ls nL lv → H[q]? = some ce → ce.vm = .none → (ks K).vm.findClass x = some ce.cls →
    vx_W (kp K) (kl K) (ke K) (kR K) (ks K) (km K) (ka K) (kb K) (kM K) (kc K) H locs cs ss Q (F0 (km K) pc ls rest) q
theorem g_backX {ret9 : Option FieldType} {mc ms : Nat} {rest : List Value} {a : Array Value} {P : Value → AH → Prop} {PX : String → AH → Prop}
    (hr : ∀ (H : Heap) (locs : List Loc) (ls : Array Slot), hOK E h H → va_S (eA E) (ks K).heap H locs → lok ls nL lv → vx_Run (kp K) (kl K) (ke K) (kR K) (ks K) (km K) (ka K) (kb K) (kM K) (kc K) H locs cs ss mc ms (F0 (km K) pc ls st) rest (Qt E ret9 P a) (Xt E PX) (eA E))
    (kk : ∀ v h', P v h' → G K E nL Q (cs + mc) (ss + ms) (pc + 3) lv ((rvo ret9 v).toList ++ rest) h') (kx : ∀ x h', PX x h' → Gx K E nL Q (cs + mc) (ss + ms) pc lv rest h' x) : G K E nL Q cs ss pc lv st h := by
  intro H locs ls hH hS hL T hT X
  have keep : ∀ (st₀ t T' : State) (L : List Loc), st₀.heap = H → T'.heap = t.heap → (∀ q ∈ L, eA E q.base) → va_F (eA E) st₀ t → va_S (eA E) (ks K).heap T'.heap (locs ++ L) := by
    intro st₀ t T' L h0 e1 hLf hF
    obtain ⟨hz, hk⟩ := hF
    rw [h0] at hz hk
    exact ⟨Nat.le_trans hS.1 (by rw [e1]; exact hz), fun q h1 h2 => by rw [e1, hk q (Nat.lt_of_lt_of_le h1 hS.1) h2]; exact hS.2.1 q h1 h2, fun q hq => by
      rcases List.mem_append.mp hq with h | h
      · exact hS.2.2 q h
      · exact hLf q h⟩
  rcases hr H locs ls hH hS hL T hT X with ⟨v, st₀, t, T', L, h0, X', hLf, e1, e2, ⟨⟨v', h', hv, hp, hh⟩, hF⟩, hst⟩ | ⟨q, st₀, t, T', L, x, ce, h0, X', hLf, e1, e2, ⟨h', hp, hh, hF⟩, hce, hcv, hcl, hst⟩
  · cases hv
    obtain ⟨t2, a1, b1⟩ := kk v' h' hp T'.heap (locs ++ L) ls (by rw [e1]; exact hh) (keep _ _ _ _ h0 e1 hLf hF) hL T' rfl X'
    exact ⟨t2, hst t2 a1, b1⟩
  · obtain ⟨t2, a1, b1⟩ := kx x h' hp T'.heap (locs ++ L) ls q ce (by rw [e1]; exact hh) (keep _ _ _ _ h0 e1 hLf hF) hL (by rw [e1]; exact hce) hcv hcl T' rfl X'
    exact ⟨t2, hst.trans a1, b1⟩
theorem g_callVx {y : MethodName} {bytes : ByteArray} {maxL idx n0 : Nat} {ret9 : Option FieldType} {fr lo mc ms : Nat} {b : Nat} {As rest : List Value} {n : Nat} (C : GX K E cc nL own ret nm) (hd : decode cc pc = .ok (.invokevirtual idx, 3)) (hn : pc + 3 = n) (hw : mwV y bytes maxL ret9 n0) (hl : Cond.methodLink own idx y ∈ GW) (hrc : ∀ (H : Heap) (locs : List Loc), hOK E h H → va_S (eA E) (ks K).heap H locs → ∃ cellB : Cell, H[b]? = some cellB ∧ cellB.vm.isStatics = false ∧ (ks K).vm.findClass y.cls = some cellB.cls)
    (hst : st = As.reverse ++ .ref b :: rest) (hlen : As.length = n0) (hR : roomOK K cs ss fr lo mc ms maxL rest) (hM : Mx (kl K) E y bytes maxL ret9 fr lo mc ms (.ref b :: As) h (fun v h' => G K E nL Q (cs + mc) (ss + ms) n lv ((rvo ret9 v).toList ++ rest) h') (fun x h' => Gx K E nL Q (cs + mc) (ss + ms) pc lv rest h' x)) : G K E nL Q cs ss pc lv st h := by
  subst hn
  obtain ⟨w1, w2, w3, w4, w5, w6, w7⟩ := hw
  obtain ⟨r1, r2, r3, r4, r5⟩ := hR
  refine g_backX (ret9 := ret9) (mc := mc) (ms := ms) (rest := rest) (a := (Value.ref b :: As).toArray) (fun H locs ls hH hS hL => ?_) (fun v h' hp => hp) (fun x h' hp => hp)
  exact vx_runV (Ts := GW) (C := y.cls) ⟨C.1, C.2.1, C.ml, C.ow, C.2.2.2.2.1⟩ hM (cwV n0 C.2.2.2.2.1 (good5 hl w1 w2 w3 (goodCW w4)) rfl rfl rfl ⟨rfl, w5, w6, w7⟩ ⟨r1, r2⟩) ⟨blindW _ _, hrc H locs hH hS, preW C hH hS _⟩ rfl hlen hL.1 hst (lv_room r5) hd ⟨r3, r4⟩
theorem g_callSx {y : MethodName} {bytes : ByteArray} {maxL idx n0 : Nat} {ret9 : Option FieldType} {fr lo mc ms : Nat} {As rest : List Value} {n : Nat} (C : GX K E cc nL own ret nm) (hd : decode cc pc = .ok (.invokestatic idx, 3)) (hn : pc + 3 = n) (hw : mwS y bytes maxL ret9 n0) (hl : Cond.methodLink own idx y ∈ GW)
    (hst : st = As.reverse ++ rest) (hlen : As.length = n0) (hR : roomOK K cs ss fr lo mc ms maxL rest) (hM : Mx (kl K) E y bytes maxL ret9 fr lo mc ms As h (fun v h' => G K E nL Q (cs + mc) (ss + ms) n lv ((rvo ret9 v).toList ++ rest) h') (fun x h' => Gx K E nL Q (cs + mc) (ss + ms) pc lv rest h' x)) : G K E nL Q cs ss pc lv st h := by
  subst hn
  obtain ⟨w1, w2, w3, w4, w5, w6⟩ := hw
  obtain ⟨r1, r2, r3, r4, r5⟩ := hR
  refine g_backX (ret9 := ret9) (mc := mc) (ms := ms) (rest := rest) (a := As.toArray) (fun H locs ls hH hS hL => ?_) (fun v h' hp => hp) (fun x h' hp => hp)
  exact vx_runS (Ts := GW) ⟨C.1, C.2.1, C.ml, C.ow, C.2.2.2.2.1⟩ hM (va_cwS n0 C.2.2.2.2.1 (good3 hl w1 w2 (goodCW w3)) rfl rfl rfl ⟨w4, w5, w6⟩ ⟨r1, r2⟩) ⟨blindW _ _, preW C hH hS _⟩ rfl hlen hL.1 hst (lv_room r5) hd ⟨r3, r4⟩
/-- what comes up isn't caught here -/
theorem g_out {mc ms : Nat} {P : Value → AH → Prop} {PX : String → AH → Prop} {rest : List Value} {x : String} (C : GX K E cc nL own ret nm) (htab : ∀ z ∈ (kc K).exceptionTable.toList, False) (hc : cs ≤ mc) (hs : ss ≤ ms) (hp : PX x h) : Gx K E nL (QX K E ret mc ms P PX) cs ss pc lv rest h x := fun H locs ls q ce hH hS hL hce hcv hcl =>
  vx_out (fun z hz => (htab z hz).elim) C.locks hce hcv hcl (fun t ht _ => ⟨h, hp, by rw [ht]; exact hH, hS.F ht⟩) hS.2.2 hc hs
theorem hOK_keep {h : AH} {H H1 : Heap} (hH : hOK E h H) (hk : ∀ q : Nat, q < H.size → H1[q]? = H[q]?) : hOK E h H1 := fun a e he => ⟨(hH a e he).1.kept (hk a (hH a e he).1.lt), (hH a e he).2⟩
/-- throw new x("text") -/
theorem g_throw {mc ms : Nat} {P : Value → AH → Prop} {PX : String → AH → Prop} {x text : String} {names : List String} {ik is ic key : Nat} {p3 p4 p6 p9 : Nat} (C : GX K E cc nL own ret nm) (hl : (kl K).stackTraces = false) (htab : ∀ z ∈ (kc K).exceptionTable.toList, False)
    (d0 : decode cc pc = .ok (.new ik, 3)) (h3 : pc + 3 = p3) (d3 : decode cc p3 = .ok (.dup, 1)) (h4 : pc + 4 = p4) (d4 : decode cc p4 = .ok (.ldc is, 2)) (h6 : pc + 6 = p6) (d6 : decode cc p6 = .ok (.invokespecial ic, 3)) (h9 : pc + 9 = p9) (d9 : decode cc p9 = .ok (.athrow, 1))
    (hx1 : Bundle.fit x = true) (hx2 : ∀ n ∈ names, Bundle.fit n = true) (hk : Cond.classLink own ik x ∈ GW) (hini : Cond.initialized x ∈ GW) (hstr : (own, is, text, key) ∈ SREF) (hat : ∀ w ∈ vx_atS own ic x names, w ∈ GW ∨ w ∈ TW) (hgood : ∀ w ∈ Cond.classLink own ik x :: Cond.initialized x :: vx_atS own ic x names, vx_ot w = true)
    (hR : names.length + 3 < (kR K).frames ∧ (st.map fun v => v.category).sum + (13 * (names.length + 1) + 43) ≤ (kR K).locals ∧ cs + 1 ≤ (kR K).cells ∧ ss + 6 ≤ (kR K).slots ∧ cs + 1 ≤ mc ∧ ss + 6 ≤ ms) (hp : PX x h) : G K E nL (QX K E ret mc ms P PX) cs ss pc lv st h := by
  subst h3 h4 h6 h9
  intro H locs ls hH hS hL
  refine vx_throwS (text := text) (sa := E.2.2 key) C.1 C.2.1 hl C.ow hx1 hx2 (C.gw hk) (C.gw hini) (C.z.2.2.2.2.2.2.2.1 _ hstr) (fun w hw => ?_) hgood C.z.1 C.z.2.1 hS (by rw [C.ml]; exact hL.1) d0 d3 d4 d6 d9 (fun z hz => (htab z hz).elim) hR.1 hR.2.1 hR.2.2.1 hR.2.2.2.1 C.locks (fun t _ hz hq => ?_) hS.2.2 hR.2.2.2.2.1 hR.2.2.2.2.2
  · rcases hat w hw with q | q
    · exact C.gw q
    · exact (C.tw q).use (by
        have g := (List.mem_filter.mp q).2
        cases w <;> first | rfl | (exact (nomatch g)) | (simp [tword] at g))
  · exact ⟨h, hp, hOK_keep hH hq, ⟨Nat.le_trans hS.1 hz, fun q h1 h2 => (hq q (Nat.lt_of_lt_of_le h1 hS.1)).trans (hS.2.1 q h1 h2)⟩⟩
/-- caught by a handler of this body, past rows that take other classes -/
theorem g_catch {rest : List Value} {x name : String} {n : Nat} (C : GX K E cc nL own ret nm) (pre : List ExceptionTableEntry) (z : ExceptionTableEntry) (suf : List ExceptionTableEntry) (hsplit : (kc K).exceptionTable.toList = pre ++ z :: suf)
    (hpass : ∀ w ∈ pre, w.catchType ≠ 0 ∧ ∃ nm9 : String, Cond.classLink own w.catchType nm9 ∈ GW ∧ va_Nc x nm9 (ks K)) (hz : covers z pc = true) (h0 : z.catchType ≠ 0) (hl : Cond.classLink own z.catchType name ∈ GW) (hcast : Cond.castable x name ∈ TW) (hn : z.handlerPc = n)
    (k : ∀ q : Nat, G K E nL Q cs ss n lv [.ref q] h) : Gx K E nL Q cs ss pc lv rest h x := fun H locs ls q ce hH hS hL hce hcv hcl =>
  vx_catch C.ow pre z suf hsplit (fun w hw => Or.inr ⟨(hpass w hw).1, (hpass w hw).2.choose, C.gw (hpass w hw).2.choose_spec.1, (hpass w hw).2.choose_spec.2⟩) hz h0 (C.gw hl) ((C.tw hcast).use rfl) hce hcv hcl (by rw [hn]; exact k q H locs ls hH hS hL)
end GXX
