/-! an exception whose constructor hands its text on by another index than 7 (from the kit's pasting text, its chain's first link told apart) -/
def nxAtoms (own : String) (ic : Nat) (X Y : String) (r : List String) (bs : ByteArray) (k : Nat) : List Cond :=
  Bundle.throwableAtoms ++ Bundle.throwableSAtoms ++ (Bundle.passSAtoms X Y k bs ++ Bundle.chainSAtoms Y r) ++
  [.methodLink own ic (Bundle.initS X), .instantiable X 6, .castable X X, .selects X Bundle.tFill0 Bundle.tFill0, .selects X Bundle.tFill Bundle.tFill,
   .lays X Bundle.tN "cause" "Ljava/lang/Throwable;", .lays X Bundle.tN "stackTrace" Bundle.steD, .lays X Bundle.tN "suppressedExceptions" Bundle.listD, .lays X Bundle.tN "detailMessage" "Ljava/lang/String;",
   .isRef (.static Bundle.tN "UNASSIGNED_STACK" Bundle.steD), .isRef (.static Bundle.tN "SUPPRESSED_SENTINEL" Bundle.listD),
   .fieldLink Bundle.tN 198 Bundle.tN "backtrace" "Ljava/lang/Object;", .lays Bundle.tN Bundle.tN "backtrace" "Ljava/lang/Object;", .lays X Bundle.tN "backtrace" "Ljava/lang/Object;"]
section NXK
variable {p : Program} {l : Launch} {e : Env} {R : Room} {s : State} {m₀ : MethodId} {args : Array Value} {below : List Frame} {meth : Method} {c : Code} {W : State} {locs : List Loc} {cells slots : Nat}
set_option maxHeartbeats 1000000 in
theorem nx_ctorMade (X : Stand p l e R s m₀ args below meth c W locs cells slots) (hexec : p.tables.exec = Jvm.exec) (htr : e.platform.stackTraces = false) {own cls sup9 : String} {r9 : List String} {ic k9 : Nat} {bs9 : ByteArray}
    (hown : s.vm.findClass own = some m₀.cls) (hcls : Bundle.fit cls = true) (hY9 : Bundle.fit sup9 = true) (hnames : ∀ n ∈ r9, Bundle.fit n = true) (z0 : decode bs9 0 = .ok (.aload_n 0, 1)) (z1 : decode bs9 1 = .ok (.aload_n 1, 1)) (z2 : decode bs9 2 = .ok (.invokespecial k9, 3)) (z5 : decode bs9 5 = .ok (.return_, 1))
    (h : ∀ a ∈ nxAtoms own ic cls sup9 r9 bs9 k9, a.before args s = true)
    (hlocs : ∀ x ∈ locs, ∀ cell, s.heap[x.base]? = some cell → cell.vm.isStatics = false)
    {a : Addr} {cX : ClassId} {kX : Class} (hfoundX : s.vm.findClass cls = some cX) (hkX : s.vm.classes[cX]? = some kX) (hcell : W.heap[a]? = some (freshCell cX kX)) (hnew : s.heap.size ≤ a)
    {msg : Value} (hmsg : msg.isRef = true)
    {g : JFrame} (hg : g.method = m₀) (hsize : g.locals.size = c.maxLocals) {rest : List Value} (hstack : g.stack = msg :: .ref a :: .ref a :: rest)
    (hd6 : decode c.code g.pc = .ok (.invokespecial ic, 3))
    (hRframes : (r9.length + 1) + 3 < R.frames) (hRlocals : 2 * g.monitorRoom + ((Value.ref a :: rest).map fun v => v.category).sum + (13 * ((r9.length + 1) + 1) + 42) ≤ R.locals) :
    ∃ (V : State) (ce : Cell) (L : List Loc), Stand p l e R s m₀ args below meth c (V.setCell a ce) (locs ++ L) cells slots ∧ (∀ y ∈ L, y.base = a) ∧ a < V.heap.size ∧ ce.cls = cX ∧ ce.vm = .none ∧
      ∀ target, Steps p.tables e below ((V.setCell a ce).setTop { g with stack := .ref a :: rest, pc := g.pc + 3 }) target → Steps p.tables e below (W.setTop g) target := by
  have howns : e.platform.frameOwnsMonitors = true := by rw [X.admits.platform]
  have hfin : e.platform.finalization = false := by rw [X.admits.platform]
  have hpl : e.platform.magicAccessors = ({} : Platform).magicAccessors := by rw [X.admits.platform]
  have a' : ∀ x, x ∈ nxAtoms own ic cls sup9 r9 bs9 k9 → x.holds args s none s [] = true := fun x hx => h x hx
  obtain ⟨T, Z0, L, -, Y⟩ := ThrowableC.of_atoms (args := args) howns hfin hpl (fun x hx => h x (by simp [nxAtoms, hx]))
  obtain ⟨Z, M, LZ, LM, hnZ⟩ := Init0T.ofS_atoms (args := args) hpl L Y (fun x hx => h x (by simp [nxAtoms, hx]))
  obtain ⟨P1, L1, hP1m, hs1⟩ := PassC.ofS_atoms (args := args) (s := s) hpl (X := cls) (Y := sup9) (Bundle.fit_spec hcls).1 (Bundle.fit_spec hY9).2 z0 z1 z2 z5 (fun x hx => h x (by simp [nxAtoms, hx]))
  obtain ⟨P2, Ps2, hlen2, L2, hL2, hm2, hsup2, hpass2⟩ := Bundle.chainS (args := args) hpl hnZ r9 sup9 hY9 hnames (fun x hx => h x (by simp [nxAtoms, hx]))
  have hlink1 := Option.some.inj (hs1.symm.trans hm2)
  have hlen : (P2 :: Ps2).length = r9.length + 1 := by simp [hlen2]
  have hL : ∀ P, P ∈ P2 :: Ps2 → P.LinksS e.platform s := fun P hP => by
    rcases List.mem_cons.mp hP with rfl | hP
    · exact L2
    · exact hL2 P hP
  have hfound : s.vm.findClass cls = some P1.m.cls := findClass_of_methodNamed hP1m
  cases Option.some.inj (hfoundX.symm.trans hfound)
  obtain ⟨c1, kX', hc1, hk, hord, -, -, hn6⟩ := Cond.instantiable_spec (a' (.instantiable cls 6) (by simp [nxAtoms]))
  cases Option.some.inj (hc1.symm.trans hfound)
  cases Option.some.inj (hkX.symm.trans hk)
  have hsel0 : selectMethod e.platform s.vm P1.m.cls T.fill0 = .method T.fill0 := by
    obtain ⟨c2, r2, m2, q1, q2, q3, q4, -⟩ := Cond.selects_spec (a' (.selects cls Bundle.tFill0 Bundle.tFill0) (by simp [nxAtoms]))
    cases Option.some.inj (q1.symm.trans hfound)
    cases Option.some.inj (q2.symm.trans (State.methodFound?_of_named Y.fill0 (by decide)))
    cases Option.some.inj (q3.symm.trans Y.fill0)
    rw [Launch.admits_selectMethod X.admits]; exact q4
  have hselF : selectMethod e.platform s.vm P1.m.cls T.fill = .method T.fill := by
    obtain ⟨c2, r2, m2, q1, q2, q3, q4, -⟩ := Cond.selects_spec (a' (.selects cls Bundle.tFill Bundle.tFill) (by simp [nxAtoms]))
    cases Option.some.inj (q1.symm.trans hfound)
    cases Option.some.inj (q2.symm.trans (State.methodFound?_of_named Y.fill (by decide)))
    cases Option.some.inj (q3.symm.trans Y.fill)
    rw [Launch.admits_selectMethod X.admits]; exact q4
  obtain ⟨cellS0, hcS0, hiss⟩ := Y.statics
  obtain ⟨u0, hu0⟩ := Cond.staticRefV Y.unassigned L.unassignedStatic L.statics hcS0 hiss (a' (.isRef (.static Bundle.tN "UNASSIGNED_STACK" Bundle.steD)) (by simp [nxAtoms]))
  obtain ⟨sen, hsen⟩ := Cond.staticRefV Y.sentinel L.sentinelStatic L.statics hcS0 hiss (a' (.isRef (.static Bundle.tN "SUPPRESSED_SENTINEL" Bundle.listD)) (by simp [nxAtoms]))
  obtain ⟨ci198, i198, fB, hk198, hg198, ha198, hsB, -, hnB, htB, hffB⟩ := Cond.ownField (t := .object "java/lang/Object") Y.found L.cls (by decide +kernel) (a' (.fieldLink Bundle.tN 198 Bundle.tN "backtrace" "Ljava/lang/Object;") (by simp [nxAtoms])) (a' (.lays Bundle.tN Bundle.tN "backtrace" "Ljava/lang/Object;") (by simp [nxAtoms])) e.platform hpl
  obtain ⟨cellS, hcS', heS, -, hkeep⟩ := X.same.2.2.2.2.2 T.aS cellS0 hcS0
  have hcellS : W.heap[T.aS]? = some cellS := hcS'
  have hout' : ∀ i, (⟨T.aS, i⟩ : Loc) ∉ locs := fun i hmem => by
    have := hlocs _ hmem cellS0 hcS0
    rw [hiss] at this; cases this
  have hknownS : cellS.vm ≠ .unknown := by
    rw [heS]; intro hu
    rw [show cellS0.vm = .unknown from hu] at hiss
    cases hiss
  have hneS : T.aS ≠ a := Nat.ne_of_lt (Nat.lt_of_lt_of_le (Array.getElem?_eq_some_iff.mp hcS0).1 hnew)
  obtain ⟨iM, hffM⟩ := Y.msg
  obtain ⟨tyC, dC, hdC, hdnC⟩ := Cond.laysAt hfound hk Y.cause (a' (.lays cls Bundle.tN "cause" "Ljava/lang/Throwable;") (by simp [nxAtoms]))
  obtain ⟨tyS, dS, hdS, hdnS⟩ := Cond.laysAt hfound hk Y.stack (a' (.lays cls Bundle.tN "stackTrace" Bundle.steD) (by simp [nxAtoms]))
  obtain ⟨tyP, dP, hdP, hdnP⟩ := Cond.laysAt hfound hk Y.supp (a' (.lays cls Bundle.tN "suppressedExceptions" Bundle.listD) (by simp [nxAtoms]))
  obtain ⟨tyM, dM, hdM, hdnM⟩ := Cond.laysAt hfound hk hffM (a' (.lays cls Bundle.tN "detailMessage" "Ljava/lang/String;") (by simp [nxAtoms]))
  obtain ⟨tyB, dB, hdB, hdnB⟩ := Cond.laysAt hfound hk hffB (a' (.lays cls Bundle.tN "backtrace" "Ljava/lang/Object;") (by simp [nxAtoms]))
  have bC := Cond.laysApart hdB hdC hdnB hdnC (by rw [hnB, Y.causeName]; decide)
  have bS := Cond.laysApart hdB hdS hdnB hdnS (by rw [hnB, Y.stackName]; decide)
  have bP := Cond.laysApart hdB hdP hdnB hdnP (by rw [hnB, Y.suppName]; decide)
  have hskip : SkipFacts T e.platform s (fun u => u) u0 ((preparedCellV T.toThrowableT (freshCell P1.m.cls kX) a u0 sen).withEntry W.cur) :=
    ⟨{ ci198 := ci198, i198 := i198, fBack := fB }, ⟨hk198, hg198, ha198, hsB⟩, by
      have := fresh_default (c := P1.m.cls) tyB
      rw [htB] at this
      simpa [preparedCellV, Cell.setSlot, Cell.withEntry, Array.getElem?_setIfInBounds, bC, bS, bP, bC.symm, bS.symm, bP.symm, defaultValue] using this, fun _ _ => rfl⟩
  obtain ⟨tm, methC, cdC, kC, vm₁, hnC, -, -, -, -, -, -, -, hW₁, st1⟩ := Steps.initColdS (tb := p.tables) (e := e) (below := below) (s := s) (U := W) X.here hexec X.warmed hpl hown (t := Bundle.initS cls) rfl rfl (Bundle.fit_spec hcls).2
    (a' (.methodLink own ic (Bundle.initS cls)) (by simp [nxAtoms])) (h (.instanceMethod (Bundle.initS cls)) (by simp [nxAtoms, Bundle.passSAtoms])) (bytes := bs9) (maxL := 2) (h (.code (Bundle.initS cls) bs9 2 none) (by simp [nxAtoms, Bundle.passSAtoms]))
    (f := g) hg (a := a) (msg := msg) (rest := .ref a :: rest) hstack hd6
  cases Option.some.inj (hnC.symm.trans hP1m)
  have X₁ := X.noted hW₁
  obtain ⟨vm₂, X₂, st2⟩ := X₁.ctorMessageOffV hexec (g := { g with stack := .ref a :: rest }) hg hsize T L Z LZ M LM (P1 :: P2 :: Ps2)
    (fun P hP => by rcases List.mem_cons.mp hP with rfl | hP; exact L1; exact hL P hP) ⟨hlink1, hsup2, hpass2⟩ (u0 := u0) (sen := sen) (self := a) hmsg (cell := freshCell P1.m.cls kX) (cellS := cellS)
    hcell (fun _ => by simp) (by simp) rfl rfl hsel0 hselF hcellS hneS hknownS (by rw [hkeep _ (hout' _)]; exact hu0) (by rw [hkeep _ (hout' _)]; exact hsen)
    (Takes.of_laid hk hord tyC (by rw [Y.causeType]; rfl)) (Takes.of_laid hk hord tyS (by rw [Y.stackType]; exact fits_refV_array _ u0)) (Takes.of_laid hk hord tyP (by rw [Y.suppType]; exact fits_refV_object _ sen))
    (Takes.of_laid hk hord tyM (by rw [Y.msgType]; exact fits_refV_object _ ⟨msg, hmsg⟩)) Y.objLocals hskip htr [] hd6
    (by simp only [List.length_cons, hlen]; omega) (by simp only [List.length_cons, hlen]; exact hRlocals)
  have hlt : a < ((W.setVm vm₁).setVm vm₂).heap.size := (Array.getElem?_eq_some_iff.mp hcell).1
  refine ⟨(W.setVm vm₁).setVm vm₂, _, _, X₂, fun y hy => ?_, hlt, rfl, rfl, fun target hwalk => st1 _ (fun acts => ?_)⟩
  · simp only [List.mem_cons, List.not_mem_nil, or_false] at hy
    rcases hy with rfl | rfl | rfl | rfl | rfl <;> rfl
  · rw [doInvoke_state]
    exact st2 _ hwalk
end NXK
section NXT
variable {p : Program} {l : Launch} {e : Env} {R : Room} {s : State} {m : MethodId} {args : Array Value} {below : List Frame} {meth : Method} {c : Code} {H : Heap} {locs : List Loc} {cells slots : Nat} {Q : State → Prop}
variable {mc ms : Nat} {free : Addr → Prop} {A0 A1 : Nat → Prop} {H0 : Heap} {a : Array Value} {ls : Array Slot} {st0 rest : List Value}
variable {Qc : Array Value → State → Outcome → State → Prop} {XC : String → State → State → Prop}
theorem nx_throwS {cc : ByteArray} {pc : Nat} (hexec : p.tables.exec = Jvm.exec) (hb : c.code = cc) (hl : l.stackTraces = false) {own cls text : String} {sup9 : String} {r9 : List String} {bs9 : ByteArray} {ik is ic mc ms sa k9 : Nat} {A : Nat → Prop}
    (hown : s.vm.findClass own = some m.cls) (hcls : Bundle.fit cls = true) (hY9 : Bundle.fit sup9 = true) (hnames : ∀ n ∈ r9, Bundle.fit n = true) (z0 : decode bs9 0 = .ok (.aload_n 0, 1)) (z1 : decode bs9 1 = .ok (.aload_n 1, 1)) (z2 : decode bs9 2 = .ok (.invokespecial k9, 3)) (z5 : decode bs9 5 = .ok (.return_, 1))
    (hk : (Cond.classLink own ik cls).before args s = true) (hini : (Cond.initialized cls).before args s = true) (hstr : vk_R own is text sa s) (hat : ∀ w ∈ (nxAtoms own ic cls sup9 r9 bs9 k9).filter vx_no, w.before args s = true)
    (hgood : ∀ w ∈ Cond.classLink own ik cls :: Cond.initialized cls :: (nxAtoms own ic cls sup9 r9 bs9 k9).filter vx_no, vx_ot w = true)
    (hU : vx_Zq Bundle.tN "UNASSIGNED_STACK" Bundle.steD A s s.heap) (hN : vx_Zq Bundle.tN "SUPPRESSED_SENTINEL" Bundle.listD A s s.heap) (hS : va_S A s.heap H locs) (hsize : ls.size = c.maxLocals)
    (d0 : decode cc pc = .ok (.new ik, 3)) (d3 : decode cc (pc + 3) = .ok (.dup, 1)) (d4 : decode cc (pc + 4) = .ok (.ldc is, 2)) (d6 : decode cc (pc + 6) = .ok (.invokespecial ic, 3)) (d9 : decode cc (pc + 9) = .ok (.athrow, 1))
    (hout : ∀ x ∈ c.exceptionTable.toList, covers x (pc + 9) = false)
    (hRframes : (r9.length + 1) + 3 < R.frames) (hRlocals : (rest.map fun v => v.category).sum + (13 * ((r9.length + 1) + 1) + 43) ≤ R.locals) (hRcells : cells + 1 ≤ R.cells) (hRslots : slots + 6 ≤ R.slots) (hlocks : meth.locks = false)
    (hx : ∀ t : State, s.vm.Alike t.vm → H.size ≤ t.heap.size → (∀ q : Nat, q < H.size → t.heap[q]? = H[q]?) → XC cls s t)
    (hf : ∀ z ∈ locs, free z.base) (hc : cells + 1 ≤ mc) (hs : slots + 6 ≤ ms) :
    W p l e R s m args below meth c H locs cells slots (vx_MQ below Qc XC args s mc ms free) (F0 m pc ls rest) := by
  intro T hT X
  have htr : e.platform.stackTraces = false := (show e.platform.stackTraces = l.stackTraces by rw [X.admits.platform]).trans hl
  have Y := vx_rebase X (R' := { frames := R.frames, locals := R.locals, cells := 1, slots := 6 }) (Nat.le_refl _) (Nat.le_refl _) hRcells hRslots
  obtain ⟨s', hA⟩ : ∃ z, z = (T.setVm s.vm).setFrames (.invoking m args :: below) := ⟨_, rfl⟩
  rw [← hA] at Y
  have hvm : s'.vm = s.vm := by rw [hA]; rfl
  have hhp : s'.heap = H := by rw [hA]; exact hT
  have hW0 : s.WarmedH s'.vm := by rw [hvm]; exact State.WarmedH.refl s
  have hat' : ∀ w ∈ (nxAtoms own ic cls sup9 r9 bs9 k9).filter vx_no, w.before args s' = true := fun w hw => vx_ot_at hW0 hvm.symm (hgood w (List.mem_cons_of_mem _ (List.mem_cons_of_mem _ hw))) (hat w hw)
  have hk' : (Cond.classLink own ik cls).before args s' = true := vx_ot_at hW0 hvm.symm (hgood _ List.mem_cons_self) hk
  have hini' : (Cond.initialized cls).before args s' = true := vx_ot_at hW0 hvm.symm (hgood _ (List.mem_cons_of_mem _ List.mem_cons_self)) hini
  have hU' : vx_Zq Bundle.tN "UNASSIGNED_STACK" Bundle.steD A s' s'.heap := by rw [hhp]; exact vx_Zq.moved hW0.alike (hU.kept hS.2.1)
  have hN' : vx_Zq Bundle.tN "SUPPRESSED_SENTINEL" Bundle.listD A s' s'.heap := by rw [hhp]; exact vx_Zq.moved hW0.alike (hN.kept hS.2.1)
  have h : ∀ w ∈ nxAtoms own ic cls sup9 r9 bs9 k9, w.before args s' = true := vx_own hat' (vx_isRefq hU'.1) (vx_isRefq hN'.1) hU'.2.word hN'.2.word
  have hown' : s'.vm.findClass own = some m.cls := by rw [hvm]; exact hown
  have hins : (Cond.instantiable cls 6).before args s' = true := h _ (by simp [nxAtoms])
  obtain ⟨vm₁, cX, kX, hfX, hkX, -, -, X₁, st1⟩ := Y.newCold hexec (own := own) (C := cls) (index := ik) (n := 6) hown' hk' hins hini'
    (g := F0 m pc ls rest) rfl (by rw [hb]; exact d0) (Nat.le_refl _) (Nat.le_refl _)
  generalize hT1 : (T.setVm vm₁).pushCell { cls := cX, slots := kX.instanceTypes.map defaultValue, vm := .none } = T1 at X₁ st1
  have hcat : (Value.ref T.heap.size).category = 1 := rfl
  have hcellA : T1.heap[T.heap.size]? = some (freshCell cX kX) := by rw [← hT1]; exact State.heap_pushCell_size _ _
  have d3' : decode c.code (pc + 3) = .ok (.dup, 1) := by rw [hb]; exact d3
  have d4' : decode c.code (pc + 4) = .ok (.ldc is, 2) := by rw [hb]; exact d4
  have hstr' : vk_R own is text sa s' := vk_R.warm hW0 hstr
  obtain ⟨V9, ce, L9, X₂, hLb, hlt9, hcc, hcv, st2⟩ := nx_ctorMade X₁ hexec htr (own := own) (cls := cls) (ic := ic) hown' hcls hY9 hnames z0 z1 z2 z5 h (fun x hx => nomatch hx) hfX hkX hcellA (by rw [hhp, hT]; exact Nat.le_refl _) (msg := .ref sa) rfl
    (g := { method := m, pc := pc + 6, locals := ls, stack := .ref sa :: .ref T.heap.size :: .ref T.heap.size :: rest, locked := none }) rfl hsize (rest := rest) rfl
    (by rw [hb]; exact d6) hRframes (by simp only [List.map_cons, List.sum_cons, hcat]; omega)
  obtain ⟨hwalk, hrun, hend, hW, hsame0⟩ := X₂.athrowLeaves hexec (g := { method := m, pc := pc + 9, locals := ls, stack := .ref T.heap.size :: rest, locked := none }) rfl rfl rfl hout (rest := rest) rfl (by rw [hb]; exact d9) hlocks
  have hsame := hsame0.weaken (l' := []) (fun y hy hlt' => by
    rcases List.mem_append.mp hy with q | q
    · exact q
    · have q2 := hLb y q
      rw [hhp] at hlt'
      rw [q2, hT] at hlt'
      exact absurd hlt' (Nat.lt_irrefl _)) (Nat.le_refl _) (Nat.le_refl _)
  have hsteps := st2 _ hwalk
  generalize hU9 : (V9.setCell T.heap.size ce).setFrames (.throwing T.heap.size :: below) = U at hrun hend hW hsame hsteps
  have hce : U.heap[T.heap.size]? = some ce := by
    rw [← hU9]
    exact heapAt_setCell_self (s := V9) ce hlt9
  obtain ⟨f1, f2⟩ := vx_frame hsame
  rw [hhp] at f1 f2
  have hWs : s.WarmedH U.vm := State.WarmedH.trans hW0 hW
  have hcl : s.vm.findClass cls = some ce.cls := by
    have h9 := hfX
    rw [hvm] at h9
    rw [hcc]
    exact h9
  have hall : s.sameButNew ({ U with vm := s.vm } : State) locs mc ms := by
    subst hA
    obtain ⟨e1, e2⟩ := hsame
    rw [State.setFrames_setFrames] at e1
    have h2 : (T.setVm s.vm).sameButNew ({ U with vm := s.vm } : State) [] (0 + 1) (0 + 6) := ⟨e1, e2⟩
    have h3 := X.same.trans h2
    rw [List.append_nil] at h3
    exact h3.mono hc hs
  refine ⟨U, ?_, .threw T.heap.size, hrun, hend, Or.inr ⟨T.heap.size, rfl, cls, ce, locs, hx U hWs.alike f1 (fun q hq => f2 q hq (fun z hz => nomatch hz)), hce, hcv, hcl, hWs, hall, hf⟩⟩
  refine st1 _ ?_
  show Steps p.tables e below (T1.setTop { method := m, pc := pc + 3, locals := ls, stack := .ref T.heap.size :: rest, locked := none }) _
  jvm_step X₁.here [X₁.here.top, hexec, d3', Value.category]
  exact X₁.ldcString hexec (own := own) (text := text) (index := is) (a := sa) hown' hstr'.1 hstr'.2
    (g := { method := m, pc := pc + 4, locals := ls, stack := .ref T.heap.size :: .ref T.heap.size :: rest, locked := none }) rfl d4' _ hsteps
end NXT
section NXG
variable {K : Cx} {E : Ev} {cc : ByteArray} {nL : Nat} {own : String} {ret : Option FieldType} {nm : String} {Q : State → Prop} {cs ss pc : Nat} {lv : List (Nat × Value)} {st : List Value} {h : AH}
theorem g_throwW {mc ms : Nat} {P : Value → AH → Prop} {PX : String → AH → Prop} {x text : String} {names : List String} {ik is ic key : Nat} {p3 p4 p7 p10 : Nat} (C : GX K E cc nL own ret nm) (hl : (kl K).stackTraces = false) (htab : ∀ z ∈ (kc K).exceptionTable.toList, False)
    (d0 : decode cc pc = .ok (.new ik, 3)) (h3 : pc + 3 = p3) (d3 : decode cc p3 = .ok (.dup, 1)) (h4 : pc + 4 = p4) (d4 : decode cc p4 = .ok (.ldc_w is, 3)) (h7 : pc + 7 = p7) (d7 : decode cc p7 = .ok (.invokespecial ic, 3)) (h10 : pc + 10 = p10) (d10 : decode cc p10 = .ok (.athrow, 1))
    (hx1 : Bundle.fit x = true) (hx2 : ∀ n ∈ names, Bundle.fit n = true) (hk : Cond.classLink own ik x ∈ GW) (hini : Cond.initialized x ∈ GW) (hstr : (own, is, text, key) ∈ SREF) (hat : ∀ w ∈ vx_atS own ic x names, w ∈ GW ∨ w ∈ TW) (hgood : ∀ w ∈ Cond.classLink own ik x :: Cond.initialized x :: vx_atS own ic x names, vx_ot w = true)
    (hR : names.length + 3 < (kR K).frames ∧ (st.map fun v => v.category).sum + (13 * (names.length + 1) + 43) ≤ (kR K).locals ∧ cs + 1 ≤ (kR K).cells ∧ ss + 6 ≤ (kR K).slots ∧ cs + 1 ≤ mc ∧ ss + 6 ≤ ms) (hp : PX x h) : G K E nL (QX K E ret mc ms P PX) cs ss pc lv st h := by
  subst h3 h4 h7 h10
  intro H locs ls hH hS hL
  refine vx_throwSW (text := text) (sa := E.2.2 key) C.1 C.2.1 hl C.ow hx1 hx2 (C.gw hk) (C.gw hini) (C.z.2.2.2.2.2.2.2.1 _ hstr) (fun w hw => ?_) hgood C.z.1 C.z.2.1 hS (by rw [C.ml]; exact hL.1) d0 d3 d4 d7 d10 (fun z hz => (htab z hz).elim) hR.1 hR.2.1 hR.2.2.1 hR.2.2.2.1 C.locks (fun t _ hz hq => ?_) hS.2.2 hR.2.2.2.2.1 hR.2.2.2.2.2
  · rcases hat w hw with q | q
    · exact C.gw q
    · exact (C.tw q).use (by
        have g := (List.mem_filter.mp q).2
        cases w <;> first | rfl | (exact (nomatch g)) | (simp [tword] at g))
  · exact ⟨h, hp, hOK_keep hH hq, ⟨Nat.le_trans hS.1 hz, fun q h1 h2 => (hq q (Nat.lt_of_lt_of_le h1 hS.1)).trans (hS.2.1 q h1 h2)⟩⟩
theorem g_throwN {mc ms : Nat} {P : Value → AH → Prop} {PX : String → AH → Prop} {x text sup9 : String} {r9 : List String} {bs9 : ByteArray} {ik is ic key k9 : Nat} {p3 p4 p6 p9 : Nat} (C : GX K E cc nL own ret nm) (hl : (kl K).stackTraces = false) (htab : ∀ z ∈ (kc K).exceptionTable.toList, False)
    (d0 : decode cc pc = .ok (.new ik, 3)) (h3 : pc + 3 = p3) (d3 : decode cc p3 = .ok (.dup, 1)) (h4 : pc + 4 = p4) (d4 : decode cc p4 = .ok (.ldc is, 2)) (h6 : pc + 6 = p6) (d6 : decode cc p6 = .ok (.invokespecial ic, 3)) (h9 : pc + 9 = p9) (d9 : decode cc p9 = .ok (.athrow, 1))
    (hx1 : Bundle.fit x = true) (hx3 : Bundle.fit sup9 = true) (hx2 : ∀ n ∈ r9, Bundle.fit n = true) (z0 : decode bs9 0 = .ok (.aload_n 0, 1)) (z1 : decode bs9 1 = .ok (.aload_n 1, 1)) (z2 : decode bs9 2 = .ok (.invokespecial k9, 3)) (z5 : decode bs9 5 = .ok (.return_, 1)) (hk : Cond.classLink own ik x ∈ GW) (hini : Cond.initialized x ∈ GW) (hstr : (own, is, text, key) ∈ SREF) (hat : ∀ w ∈ (nxAtoms own ic x sup9 r9 bs9 k9).filter vx_no, w ∈ GW ∨ w ∈ TW) (hgood : ∀ w ∈ Cond.classLink own ik x :: Cond.initialized x :: (nxAtoms own ic x sup9 r9 bs9 k9).filter vx_no, vx_ot w = true)
    (hR : (r9.length + 1) + 3 < (kR K).frames ∧ (st.map fun v => v.category).sum + (13 * ((r9.length + 1) + 1) + 43) ≤ (kR K).locals ∧ cs + 1 ≤ (kR K).cells ∧ ss + 6 ≤ (kR K).slots ∧ cs + 1 ≤ mc ∧ ss + 6 ≤ ms) (hp : PX x h) : G K E nL (QX K E ret mc ms P PX) cs ss pc lv st h := by
  subst h3 h4 h6 h9
  intro H locs ls hH hS hL
  refine nx_throwS (text := text) (sa := E.2.2 key) C.1 C.2.1 hl C.ow hx1 hx3 hx2 z0 z1 z2 z5 (C.gw hk) (C.gw hini) (C.z.2.2.2.2.2.2.2.1 _ hstr) (fun w hw => ?_) hgood C.z.1 C.z.2.1 hS (by rw [C.ml]; exact hL.1) d0 d3 d4 d6 d9 (fun z hz => (htab z hz).elim) hR.1 hR.2.1 hR.2.2.1 hR.2.2.2.1 C.locks (fun t _ hz hq => ?_) hS.2.2 hR.2.2.2.2.1 hR.2.2.2.2.2
  · rcases hat w hw with q | q
    · exact C.gw q
    · exact (C.tw q).use (by
        have g := (List.mem_filter.mp q).2
        cases w <;> first | rfl | (exact (nomatch g)) | (simp [tword] at g))
  · exact ⟨h, hp, hOK_keep hH hq, ⟨Nat.le_trans hS.1 hz, fun q h1 h2 => (hq q (Nat.lt_of_lt_of_le h1 hS.1)).trans (hS.2.1 q h1 h2)⟩⟩
end NXG
theorem nat_thr : ∀ w ∈ Bundle.throwableAtoms, vx_no w = true → w ∈ GW ∨ w ∈ TW := List.forall_mem_cons.mpr ⟨fun _ => Or.inl w_47, List.forall_mem_cons.mpr ⟨fun _ => Or.inl w_444, List.forall_mem_cons.mpr ⟨fun _ => Or.inl w_453, List.forall_mem_cons.mpr ⟨fun _ => Or.inl w_459, List.forall_mem_cons.mpr ⟨fun _ => Or.inl w_462, List.forall_mem_cons.mpr ⟨fun _ => Or.inl w_464, List.forall_mem_cons.mpr ⟨fun _ => Or.inl w_445, List.forall_mem_cons.mpr ⟨fun _ => Or.inl w_446, List.forall_mem_cons.mpr ⟨fun _ => Or.inl w_72, List.forall_mem_cons.mpr ⟨fun _ => Or.inl w_73, List.forall_mem_cons.mpr ⟨fun _ => Or.inl w_447, List.forall_mem_cons.mpr ⟨fun _ => Or.inl w_452, List.forall_mem_cons.mpr ⟨fun _ => Or.inl w_460, List.forall_mem_cons.mpr ⟨fun _ => Or.inl w_480, List.forall_mem_cons.mpr ⟨fun _ => Or.inl w_434, List.forall_mem_cons.mpr ⟨fun _ => Or.inl w_481, List.forall_mem_cons.mpr ⟨fun _ => Or.inl w_436, List.forall_mem_cons.mpr ⟨fun _ => Or.inl w_482, List.forall_mem_cons.mpr ⟨fun _ => Or.inl w_438, List.forall_mem_cons.mpr ⟨fun _ => Or.inl w_448, List.forall_mem_cons.mpr ⟨fun h => absurd h (by decide), List.forall_mem_cons.mpr ⟨fun _ => Or.inl w_450, List.forall_mem_cons.mpr ⟨fun h => absurd h (by decide), List.forall_mem_cons.mpr ⟨fun _ => Or.inl w_440, fun _ h => absurd h List.not_mem_nil⟩⟩⟩⟩⟩⟩⟩⟩⟩⟩⟩⟩⟩⟩⟩⟩⟩⟩⟩⟩⟩⟩⟩⟩
theorem nat_thrS : ∀ w ∈ Bundle.throwableSAtoms, vx_no w = true → w ∈ GW ∨ w ∈ TW := List.forall_mem_cons.mpr ⟨fun _ => Or.inl w_476, List.forall_mem_cons.mpr ⟨fun _ => Or.inl w_477, List.forall_mem_cons.mpr ⟨fun _ => Or.inl w_479, List.forall_mem_cons.mpr ⟨fun _ => Or.inl w_440, fun _ h => absurd h List.not_mem_nil⟩⟩⟩⟩
theorem nat_ex : ∀ w ∈ Bundle.passSAtoms "java/lang/Exception" "java/lang/Throwable" 7 Bundle.six, vx_no w = true → w ∈ GW ∨ w ∈ TW := List.forall_mem_cons.mpr ⟨fun _ => Or.inl w_473, List.forall_mem_cons.mpr ⟨fun _ => Or.inl w_474, List.forall_mem_cons.mpr ⟨fun _ => Or.inl w_475, List.forall_mem_cons.mpr ⟨fun _ => Or.inl w_476, List.forall_mem_cons.mpr ⟨fun _ => Or.inr t_430, fun _ h => absurd h List.not_mem_nil⟩⟩⟩⟩⟩
theorem nat_re : ∀ w ∈ Bundle.passSAtoms "java/lang/RuntimeException" "java/lang/Exception" 7 Bundle.six, vx_no w = true → w ∈ GW ∨ w ∈ TW := List.forall_mem_cons.mpr ⟨fun _ => Or.inl w_470, List.forall_mem_cons.mpr ⟨fun _ => Or.inl w_471, List.forall_mem_cons.mpr ⟨fun _ => Or.inl w_472, List.forall_mem_cons.mpr ⟨fun _ => Or.inl w_473, List.forall_mem_cons.mpr ⟨fun _ => Or.inr t_428, fun _ h => absurd h List.not_mem_nil⟩⟩⟩⟩⟩
theorem nat_IAEp : ∀ w ∈ Bundle.passSAtoms "java/lang/IllegalArgumentException" "java/lang/RuntimeException" 7 Bundle.six, vx_no w = true → w ∈ GW ∨ w ∈ TW := List.forall_mem_cons.mpr ⟨fun _ => Or.inl w_467, List.forall_mem_cons.mpr ⟨fun _ => Or.inl w_468, List.forall_mem_cons.mpr ⟨fun _ => Or.inl w_469, List.forall_mem_cons.mpr ⟨fun _ => Or.inl w_470, List.forall_mem_cons.mpr ⟨fun _ => Or.inr t_426, fun _ h => absurd h List.not_mem_nil⟩⟩⟩⟩⟩
theorem nat_IAEl {own : String} {ic : Nat} (hm : Cond.methodLink own ic (Bundle.initS "java/lang/IllegalArgumentException") ∈ GW) : ∀ w ∈ ([.methodLink own ic (Bundle.initS "java/lang/IllegalArgumentException"), .instantiable "java/lang/IllegalArgumentException" 6, .castable "java/lang/IllegalArgumentException" "java/lang/IllegalArgumentException", .selects "java/lang/IllegalArgumentException" Bundle.tFill0 Bundle.tFill0, .selects "java/lang/IllegalArgumentException" Bundle.tFill Bundle.tFill, .lays "java/lang/IllegalArgumentException" Bundle.tN "cause" "Ljava/lang/Throwable;", .lays "java/lang/IllegalArgumentException" Bundle.tN "stackTrace" Bundle.steD, .lays "java/lang/IllegalArgumentException" Bundle.tN "suppressedExceptions" Bundle.listD, .lays "java/lang/IllegalArgumentException" Bundle.tN "detailMessage" "Ljava/lang/String;", .isRef (.static Bundle.tN "UNASSIGNED_STACK" Bundle.steD), .isRef (.static Bundle.tN "SUPPRESSED_SENTINEL" Bundle.listD), .fieldLink Bundle.tN 198 Bundle.tN "backtrace" "Ljava/lang/Object;", .lays Bundle.tN Bundle.tN "backtrace" "Ljava/lang/Object;", .lays "java/lang/IllegalArgumentException" Bundle.tN "backtrace" "Ljava/lang/Object;"] : List Cond), vx_no w = true → w ∈ GW ∨ w ∈ TW := List.forall_mem_cons.mpr ⟨fun _ => Or.inl hm, List.forall_mem_cons.mpr ⟨fun _ => Or.inl w_423, List.forall_mem_cons.mpr ⟨fun _ => Or.inr t_424, List.forall_mem_cons.mpr ⟨fun _ => Or.inl w_431, List.forall_mem_cons.mpr ⟨fun _ => Or.inl w_432, List.forall_mem_cons.mpr ⟨fun _ => Or.inl w_433, List.forall_mem_cons.mpr ⟨fun _ => Or.inl w_435, List.forall_mem_cons.mpr ⟨fun _ => Or.inl w_437, List.forall_mem_cons.mpr ⟨fun _ => Or.inl w_439, List.forall_mem_cons.mpr ⟨fun h => absurd h (by decide), List.forall_mem_cons.mpr ⟨fun h => absurd h (by decide), List.forall_mem_cons.mpr ⟨fun _ => Or.inl w_443, List.forall_mem_cons.mpr ⟨fun _ => Or.inl w_442, List.forall_mem_cons.mpr ⟨fun _ => Or.inl w_441, fun _ h => absurd h List.not_mem_nil⟩⟩⟩⟩⟩⟩⟩⟩⟩⟩⟩⟩⟩⟩
theorem hat_IAE {own : String} {ic : Nat} (hm : Cond.methodLink own ic (Bundle.initS "java/lang/IllegalArgumentException") ∈ GW) : ∀ w ∈ vx_atS own ic "java/lang/IllegalArgumentException" ["java/lang/RuntimeException", "java/lang/Exception"], w ∈ GW ∨ w ∈ TW := fun w hw => (show ∀ w ∈ Bundle.ownAtoms own ic "java/lang/IllegalArgumentException" ["java/lang/RuntimeException", "java/lang/Exception"], vx_no w = true → w ∈ GW ∨ w ∈ TW from List.forall_mem_append.mpr ⟨List.forall_mem_append.mpr ⟨List.forall_mem_append.mpr ⟨nat_thr, nat_thrS⟩, List.forall_mem_append.mpr ⟨nat_IAEp, List.forall_mem_append.mpr ⟨nat_re, nat_ex⟩⟩⟩, nat_IAEl hm⟩) w (List.mem_filter.mp hw).1 (List.mem_filter.mp hw).2
theorem nat_IOOBp : ∀ w ∈ Bundle.passSAtoms "java/lang/IndexOutOfBoundsException" "java/lang/RuntimeException" 7 Bundle.six, vx_no w = true → w ∈ GW ∨ w ∈ TW := List.forall_mem_cons.mpr ⟨fun _ => Or.inl w_718, List.forall_mem_cons.mpr ⟨fun _ => Or.inl w_719, List.forall_mem_cons.mpr ⟨fun _ => Or.inl w_720, List.forall_mem_cons.mpr ⟨fun _ => Or.inl w_470, List.forall_mem_cons.mpr ⟨fun _ => Or.inr t_426, fun _ h => absurd h List.not_mem_nil⟩⟩⟩⟩⟩
theorem nat_IOOBl {own : String} {ic : Nat} (hm : Cond.methodLink own ic (Bundle.initS "java/lang/IndexOutOfBoundsException") ∈ GW) : ∀ w ∈ ([.methodLink own ic (Bundle.initS "java/lang/IndexOutOfBoundsException"), .instantiable "java/lang/IndexOutOfBoundsException" 6, .castable "java/lang/IndexOutOfBoundsException" "java/lang/IndexOutOfBoundsException", .selects "java/lang/IndexOutOfBoundsException" Bundle.tFill0 Bundle.tFill0, .selects "java/lang/IndexOutOfBoundsException" Bundle.tFill Bundle.tFill, .lays "java/lang/IndexOutOfBoundsException" Bundle.tN "cause" "Ljava/lang/Throwable;", .lays "java/lang/IndexOutOfBoundsException" Bundle.tN "stackTrace" Bundle.steD, .lays "java/lang/IndexOutOfBoundsException" Bundle.tN "suppressedExceptions" Bundle.listD, .lays "java/lang/IndexOutOfBoundsException" Bundle.tN "detailMessage" "Ljava/lang/String;", .isRef (.static Bundle.tN "UNASSIGNED_STACK" Bundle.steD), .isRef (.static Bundle.tN "SUPPRESSED_SENTINEL" Bundle.listD), .fieldLink Bundle.tN 198 Bundle.tN "backtrace" "Ljava/lang/Object;", .lays Bundle.tN Bundle.tN "backtrace" "Ljava/lang/Object;", .lays "java/lang/IndexOutOfBoundsException" Bundle.tN "backtrace" "Ljava/lang/Object;"] : List Cond), vx_no w = true → w ∈ GW ∨ w ∈ TW := List.forall_mem_cons.mpr ⟨fun _ => Or.inl hm, List.forall_mem_cons.mpr ⟨fun _ => Or.inl w_708, List.forall_mem_cons.mpr ⟨fun _ => Or.inr t_709, List.forall_mem_cons.mpr ⟨fun _ => Or.inl w_710, List.forall_mem_cons.mpr ⟨fun _ => Or.inl w_456, List.forall_mem_cons.mpr ⟨fun _ => Or.inl w_711, List.forall_mem_cons.mpr ⟨fun _ => Or.inl w_712, List.forall_mem_cons.mpr ⟨fun _ => Or.inl w_713, List.forall_mem_cons.mpr ⟨fun _ => Or.inl w_714, List.forall_mem_cons.mpr ⟨fun h => absurd h (by decide), List.forall_mem_cons.mpr ⟨fun h => absurd h (by decide), List.forall_mem_cons.mpr ⟨fun _ => Or.inl w_443, List.forall_mem_cons.mpr ⟨fun _ => Or.inl w_442, List.forall_mem_cons.mpr ⟨fun _ => Or.inl w_715, fun _ h => absurd h List.not_mem_nil⟩⟩⟩⟩⟩⟩⟩⟩⟩⟩⟩⟩⟩⟩
theorem hat_IOOB {own : String} {ic : Nat} (hm : Cond.methodLink own ic (Bundle.initS "java/lang/IndexOutOfBoundsException") ∈ GW) : ∀ w ∈ vx_atS own ic "java/lang/IndexOutOfBoundsException" ["java/lang/RuntimeException", "java/lang/Exception"], w ∈ GW ∨ w ∈ TW := fun w hw => (show ∀ w ∈ Bundle.ownAtoms own ic "java/lang/IndexOutOfBoundsException" ["java/lang/RuntimeException", "java/lang/Exception"], vx_no w = true → w ∈ GW ∨ w ∈ TW from List.forall_mem_append.mpr ⟨List.forall_mem_append.mpr ⟨List.forall_mem_append.mpr ⟨nat_thr, nat_thrS⟩, List.forall_mem_append.mpr ⟨nat_IOOBp, List.forall_mem_append.mpr ⟨nat_re, nat_ex⟩⟩⟩, nat_IOOBl hm⟩) w (List.mem_filter.mp hw).1 (List.mem_filter.mp hw).2
theorem nat_UOEp : ∀ w ∈ Bundle.passSAtoms "java/lang/UnsupportedOperationException" "java/lang/RuntimeException" 7 Bundle.six, vx_no w = true → w ∈ GW ∨ w ∈ TW := List.forall_mem_cons.mpr ⟨fun _ => Or.inl w_734, List.forall_mem_cons.mpr ⟨fun _ => Or.inl w_735, List.forall_mem_cons.mpr ⟨fun _ => Or.inl w_736, List.forall_mem_cons.mpr ⟨fun _ => Or.inl w_470, List.forall_mem_cons.mpr ⟨fun _ => Or.inr t_426, fun _ h => absurd h List.not_mem_nil⟩⟩⟩⟩⟩
theorem nat_UOEl {own : String} {ic : Nat} (hm : Cond.methodLink own ic (Bundle.initS "java/lang/UnsupportedOperationException") ∈ GW) : ∀ w ∈ ([.methodLink own ic (Bundle.initS "java/lang/UnsupportedOperationException"), .instantiable "java/lang/UnsupportedOperationException" 6, .castable "java/lang/UnsupportedOperationException" "java/lang/UnsupportedOperationException", .selects "java/lang/UnsupportedOperationException" Bundle.tFill0 Bundle.tFill0, .selects "java/lang/UnsupportedOperationException" Bundle.tFill Bundle.tFill, .lays "java/lang/UnsupportedOperationException" Bundle.tN "cause" "Ljava/lang/Throwable;", .lays "java/lang/UnsupportedOperationException" Bundle.tN "stackTrace" Bundle.steD, .lays "java/lang/UnsupportedOperationException" Bundle.tN "suppressedExceptions" Bundle.listD, .lays "java/lang/UnsupportedOperationException" Bundle.tN "detailMessage" "Ljava/lang/String;", .isRef (.static Bundle.tN "UNASSIGNED_STACK" Bundle.steD), .isRef (.static Bundle.tN "SUPPRESSED_SENTINEL" Bundle.listD), .fieldLink Bundle.tN 198 Bundle.tN "backtrace" "Ljava/lang/Object;", .lays Bundle.tN Bundle.tN "backtrace" "Ljava/lang/Object;", .lays "java/lang/UnsupportedOperationException" Bundle.tN "backtrace" "Ljava/lang/Object;"] : List Cond), vx_no w = true → w ∈ GW ∨ w ∈ TW := List.forall_mem_cons.mpr ⟨fun _ => Or.inl hm, List.forall_mem_cons.mpr ⟨fun _ => Or.inl w_724, List.forall_mem_cons.mpr ⟨fun _ => Or.inr t_725, List.forall_mem_cons.mpr ⟨fun _ => Or.inl w_726, List.forall_mem_cons.mpr ⟨fun _ => Or.inl w_457, List.forall_mem_cons.mpr ⟨fun _ => Or.inl w_727, List.forall_mem_cons.mpr ⟨fun _ => Or.inl w_728, List.forall_mem_cons.mpr ⟨fun _ => Or.inl w_729, List.forall_mem_cons.mpr ⟨fun _ => Or.inl w_730, List.forall_mem_cons.mpr ⟨fun h => absurd h (by decide), List.forall_mem_cons.mpr ⟨fun h => absurd h (by decide), List.forall_mem_cons.mpr ⟨fun _ => Or.inl w_443, List.forall_mem_cons.mpr ⟨fun _ => Or.inl w_442, List.forall_mem_cons.mpr ⟨fun _ => Or.inl w_731, fun _ h => absurd h List.not_mem_nil⟩⟩⟩⟩⟩⟩⟩⟩⟩⟩⟩⟩⟩⟩
theorem hat_UOE {own : String} {ic : Nat} (hm : Cond.methodLink own ic (Bundle.initS "java/lang/UnsupportedOperationException") ∈ GW) : ∀ w ∈ vx_atS own ic "java/lang/UnsupportedOperationException" ["java/lang/RuntimeException", "java/lang/Exception"], w ∈ GW ∨ w ∈ TW := fun w hw => (show ∀ w ∈ Bundle.ownAtoms own ic "java/lang/UnsupportedOperationException" ["java/lang/RuntimeException", "java/lang/Exception"], vx_no w = true → w ∈ GW ∨ w ∈ TW from List.forall_mem_append.mpr ⟨List.forall_mem_append.mpr ⟨List.forall_mem_append.mpr ⟨nat_thr, nat_thrS⟩, List.forall_mem_append.mpr ⟨nat_UOEp, List.forall_mem_append.mpr ⟨nat_re, nat_ex⟩⟩⟩, nat_UOEl hm⟩) w (List.mem_filter.mp hw).1 (List.mem_filter.mp hw).2
theorem nat_NSEp : ∀ w ∈ Bundle.passSAtoms "java/util/NoSuchElementException" "java/lang/RuntimeException" 13 prog_39_method_4_code, vx_no w = true → w ∈ GW ∨ w ∈ TW := List.forall_mem_cons.mpr ⟨fun _ => Or.inl w_916, List.forall_mem_cons.mpr ⟨fun _ => Or.inl w_917, List.forall_mem_cons.mpr ⟨fun _ => Or.inl w_918, List.forall_mem_cons.mpr ⟨fun _ => Or.inl w_470, List.forall_mem_cons.mpr ⟨fun _ => Or.inr t_426, fun _ h => absurd h List.not_mem_nil⟩⟩⟩⟩⟩
theorem nat_NSEl {own : String} {ic : Nat} (hm : Cond.methodLink own ic (Bundle.initS "java/util/NoSuchElementException") ∈ GW) : ∀ w ∈ ([.methodLink own ic (Bundle.initS "java/util/NoSuchElementException"), .instantiable "java/util/NoSuchElementException" 6, .castable "java/util/NoSuchElementException" "java/util/NoSuchElementException", .selects "java/util/NoSuchElementException" Bundle.tFill0 Bundle.tFill0, .selects "java/util/NoSuchElementException" Bundle.tFill Bundle.tFill, .lays "java/util/NoSuchElementException" Bundle.tN "cause" "Ljava/lang/Throwable;", .lays "java/util/NoSuchElementException" Bundle.tN "stackTrace" Bundle.steD, .lays "java/util/NoSuchElementException" Bundle.tN "suppressedExceptions" Bundle.listD, .lays "java/util/NoSuchElementException" Bundle.tN "detailMessage" "Ljava/lang/String;", .isRef (.static Bundle.tN "UNASSIGNED_STACK" Bundle.steD), .isRef (.static Bundle.tN "SUPPRESSED_SENTINEL" Bundle.listD), .fieldLink Bundle.tN 198 Bundle.tN "backtrace" "Ljava/lang/Object;", .lays Bundle.tN Bundle.tN "backtrace" "Ljava/lang/Object;", .lays "java/util/NoSuchElementException" Bundle.tN "backtrace" "Ljava/lang/Object;"] : List Cond), vx_no w = true → w ∈ GW ∨ w ∈ TW := List.forall_mem_cons.mpr ⟨fun _ => Or.inl hm, List.forall_mem_cons.mpr ⟨fun _ => Or.inl w_906, List.forall_mem_cons.mpr ⟨fun _ => Or.inr t_907, List.forall_mem_cons.mpr ⟨fun _ => Or.inl w_908, List.forall_mem_cons.mpr ⟨fun _ => Or.inl w_458, List.forall_mem_cons.mpr ⟨fun _ => Or.inl w_909, List.forall_mem_cons.mpr ⟨fun _ => Or.inl w_910, List.forall_mem_cons.mpr ⟨fun _ => Or.inl w_911, List.forall_mem_cons.mpr ⟨fun _ => Or.inl w_912, List.forall_mem_cons.mpr ⟨fun h => absurd h (by decide), List.forall_mem_cons.mpr ⟨fun h => absurd h (by decide), List.forall_mem_cons.mpr ⟨fun _ => Or.inl w_443, List.forall_mem_cons.mpr ⟨fun _ => Or.inl w_442, List.forall_mem_cons.mpr ⟨fun _ => Or.inl w_913, fun _ h => absurd h List.not_mem_nil⟩⟩⟩⟩⟩⟩⟩⟩⟩⟩⟩⟩⟩⟩
theorem hat_NSE {own : String} {ic : Nat} (hm : Cond.methodLink own ic (Bundle.initS "java/util/NoSuchElementException") ∈ GW) : ∀ w ∈ (nxAtoms own ic "java/util/NoSuchElementException" "java/lang/RuntimeException" ["java/lang/Exception"] prog_39_method_4_code 13).filter vx_no, w ∈ GW ∨ w ∈ TW := fun w hw => (show ∀ w ∈ nxAtoms own ic "java/util/NoSuchElementException" "java/lang/RuntimeException" ["java/lang/Exception"] prog_39_method_4_code 13, vx_no w = true → w ∈ GW ∨ w ∈ TW from List.forall_mem_append.mpr ⟨List.forall_mem_append.mpr ⟨List.forall_mem_append.mpr ⟨nat_thr, nat_thrS⟩, List.forall_mem_append.mpr ⟨nat_NSEp, List.forall_mem_append.mpr ⟨nat_re, nat_ex⟩⟩⟩, nat_NSEl hm⟩) w (List.mem_filter.mp hw).1 (List.mem_filter.mp hw).2
theorem nat_ISEp : ∀ w ∈ Bundle.passSAtoms "java/lang/IllegalStateException" "java/lang/RuntimeException" 7 Bundle.six, vx_no w = true → w ∈ GW ∨ w ∈ TW := List.forall_mem_cons.mpr ⟨fun _ => Or.inl w_941, List.forall_mem_cons.mpr ⟨fun _ => Or.inl w_942, List.forall_mem_cons.mpr ⟨fun _ => Or.inl w_943, List.forall_mem_cons.mpr ⟨fun _ => Or.inl w_470, List.forall_mem_cons.mpr ⟨fun _ => Or.inr t_426, fun _ h => absurd h List.not_mem_nil⟩⟩⟩⟩⟩
theorem nat_ISEl {own : String} {ic : Nat} (hm : Cond.methodLink own ic (Bundle.initS "java/lang/IllegalStateException") ∈ GW) : ∀ w ∈ ([.methodLink own ic (Bundle.initS "java/lang/IllegalStateException"), .instantiable "java/lang/IllegalStateException" 6, .castable "java/lang/IllegalStateException" "java/lang/IllegalStateException", .selects "java/lang/IllegalStateException" Bundle.tFill0 Bundle.tFill0, .selects "java/lang/IllegalStateException" Bundle.tFill Bundle.tFill, .lays "java/lang/IllegalStateException" Bundle.tN "cause" "Ljava/lang/Throwable;", .lays "java/lang/IllegalStateException" Bundle.tN "stackTrace" Bundle.steD, .lays "java/lang/IllegalStateException" Bundle.tN "suppressedExceptions" Bundle.listD, .lays "java/lang/IllegalStateException" Bundle.tN "detailMessage" "Ljava/lang/String;", .isRef (.static Bundle.tN "UNASSIGNED_STACK" Bundle.steD), .isRef (.static Bundle.tN "SUPPRESSED_SENTINEL" Bundle.listD), .fieldLink Bundle.tN 198 Bundle.tN "backtrace" "Ljava/lang/Object;", .lays Bundle.tN Bundle.tN "backtrace" "Ljava/lang/Object;", .lays "java/lang/IllegalStateException" Bundle.tN "backtrace" "Ljava/lang/Object;"] : List Cond), vx_no w = true → w ∈ GW ∨ w ∈ TW := List.forall_mem_cons.mpr ⟨fun _ => Or.inl hm, List.forall_mem_cons.mpr ⟨fun _ => Or.inl w_931, List.forall_mem_cons.mpr ⟨fun _ => Or.inr t_932, List.forall_mem_cons.mpr ⟨fun _ => Or.inl w_933, List.forall_mem_cons.mpr ⟨fun _ => Or.inl w_455, List.forall_mem_cons.mpr ⟨fun _ => Or.inl w_934, List.forall_mem_cons.mpr ⟨fun _ => Or.inl w_935, List.forall_mem_cons.mpr ⟨fun _ => Or.inl w_936, List.forall_mem_cons.mpr ⟨fun _ => Or.inl w_937, List.forall_mem_cons.mpr ⟨fun h => absurd h (by decide), List.forall_mem_cons.mpr ⟨fun h => absurd h (by decide), List.forall_mem_cons.mpr ⟨fun _ => Or.inl w_443, List.forall_mem_cons.mpr ⟨fun _ => Or.inl w_442, List.forall_mem_cons.mpr ⟨fun _ => Or.inl w_938, fun _ h => absurd h List.not_mem_nil⟩⟩⟩⟩⟩⟩⟩⟩⟩⟩⟩⟩⟩⟩
theorem hat_ISE {own : String} {ic : Nat} (hm : Cond.methodLink own ic (Bundle.initS "java/lang/IllegalStateException") ∈ GW) : ∀ w ∈ vx_atS own ic "java/lang/IllegalStateException" ["java/lang/RuntimeException", "java/lang/Exception"], w ∈ GW ∨ w ∈ TW := fun w hw => (show ∀ w ∈ Bundle.ownAtoms own ic "java/lang/IllegalStateException" ["java/lang/RuntimeException", "java/lang/Exception"], vx_no w = true → w ∈ GW ∨ w ∈ TW from List.forall_mem_append.mpr ⟨List.forall_mem_append.mpr ⟨List.forall_mem_append.mpr ⟨nat_thr, nat_thrS⟩, List.forall_mem_append.mpr ⟨nat_ISEp, List.forall_mem_append.mpr ⟨nat_re, nat_ex⟩⟩⟩, nat_ISEl hm⟩) w (List.mem_filter.mp hw).1 (List.mem_filter.mp hw).2
theorem gw_ot {w : Cond} (h : w ∈ GW) : vx_ot w = true := by
  unfold vx_ot
  rw [(List.mem_filter.mp h).2, Bool.or_true]
theorem tw_ot {w : Cond} (h : w ∈ TW) : vx_ot w = true := by
  have g := (List.mem_filter.mp h).2
  unfold vx_ot
  cases w <;> first | rfl | (exact (nomatch g)) | (simp [tword] at g)
theorem hgood_of {L : List Cond} {a b : Cond} (ha : a ∈ GW) (hb : b ∈ GW) (h : ∀ w ∈ L, w ∈ GW ∨ w ∈ TW) : ∀ w ∈ a :: b :: L, vx_ot w = true :=
  List.forall_mem_cons.mpr ⟨gw_ot ha, List.forall_mem_cons.mpr ⟨gw_ot hb, fun w hw => (h w hw).elim gw_ot tw_ot⟩⟩
