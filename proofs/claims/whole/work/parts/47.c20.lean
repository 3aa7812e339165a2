section KIT3
variable {K : Cx} {E : Ev} {cc : ByteArray} {nL : Nat} {own : String} {ret : Option FieldType} {nm : String} {Q : State → Prop} {cs ss pc : Nat} {lv : List (Nat × Value)} {st : List Value} {h : AH}
/-- a method found by the receiver's class, that the reference names in a class above -/
theorem g_callU {x y : MethodName} {bytes : ByteArray} {maxL idx n0 : Nat} {ret9 : Option FieldType} {fr lo mc ms : Nat} {b : Nat} {As rest : List Value} {n : Nat} {Cn : String} (C : GX K E cc nL own ret nm) (hd : decode cc pc = .ok (.invokevirtual idx, 3)) (hn : pc + 3 = n) (hl : Cond.methodLink own idx x ∈ GW) (hsm : Cond.sameMethod x.cls x.cls x.name x.desc ∈ GW) (hdc : va_Decl (ks K) x) (hse : (Cond.selects Cn x y).before (ka K) (ks K) = true) (hin : Cond.instanceMethod y ∈ GW) (hini : Cond.initialized y.cls ∈ GW) (hco : Cond.code y bytes maxL ret9 ∈ GW) (hmh : x.cls ≠ "java/lang/invoke/MethodHandle" ∧ x.cls ≠ "java/lang/invoke/VarHandle" ∧ (parseMethodDescriptor x.desc).map (fun d => d.parameters.length) = some n0) (hrc : ∀ (H : Heap) (locs : List Loc), hOK E h H → va_S (eA E) (ks K).heap H locs → ∃ cellB : Cell, H[b]? = some cellB ∧ cellB.vm.isStatics = false ∧ (ks K).vm.findClass Cn = some cellB.cls)
    (hst : st = As.reverse ++ .ref b :: rest) (hlen : As.length = n0) (hR : roomOK K cs ss fr lo mc ms maxL rest) (hM : Mt (kl K) E y bytes maxL ret9 fr lo mc ms (.ref b :: As) h (fun v h' => G K E nL Q (cs + mc) (ss + ms) n lv ((rvo ret9 v).toList ++ rest) h')) : G K E nL Q cs ss pc lv st h := by
  subst hn
  obtain ⟨r1, r2, r3, r4, r5⟩ := hR
  refine g_back (ret9 := ret9) (mc := mc) (ms := ms) (rest := rest) (a := (Value.ref b :: As).toArray) (fun H locs ls hH hS hL => ?_) (fun v h' hp => hp)
  have cw : va_CU (kR K) (ks K) (ka K) own Cn x.cls idx x y bytes maxL ret9 (Cond.code y bytes maxL ret9 :: GW) (rmk fr lo mc ms) mc ms n0 :=
    ⟨⟨rfl, rfl, r1, r2, pay_in C.2.2.2.2.1 (goodCW hco), List.mem_cons_self⟩, C.gw hco, C.gw hini, ⟨hmh.1, hmh.2.1⟩, fun sig hs => by
      have h2 := hmh.2.2
      rw [hs] at h2
      exact (Option.some.inj h2).symm, C.gw hl, C.gw hsm, hdc, hse, C.gw hin⟩
  exact va_runU (Ts := GW) (C := Cn) ⟨C.1, C.2.1, C.ml, C.ow, C.2.2.2.2.1⟩ hM cw ⟨blindW _ _, hrc H locs hH hS, preW C hH hS _⟩ rfl hlen hL.1 hst (lv_room r5) hd ⟨r3, r4⟩
end KIT3
theorem sel_priv {Cn : String} {y : MethodName} {s : State} {args : Array Value} {n : Nat} (hy : y.cls ≠ "java/lang/invoke/MethodHandle" ∧ y.cls ≠ "java/lang/invoke/VarHandle")
    (hins : (Cond.instantiable Cn n).before args s = true) (hsm : (Cond.sameMethod y.cls y.cls y.name y.desc).before args s = true) (hpriv : (Cond.privateMethod y).before args s = true) (hinst : (Cond.instanceMethod y).before args s = true) :
    (Cond.selects Cn y y).before args s = true := by
  obtain ⟨c, k, hc, hk, -, hniab, -, -⟩ := Cond.instantiable_spec hins
  obtain ⟨cn, ck, r1, hcn, hck, hni, -, -⟩ := Cond.sameMethod_found hsm
  obtain ⟨mk, methM, hnamed, hmethM, -, -⟩ := Cond.instanceMethod_spec hinst
  have hcls : mk.cls = cn := Option.some.inj ((findClass_of_methodNamed hnamed).symm.trans hcn)
  have hfound : s.methodFound? y.cls y.name y.desc = some mk := State.methodFound?_of_named hnamed hy
  have hsel : selectMethod {} s.vm c mk = .method mk := selectMethod_private hmethM (Cond.privateMethod_at hpriv mk methM hnamed hmethM)
  simp only [Cond.before, Cond.holds, Cond.value, hc, hfound, hnamed, hsel, hcls, hck]
  simp; exact hni
theorem hset_id {h : AH} {a : Nat} {e : va_E} (he : h a = some e) : hset h a e = h := by
  funext b
  unfold hset
  by_cases q : b = a
  · rw [if_pos q, q, he]
  · rw [if_neg q]
theorem hset_comm {h : AH} {a b : Nat} {e e' : va_E} (n : a ≠ b) : hset (hset h a e) b e' = hset (hset h b e') a e := hset_sw n.symm
/-- how the class reads a text: clause by clause; the answer, where it stands, the fault, what was drafted -/
noncomputable def crd {X : Type} (cl : Nat → X → Nat × Int32 × X) (ok : X → Prop) (T : Nat → Int32) (n : Nat) : Nat → Nat → X → Int32 → Int32 × Nat × Int32 × X
  | 0, p, x, _ => (-1, p, -1, x)
  | f + 1, p, x, c => @ite _ (¬ (cl p x).2.1 = -1) (Classical.propDecidable _) (-1, cl p x)
      (@ite _ ((cl p x).1 < n ∧ T (cl p x).1 = 59) (Classical.propDecidable _) (crd cl ok T n f (rsc T 32 32 n ((cl p x).1 + 1)) (cl p x).2.2 (c + 1))
        (c, (cl p x).1, (@ite _ (ok (cl p x).2.2) (Classical.propDecidable _) (@ite _ ((cl p x).1 < n) (Classical.propDecidable _) (nI (cl p x).1) (-1)) (cff (@ite _ ((cl p x).1 < n) (Classical.propDecidable _) (nI (cl p x).1) (-1)) (nI (cl p x).1))), (cl p x).2.2))
/-- a term of the law -/
noncomputable def cterm (T : Nat → Int32) (n p : Nat) (x : Int32 × Int32 × Int32) : Nat × Int32 × (Int32 × Int32 × Int32) :=
  @ite _ (rwd T p (rsc T 97 122 n p) 0) (Classical.propDecidable _) ((cnum T n (rsc T 32 32 n (rsc T 97 122 n p)) 0 11 (-1)).2.1, (cnum T n (rsc T 32 32 n (rsc T 97 122 n p)) 0 11 (-1)).2.2, ((cnum T n (rsc T 32 32 n (rsc T 97 122 n p)) 0 11 (-1)).1, x.2.1, x.2.2))
  (@ite _ (rwd T p (rsc T 97 122 n p) 1) (Classical.propDecidable _) ((cnum T n (rsc T 32 32 n (rsc T 97 122 n p)) 1 1000 (-1)).2.1, (cnum T n (rsc T 32 32 n (rsc T 97 122 n p)) 1 1000 (-1)).2.2, (x.1, (cnum T n (rsc T 32 32 n (rsc T 97 122 n p)) 1 1000 (-1)).1, x.2.2))
  (@ite _ (rwd T p (rsc T 97 122 n p) 2) (Classical.propDecidable _) ((cnum T n (rsc T 32 32 n (rsc T 97 122 n p)) 0 100000 (-1)).2.1, (cnum T n (rsc T 32 32 n (rsc T 97 122 n p)) 0 100000 (-1)).2.2, (x.1, x.2.1, (cnum T n (rsc T 32 32 n (rsc T 97 122 n p)) 0 100000 (-1)).1))
  (p, cff (-1) (nI p), x)))
abbrev lawE (x : Int32 × Int32 × Int32) : va_E := .inr (3, [.int x.1, .int x.2.1, .int x.2.2])
/-- an agreement's draft: costs first, until, the hundredths -/
abbrev AgX : Type := Int32 × Int32 × (Nat → Int32)
noncomputable def cpartS (T : Nat → Int32) (n p : Nat) (x : AgX) : Nat × Int32 × AgX :=
  @ite _ (rwd T p (rsc T 97 122 n p) 3) (Classical.propDecidable _) ((cxw T n (rsc T 32 32 n (rsc T 97 122 n p)) 4 (-1)).1, (cxw T n (rsc T 32 32 n (rsc T 97 122 n p)) 4 (-1)).2, (1, x.2.1, x.2.2))
  (@ite _ (rwd T p (rsc T 97 122 n p) 5) (Classical.propDecidable _) ((cnum T n (rsc T 32 32 n (rsc T 97 122 n p)) 0 100 (-1)).2.1, (cnum T n (rsc T 32 32 n (rsc T 97 122 n p)) 0 100 (-1)).2.2, (x.1, x.2.1, upd x.2.2 1 (cnum T n (rsc T 32 32 n (rsc T 97 122 n p)) 0 100 (-1)).1))
  (@ite _ (rwd T p (rsc T 97 122 n p) 6) (Classical.propDecidable _) ((cnum T n (rsc T 32 32 n (rsc T 97 122 n p)) 0 100 (-1)).2.1, (cnum T n (rsc T 32 32 n (rsc T 97 122 n p)) 0 100 (-1)).2.2, (x.1, x.2.1, upd x.2.2 2 (cnum T n (rsc T 32 32 n (rsc T 97 122 n p)) 0 100 (-1)).1))
  (@ite _ (rwd T p (rsc T 97 122 n p) 7) (Classical.propDecidable _) ((cnum T n (cxw T n (cnum T n (rsc T 32 32 n (rsc T 97 122 n p)) 0 100 (-1)).2.1 8 (cnum T n (rsc T 32 32 n (rsc T 97 122 n p)) 0 100 (-1)).2.2).1 0 999999 (cxw T n (cnum T n (rsc T 32 32 n (rsc T 97 122 n p)) 0 100 (-1)).2.1 8 (cnum T n (rsc T 32 32 n (rsc T 97 122 n p)) 0 100 (-1)).2.2).2).2.1, (cnum T n (cxw T n (cnum T n (rsc T 32 32 n (rsc T 97 122 n p)) 0 100 (-1)).2.1 8 (cnum T n (rsc T 32 32 n (rsc T 97 122 n p)) 0 100 (-1)).2.2).1 0 999999 (cxw T n (cnum T n (rsc T 32 32 n (rsc T 97 122 n p)) 0 100 (-1)).2.1 8 (cnum T n (rsc T 32 32 n (rsc T 97 122 n p)) 0 100 (-1)).2.2).2).2.2, (x.1, (cnum T n (cxw T n (cnum T n (rsc T 32 32 n (rsc T 97 122 n p)) 0 100 (-1)).2.1 8 (cnum T n (rsc T 32 32 n (rsc T 97 122 n p)) 0 100 (-1)).2.2).1 0 999999 (cxw T n (cnum T n (rsc T 32 32 n (rsc T 97 122 n p)) 0 100 (-1)).2.1 8 (cnum T n (rsc T 32 32 n (rsc T 97 122 n p)) 0 100 (-1)).2.2).2).1, upd x.2.2 3 (cnum T n (rsc T 32 32 n (rsc T 97 122 n p)) 0 100 (-1)).1))
  (@ite _ (rwd T p (rsc T 97 122 n p) 9) (Classical.propDecidable _) ((cnum T n (rsc T 32 32 n (rsc T 97 122 n p)) 0 100 (-1)).2.1, (cnum T n (rsc T 32 32 n (rsc T 97 122 n p)) 0 100 (-1)).2.2, (x.1, x.2.1, upd x.2.2 4 (cnum T n (rsc T 32 32 n (rsc T 97 122 n p)) 0 100 (-1)).1))
  (@ite _ (rwd T p (rsc T 97 122 n p) 10) (Classical.propDecidable _) ((cnum T n (rsc T 32 32 n (rsc T 97 122 n p)) 0 100 (-1)).2.1, (cnum T n (rsc T 32 32 n (rsc T 97 122 n p)) 0 100 (-1)).2.2, (x.1, x.2.1, upd x.2.2 5 (cnum T n (rsc T 32 32 n (rsc T 97 122 n p)) 0 100 (-1)).1))
  (p, cff (-1) (nI p), x))))))
theorem cterm_le {T : Nat → Int32} {n p : Nat} {x : Int32 × Int32 × Int32} (h : p ≤ n) : (cterm T n p x).1 ≤ n := by
  unfold cterm
  split
  · exact cnum_le (rsc_le (rsc_le h))
  split
  · exact cnum_le (rsc_le (rsc_le h))
  split
  · exact cnum_le (rsc_le (rsc_le h))
  · exact h
theorem cpart_le {T : Nat → Int32} {n p : Nat} {x : AgX} (h : p ≤ n) : (cpartS T n p x).1 ≤ n := by
  unfold cpartS
  split
  · exact cxw_le (rsc_le (rsc_le h))
  split
  · exact cnum_le (rsc_le (rsc_le h))
  split
  · exact cnum_le (rsc_le (rsc_le h))
  split
  · exact cnum_le (cxw_le (cnum_le (rsc_le (rsc_le h))))
  split
  · exact cnum_le (rsc_le (rsc_le h))
  split
  · exact cnum_le (rsc_le (rsc_le h))
  · exact h
theorem crd_0 {X : Type} {cl : Nat → X → Nat × Int32 × X} {ok : X → Prop} {T : Nat → Int32} {n f p : Nat} {x : X} {c : Int32} {R : Int32 × Nat × Int32 × X} (e : crd cl ok T n (f + 1) p x c = R) (h : ¬ (cl p x).2.1 = -1) : R = (-1, cl p x) := by
  rw [← e, crd, if_pos h]
theorem crd_s {X : Type} {cl : Nat → X → Nat × Int32 × X} {ok : X → Prop} {T : Nat → Int32} {n f p : Nat} {x : X} {c : Int32} {R : Int32 × Nat × Int32 × X} (e : crd cl ok T n (f + 1) p x c = R) (h : (cl p x).2.1 = -1) (h1 : (cl p x).1 < n) (h2 : T (cl p x).1 = 59) : crd cl ok T n f (rsc T 32 32 n ((cl p x).1 + 1)) (cl p x).2.2 (c + 1) = R := by
  rw [← e, crd, if_neg (fun z => z h), if_pos ⟨h1, h2⟩]
/-- the end of a text: its fault -/
noncomputable def cfin (okp : Prop) (n p : Nat) : Int32 := @ite _ okp (Classical.propDecidable _) (@ite _ (p < n) (Classical.propDecidable _) (nI p) (-1)) (cff (@ite _ (p < n) (Classical.propDecidable _) (nI p) (-1)) (nI p))
theorem crd_f {X : Type} {cl : Nat → X → Nat × Int32 × X} {ok : X → Prop} {T : Nat → Int32} {n f p : Nat} {x : X} {c : Int32} {R : Int32 × Nat × Int32 × X} (e : crd cl ok T n (f + 1) p x c = R) (h : (cl p x).2.1 = -1) (h1 : ¬ ((cl p x).1 < n ∧ T (cl p x).1 = 59)) : R = (c, (cl p x).1, cfin (ok (cl p x).2.2) n (cl p x).1, (cl p x).2.2) := by
  rw [← e, crd, if_neg (fun z => z h), if_neg h1]
  rfl
theorem crd_z {X : Type} {cl : Nat → X → Nat × Int32 × X} {ok : X → Prop} {T : Nat → Int32} {n p : Nat} {x : X} {c : Int32} {R : Int32 × Nat × Int32 × X} (e : crd cl ok T n 0 p x c = R) : R = (-1, p, -1, x) := e.symm
theorem cc_lawClauseS {l : Launch} {E : Ev} {P : Value → AH → Prop} {r t b n a : Nat} {B : Nat → Int32} {h : AH} (ht : h t = some (.inr (9, [.ref b, .int (nI n)]))) (hb : h b = some (.inl (E.2.2 0, 400, .inl B))) (hn : n ≤ 400) (htr : t ∉ [r]) (hbr : b ∉ [r]) (har : a ∉ [r]) {p : Nat} (hp4 : p ≤ n) {x : Int32 × Int32 × Int32} (ha : h a = some (lawE x)) (hp : P .null (LW [(r, .inr (6, [.ref t, .int (nI (cterm (cT B) n p x).1), .int (cterm (cT B) n p x).2.1]))] (hset h a (lawE (cterm (cT B) n p x).2.2)))) : Mt l E yX3_readClause cX3_readClause 2 none 5 108 0 0 [.ref a, .ref r] (LW [(r, .inr (6, [.ref t, .int (nI p), .int (-1)]))] h) P := by
  refine cc_lawClause ht hb hn htr hbr har hp4 ha (fun q1 q2 => ?_) (fun q1 q2 => ?_) (fun q0 q1 q2 => ?_) (fun q0 q1 q2 => ?_) (fun q9 q0 q1 q2 => ?_) (fun q9 q0 q1 q2 => ?_) (fun q9 q0 q1 => ?_)
  · rw [cterm, if_pos q1, cnum, if_pos q2] at hp; exact hp
  · rw [cterm, if_pos q1, cnum, if_neg q2] at hp; exact hp
  · rw [cterm, if_neg q0, if_pos q1, cnum, if_pos q2] at hp; exact hp
  · rw [cterm, if_neg q0, if_pos q1, cnum, if_neg q2] at hp; exact hp
  · rw [cterm, if_neg q9, if_neg q0, if_pos q1, cnum, if_pos q2] at hp; exact hp
  · rw [cterm, if_neg q9, if_neg q0, if_pos q1, cnum, if_neg q2] at hp; exact hp
  · rw [cterm, if_neg q9, if_neg q0, if_neg q1] at hp
    rw [← hset_id ha] 
    rw [hset_id ha] at hp ⊢
    exact hp
abbrev agE (u : Nat) (x : AgX) : va_E := .inr (1, [.ref u, .int x.1, .int x.2.1])
abbrev agA (E : Ev) (x : AgX) : va_E := .inl (E.2.2 1, 6, .inl x.2.2)
theorem cc_agrClauseS {l : Launch} {E : Ev} {P : Value → AH → Prop} {r t b n a u : Nat} {B : Nat → Int32} {h : AH} (ht : h t = some (.inr (9, [.ref b, .int (nI n)]))) (hb : h b = some (.inl (E.2.2 0, 400, .inl B))) (hn : n ≤ 400) (htr : t ∉ [r]) (hbr : b ∉ [r]) (har : a ∉ [r]) {p : Nat} (hp4 : p ≤ n) {x : AgX} (ha : h a = some (agE u x)) (hu : h u = some (agA E x)) (hur : u ∉ [r]) (hau : a ≠ u) (htu : t ≠ u) (hbu : b ≠ u) (hp : P .null (LW [(r, .inr (6, [.ref t, .int (nI (cpartS (cT B) n p x).1), .int (cpartS (cT B) n p x).2.1]))] (hset (hset h u (agA E (cpartS (cT B) n p x).2.2)) a (agE u (cpartS (cT B) n p x).2.2)))) : Mt l E yX0_readClause cX0_readClause 2 none 6 129 0 0 [.ref a, .ref r] (LW [(r, .inr (6, [.ref t, .int (nI p), .int (-1)]))] h) P := by
  have hau2 : ∀ e : va_E, hset h u e a = some (agE u x) := fun e => (hset_ne h e hau).trans ha
  refine cc_agrClause ht hb hn htr hbr har hp4 ha hu hur hau htu hbu (fun q1 => ?_) (fun q3 q1 => ?_) (fun q3 q5 q1 => ?_) (fun q3 q5 q6 q1 => ?_) (fun q3 q5 q6 q7 q1 => ?_) (fun q3 q5 q6 q7 q9 q1 => ?_) (fun q3 q5 q6 q7 q9 q1 => ?_)
  · rw [cpartS, if_pos q1] at hp
    rw [hset_id hu] at hp
    exact hp
  · rw [cpartS, if_neg q3, if_pos q1] at hp
    rw [hset_id (hau2 _)] at hp
    exact hp
  · rw [cpartS, if_neg q3, if_neg q5, if_pos q1] at hp
    rw [hset_id (hau2 _)] at hp
    exact hp
  · rw [cpartS, if_neg q3, if_neg q5, if_neg q6, if_pos q1] at hp
    exact hp
  · rw [cpartS, if_neg q3, if_neg q5, if_neg q6, if_neg q7, if_pos q1] at hp
    rw [hset_id (hau2 _)] at hp
    exact hp
  · rw [cpartS, if_neg q3, if_neg q5, if_neg q6, if_neg q7, if_neg q9, if_pos q1] at hp
    rw [hset_id (hau2 _)] at hp
    exact hp
  · rw [cpartS, if_neg q3, if_neg q5, if_neg q6, if_neg q7, if_neg q9, if_neg q1] at hp
    rw [hset_id hu, hset_id ha] at hp
    exact hp
theorem dX1_finish_0 : decode cX1_finish 0 = .ok (.aload_n 1, 1) := by decide +kernel
theorem dX1_finish_1 : decode cX1_finish 1 = .ok (.invokevirtual 30, 3) := by decide +kernel
theorem dX1_finish_4 : decode cX1_finish 4 = .ok (.aload_n 0, 1) := by decide +kernel
theorem dX1_finish_5 : decode cX1_finish 5 = .ok (.invokevirtual 33, 3) := by decide +kernel
theorem dX1_finish_8 : decode cX1_finish 8 = .ok (.ifCond .ne 7, 3) := by decide +kernel
theorem dX1_finish_15 : decode cX1_finish 15 = .ok (.return_, 1) := by decide +kernel
set_option maxHeartbeats 1000000 in
set_option maxRecDepth 20000 in
theorem cc_finish_law {l : Launch} {E : Ev} {P : Value → AH → Prop}  {r t b n a : Nat} {B : Nat → Int32} {h : AH} (ht : h t = some (.inr (9, [.ref b, .int (nI n)]))) (hb : h b = some (.inl (E.2.2 0, 400, .inl B))) (hn : n ≤ 400) (htr : t ∉ [r]) (hbr : b ∉ [r]) (har : a ∉ [r]) (hta : t ≠ a) (hba : b ≠ a) {x : Int32 × Int32 × Int32} {p : Nat} (hp4 : p ≤ n) (hp : P .null (LW [(r, .inr (6, [.ref t, .int (nI p), .int (cfin (True) n p)]))] (hset h a (lawE x)))) : Mt l E yX1_finish cX1_finish 2 none 2 40 0 0 [.ref a, .ref r] (LW [(r, .inr (6, [.ref t, .int (nI p), .int (-1)]))] (hset h a (lawE x))) P := by
  refine Mt.of (by decide) (Nat.le_of_ble_eq_true rfl) ?_
  intro K hK hR C
  have ht9 : (hset h a (lawE x)) t = some (.inr (9, [.ref b, .int (nI n)])) := (hset_ne _ _ hta).trans ht
  have hb9 : (hset h a (lawE x)) b = some (.inl (E.2.2 0, 400, .inl B)) := (hset_ne _ _ hba).trans hb
  have ha9 : (hset h a (lawE x)) a = some (lawE x) := hset_same _ _ _
  have A0 : lA [(r, (.inr (6, [.ref t, .int (nI p), .int (-1)]) : va_E))] := lA_one _ _
  refine g_aload_n (n := 1) C dX1_finish_0 rfl rfl ?_
  refine g_callV (n := 4) (As := []) C dX1_finish_1 rfl mw_X6_expectEnd w_661 (fun _ _ hH9 hS9 => g_recv (ci := 6) C (by refine LW_at ?_ 0 rfl; exact A0) rfl _ _ hH9 hS9) rfl rfl (room hR rfl) (cc_xend ht9 hb9 hn htr hbr hp4 (fun za1 => ?_) (fun zb1 => ?_))
  · --k1.0
    refine g_aload_n (n := 5) C dX1_finish_4 rfl rfl ?_
    refine g_callU (n := 8) (n0 := 0) (x := ⟨"GemPits$Clauses", "agrees", "()Z"⟩) (As := []) (Cn := "GemPits$Law") C dX1_finish_5 rfl w_665 w_667 (va_Decl.abs (C.tw (w := .declares ⟨"GemPits$Clauses", "agrees", "()Z"⟩) t_666)) (C.gw w_671) w_672 w_41 w_673 (by decide) (g_recv (ci := 3) C (lnb ha9 (by exact har)) rfl) rfl rfl (room hR rfl) (cc_lawAgrees ?_)
    refine g_if_ne (n := 11) (t := 15) C dX1_finish_8 rfl (by decide) (fun zc8 => ?_) (fun zc8 => ?_)
    rotate_left
    · exact absurd zc8 (by decide)
    refine g_vret C dX1_finish_15 (by decide) (by decide) ?_
    first | (rw [cfin, if_pos trivial, if_pos za1] at hp; exact hp) | (rw [cfin, if_pos trivial, if_neg (fun zq => absurd zq (by omega))] at hp; exact hp)
  · --k1.1
    refine g_aload_n (n := 5) C dX1_finish_4 rfl rfl ?_
    refine g_callU (n := 8) (n0 := 0) (x := ⟨"GemPits$Clauses", "agrees", "()Z"⟩) (As := []) (Cn := "GemPits$Law") C dX1_finish_5 rfl w_665 w_667 (va_Decl.abs (C.tw (w := .declares ⟨"GemPits$Clauses", "agrees", "()Z"⟩) t_666)) (C.gw w_671) w_672 w_41 w_673 (by decide) (g_recv (ci := 3) C (lnb ha9 (by exact har)) rfl) rfl rfl (room hR rfl) (cc_lawAgrees ?_)
    refine g_if_ne (n := 11) (t := 15) C dX1_finish_8 rfl (by decide) (fun zc8 => ?_) (fun zc8 => ?_)
    rotate_left
    · exact absurd zc8 (by decide)
    refine g_vret C dX1_finish_15 (by decide) (by decide) ?_
    first | (rw [cfin, if_pos trivial, if_pos za1] at hp; exact hp) | (rw [cfin, if_pos trivial, if_neg (fun zq => absurd zq (by omega))] at hp; exact hp)
theorem dX1_readAll_0 : decode cX1_readAll 0 = .ok (.iconst 1, 1) := by decide +kernel
theorem dX1_readAll_1 : decode cX1_readAll 1 = .ok (.istore_n 2, 1) := by decide +kernel
theorem dX1_readAll_2 : decode cX1_readAll 2 = .ok (.iload_n 2, 1) := by decide +kernel
theorem dX1_readAll_3 : decode cX1_readAll 3 = .ok (.sipush 400, 3) := by decide +kernel
theorem dX1_readAll_6 : decode cX1_readAll 6 = .ok (.if_icmp .gt 38, 3) := by decide +kernel
theorem dX1_readAll_9 : decode cX1_readAll 9 = .ok (.aload_n 0, 1) := by decide +kernel
theorem dX1_readAll_10 : decode cX1_readAll 10 = .ok (.aload_n 1, 1) := by decide +kernel
theorem dX1_readAll_11 : decode cX1_readAll 11 = .ok (.invokevirtual 11, 3) := by decide +kernel
theorem dX1_readAll_14 : decode cX1_readAll 14 = .ok (.aload_n 1, 1) := by decide +kernel
theorem dX1_readAll_15 : decode cX1_readAll 15 = .ok (.invokevirtual 17, 3) := by decide +kernel
theorem dX1_readAll_18 : decode cX1_readAll 18 = .ok (.iconst (-1), 1) := by decide +kernel
theorem dX1_readAll_19 : decode cX1_readAll 19 = .ok (.if_icmp .eq 5, 3) := by decide +kernel
theorem dX1_readAll_22 : decode cX1_readAll 22 = .ok (.iconst (-1), 1) := by decide +kernel
theorem dX1_readAll_23 : decode cX1_readAll 23 = .ok (.ireturn, 1) := by decide +kernel
theorem dX1_readAll_24 : decode cX1_readAll 24 = .ok (.aload_n 1, 1) := by decide +kernel
theorem dX1_readAll_25 : decode cX1_readAll 25 = .ok (.invokevirtual 23, 3) := by decide +kernel
theorem dX1_readAll_28 : decode cX1_readAll 28 = .ok (.ifCond .ne 10, 3) := by decide +kernel
theorem dX1_readAll_31 : decode cX1_readAll 31 = .ok (.aload_n 0, 1) := by decide +kernel
theorem dX1_readAll_32 : decode cX1_readAll 32 = .ok (.aload_n 1, 1) := by decide +kernel
theorem dX1_readAll_33 : decode cX1_readAll 33 = .ok (.invokevirtual 27, 3) := by decide +kernel
theorem dX1_readAll_36 : decode cX1_readAll 36 = .ok (.iload_n 2, 1) := by decide +kernel
theorem dX1_readAll_37 : decode cX1_readAll 37 = .ok (.ireturn, 1) := by decide +kernel
theorem dX1_readAll_38 : decode cX1_readAll 38 = .ok (.iinc 2 1, 3) := by decide +kernel
theorem dX1_readAll_41 : decode cX1_readAll 41 = .ok (.goto (-39), 3) := by decide +kernel
theorem dX1_readAll_44 : decode cX1_readAll 44 = .ok (.iconst (-1), 1) := by decide +kernel
theorem dX1_readAll_45 : decode cX1_readAll 45 = .ok (.ireturn, 1) := by decide +kernel
set_option maxHeartbeats 2000000 in
set_option maxRecDepth 20000 in
theorem cc_readAll_law {l : Launch} {E : Ev} {P : Value → AH → Prop}  {r t b n a : Nat} {B : Nat → Int32} {h : AH} (ht : h t = some (.inr (9, [.ref b, .int (nI n)]))) (hb : h b = some (.inl (E.2.2 0, 400, .inl B))) (hn : n ≤ 400) (htr : t ∉ [r]) (hbr : b ∉ [r]) (har : a ∉ [r]) (hta : t ≠ a) (hba : b ≠ a) {p0 : Nat} (hp4 : p0 ≤ n) {x0 : Int32 × Int32 × Int32} (hp : P (.int (crd (cterm (cT B) n) (fun _ => True) (cT B) n 400 p0 x0 1).1) (LW [(r, .inr (6, [.ref t, .int (nI (crd (cterm (cT B) n) (fun _ => True) (cT B) n 400 p0 x0 1).2.1), .int (crd (cterm (cT B) n) (fun _ => True) (cT B) n 400 p0 x0 1).2.2.1]))] (hset h a (lawE (crd (cterm (cT B) n) (fun _ => True) (cT B) n 400 p0 x0 1).2.2.2)))) : Mt l E yX1_readAll cX1_readAll 3 (some .int) 7 150 0 0 [.ref a, .ref r] (LW [(r, .inr (6, [.ref t, .int (nI p0), .int (-1)]))] (hset h a (lawE x0))) P := by
  refine Mt.of (by decide) (Nat.le_of_ble_eq_true rfl) ?_
  intro K hK hR C
  refine g_iconst (n := 1) (v := 1) C dX1_readAll_0 rfl (by decide) ?_
  refine g_istore_n (n := 2) C dX1_readAll_1 rfl (by decide) ?_
  have lp : ∀ m : Nat, m ≤ 400 → ∀ (p : Nat) (x : Int32 × Int32 × Int32) (t9 : Int32), p ≤ n → crd (cterm (cT B) n) (fun _ => True) (cT B) n (400 - m) p x (nI (m + 1)) = (crd (cterm (cT B) n) (fun _ => True) (cT B) n 400 p0 x0 1) → t9 = nI (m + 1) → G K E 3 (QM K E (some .int) 0 0 P) 0 0 2 [(0, .ref a), (1, .ref r), (2, .int t9)] [] (LW [(r, .inr (6, [.ref t, .int (nI p), .int (-1)]))] (hset h a (lawE x))) := by
    refine loopN (fun m => ∀ (p : Nat) (x : Int32 × Int32 × Int32) (t9 : Int32), p ≤ n → crd (cterm (cT B) n) (fun _ => True) (cT B) n (400 - m) p x (nI (m + 1)) = (crd (cterm (cT B) n) (fun _ => True) (cT B) n 400 p0 x0 1) → t9 = nI (m + 1) → G K E 3 (QM K E (some .int) 0 0 P) 0 0 2 [(0, .ref a), (1, .ref r), (2, .int t9)] [] (LW [(r, .inr (6, [.ref t, .int (nI p), .int (-1)]))] (hset h a (lawE x)))) (400) ?_
    intro m hlem ihm p x t9 hp4 er et
    subst et
    have ht9 : (hset h a (lawE x)) t = some (.inr (9, [.ref b, .int (nI n)])) := (hset_ne _ _ hta).trans ht
    have hb9 : (hset h a (lawE x)) b = some (.inl (E.2.2 0, 400, .inl B)) := (hset_ne _ _ hba).trans hb
    have ha9 : (hset h a (lawE x)) a = some (lawE x) := hset_same _ _ _
    have A0 : lA [(r, (.inr (6, [.ref t, .int (nI p), .int (-1)]) : va_E))] := lA_one _ _
    refine g_iload_n (n := 3) C dX1_readAll_2 rfl rfl ?_
    refine g_sipush (n := 6) (v := 400) C dX1_readAll_3 rfl (by decide) ?_
    refine g_icmp_gt (n := 9) (t := 44) C dX1_readAll_6 rfl (by decide) (fun zc6 => ?_) (fun zc6 => ?_)
    · --t6
      refine g_iconst (n := 45) (v := (-1)) C dX1_readAll_44 rfl (by decide) ?_
      refine g_iret C dX1_readAll_45 (by decide) (by decide) ?_
      have em : m = 400 := by
        rcases Nat.lt_or_ge m 400 with q | q
        · exact absurd zc6 (Int32.not_lt.mpr (nI_le (a := m + 1) (b := 400) (by omega) (by decide)))
        · omega
      subst em
      have eR := crd_z er
      rw [eR] at hp
      exact hp
    · --f6
      have hm4 : m < 400 := by
        rcases Nat.lt_or_ge m 400 with q | q
        · exact q
        · exact absurd (nI_lt (a := 400) (b := m + 1) (by omega) (by omega)) zc6
      have er9 : crd (cterm (cT B) n) (fun _ => True) (cT B) n ((400 - (m + 1)) + 1) p x (nI (m + 1)) = (crd (cterm (cT B) n) (fun _ => True) (cT B) n 400 p0 x0 1) := by rw [show (400 - (m + 1)) + 1 = 400 - m from by omega]; exact er
      refine g_aload_n (n := 10) C dX1_readAll_9 rfl rfl ?_
      refine g_aload_n (n := 11) C dX1_readAll_10 rfl rfl ?_
      refine g_callU (n := 14) (n0 := 1) (x := ⟨"GemPits$Clauses", "readClause", "(LGemPits$Reader;)V"⟩) (As := [.ref r]) (Cn := "GemPits$Law") C dX1_readAll_11 rfl w_554 w_556 (va_Decl.abs (C.tw (w := .declares ⟨"GemPits$Clauses", "readClause", "(LGemPits$Reader;)V"⟩) t_555)) (C.gw w_639) w_640 w_41 w_641 (by decide) (g_recv (ci := 3) C (lnb ha9 (by exact har)) rfl) rfl rfl (room hR rfl) (cc_lawClauseS ht9 hb9 hn htr hbr har hp4 (x := x) ha9 ?_)
      rw [hset_hset]
      have ht8 : (hset h a (lawE (cterm (cT B) n p x).2.2)) t = some (.inr (9, [.ref b, .int (nI n)])) := (hset_ne _ _ hta).trans ht
      have hb8 : (hset h a (lawE (cterm (cT B) n p x).2.2)) b = some (.inl (E.2.2 0, 400, .inl B)) := (hset_ne _ _ hba).trans hb
      have ha8 : (hset h a (lawE (cterm (cT B) n p x).2.2)) a = some (lawE (cterm (cT B) n p x).2.2) := hset_same _ _ _
      have A8 : lA [(r, (.inr (6, [.ref t, .int (nI (cterm (cT B) n p x).1), .int (cterm (cT B) n p x).2.1]) : va_E))] := lA_one _ _
      have hp8 : (cterm (cT B) n p x).1 ≤ n := cterm_le hp4
      refine g_aload_n (n := 15) C dX1_readAll_14 rfl rfl ?_
      refine g_callV (n := 18) (As := []) C dX1_readAll_15 rfl mw_X6_firstFault w_649 (g_recv (ci := 6) C (LW_at (by exact A8) 0 rfl) rfl) rfl rfl (room hR rfl) (cc_ff (LW_at (by exact A8) 0 rfl) ?_)
      refine g_iconst (n := 19) (v := (-1)) C dX1_readAll_18 rfl (by decide) ?_
      refine g_icmp_eq (n := 22) (t := 24) C dX1_readAll_19 rfl (by decide) (fun zc19 => ?_) (fun zc19 => ?_)
      · --t19
        have hff : (cterm (cT B) n p x).2.1 = -1 := zc19
        rw [hff]
        refine g_aload_n (n := 25) C dX1_readAll_24 rfl rfl ?_
        refine g_callV (n := 28) (As := []) C dX1_readAll_25 rfl mw_X6_takeSemicolon w_653 (fun _ _ hH9 hS9 => g_recv (ci := 6) C (by refine LW_at ?_ 0 rfl; exact A8) rfl _ _ hH9 hS9) rfl rfl (room hR rfl) (cc_semi ht8 hb8 hn htr hbr hp8 (fun za25 zq25 => ?_) (fun zb25 => ?_))
        · --k25.0
          refine g_if_ne (n := 31) (t := 38) C dX1_readAll_28 rfl (by decide) (fun zc28 => ?_) (fun zc28 => ?_)
          rotate_left
          · exact absurd zc28 (by decide)
          refine g_iinc (n := 41) C dX1_readAll_38 rfl rfl rfl (by decide) ?_
          refine g_goto (t := 2) C dX1_readAll_41 (by decide) ?_
          exact g_lv [0, 1, 2] rfl (ihm hm4 _ _ _ (rsc_le (show (cterm (cT B) n p x).1 + 1 ≤ n from za25)) (by rw [← nI_1 (m + 1)]; exact crd_s er9 hff za25 zq25) (nI_1 (m + 1)))
        · --k25.1
          refine g_if_ne (n := 31) (t := 38) C dX1_readAll_28 rfl (by decide) (fun zc28 => ?_) (fun zc28 => ?_)
          · exact absurd zc28 (by decide)
          refine g_aload_n (n := 32) C dX1_readAll_31 rfl rfl ?_
          refine g_aload_n (n := 33) C dX1_readAll_32 rfl rfl ?_
          refine g_callU (n := 36) (n0 := 1) (x := ⟨"GemPits$Clauses", "finish", "(LGemPits$Reader;)V"⟩) (As := [.ref r]) (Cn := "GemPits$Law") C dX1_readAll_33 rfl w_657 w_1400 (va_Decl.of (C.gw w_659) (C.gw w_660)) (sel_priv (by decide) (C.gw w_121) (C.gw w_1400) (priv_warm (State.WarmedH.refl _) (C.tw t_658)) (C.gw w_659)) w_659 w_40 w_660 (by decide) (g_recv (ci := 3) C (lnb ha8 (by exact har)) rfl) rfl rfl (room hR rfl) (cc_finish_law (x := (cterm (cT B) n p x).2.2) ht hb hn htr hbr har hta hba hp8 ?_)
          refine g_iload_n (n := 37) C dX1_readAll_36 rfl rfl ?_
          refine g_iret C dX1_readAll_37 (by decide) (by decide) ?_
          have eR := crd_f er9 hff zb25
          rw [eR] at hp
          exact hp
      · --f19
        refine g_iconst (n := 23) (v := (-1)) C dX1_readAll_22 rfl (by decide) ?_
        refine g_iret C dX1_readAll_23 (by decide) (by decide) ?_
        have eR := crd_0 er9 zc19
        rw [eR] at hp
        exact hp
  exact g_lv [0, 1, 2] rfl (lp 0 (Nat.zero_le _) _ _ _ hp4 rfl rfl)
theorem ag_hx {h : AH} {a u : Nat} {e e' f f' : va_E} (n : a ≠ u) : hset (hset (hset (hset h u e) a e') u f) a f' = hset (hset h u f) a f' := by
  rw [hset_comm n, hset_hset, hset_hset]
theorem dX1_finish_11 : decode cX1_finish 11 = .ok (.aload_n 1, 1) := by decide +kernel
theorem dX1_finish_12 : decode cX1_finish 12 = .ok (.invokevirtual 36, 3) := by decide +kernel
set_option maxHeartbeats 1000000 in
set_option maxRecDepth 20000 in
theorem cc_finish_agr {l : Launch} {E : Ev} {P : Value → AH → Prop}  {r t b n a u : Nat} {B : Nat → Int32} {h : AH} (ht : h t = some (.inr (9, [.ref b, .int (nI n)]))) (hb : h b = some (.inl (E.2.2 0, 400, .inl B))) (hn : n ≤ 400) (htr : t ∉ [r]) (hbr : b ∉ [r]) (har : a ∉ [r]) (hta : t ≠ a) (hba : b ≠ a) (hur : u ∉ [r]) (hau : a ≠ u) (htu : t ≠ u) (hbu : b ≠ u) {x : AgX} {p : Nat} (hp4 : p ≤ n) (hp : P .null (LW [(r, .inr (6, [.ref t, .int (nI p), .int (cfin (csum x.2.2 ≤ 100) n p)]))] (hset (hset h u (agA E x)) a (agE u x)))) : Mt l E yX1_finish cX1_finish 2 none 2 40 0 0 [.ref a, .ref r] (LW [(r, .inr (6, [.ref t, .int (nI p), .int (-1)]))] (hset (hset h u (agA E x)) a (agE u x))) P := by
  refine Mt.of (by decide) (Nat.le_of_ble_eq_true rfl) ?_
  intro K hK hR C
  have ht9 : (hset (hset h u (agA E x)) a (agE u x)) t = some (.inr (9, [.ref b, .int (nI n)])) := ((hset_ne _ _ hta).trans (hset_ne _ _ htu)).trans ht
  have hb9 : (hset (hset h u (agA E x)) a (agE u x)) b = some (.inl (E.2.2 0, 400, .inl B)) := ((hset_ne _ _ hba).trans (hset_ne _ _ hbu)).trans hb
  have ha9 : (hset (hset h u (agA E x)) a (agE u x)) a = some (agE u x) := hset_same _ _ _
  have hu9 : (hset (hset h u (agA E x)) a (agE u x)) u = some (agA E x) := (hset_ne _ _ hau.symm).trans (hset_same _ _ _)
  have A0 : lA [(r, (.inr (6, [.ref t, .int (nI p), .int (-1)]) : va_E))] := lA_one _ _
  refine g_aload_n (n := 1) C dX1_finish_0 rfl rfl ?_
  refine g_callV (n := 4) (As := []) C dX1_finish_1 rfl mw_X6_expectEnd w_661 (fun _ _ hH9 hS9 => g_recv (ci := 6) C (by refine LW_at ?_ 0 rfl; exact A0) rfl _ _ hH9 hS9) rfl rfl (room hR rfl) (cc_xend ht9 hb9 hn htr hbr hp4 (fun za1 => ?_) (fun zb1 => ?_))
  · --k1.0
    refine g_aload_n (n := 5) C dX1_finish_4 rfl rfl ?_
    refine g_callU (n := 8) (n0 := 0) (x := ⟨"GemPits$Clauses", "agrees", "()Z"⟩) (As := []) (Cn := "GemPits$Agreement") C dX1_finish_5 rfl w_665 w_667 (va_Decl.abs (C.tw (w := .declares ⟨"GemPits$Clauses", "agrees", "()Z"⟩) t_666)) (C.gw w_668) w_669 w_44 w_670 (by decide) (g_recv (ci := 1) C (lnb ha9 (by exact har)) rfl) rfl rfl (room hR rfl) (cc_agrees (lnb ha9 (by exact har)) (lnb hu9 (by exact hur)) (fun za4 => ?_) (fun zb4 => ?_))
    · --k5.1
      refine g_if_ne (n := 11) (t := 15) C dX1_finish_8 rfl (by decide) (fun zc8 => ?_) (fun zc8 => ?_)
      rotate_left
      · exact absurd zc8 (by decide)
      refine g_vret C dX1_finish_15 (by decide) (by decide) ?_
      first | (rw [cfin, if_pos za4, if_pos za1] at hp; exact hp) | (rw [cfin, if_pos za4, if_neg (fun zq => absurd zq (by omega))] at hp; exact hp) | (rw [cfin, if_neg zb4, if_pos za1] at hp; exact hp) | (rw [cfin, if_neg zb4, if_neg (fun zq => absurd zq (by omega))] at hp; exact hp)
    · --k5.0
      refine g_if_ne (n := 11) (t := 15) C dX1_finish_8 rfl (by decide) (fun zc8 => ?_) (fun zc8 => ?_)
      · exact absurd zc8 (by decide)
      refine g_aload_n (n := 12) C dX1_finish_11 rfl rfl ?_
      refine g_callV (n := 15) (As := []) C dX1_finish_12 rfl mw_X6_refuse w_674 (fun _ _ hH9 hS9 => g_recv (ci := 6) C (by refine LW_at ?_ 0 rfl; exact A0) rfl _ _ hH9 hS9) rfl rfl (room hR rfl) (cc_refuse ?_)
      refine g_vret C dX1_finish_15 (by decide) (by decide) ?_
      first | (rw [cfin, if_pos za4, if_pos za1] at hp; exact hp) | (rw [cfin, if_pos za4, if_neg (fun zq => absurd zq (by omega))] at hp; exact hp) | (rw [cfin, if_neg zb4, if_pos za1] at hp; exact hp) | (rw [cfin, if_neg zb4, if_neg (fun zq => absurd zq (by omega))] at hp; exact hp)
  · --k1.1
    refine g_aload_n (n := 5) C dX1_finish_4 rfl rfl ?_
    refine g_callU (n := 8) (n0 := 0) (x := ⟨"GemPits$Clauses", "agrees", "()Z"⟩) (As := []) (Cn := "GemPits$Agreement") C dX1_finish_5 rfl w_665 w_667 (va_Decl.abs (C.tw (w := .declares ⟨"GemPits$Clauses", "agrees", "()Z"⟩) t_666)) (C.gw w_668) w_669 w_44 w_670 (by decide) (g_recv (ci := 1) C (lnb ha9 (by exact har)) rfl) rfl rfl (room hR rfl) (cc_agrees (lnb ha9 (by exact har)) (lnb hu9 (by exact hur)) (fun za4 => ?_) (fun zb4 => ?_))
    · --k5.1
      refine g_if_ne (n := 11) (t := 15) C dX1_finish_8 rfl (by decide) (fun zc8 => ?_) (fun zc8 => ?_)
      rotate_left
      · exact absurd zc8 (by decide)
      refine g_vret C dX1_finish_15 (by decide) (by decide) ?_
      first | (rw [cfin, if_pos za4, if_pos za1] at hp; exact hp) | (rw [cfin, if_pos za4, if_neg (fun zq => absurd zq (by omega))] at hp; exact hp) | (rw [cfin, if_neg zb4, if_pos za1] at hp; exact hp) | (rw [cfin, if_neg zb4, if_neg (fun zq => absurd zq (by omega))] at hp; exact hp)
    · --k5.0
      refine g_if_ne (n := 11) (t := 15) C dX1_finish_8 rfl (by decide) (fun zc8 => ?_) (fun zc8 => ?_)
      · exact absurd zc8 (by decide)
      refine g_aload_n (n := 12) C dX1_finish_11 rfl rfl ?_
      refine g_callV (n := 15) (As := []) C dX1_finish_12 rfl mw_X6_refuse w_674 (fun _ _ hH9 hS9 => g_recv (ci := 6) C (by refine LW_at ?_ 0 rfl; exact A0) rfl _ _ hH9 hS9) rfl rfl (room hR rfl) (cc_refuse ?_)
      refine g_vret C dX1_finish_15 (by decide) (by decide) ?_
      first | (rw [cfin, if_pos za4, if_pos za1] at hp; exact hp) | (rw [cfin, if_pos za4, if_neg (fun zq => absurd zq (by omega))] at hp; exact hp) | (rw [cfin, if_neg zb4, if_pos za1] at hp; exact hp) | (rw [cfin, if_neg zb4, if_neg (fun zq => absurd zq (by omega))] at hp; exact hp)
set_option maxHeartbeats 2000000 in
set_option maxRecDepth 20000 in
theorem cc_readAll_agr {l : Launch} {E : Ev} {P : Value → AH → Prop}  {r t b n a u : Nat} {B : Nat → Int32} {h : AH} (ht : h t = some (.inr (9, [.ref b, .int (nI n)]))) (hb : h b = some (.inl (E.2.2 0, 400, .inl B))) (hn : n ≤ 400) (htr : t ∉ [r]) (hbr : b ∉ [r]) (har : a ∉ [r]) (hta : t ≠ a) (hba : b ≠ a) (hur : u ∉ [r]) (hau : a ≠ u) (htu : t ≠ u) (hbu : b ≠ u) {p0 : Nat} (hp4 : p0 ≤ n) {x0 : AgX} (hp : P (.int (crd (cpartS (cT B) n) (fun x => csum x.2.2 ≤ 100) (cT B) n 400 p0 x0 1).1) (LW [(r, .inr (6, [.ref t, .int (nI (crd (cpartS (cT B) n) (fun x => csum x.2.2 ≤ 100) (cT B) n 400 p0 x0 1).2.1), .int (crd (cpartS (cT B) n) (fun x => csum x.2.2 ≤ 100) (cT B) n 400 p0 x0 1).2.2.1]))] (hset (hset h u (agA E (crd (cpartS (cT B) n) (fun x => csum x.2.2 ≤ 100) (cT B) n 400 p0 x0 1).2.2.2)) a (agE u (crd (cpartS (cT B) n) (fun x => csum x.2.2 ≤ 100) (cT B) n 400 p0 x0 1).2.2.2)))) : Mt l E yX1_readAll cX1_readAll 3 (some .int) 7 150 0 0 [.ref a, .ref r] (LW [(r, .inr (6, [.ref t, .int (nI p0), .int (-1)]))] (hset (hset h u (agA E x0)) a (agE u x0))) P := by
  refine Mt.of (by decide) (Nat.le_of_ble_eq_true rfl) ?_
  intro K hK hR C
  refine g_iconst (n := 1) (v := 1) C dX1_readAll_0 rfl (by decide) ?_
  refine g_istore_n (n := 2) C dX1_readAll_1 rfl (by decide) ?_
  have lp : ∀ m : Nat, m ≤ 400 → ∀ (p : Nat) (x : AgX) (t9 : Int32), p ≤ n → crd (cpartS (cT B) n) (fun x => csum x.2.2 ≤ 100) (cT B) n (400 - m) p x (nI (m + 1)) = (crd (cpartS (cT B) n) (fun x => csum x.2.2 ≤ 100) (cT B) n 400 p0 x0 1) → t9 = nI (m + 1) → G K E 3 (QM K E (some .int) 0 0 P) 0 0 2 [(0, .ref a), (1, .ref r), (2, .int t9)] [] (LW [(r, .inr (6, [.ref t, .int (nI p), .int (-1)]))] (hset (hset h u (agA E x)) a (agE u x))) := by
    refine loopN (fun m => ∀ (p : Nat) (x : AgX) (t9 : Int32), p ≤ n → crd (cpartS (cT B) n) (fun x => csum x.2.2 ≤ 100) (cT B) n (400 - m) p x (nI (m + 1)) = (crd (cpartS (cT B) n) (fun x => csum x.2.2 ≤ 100) (cT B) n 400 p0 x0 1) → t9 = nI (m + 1) → G K E 3 (QM K E (some .int) 0 0 P) 0 0 2 [(0, .ref a), (1, .ref r), (2, .int t9)] [] (LW [(r, .inr (6, [.ref t, .int (nI p), .int (-1)]))] (hset (hset h u (agA E x)) a (agE u x)))) (400) ?_
    intro m hlem ihm p x t9 hp4 er et
    subst et
    have ht9 : (hset (hset h u (agA E x)) a (agE u x)) t = some (.inr (9, [.ref b, .int (nI n)])) := ((hset_ne _ _ hta).trans (hset_ne _ _ htu)).trans ht
    have hb9 : (hset (hset h u (agA E x)) a (agE u x)) b = some (.inl (E.2.2 0, 400, .inl B)) := ((hset_ne _ _ hba).trans (hset_ne _ _ hbu)).trans hb
    have ha9 : (hset (hset h u (agA E x)) a (agE u x)) a = some (agE u x) := hset_same _ _ _
    have hu9 : (hset (hset h u (agA E x)) a (agE u x)) u = some (agA E x) := (hset_ne _ _ hau.symm).trans (hset_same _ _ _)
    have A0 : lA [(r, (.inr (6, [.ref t, .int (nI p), .int (-1)]) : va_E))] := lA_one _ _
    refine g_iload_n (n := 3) C dX1_readAll_2 rfl rfl ?_
    refine g_sipush (n := 6) (v := 400) C dX1_readAll_3 rfl (by decide) ?_
    refine g_icmp_gt (n := 9) (t := 44) C dX1_readAll_6 rfl (by decide) (fun zc6 => ?_) (fun zc6 => ?_)
    · --t6
      refine g_iconst (n := 45) (v := (-1)) C dX1_readAll_44 rfl (by decide) ?_
      refine g_iret C dX1_readAll_45 (by decide) (by decide) ?_
      have em : m = 400 := by
        rcases Nat.lt_or_ge m 400 with q | q
        · exact absurd zc6 (Int32.not_lt.mpr (nI_le (a := m + 1) (b := 400) (by omega) (by decide)))
        · omega
      subst em
      have eR := crd_z er
      rw [eR] at hp
      exact hp
    · --f6
      have hm4 : m < 400 := by
        rcases Nat.lt_or_ge m 400 with q | q
        · exact q
        · exact absurd (nI_lt (a := 400) (b := m + 1) (by omega) (by omega)) zc6
      have er9 : crd (cpartS (cT B) n) (fun x => csum x.2.2 ≤ 100) (cT B) n ((400 - (m + 1)) + 1) p x (nI (m + 1)) = (crd (cpartS (cT B) n) (fun x => csum x.2.2 ≤ 100) (cT B) n 400 p0 x0 1) := by rw [show (400 - (m + 1)) + 1 = 400 - m from by omega]; exact er
      refine g_aload_n (n := 10) C dX1_readAll_9 rfl rfl ?_
      refine g_aload_n (n := 11) C dX1_readAll_10 rfl rfl ?_
      refine g_callU (n := 14) (n0 := 1) (x := ⟨"GemPits$Clauses", "readClause", "(LGemPits$Reader;)V"⟩) (As := [.ref r]) (Cn := "GemPits$Agreement") C dX1_readAll_11 rfl w_554 w_556 (va_Decl.abs (C.tw (w := .declares ⟨"GemPits$Clauses", "readClause", "(LGemPits$Reader;)V"⟩) t_555)) (C.gw w_557) w_558 w_44 w_559 (by decide) (g_recv (ci := 1) C (lnb ha9 (by exact har)) rfl) rfl rfl (room hR rfl) (cc_agrClauseS ht9 hb9 hn htr hbr har hp4 (x := x) ha9 hu9 hur hau htu hbu ?_)
      rw [show hset (hset (hset (hset h u (agA E x)) a (agE u x)) u (agA E (cpartS (cT B) n p x).2.2)) a (agE u (cpartS (cT B) n p x).2.2) = hset (hset h u (agA E (cpartS (cT B) n p x).2.2)) a (agE u (cpartS (cT B) n p x).2.2) from ag_hx hau]
      have ht8 : (hset (hset h u (agA E (cpartS (cT B) n p x).2.2)) a (agE u (cpartS (cT B) n p x).2.2)) t = some (.inr (9, [.ref b, .int (nI n)])) := ((hset_ne _ _ hta).trans (hset_ne _ _ htu)).trans ht
      have hb8 : (hset (hset h u (agA E (cpartS (cT B) n p x).2.2)) a (agE u (cpartS (cT B) n p x).2.2)) b = some (.inl (E.2.2 0, 400, .inl B)) := ((hset_ne _ _ hba).trans (hset_ne _ _ hbu)).trans hb
      have ha8 : (hset (hset h u (agA E (cpartS (cT B) n p x).2.2)) a (agE u (cpartS (cT B) n p x).2.2)) a = some (agE u (cpartS (cT B) n p x).2.2) := hset_same _ _ _
      have hu8 : (hset (hset h u (agA E (cpartS (cT B) n p x).2.2)) a (agE u (cpartS (cT B) n p x).2.2)) u = some (agA E (cpartS (cT B) n p x).2.2) := (hset_ne _ _ hau.symm).trans (hset_same _ _ _)
      have A8 : lA [(r, (.inr (6, [.ref t, .int (nI (cpartS (cT B) n p x).1), .int (cpartS (cT B) n p x).2.1]) : va_E))] := lA_one _ _
      have hp8 : (cpartS (cT B) n p x).1 ≤ n := cpart_le hp4
      refine g_aload_n (n := 15) C dX1_readAll_14 rfl rfl ?_
      refine g_callV (n := 18) (As := []) C dX1_readAll_15 rfl mw_X6_firstFault w_649 (g_recv (ci := 6) C (LW_at (by exact A8) 0 rfl) rfl) rfl rfl (room hR rfl) (cc_ff (LW_at (by exact A8) 0 rfl) ?_)
      refine g_iconst (n := 19) (v := (-1)) C dX1_readAll_18 rfl (by decide) ?_
      refine g_icmp_eq (n := 22) (t := 24) C dX1_readAll_19 rfl (by decide) (fun zc19 => ?_) (fun zc19 => ?_)
      · --t19
        have hff : (cpartS (cT B) n p x).2.1 = -1 := zc19
        rw [hff]
        refine g_aload_n (n := 25) C dX1_readAll_24 rfl rfl ?_
        refine g_callV (n := 28) (As := []) C dX1_readAll_25 rfl mw_X6_takeSemicolon w_653 (fun _ _ hH9 hS9 => g_recv (ci := 6) C (by refine LW_at ?_ 0 rfl; exact A8) rfl _ _ hH9 hS9) rfl rfl (room hR rfl) (cc_semi ht8 hb8 hn htr hbr hp8 (fun za25 zq25 => ?_) (fun zb25 => ?_))
        · --k25.0
          refine g_if_ne (n := 31) (t := 38) C dX1_readAll_28 rfl (by decide) (fun zc28 => ?_) (fun zc28 => ?_)
          rotate_left
          · exact absurd zc28 (by decide)
          refine g_iinc (n := 41) C dX1_readAll_38 rfl rfl rfl (by decide) ?_
          refine g_goto (t := 2) C dX1_readAll_41 (by decide) ?_
          exact g_lv [0, 1, 2] rfl (ihm hm4 _ _ _ (rsc_le (show (cpartS (cT B) n p x).1 + 1 ≤ n from za25)) (by rw [← nI_1 (m + 1)]; exact crd_s er9 hff za25 zq25) (nI_1 (m + 1)))
        · --k25.1
          refine g_if_ne (n := 31) (t := 38) C dX1_readAll_28 rfl (by decide) (fun zc28 => ?_) (fun zc28 => ?_)
          · exact absurd zc28 (by decide)
          refine g_aload_n (n := 32) C dX1_readAll_31 rfl rfl ?_
          refine g_aload_n (n := 33) C dX1_readAll_32 rfl rfl ?_
          refine g_callU (n := 36) (n0 := 1) (x := ⟨"GemPits$Clauses", "finish", "(LGemPits$Reader;)V"⟩) (As := [.ref r]) (Cn := "GemPits$Agreement") C dX1_readAll_33 rfl w_657 w_1400 (va_Decl.of (C.gw w_659) (C.gw w_660)) (sel_priv (by decide) (C.gw w_174) (C.gw w_1400) (priv_warm (State.WarmedH.refl _) (C.tw t_658)) (C.gw w_659)) w_659 w_40 w_660 (by decide) (g_recv (ci := 1) C (lnb ha8 (by exact har)) rfl) rfl rfl (room hR rfl) (cc_finish_agr (x := (cpartS (cT B) n p x).2.2) ht hb hn htr hbr har hta hba hur hau htu hbu hp8 ?_)
          refine g_iload_n (n := 37) C dX1_readAll_36 rfl rfl ?_
          refine g_iret C dX1_readAll_37 (by decide) (by decide) ?_
          have eR := crd_f er9 hff zb25
          rw [eR] at hp
          exact hp
      · --f19
        refine g_iconst (n := 23) (v := (-1)) C dX1_readAll_22 rfl (by decide) ?_
        refine g_iret C dX1_readAll_23 (by decide) (by decide) ?_
        have eR := crd_0 er9 zc19
        rw [eR] at hp
        exact hp
  exact g_lv [0, 1, 2] rfl (lp 0 (Nat.zero_le _) _ _ _ hp4 rfl rfl)
