/-! THE LAW'S WRAPPERS: contracts of methods with a table of their own; the world with what the row holds -/
def MxW (l : Launch) (E : Ev) (y : MethodName) (cc : ByteArray) (maxL : Nat) (ret : Option FieldType) (hh : List (Nat × Nat × Nat × Nat)) (fr lo mc ms : Nat) (av : List Value) (h : AH) (P : Value → AH → Prop) : Prop :=
  vx_Met l y (.codeWith y cc maxL ret hh :: GW) (rmk fr lo mc ms) (va_Pc av (fun U => wOK E h U U.heap)) (Qt E ret P) (Xt E (fun _ _ => False)) mc ms (eA E)
theorem goodCWW {y : MethodName} {cc : ByteArray} {maxL : Nat} {ret : Option FieldType} {hh : List (Nat × Nat × Nat × Nat)} (hc : Cond.codeWith y cc maxL ret hh ∈ GW) : GoodIn GW (.codeWith y cc maxL ret hh :: GW) := fun w hw => (List.mem_cons.mp hw).elim (fun e => by rw [e]; exact gw_good hc) gw_good
theorem MxW.of {l : Launch} {E : Ev} {y : MethodName} {cc : ByteArray} {maxL : Nat} {ret : Option FieldType} {hh : List (Nat × Nat × Nat × Nat)} {fr lo mc ms : Nat} {av : List Value} {h : AH} {P : Value → AH → Prop} (hy : plainName y.cls = true) (hlen : (lg_sl av).length ≤ maxL)
    (body : ∀ K : Cx, kl K = l → kR K = rmk fr lo mc ms → (kc K).exceptionTable.toList = tableOf hh → GX K E cc maxL y.cls ret y.name → G K E maxL (QX K E ret mc ms P (fun _ _ => False)) 0 0 0 (lv_args 0 av) [] h) (hcat : (lv_args 0 av).all (fun q => q.2.category == 1) = true := by rfl) : MxW l E y cc maxL ret hh fr lo mc ms av h P := by
  refine vx_ofWH (cc := cc) (maxL := maxL) (ret := ret) (hh := hh) hy rfl ?_
  intro p e s m args below meth c s₁ B hml hv
  obtain ⟨rfl, hN, hH, hK, hZ⟩ := hv
  have hts := atoms_spec (ws := .codeWith y cc maxL ret hh :: GW) B.pre
  have C : GX (p, l, e, rmk fr lo mc ms, s, m, av.toArray, below, meth, c) E cc maxL y.cls ret y.name := ⟨B.exec, B.bytes, hml, findClass_of_methodNamed B.named, fun w hw => hts w (List.mem_cons_of_mem _ hw), B.returns, B.notSynchronized, (name_of_methodNamed B.named B.method).1, hN, hK, hZ⟩
  have hl := lv_entry av (n := maxL) hlen
  rw [lg_entry_eq]
  exact body _ rfl rfl (vx_table (x := y) B (hts _ List.mem_cons_self)) C s.heap [] _ hH va_S.rf (lok_of hl hcat)
def mwSW (y : MethodName) (cc : ByteArray) (maxL : Nat) (ret : Option FieldType) (hh : List (Nat × Nat × Nat × Nat)) (n : Nat) : Prop := Cond.static y ∈ GW ∧ Cond.initialized y.cls ∈ GW ∧ Cond.codeWith y cc maxL ret hh ∈ GW ∧ y.cls ≠ "java/lang/invoke/MethodHandle" ∧ y.cls ≠ "java/lang/invoke/VarHandle" ∧ (parseMethodDescriptor y.desc).map (fun d => d.parameters.length) = some n
section KIT7
variable {K : Cx} {E : Ev} {cc : ByteArray} {nL : Nat} {own : String} {ret : Option FieldType} {nm : String} {Q : State → Prop} {cs ss pc : Nat} {lv : List (Nat × Value)} {st : List Value} {h : AH}
theorem g_callSW {y : MethodName} {bytes : ByteArray} {maxL idx n0 : Nat} {ret9 : Option FieldType} {hh : List (Nat × Nat × Nat × Nat)} {fr lo mc ms : Nat} {As rest : List Value} {n : Nat} (C : GX K E cc nL own ret nm) (hd : decode cc pc = .ok (.invokestatic idx, 3)) (hn : pc + 3 = n) (hw : mwSW y bytes maxL ret9 hh n0) (hl : Cond.methodLink own idx y ∈ GW)
    (hst : st = As.reverse ++ rest) (hlen : As.length = n0) (hR : roomOK K cs ss fr lo mc ms maxL rest) (hM : MxW (kl K) E y bytes maxL ret9 hh fr lo mc ms As h (fun v h' => G K E nL Q (cs + mc) (ss + ms) n lv ((rvo ret9 v).toList ++ rest) h')) : G K E nL Q cs ss pc lv st h := by
  subst hn
  obtain ⟨w1, w2, w3, w4, w5, w6⟩ := hw
  obtain ⟨r1, r2, r3, r4, r5⟩ := hR
  refine g_backX (ret9 := ret9) (mc := mc) (ms := ms) (rest := rest) (a := As.toArray) (fun H locs ls hH hS hL => ?_) (PX := fun _ _ => False) (fun v h' hp => hp) (fun x h' hp => False.elim hp)
  exact vx_runSX (Ts := GW) ⟨C.1, C.2.1, C.ml, C.ow, C.2.2.2.2.1⟩ hM (vx_cwSW n0 C.2.2.2.2.1 (good3 hl w1 w2 (goodCWW w3)) rfl rfl rfl ⟨w4, w5, w6⟩ ⟨r1, r2⟩) ⟨blindW _ _, preW C hH hS _⟩ rfl hlen hL.1 hst (lv_room r5) hd ⟨r3, r4⟩
/-- one exception is not another -/
theorem exc_ne {a b : String} (C : GX K E cc nL own ret nm) (ha : a ∈ EXC) (hb : b ∈ EXC) (n : a ≠ b) : va_Nc a b (ks K) := C.z.2.2.2.2.2.2.2.2.2.2.2 a ha b hb n
end KIT7
section WO9
variable {E : Ev} {x o ou n m : Nat} {F : Nat → Int32} {A : Nat → Nat → Int32} {Fm : Nat → Int32} {Am : Nat → Nat → Int32} {h : AH}
/-- the world, and what the law's row holds -/
def WO (E : Ev) (x o ou : Nat) (F : Nat → Int32) (A : Nat → Nat → Int32) (n m : Nat) (Fm : Nat → Int32) (Am : Nat → Nat → Int32) (p : OL → Prop) (h : AH) : Prop :=
  ∃ ad R z N f O, Wd h ad (wV (wL E ad F A R z N f n m Fm Am O)) ∧ CR E ad F A R z N f n m ∧ ad 0 0 = x ∧ ad 31 0 = o ∧ ad 30 0 = ou ∧ p O
theorem WO.wi {p : OL → Prop} (w : WO E x o ou F A n m Fm Am p h) : WI E x o ou F A n m Fm Am h := by
  obtain ⟨ad, R, z, N, f, O, W, X, e1, e2, e3, -⟩ := w
  exact ⟨ad, R, z, N, f, O, W, X, e1, e2, e3⟩
theorem WI.wo (w : WI E x o ou F A n m Fm Am h) : WO E x o ou F A n m Fm Am (fun _ => True) h := by
  obtain ⟨ad, R, z, N, f, O, W, X, e1, e2, e3⟩ := w
  exact ⟨ad, R, z, N, f, O, W, X, e1, e2, e3, trivial⟩
theorem WO.imp {p q : OL → Prop} (k : ∀ O, p O → q O) (w : WO E x o ou F A n m Fm Am p h) : WO E x o ou F A n m Fm Am q h := by
  obtain ⟨ad, R, z, N, f, O, W, X, e1, e2, e3, hp⟩ := w
  exact ⟨ad, R, z, N, f, O, W, X, e1, e2, e3, k O hp⟩
theorem wi_up (c : Int32) (w : WI E x o ou F A n m Fm Am h) : WI E x o ou (upd F 0 c) A n m Fm Am h := w
theorem wi_x (c : Int32) (w : WI E x o ou F A n m Fm Am h) : WI E x o ou (upd (upd F 0 0) 0 c) A n m Fm Am h := wi_up c (wi_up 0 w)
/-- the row is there, and takes a number -/
theorem WI.out (w : WI E x o ou F A n m Fm Am h) : ∃ O : OL, h ou = some (.inl (E.2.2 4, 1, .inr (.inl O))) ∧ ∀ O' : OL, WO E x o ou F A n m Fm Am (fun q => q = O') (hset h ou (.inl (E.2.2 4, 1, .inr (.inl O')))) := by
  obtain ⟨ad, R, z, N, f, O, W, X, e1, e2, e3⟩ := w
  refine ⟨O, by rw [← e3]; exact W.at 30 0 rfl, fun O' => ?_⟩
  have W2 := W.one 30 (e0 := olE E O) (olE E O') rfl
  rw [← e3]
  exact ⟨ad, R, z, N, f, O', W2, X, e1, e2, rfl, rfl⟩
theorem WO.row {p : OL → Prop} (w : WO E x o ou F A n m Fm Am p h) : ∃ O : OL, h ou = some (.inl (E.2.2 4, 1, .inr (.inl O))) ∧ p O := by
  obtain ⟨ad, R, z, N, f, O, W, X, e1, e2, e3, hp⟩ := w
  exact ⟨O, by rw [← e3]; exact W.at 30 0 rfl, hp⟩
theorem WI.obj (w : WI E x o ou F A n m Fm Am h) : ∃ vs : List Value, h x = some (.inr (10, vs)) := by
  obtain ⟨ad, R, z, N, f, O, W, X, e1, e2, e3⟩ := w
  exact ⟨_, by rw [← e1]; exact W.at 0 0 rfl⟩
theorem WI.ref (w : WI E x o ou F A n m Fm Am h) : ∃ vs : List Value, h o = some (.inr (11, vs)) := by
  obtain ⟨ad, R, z, N, f, O, W, X, e1, e2, e3⟩ := w
  exact ⟨_, by rw [← e2]; exact W.at 31 0 rfl⟩
/-- the reference, as the world of its own -/
theorem WO.mh {p : OL → Prop} (w : WO E x o ou F A n m Fm Am p h) : ∃ adm : Nat → Nat, h = mh E o adm Fm Am h ∧ mI o adm ∧ ∀ F9 A9, WO E x o ou F A n m F9 A9 p (mh E o adm F9 A9 h) := by
  obtain ⟨ad, R, z, N, f, O, W, X, e1, e2, e3, hp⟩ := w
  refine ⟨ad 32, by rw [← e2]; exact w_mh W, by rw [← e2]; exact w_mI W, fun F9 A9 => ?_⟩
  rw [← e2]
  exact ⟨ad, R, z, N, f, O, w_mh2 W F9 A9, X, e1, rfl, e3, hp⟩
theorem WI.keep {B : Nat → Nat → Int32} (kp : wkeep A B) (w : WI E x o ou F A n m Fm Am h) : WI E x o ou F B n m Fm Am h := by
  obtain ⟨ad, R, z, N, f, O, W, X, e1, e2, e3⟩ := w
  have e : ∀ k, k ≠ 29 → k ≠ 30 → A k = B k := fun k h1 h2 => (kp k h1 h2).symm
  refine ⟨ad, R, z, N, f, O, ?_, ?_, e1, e2, e3⟩
  · have hL : wL E ad F A R z N f n m Fm Am O = wL E ad F B R z N f n m Fm Am O := by
      unfold wL
      rw [e 14 (by decide) (by decide), e 10 (by decide) (by decide), e 3 (by decide) (by decide), e 4 (by decide) (by decide), e 7 (by decide) (by decide), e 8 (by decide) (by decide), e 5 (by decide) (by decide), e 6 (by decide) (by decide), e 11 (by decide) (by decide), e 21 (by decide) (by decide), e 28 (by decide) (by decide)]
    rw [← hL]; exact W
  · obtain ⟨r0, r1, r2, r3, r4, r5, r6, r7, r8, r9, r10, r11, r12, r13⟩ := X
    unfold CR
    rw [← e 14 (by decide) (by decide), ← e 5 (by decide) (by decide), ← e 6 (by decide) (by decide), ← e 25 (by decide) (by decide), ← e 11 (by decide) (by decide), ← e 21 (by decide) (by decide), ← e 22 (by decide) (by decide), ← e 28 (by decide) (by decide)]
    exact ⟨r0, r1, r2, fun q hq => ⟨(r3 q hq).1.trans (rlow_c n (fun a _ => ⟨by rw [e 5 (by decide) (by decide)], by rw [e 3 (by decide) (by decide)]⟩)), (r3 q hq).2.trans (rhigh_c n (fun a _ => ⟨by rw [e 5 (by decide) (by decide)], by rw [e 3 (by decide) (by decide)]⟩))⟩, r4, r5, r6, r7, r8, r9, r10, r11, r12, r13⟩
theorem WI.fx (w : WI E x o ou F A n m Fm Am h) : (F 9 = nI n ∧ n ≤ 30 ∧ F 23 = nI m ∧ m ≤ 60) ∧ (∃ t, F 15 = nI t ∧ t ≤ 400) ∧ (F 13 = 0 → ∀ k, A 11 k = 0) ∧ (∀ j, j < m → A 21 (10 * j + 2) < 0 → ∀ k, k < 6 → A 21 (10 * j + 4 + k) = 0) ∧ ∃ W H, F 26 = nI W ∧ F 27 = nI H ∧ 1 ≤ W ∧ W ≤ 10 ∧ 1 ≤ H ∧ H ≤ 8 := by
  obtain ⟨ad, R, z, N, f, O, W, X, e1, e2, e3⟩ := w
  obtain ⟨r0, r1, r2, r3, r4, r5, r6, r7, r8, r9, r10, r11, r12, r13⟩ := X
  obtain ⟨W1, H1, a1, a2, a3, a4, a5, a6, -⟩ := r11
  exact ⟨r0, r1, r8.1, fun j hj hA k hk => (r9 j hj).2.2.2 hA k hk, W1, H1, a1, a2, a3, a4, a5, a6⟩
end WO9
theorem pj_no {a : Int32} {n j : Nat} {p : Int32} (ha : a = nI n) (hn : n ≤ 60) (hj : j < n) (hp : p = nI j) : ¬ (p < 0 ∨ a - 1 < p) := by
  subst ha; subst hp
  rintro (q | q)
  · rw [Int32.lt_iff_toInt_lt, nI_i (by omega)] at q
    have : (0 : Int32).toInt = 0 := rfl
    omega
  · refine (i_lim (by omega)).mp q ?_
    rw [Int32.lt_iff_toInt_lt, nI_i (by omega), nI_i (by omega)]
    omega
theorem pj_or {a : Int32} {n : Nat} (p : Int32) (ha : a = nI n) (hn : n ≤ 60) : (p < 0 ∨ a - 1 < p) ∨ ∃ j, j < n ∧ p = nI j := by
  subst ha
  by_cases q : p < 0
  · exact Or.inl (Or.inl q)
  · by_cases q2 : p < nI n
    · have e := i_nat q
      refine Or.inr ⟨p.toInt.toNat, ?_, e⟩
      rw [Int32.lt_iff_toInt_lt, nI_i (by omega)] at q2
      rw [Int32.lt_iff_toInt_lt] at q
      have : (0 : Int32).toInt = 0 := rfl
      omega
    · exact Or.inl (Or.inr ((i_lim (by omega)).mpr q2))
theorem pj_eq {i j : Nat} {p : Int32} (hi : i < 100) (hj : j < 100) (h1 : p = nI i) (h2 : p = nI j) : i = j := nI_inj9 (by omega) (by omega) (h1.symm.trans h2)
