/-! MORE ROWS: references in arrays, class constants, copies; an object's own layer LW over a heap -/
section KR2
variable {K : Cx} {E : Ev} {cc : ByteArray} {nL : Nat} {own : String} {ret : Option FieldType} {nm : String} {Q : State → Prop} {cs ss pc : Nat} {lv : List (Nat × Value)} {st : List Value} {h : AH}
abbrev eQ (E : Ev) (N : Nat) (f : Nat → Option Nat) : va_E := .inl (E.2.2 3, N, .inr (.inr (.inr (.inr f))))
/-- at b there is an object of a class that is an Object -/
def isO (h : AH) (b : Nat) : Prop := ∃ (ci : Nat) (vs : List Value) (r : vw_C), h b = some (.inr (ci, vs)) ∧ vwCl[ci]? = some r ∧ Cond.castable r.1 "java/lang/Object" ∈ TW
theorem g_any (C : GX K E cc nL own ret nm) {H : Heap} (hH : hOK E h H) {b : Nat} (hb : isO h b) : va_Any "java/lang/Object" (ks K) H b := by
  obtain ⟨ci, vs, r, h1, h2, h3⟩ := hb
  refine va_rAny C.k (hOK_one hH h1) (q0 := 0) rfl h2 (fun comp c0 e1 e2 => ?_)
  obtain ⟨c9, t9, f1, f2, f3⟩ := Cond.castable_spec (va_Nw.use (A := ka K) rfl (C.tw h3))
  cases e1.symm.trans f2
  cases e2.symm.trans f1
  exact f3
theorem g_aast {n a v N : Nat} {f : Nat → Option Nat} {i : Int32} (C : GX K E cc nL own ret nm) (hd : decode cc pc = .ok (.aastore, 1)) (hn : pc + 1 = n) (he : h a = some (eQ E N f)) (hv : isO h v) (hin : vp_in i N)
    (k : G K E nL Q cs ss n lv st (hset h a (eQ E N (va_up f i.toNatClampNeg (some v))))) : G K E nL Q cs ss pc lv (.ref v :: .int i :: .ref a :: st) h := by
  intro H locs ls hH hS hL
  obtain ⟨hat, hA⟩ := hH a _ he
  have hlt : i.toNatClampNeg < N := Nat.not_le.mp fun q => hin (Or.inr q)
  have h0 : ¬ i < 0 := fun q => hin (Or.inl q)
  obtain ⟨cellV, g1, g3, ⟨kC, hkC⟩, hasg⟩ := g_any C hH hv
  obtain ⟨kA, comp, k1, k2, k3, -⟩ := (C.k.2 3 _ rfl).2
  obtain ⟨kE, hkE, -⟩ := Vm.findClass_spec k3
  refine W.aast C.1 C.2.1 hat (fun q h => by cases h) (fun h => by cases h) k1 k2 rfl hkE ⟨h0, by show _ < (arrV _ _ _).slots.size; rw [arrV_size]; exact hlt⟩ g1 (fun q h => by rw [h] at g3; cases g3) hkC (hasg _ k3) rfl rfl hd fun H1 e z oq => ?_
  rw [hn]
  refine k H1 _ ls (hOK_set hH he ?_ oq) (hS.put z oq hA) hL
  show H1[a]? = some (vp_cell _ _)
  rw [e, vp_cell_q, vp_cell_q, arrV_store]
  congr 2
  funext q
  by_cases hq : q = i.toNatClampNeg
  · subst hq
    simp [updV, va_up, va_rf]
  · simp [updV, va_up, hq]
/-- a new array of Objects -/
theorem g_newq {n index N : Nat} {z : Int32} (C : GX K E cc nL own ret nm) (hd : decode cc pc = .ok (.anewarray index, 3)) (hn : pc + 3 = n) (hl : Cond.classLink own index "java/lang/Object" ∈ GW) (hz : ¬ z < 0) (hN : z.toNatClampNeg = N) (hbytes : N * 4 ≤ 536870912) (hcells : cs + 1 ≤ (kR K).cells) (hslots : ss + N ≤ (kR K).slots)
    (k : ∀ q : Nat, h q = none → E.1 ≤ q → G K E nL Q (cs + 1) (ss + N) n lv (.ref q :: st) (hset h q (eQ E N (fun _ => none)))) : G K E nL Q cs ss pc lv (.int z :: st) h := by
  intro H locs ls hH hS hL
  subst hN
  have hA := eA_old C
  refine W.anew C.1 C.2.1 C.ow (C.gw hl) (va_AO.use C.z.2.2.2.2.2.2.2.2.1) rfl hd rfl hz hbytes hcells hslots fun cA kA comp f1 f2 f3 f4 => ?_
  obtain ⟨kA2, comp2, g1, g2, g3, g4⟩ := (C.k.2 3 _ rfl).2
  have hcc : cA = E.2.2 3 := Option.some.inj (f1.symm.trans g4)
  subst hcc
  generalize hH1 : H.push ({ cls := E.2.2 3, slots := Array.replicate z.toNatClampNeg .null, vm := .none } : Cell) = H1
  have z1 : H1.size = H.size + 1 := by rw [← hH1, Array.size_push]
  have e1 : H1[H.size]? = some (arrV (E.2.2 3) z.toNatClampNeg (fun _ => .null)) := by rw [← hH1, Array.getElem?_push_size, ← arrV_new]
  have o1 : ∀ q : Nat, q < H.size → H1[q]? = H[q]? := fun q hq => by rw [← hH1, Array.getElem?_push, if_neg (Nat.ne_of_lt hq)]
  rw [hn]
  refine k H.size (hOK_fresh hH) (hA _ hS.1) H1 locs ls (hOK_new hH ?_ (hA _ hS.1) o1 rfl) ⟨Nat.le_trans hS.1 (by omega), fun x h1 h2 => (o1 x (Nat.lt_of_lt_of_le h1 hS.1)).trans (hS.2.1 x h1 h2), hS.2.2⟩ hL
  show H1[H.size]? = some (vp_cell _ _)
  rw [vp_cell_q]
  exact e1
theorem g_dflt {n x : Nat} (C : GX K E cc nL own ret nm) (hd : decode cc pc = .ok (.getstatic x, 3)) (hn : pc + 3 = n) (hl : Cond.fieldLink own x "java/util/ArrayList" "DEFAULTCAPACITY_EMPTY_ELEMENTDATA" "[Ljava/lang/Object;" ∈ GW) (k : G K E nL Q cs ss n lv (.ref (E.2.2 10) :: st) h) : G K E nL Q cs ss pc lv st h := fun H locs ls hH hS hL =>
  va_gets C.1 C.2.1 C.z.2.2.1 hS C.ow (C.gw hl) (fun _ h => h) hd (by rw [hn]; exact k H locs ls hH hS hL)
theorem g_dfltLen {n : Nat} (C : GX K E cc nL own ret nm) (hd : decode cc pc = .ok (.arraylength, 1)) (hn : pc + 1 = n) (k : G K E nL Q cs ss n lv (.int 0 :: st) h) : G K E nL Q cs ss pc lv (.ref (E.2.2 10) :: st) h := fun H locs ls hH hS hL =>
  va_tlen C.1 C.2.1 C.z.2.2.2.1 hS rfl hd (by rw [hn]; exact k H locs ls hH hS hL)
theorem g_cast {n index b ci : Nat} {fs : List Value} {q : vw_C} (C : GX K E cc nL own ret nm) (hd : decode cc pc = .ok (.checkcast index, 3)) (hn : pc + 3 = n) (he : h b = some (.inr (ci, fs))) (hc : vwCl[ci]? = some q) (hl : Cond.classLink own index q.1 ∈ GW) (k : G K E nL Q cs ss n lv (.ref b :: st) h) : G K E nL Q cs ss pc lv (.ref b :: st) h := fun H locs ls hH hS hL =>
  va_castE C.1 C.2.1 C.ow (C.gw hl) (g_recv C he hc H locs hH hS) hd (by rw [hn]; exact k H locs ls hH hS hL)
theorem g_acmp_eq {n t x y : Nat} {off : Int} (C : GX K E cc nL own ret nm) (hd : decode cc pc = .ok (.if_acmp .eq off, 3)) (hn : pc + 3 = n) (ht : (pc : Int) + off = (t : Int)) (kt : x = y → G K E nL Q cs ss t lv st h) (kf : ¬ x = y → G K E nL Q cs ss n lv st h) : G K E nL Q cs ss pc lv (.ref y :: .ref x :: st) h := fun H locs ls hH hS hL =>
  lv_acmp_eq (rx := some x) (ry := some y) C.1 C.2.1 hd ht (fun q => kt (Option.some.inj q) H locs ls hH hS hL) (fun q => by rw [hn]; exact kf (fun z => q (congrArg some z)) H locs ls hH hS hL)
theorem g_acmp_ne {n t x y : Nat} {off : Int} (C : GX K E cc nL own ret nm) (hd : decode cc pc = .ok (.if_acmp .ne off, 3)) (hn : pc + 3 = n) (ht : (pc : Int) + off = (t : Int)) (kt : ¬ x = y → G K E nL Q cs ss t lv st h) (kf : x = y → G K E nL Q cs ss n lv st h) : G K E nL Q cs ss pc lv (.ref y :: .ref x :: st) h := fun H locs ls hH hS hL =>
  lv_acmp_ne (rx := some x) (ry := some y) C.1 C.2.1 hd ht (fun q => kt (fun z => q (congrArg some z)) H locs ls hH hS hL) (fun q => by rw [hn]; exact kf (Option.some.inj q) H locs ls hH hS hL)
theorem g_ldcM {n i : Nat} (C : GX K E cc nL own ret nm) (hd : decode cc pc = .ok (.ldc i, 2)) (hn : pc + 2 = n) (hl : Cond.classLink own i "[Ljava/lang/Object;" ∈ GW) (k : G K E nL Q cs ss n lv (.ref (E.2.2 11) :: st) h) : G K E nL Q cs ss pc lv st h := fun H locs ls hH hS hL =>
  va_ldcM C.1 C.2.1 C.ow (C.gw hl) C.z.2.2.2.2.2.2.2.2.2.1 hd (by rw [hn]; exact k H locs ls hH hS hL)
abbrev yGC : MethodName := ⟨"java/lang/Object", "getClass", "()Ljava/lang/Class;"⟩
theorem g_getC {n x a N : Nat} {f : Nat → Option Nat} (C : GX K E cc nL own ret nm) (hd : decode cc pc = .ok (.invokevirtual x, 3)) (hn : pc + 3 = n) (hl : Cond.methodLink own x yGC ∈ GW) (hdc : Cond.declares yGC ∈ TW) (hsel : Cond.selects "[Ljava/lang/Object;" yGC yGC ∈ GW) (hins : Cond.instanceMethod yGC ∈ GW) (hnat : Cond.native yGC ∈ GW) (he : h a = some (eQ E N f)) (hf : 1 ≤ (kR K).frames) (hlo : (st.map fun v => v.category).sum + 14 ≤ (kR K).locals)
    (k : G K E nL Q cs ss n lv (.ref (E.2.2 11) :: st) h) : G K E nL Q cs ss pc lv (.ref a :: st) h := fun H locs ls hH hS hL => by
  refine va_getC C.1 C.2.1 (by rw [C.ml]; exact hL.1.symm) C.ow (C.gw hl) (va_Nw.use (A := ka K) rfl (C.tw hdc)) (C.gw hsel) (C.gw hins) (C.gw hnat) C.z.2.2.2.2.2.2.2.2.2.1 ?_ hf hlo hd (by rw [hn]; exact k H locs ls hH hS hL)
  obtain ⟨kA2, comp2, g1, g2, g3, g4⟩ := (C.k.2 3 _ rfl).2
  exact ⟨_, (hH a _ he).1, rfl, g4⟩
theorem g_copy {n index a0 a n0 n1 : Nat} {f g : Nat → Option Nat} {sp dp cn : Int32} (C : GX K E cc nL own ret nm) (hd : decode cc pc = .ok (.invokestatic index, 3)) (hn : pc + 3 = n) (hl : Cond.methodLink own index arraycopyName ∈ GW) (hnat : Cond.native arraycopyName ∈ GW) (hstat : Cond.static arraycopyName ∈ GW) (hini : Cond.initialized "java/lang/System" ∈ GW)
    (ha0 : h a0 = some (eQ E n0 f)) (ha : h a = some (eQ E n1 g)) (h1 : ¬ sp < 0) (h2 : ¬ dp < 0) (h3 : ¬ cn < 0) (h4 : sp.toNatClampNeg + cn.toNatClampNeg ≤ n0) (h5 : dp.toNatClampNeg + cn.toNatClampNeg ≤ n1) (hel : ∀ i : Nat, i < cn.toNatClampNeg → ∀ y : Nat, f (sp.toNatClampNeg + i) = some y → isO h y)
    (hfr : 1 ≤ (kR K).frames) (hlo : (st.map fun v => v.category).sum + (nativeFrameWords "java/lang/System" "arraycopy" 5 + 11) ≤ (kR K).locals)
    (k : G K E nL Q cs ss n lv st (hset h a (eQ E n1 (va_cpy f g sp.toNatClampNeg dp.toNatClampNeg cn.toNatClampNeg)))) : G K E nL Q cs ss pc lv (.int cn :: .int dp :: .ref a :: .int sp :: .ref a0 :: st) h := by
  intro H locs ls hH hS hL
  have nn : ∀ z : Int32, ¬ z < 0 → z.toInt = (z.toNatClampNeg : Int) := by
    intro z hz
    have hz0 : (0 : Int) ≤ z.toInt := by
      have := Int32.not_lt.mp hz
      simpa using Int32.le_iff_toInt_le.mp this
    show z.toInt = ((z.toInt.toNat : Nat) : Int)
    omega
  have hc0 : H[a0]? = some (vp_cell (E.2.2 3) (n0, .inr (.inr (.inr (.inr f))))) := (hH a0 _ ha0).1
  have hc1 : H[a]? = some (vp_cell (E.2.2 3) (n1, .inr (.inr (.inr (.inr g))))) := (hH a _ ha).1
  intro T hT X
  obtain ⟨-, k0, hk0, cm0, hkk0⟩ := (C.k.2 3 _ rfl).1 n0 (fun j => va_rf (f j))
  obtain ⟨-, k1, hk1, cm1, hkk1⟩ := (C.k.2 3 _ rfl).1 n1 (fun j => va_rf (g j))
  obtain ⟨vm', X', step⟩ := X.arraycopy C.1 C.ow (C.gw hl) (C.gw hnat) (C.gw hstat) (C.gw hini) (src := a0) (dst := a) (cs := vp_cell (E.2.2 3) (n0, .inr (.inr (.inr (.inr f))))) (cd := vp_cell (E.2.2 3) (n1, .inr (.inr (.inr (.inr g))))) (srcPos := sp) (destPos := dp) (n := cn) (by rw [hT]; exact hc0) (by rw [hT]; exact hc1)
    (fun _ h => by cases h) (fun _ h => by cases h) (fun h => by cases h) (fun h => by cases h) hk0 hk1 hkk0 hkk1 rfl h1 h2 h3
    (by rw [nn sp h1, nn cn h3]; show ¬ _ > ((arrV _ n0 (fun j => va_rf (f j))).slots.size : Int); rw [arrV_size]; omega)
    (by rw [nn dp h2, nn cn h3]; show ¬ _ > ((arrV _ n1 (fun j => va_rf (g j))).slots.size : Int); rw [arrV_size]; omega)
    (fun vm₁ hal i hi => by
      have e : (vp_cell (E.2.2 3) (n0, .inr (.inr (.inr (.inr f))))).slots.getD (sp.toNatClampNeg + i) .null = va_rf (f (sp.toNatClampNeg + i)) := by
        show (arrV _ n0 (fun j => va_rf (f j))).slots.getD _ _ = _
        rw [Array.getD_eq_getD_getElem?, arrV_read _ _ (by omega)]
        rfl
      rw [e]
      cases hy : f (sp.toNatClampNeg + i) with
      | none => exact ⟨rfl, trivial⟩
      | some y =>
        obtain ⟨cellV, g1, g2, ⟨kC, hkC⟩, hasg⟩ := g_any C hH (hel i hi y hy)
        obtain ⟨kA, comp, r1, r2, r3, -⟩ := (C.k.2 3 _ rfl).2
        cases hk1.symm.trans r1
        cases hkk1.symm.trans r2
        obtain ⟨kE, hkE, -⟩ := Vm.findClass_spec r3
        obtain ⟨kC', hkC', -⟩ := hal.2.2 _ _ hkC
        obtain ⟨kE', hkE', -⟩ := hal.2.2 _ _ hkE
        refine ⟨rfl, cellV, (show T.heap[y]? = some cellV by rw [hT]; exact g1), (fun q h => by rw [h] at g2; cases g2), ⟨kC', hkC'⟩, ?_, ?_⟩
        · exact ⟨kE', hkE'⟩
        · show vm₁.assignable _ _ = true
          rw [hal.assignable]
          exact hasg _ r3)
    (g := F0 (km K) pc ls (.int cn :: .int dp :: .ref a :: .int sp :: .ref a0 :: st)) rfl (by rw [C.ml]; exact hL.1) (rest := st) rfl (by rw [C.2.1]; exact hd) hfr (by show 2 * 0 + _ + _ ≤ _; omega)
  have e1 : copied (vp_cell (E.2.2 3) (n0, .inr (.inr (.inr (.inr f))))) (vp_cell (E.2.2 3) (n1, .inr (.inr (.inr (.inr g))))) sp dp cn = vp_cell (E.2.2 3) (n1, .inr (.inr (.inr (.inr (va_cpy f g sp.toNatClampNeg dp.toNatClampNeg cn.toNatClampNeg))))) := by
    rw [vp_cell_q, vp_cell_q, vp_cell_q]
    exact va_copied (fun z => va_rf z) _ _ f g h4
  rw [e1] at X' step
  have hlz : a < H.size := (Array.getElem?_eq_some_iff.mp hc1).1
  have hheap : ((T.setVm vm').setCell a (vp_cell (E.2.2 3) (n1, .inr (.inr (.inr (.inr (va_cpy f g sp.toNatClampNeg dp.toNatClampNeg cn.toNatClampNeg))))))).heap = H.setIfInBounds a (vp_cell (E.2.2 3) (n1, .inr (.inr (.inr (.inr (va_cpy f g sp.toNatClampNeg dp.toNatClampNeg cn.toNatClampNeg)))))) := by rw [← hT]; rfl
  have oq : ∀ q : Nat, q ≠ a → (H.setIfInBounds a (vp_cell (E.2.2 3) (n1, .inr (.inr (.inr (.inr (va_cpy f g sp.toNatClampNeg dp.toNatClampNeg cn.toNatClampNeg)))))))[q]? = H[q]? := fun q hq => by simp [Array.getElem?_setIfInBounds, Ne.symm hq]
  obtain ⟨t, a1, b1⟩ := k _ _ ls (hOK_set hH ha (show (H.setIfInBounds a _)[a]? = some _ by simp [Array.getElem?_setIfInBounds, hlz]) oq) ⟨by simp; exact hS.1, fun q g1 g2 => by
      rw [oq q (fun e => g2 (by rw [e]; exact (hH a _ ha).2))]
      exact hS.2.1 q g1 g2, fun q hq => by
      rcases List.mem_append.mp hq with h9 | h9
      · exact hS.2.2 q h9
      · obtain ⟨z, -, hz⟩ := List.mem_map.mp h9
        rw [← hz]
        exact (hH a _ ha).2⟩ hL _ hheap X'
  rw [hn] at step
  exact ⟨t, step t a1, b1⟩
end KR2
/-! layers: the entries of L over h -/
def LW (L : List (Nat × va_E)) (h : AH) : AH := fun b => match L.find? (fun q => q.1 == b) with
  | some q => some q.2
  | none => h b
/-- the addresses are apart -/
def lA (L : List (Nat × va_E)) : Prop := (L.map Prod.fst).Pairwise (fun a b => a ≠ b)
theorem LW_nil (h : AH) : LW [] h = h := rfl
theorem lfind {L : List (Nat × va_E)} (N : lA L) : ∀ {i a : Nat} {e : va_E}, L[i]? = some (a, e) → L.find? (fun q => q.1 == a) = some (a, e) := by
  induction L with
  | nil => intro i a e h; cases i <;> cases h
  | cons x r ih =>
    intro i a e h
    have hp := List.pairwise_cons.mp N
    cases i with
    | zero =>
      cases h
      rw [List.find?_cons]
      simp
    | succ i =>
      have hm : (a, e) ∈ r := List.mem_of_getElem? h
      have hne : x.1 ≠ a := hp.1 a (List.mem_map.mpr ⟨(a, e), hm, rfl⟩)
      rw [List.find?_cons, show (x.1 == a) = false from beq_eq_false_iff_ne.mpr hne]
      exact ih hp.2 (i := i) h
theorem LW_at {L : List (Nat × va_E)} {h : AH} (N : lA L) (i : Nat) {a : Nat} {e : va_E} (hi : L[i]? = some (a, e)) : LW L h a = some e := by
  unfold LW
  rw [lfind N hi]
theorem LW_nb {L : List (Nat × va_E)} {h : AH} {b : Nat} (hb : b ∉ L.map Prod.fst) : LW L h b = h b := by
  unfold LW
  rw [List.find?_eq_none.mpr (fun q hq => by
    have : q.1 ≠ b := fun e => hb (List.mem_map.mpr ⟨q, hq, e⟩)
    simpa using this)]
theorem LW_put {L : List (Nat × va_E)} {h : AH} (N : lA L) : ∀ (i : Nat) {a : Nat} {e e' : va_E}, L[i]? = some (a, e) → hset (LW L h) a e' = LW (L.set i (a, e')) h := by
  induction L with
  | nil => intro i a e e' hi; cases i <;> cases hi
  | cons x r ih =>
    intro i a e e' hi
    have hp := List.pairwise_cons.mp N
    funext b
    cases i with
    | zero =>
      cases hi
      by_cases c : b = a
      · rw [c, hset_same]
        unfold LW
        rw [List.set_cons_zero, List.find?_cons]
        simp
      · rw [hset_ne _ _ c]
        unfold LW
        have c3 : (a == b) = false := beq_eq_false_iff_ne.mpr (fun z => c z.symm)
        rw [List.set_cons_zero, List.find?_cons, List.find?_cons]
        simp only [c3]
    | succ i =>
      have hm : (a, e) ∈ r := List.mem_of_getElem? hi
      have hne : x.1 ≠ a := hp.1 a (List.mem_map.mpr ⟨(a, e), hm, rfl⟩)
      have h2 := congrFun (ih hp.2 i (e' := e') hi) b
      rw [List.set_cons_succ]
      by_cases c : x.1 = b
      · have c2 : b ≠ a := fun z => hne (c.trans z)
        rw [hset_ne _ _ c2]
        unfold LW
        rw [List.find?_cons, List.find?_cons, show (x.1 == b) = true from beq_iff_eq.mpr c]
      · have c3 : (x.1 == b) = false := beq_eq_false_iff_ne.mpr c
        have e1 : ∀ M : List (Nat × va_E), LW (x :: M) h b = LW M h b := fun M => by
          unfold LW
          rw [List.find?_cons, c3]
        rw [e1]
        rw [← h2]
        unfold hset
        rw [e1]
/-- what h says already -/
theorem LW_id {h : AH} : ∀ L : List (Nat × va_E), (∀ q ∈ L, h q.1 = some q.2) → LW L h = h := by
  intro L
  intro hL
  funext b
  unfold LW
  cases f : L.find? (fun q => q.1 == b) with
  | none => rfl
  | some q =>
    have e : q.1 = b := by simpa using List.find?_some f
    rw [← e, hL q (List.mem_of_find?_eq_some f)]
theorem LW_new {L : List (Nat × va_E)} {h : AH} {q : Nat} {e : va_E} (hq : LW L h q = none) : hset (LW L h) q e = LW (L ++ [(q, e)]) h := by
  have h2 : L.find? (fun z => z.1 == q) = none := by
    unfold LW at hq
    cases f : L.find? (fun z => z.1 == q) with
    | none => rfl
    | some z => rw [f] at hq; cases hq
  funext b
  unfold hset LW
  rw [List.find?_append]
  by_cases c : b = q
  · rw [if_pos c, c, h2]
    simp
  · rw [if_neg c]
    have c3 : (q == b) = false := beq_eq_false_iff_ne.mpr (fun z => c z.symm)
    cases f : L.find? (fun z => z.1 == b) with
    | some z => simp
    | none => simp [c3]
theorem lA_new {L : List (Nat × va_E)} {h : AH} {q : Nat} {e : va_E} (N : lA L) (hq : LW L h q = none) : lA (L ++ [(q, e)]) := by
  unfold lA at N ⊢
  rw [List.map_append]
  refine List.pairwise_append.mpr ⟨N, List.pairwise_singleton _ _, fun a ha b hb => ?_⟩
  rw [List.mem_singleton.mp hb]
  obtain ⟨z, hz, e9⟩ := List.mem_map.mp ha
  intro e8
  unfold LW at hq
  cases f : L.find? (fun z => z.1 == q) with
  | some w => rw [f] at hq; cases hq
  | none => exact List.find?_eq_none.mp f z hz (by rw [e9, e8]; simp)
