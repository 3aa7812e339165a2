/-! THE CLAIM OUT OF ONE WALK OF THE LAW'S BODY. Your part is whole_start (and what it stands on); all else here is the same for every law, but numbers. -/
def R_law : String := "GemPitsLaw"
def lw_P (b : Addr) (xs : List Int32) (args : Array Value) (s : State) : Prop := args = #[.ref b] ∧ s.IntsAt b xs ∧ xs.length ≤ 3072 ∧ (Jvm.Cond.and given_1 narrow_1).before args s = true
def lw_Q (_ : Array Value) (s : State) (o : Outcome) (t : State) : Prop := o = .returned (some (.int 1)) ∧ Framed s o t [] 601024 7293034
def lw_Z (below : List Frame) (a : Array Value) (s : State) : State → Prop := fun t => ∃ o, t.status = .running ∧ Ended t below o ∧ lw_Q a s o t
/-- the law's own end, with 1 on the stack, nothing written that was there before, its room as the claim has it -/
theorem lw_ret {p : Program} {l : Launch} {e : Env} {s : State} {m : MethodId} {below : List Frame} {meth : Method} {c : Code} {b : Nat} (hx : p.tables.exec = Jvm.exec) (hb : c.code = code) (hr : meth.sig.returnType = ret) (hlocks : meth.locks = false) {pc : Nat} {H : Heap} {ls : Array Slot} (hdg : decode code pc = .ok (.ireturn, 1)) : W p l e room_1 s m #[Value.ref b] below meth c H [] 601024 7293034 (lw_Z below #[Value.ref b] s) (F0 m pc ls [.int 1]) := by
  intro T hT X
  obtain ⟨fs, hret, hrun, hended, hW, hframe⟩ := X.leave (v := some (.int 1)) (hlocks := hlocks) (fun h => by rw [hr] at h; cases h)
  have hmeth' : T.vm.method? m = some meth := X.method'
  refine ⟨T.setFrames fs, ?_, .returned (some (.int 1)), hrun, hended, rfl, ⟨_, rfl⟩, hW, hframe⟩
  jvm_step X.here [X.here.top, hx, hb, hdg, hmeth', hr, ret, narrow_b1]
  (try refine ⟨rfl, ?_⟩); (try refine ⟨rfl, ?_⟩)
  first | (intro acts; rw [hret _ acts rfl rfl rfl]) | rw [hret _ _ rfl rfl rfl]
  exact Steps.refl _
/-- what holds at the law's entry: the machine, the code, the tables' words (any of lw_tbl by 'hts w (by decide +kernel)'), the script of L ints xs at the cell b, what the Statement gives of the start (any of its parts by flat_of_before) -/
def lw_At (p : Program) (s : State) (m : MethodId) (meth : Method) (c : Code) (b L : Nat) (xs : Nat → Int32) : Prop :=
  p.tables.exec = Jvm.exec ∧ c.code = code ∧ meth.sig.returnType = ret ∧ c.maxLocals = 7 ∧ s.vm.findClass R_law = some m.cls ∧ (∀ w ∈ lw_tbl, w.before #[Value.ref b] s = true) ∧ va_X b L xs s s.heap ∧ b < s.heap.size ∧ meth.locks = false ∧ (Jvm.Cond.and given_1 narrow_1).before #[Value.ref b] s = true
theorem dL_law__1353 : decode cL_law_ 1353 = .ok (.iconst 1, 1) := by decide +kernel
theorem dL_law__1354 : decode cL_law_ 1354 = .ok (.ireturn, 1) := by decide +kernel
/-! THE START: the run's own numbers, out of what the Statement gives -/
theorem str_ref {args : Array Value} {s : State} {t : Term} {cls : String} (h : (Cond.exactly t cls).before args s = true) : ∃ a : Nat, t.eval args s none [] s = some (.ref a) := by
  obtain ⟨a, c, cA, kA, q1, -⟩ := Cond.exactly_spec (args := args) (first := s) (o := none) (s := s) (idx := []) (t := t) (cls := cls) h
  exact ⟨a, q1⟩
theorem str_eq {args : Array Value} {s : State} {t u : Term} {a : Nat} (h : (Cond.eq t u).before args s = true) (ht : t.eval args s none [] s = some (.ref a)) : u.eval args s none [] s = some (.ref a) := by
  cases hu : u.eval args s none [] s with
  | none => simp [Cond.before, Cond.holds, Cond.value, ht, hu] at h
  | some w => 
    cases w <;> simp [Cond.before, Cond.holds, Cond.value, ht, hu] at h <;> (try subst h) <;> rfl
theorem str_ne {args : Array Value} {s : State} {t u : Term} {a b : Nat} (ht : t.eval args s none [] s = some (.ref a)) (hu : u.eval args s none [] s = some (.ref b)) (n : a ≠ b) : (Cond.not (.eq t u)).before args s = true := by
  simp [Cond.before, Cond.holds, Cond.value, ht, hu, n]
theorem arr_b {s : State} {args : Array Value} (h : (Cond.arrayClass .byte).before args s = true) : ∃ cA, ArrOfT s cA .byte ∧ va_RA s cA .byte := by
  obtain ⟨c, k, comp, h1, h2, h3⟩ := Cond.arrayClass_spec h
  exact ⟨c, fun n z => ⟨fun k h => (by cases h), k, h2, comp, h3⟩, h1⟩
theorem arr_i {s : State} {args : Array Value} (h : (Cond.arrayClass .int).before args s = true) : ∃ cA, ArrOfT s cA .int ∧ va_RA s cA .int := by
  obtain ⟨c, k, comp, h1, h2, h3⟩ := Cond.arrayClass_spec h
  exact ⟨c, fun n z => ⟨fun k h => (by cases h), k, h2, comp, h3⟩, h1⟩
theorem arr_z {s : State} {args : Array Value} (h : (Cond.arrayClass .boolean).before args s = true) : ∃ cA, ArrOfT s cA .boolean ∧ va_RA s cA .boolean := by
  obtain ⟨c, k, comp, h1, h2, h3⟩ := Cond.arrayClass_spec h
  exact ⟨c, fun n z => ⟨fun k h => (by cases h), k, h2, comp, h3⟩, h1⟩
theorem arr_l {s : State} {args : Array Value} (h : (Cond.arrayClass .long).before args s = true) : ∃ cA, ArrOfT s cA .long ∧ va_RA s cA .long := by
  obtain ⟨c, k, comp, h1, h2, h3⟩ := Cond.arrayClass_spec h
  exact ⟨c, fun n z => ⟨fun k h => (by cases h), k, h2, comp, h3⟩, h1⟩
theorem arr_o {s : State} {args : Array Value} (h : (Cond.arrayOver (.object "java/lang/Object")).before args s = true) : ∃ cA, ArrOfT s cA (.object "java/lang/Object") ∧ va_RA s cA (.object "java/lang/Object") := by
  obtain ⟨comp, c, k, h1, h2, h3, h4, h5⟩ := Cond.arrayOver_spec h
  exact ⟨c, fun n z => ⟨fun k h => (by cases h), k, h3, comp, h4⟩, k, comp, h3, h4, h1, h5⟩
def tm9 : Nat → Term := fun k => match k with
  | 0 => Term.string "GemPits$Law" 20
  | 1 => Term.string "GemPits$Law" 31
  | 2 => Term.string "GemPits$Law" 33
  | 3 => Term.string "GemPits$Agreement" 15
  | 4 => Term.string "GemPits$Agreement" 23
  | 5 => Term.string "GemPits$Agreement" 33
  | 6 => Term.string "GemPits$Agreement" 39
  | 7 => Term.string "GemPits$Agreement" 41
  | 8 => Term.string "GemPits$Agreement" 43
  | 9 => Term.string "GemPits$Agreement" 49
  | _ => Term.string "GemPits$Agreement" 51
theorem tw_on {w : Cond} (g : tword w = true) : w.onTables = true := by
  cases w <;> first | rfl | (exact (nomatch g)) | (simp [tword] at g)
theorem exc_in : ∀ a ∈ EXC, ∀ b ∈ EXC, a ≠ b → Cond.not (.castable a b) ∈ flatC (Jvm.Cond.and given_1 narrow_1) := by decide +kernel
theorem tm_ex : ∀ i, i < 11 → Cond.exactly (tm9 i) "java/lang/String" ∈ flatC (Jvm.Cond.and given_1 narrow_1) := by decide +kernel
theorem tm_co : ∀ i, i < 11 → Cond.eq (.field (tm9 i) "java/lang/String" "coder" "B") (.int 0) ∈ flatC (Jvm.Cond.and given_1 narrow_1) := by decide +kernel
theorem tm_ar : ∀ i, i < 11 → Cond.arrayOf (.field (tm9 i) "java/lang/String" "value" "[B") .byte ∈ flatC (Jvm.Cond.and given_1 narrow_1) := by decide +kernel
theorem tm_le : ∀ i, i < 11 → Cond.eq (.length (.field (tm9 i) "java/lang/String" "value" "[B")) (.int (Int32.ofNat (SLEN.getD i 0))) ∈ flatC (Jvm.Cond.and given_1 narrow_1) := by decide +kernel
theorem tm_el : ∀ i, i < 11 → ∀ j, j < SLEN.getD i 0 → Cond.eq (.elem (.field (tm9 i) "java/lang/String" "value" "[B") (.int (Int32.ofNat j))) (.int ((SBYT.getD i []).getD j 0)) ∈ flatC (Jvm.Cond.and given_1 narrow_1) := by decide +kernel
theorem tm_df : ∀ i, i < 11 → ∀ j, j < 11 → i ≠ j → Int32.ofNat (SLEN.getD i 0) ≠ Int32.ofNat (SLEN.getD j 0) ∨ (SBYT.getD i []).getD 0 0 ≠ (SBYT.getD j []).getD 0 0 := by decide +kernel
theorem tm_po : ∀ i, i < 11 → 0 < SLEN.getD i 0 ∧ SLEN.getD i 0 < 2 ^ 31 := by decide +kernel
def qn9 : Nat → Nat := fun k => match k with
  | 200 => 59
  | 201 => 80
  | 202 => 89
  | 203 => 306
  | 204 => 103
  | 205 => 296
  | 206 => 117
  | 207 => 131
  | 208 => 168
  | 209 => 171
  | 210 => 175
  | 211 => 181
  | 212 => 192
  | 213 => 301
  | 214 => 203
  | 215 => 309
  | 216 => 237
  | 217 => 243
  | 218 => 252
  | _ => 0
theorem q_ex2 : ∀ k, k < 19 → Cond.exactly (Term.string "GemPits" (qn9 (200 + k))) "java/lang/String" ∈ flatC (Jvm.Cond.and given_1 narrow_1) := by decide +kernel
set_option maxHeartbeats 4000000 in
set_option maxRecDepth 20000 in
theorem st_E {s : State} {b : Nat} (hts : ∀ w ∈ lw_tbl, w.before #[Value.ref b] s = true) (hgv : (Jvm.Cond.and given_1 narrow_1).before #[Value.ref b] s = true) : ∃ E : Ev, E.1 = s.heap.size ∧ va_K E.2.1 vwCl (eT E) s ∧ zOK E s s.heap := by
  have hs := flat_of_before _ hgv
  have hg : ∀ w ∈ GW, w.before #[Value.ref b] s = true := fun w hw => hts w (gw_tbl hw)
  have hA : ∀ a : Nat, a < s.heap.size → ¬ (fun q : Nat => s.heap.size ≤ q) a := fun a h => Nat.not_le.mpr h
  have hC : ∀ k : Nat, ∃ d : ClassId × (Nat → Nat), ∀ q, vwCl[k]? = some q → u_Kn s q.1 q.2.1 q.2.2 d.1 d.2 := fun k => by
    match k with
    | 0 => obtain ⟨c, i, hh⟩ := u_known (C := RJx4a65c) (T := TJx4a65c) (N := 3) (n := 3) hg inJx4a65c (hg _ w_95); exact ⟨(c, i), fun q hq => by cases hq; exact hh⟩
    | 1 => obtain ⟨c, i, hh⟩ := u_known (C := RX0) (T := TX0) (N := 3) (n := 3) hg inX0 (hg _ w_174); exact ⟨(c, i), fun q hq => by cases hq; exact hh⟩
    | 2 => obtain ⟨c, i, hh⟩ := u_known (C := RX2) (T := TX2) (N := 6) (n := 6) hg inX2 (hg _ w_89); exact ⟨(c, i), fun q hq => by cases hq; exact hh⟩
    | 3 => obtain ⟨c, i, hh⟩ := u_known (C := RX3) (T := TX3) (N := 3) (n := 3) hg inX3 (hg _ w_121); exact ⟨(c, i), fun q hq => by cases hq; exact hh⟩
    | 4 => obtain ⟨c, i, hh⟩ := u_known (C := RX4) (T := TX4) (N := 5) (n := 5) hg inX4 (hg _ w_166); exact ⟨(c, i), fun q hq => by cases hq; exact hh⟩
    | 5 => obtain ⟨c, i, hh⟩ := u_known (C := RX5) (T := TX5) (N := 6) (n := 6) hg inX5 (hg _ w_744); exact ⟨(c, i), fun q hq => by cases hq; exact hh⟩
    | 6 => obtain ⟨c, i, hh⟩ := u_known (C := RX6) (T := TX6) (N := 3) (n := 3) hg inX6 (hg _ w_524); exact ⟨(c, i), fun q hq => by cases hq; exact hh⟩
    | 7 => obtain ⟨c, i, hh⟩ := u_known (C := RX7) (T := TX7) (N := 7) (n := 7) hg inX7 (hg _ w_206); exact ⟨(c, i), fun q hq => by cases hq; exact hh⟩
    | 8 => obtain ⟨c, i, hh⟩ := u_known (C := RX8) (T := TX8) (N := 6) (n := 6) hg inX8 (hg _ w_952); exact ⟨(c, i), fun q hq => by cases hq; exact hh⟩
    | 9 => obtain ⟨c, i, hh⟩ := u_known (C := RX9) (T := TX9) (N := 2) (n := 2) hg inX9 (hg _ w_75); exact ⟨(c, i), fun q hq => by cases hq; exact hh⟩
    | 10 => obtain ⟨c, i, hh⟩ := u_known (C := RX10) (T := TX10) (N := 5) (n := 5) hg inX10 (hg _ w_67); exact ⟨(c, i), fun q hq => by cases hq; exact hh⟩
    | 11 => obtain ⟨c, i, hh⟩ := u_known (C := RX11) (T := TX11) (N := 31) (n := 31) hg inX11 (hg _ w_1095); exact ⟨(c, i), fun q hq => by cases hq; exact hh⟩
    | k + 12 => exact ⟨(0, fun _ => 0), fun q hq => nomatch (show (none : Option vw_C) = some q from hq)⟩
  obtain ⟨dd, hdd⟩ := Classical.axiomOfChoice hC
  obtain ⟨a0, h01, h02⟩ := arr_b (hts _ (List.mem_of_getElem? (i := 87) (by decide +kernel)))
  obtain ⟨a1, h11, h12⟩ := arr_i (hts _ (List.mem_of_getElem? (i := 142) (by decide +kernel)))
  obtain ⟨a2, h21, h22⟩ := arr_z (hts _ (List.mem_of_getElem? (i := 233) (by decide +kernel)))
  obtain ⟨a3, h31, h32⟩ := arr_o (hts _ (List.mem_of_getElem? (i := 828) (by decide +kernel)))
  obtain ⟨a4, h41, h42⟩ := arr_l (hts _ (List.mem_of_getElem? (i := 1398) (by decide +kernel)))
  obtain ⟨d9, hd9, hT9⟩ := va_Tof (tm := (.static "java/util/ArrayList" "DEFAULTCAPACITY_EMPTY_ELEMENTDATA" "[Ljava/lang/Object;")) (ty := .object "java/lang/Object") (N := 0) (f := fun _ => .null) (A := fun q : Nat => s.heap.size ≤ q) (by decide) (hs _ (by decide +kernel)) (va_eqt (hs _ (by decide +kernel))) (fun j hj => absurd hj (Nat.not_lt_zero j)) hA
  have hZ9 := va_Zref (A := fun q : Nat => s.heap.size ≤ q) (hts _ (List.mem_of_getElem? (i := 107) (by decide +kernel))) (hts _ (List.mem_of_getElem? (i := 39) (by decide +kernel))) hd9 hA
  obtain ⟨m9, hm9⟩ := va_Mi.of (args := #[Value.ref b]) (s := s) (C := "[Ljava/lang/Object;") (hs _ (by decide +kernel))
  have hne : ∀ i j : Nat, i < 11 → j < 11 → i ≠ j → (Cond.not (Cond.eq (tm9 i) (tm9 j))).before #[Value.ref b] s = true := fun i j hi hj n => by
    obtain ⟨x, hx⟩ := str_ref (hs _ (tm_ex i hi))
    obtain ⟨y, hy⟩ := str_ref (hs _ (tm_ex j hj))
    refine str_ne hx hy (fun e => ?_)
    have ef : ∀ f d : String, (Term.field (tm9 i) "java/lang/String" f d).eval #[Value.ref b] s none [] s = (Term.field (tm9 j) "java/lang/String" f d).eval #[Value.ref b] s none [] s := fun f d => by rw [va_fe hx, va_fe hy, e]
    rcases tm_df i hi j hj n with q | q
    · have u1 := va_eqt (hs _ (tm_le i hi))
      have u2 := va_eqt (hs _ (tm_le j hj))
      have u3 : (Term.length (.field (tm9 i) "java/lang/String" "value" "[B")).eval #[Value.ref b] s none [] s = (Term.length (.field (tm9 j) "java/lang/String" "value" "[B")).eval #[Value.ref b] s none [] s := by
        simp only [Term.eval] at ef ⊢
        rw [ef]
      rw [u1, u2] at u3
      exact q (Value.int.inj (Option.some.inj u3))
    · have u1 := va_eqt (hs _ (tm_el i hi 0 (tm_po i hi).1))
      have u2 := va_eqt (hs _ (tm_el j hj 0 (tm_po j hj).1))
      have u3 : (Term.elem (.field (tm9 i) "java/lang/String" "value" "[B") (.int (Int32.ofNat 0))).eval #[Value.ref b] s none [] s = (Term.elem (.field (tm9 j) "java/lang/String" "value" "[B") (.int (Int32.ofNat 0))).eval #[Value.ref b] s none [] s := by
        simp only [Term.eval] at ef ⊢
        rw [ef]
      rw [u1, u2] at u3
      exact q (Value.int.inj (Option.some.inj u3))
  obtain ⟨adK, adV, hS9, hK9⟩ := vk_Sof (N := 11) (tm := tm9) (len := SLEN) (byt := SBYT) (A := fun q : Nat => s.heap.size ≤ q) (fun i hi => (tm_po i hi).2) (fun i hi => hs _ (tm_ex i hi)) (fun i hi => hs _ (tm_co i hi)) (fun i hi => hs _ (tm_ar i hi)) (fun i hi => hs _ (tm_le i hi)) (fun i hi j hj => hs _ (tm_el i hi j hj)) (fun i j hi hj n => Or.inl (hne i j hi hj n)) hA
  have hq : ∀ k : Nat, ∃ a : Nat, k < 19 → (Term.string "GemPits" (qn9 (200 + k))).eval #[Value.ref b] s none [] s = some (.ref a) := fun k => by
    by_cases h : k < 19
    · obtain ⟨a, ha⟩ := str_ref (hs _ (q_ex2 k h))
      exact ⟨a, fun _ => ha⟩
    · exact ⟨0, fun q => absurd q h⟩
  obtain ⟨q8, hq8⟩ := Classical.axiomOfChoice hq
  let nb : Nat → Nat := fun k => match k with
    | 0 => a0
    | 1 => a1
    | 2 => a2
    | 3 => a3
    | 4 => a4
    | 10 => d9
    | 11 => m9
    | 20 => adK 0
    | 21 => adK 1
    | 22 => adK 2
    | 23 => adK 3
    | 24 => adK 4
    | 25 => adK 5
    | 26 => adK 6
    | 27 => adK 7
    | 28 => adK 8
    | 29 => adK 9
    | 30 => adK 10
    | 40 => adV 0
    | 41 => adV 1
    | 42 => adV 2
    | 43 => adV 3
    | 44 => adV 4
    | 45 => adV 5
    | 46 => adV 6
    | 47 => adV 7
    | 48 => adV 8
    | 49 => adV 9
    | 50 => adV 10
    | 200 => q8 0
    | 201 => q8 1
    | 202 => q8 2
    | 203 => q8 3
    | 204 => q8 4
    | 205 => q8 5
    | 206 => q8 6
    | 207 => q8 7
    | 208 => q8 8
    | 209 => q8 9
    | 210 => q8 10
    | 211 => q8 11
    | 212 => q8 12
    | 213 => q8 13
    | 214 => q8 14
    | 215 => q8 15
    | 216 => q8 16
    | 217 => q8 17
    | 218 => q8 18
    | _ => 0
  have e1 : ∀ i, i < 11 → nb (20 + i) = adK i := fun i hi => match i, hi with
    | 0, _ => rfl
    | 1, _ => rfl
    | 2, _ => rfl
    | 3, _ => rfl
    | 4, _ => rfl
    | 5, _ => rfl
    | 6, _ => rfl
    | 7, _ => rfl
    | 8, _ => rfl
    | 9, _ => rfl
    | 10, _ => rfl
  have e2 : ∀ i, i < 11 → nb (40 + i) = adV i := fun i hi => match i, hi with
    | 0, _ => rfl
    | 1, _ => rfl
    | 2, _ => rfl
    | 3, _ => rfl
    | 4, _ => rfl
    | 5, _ => rfl
    | 6, _ => rfl
    | 7, _ => rfl
    | 8, _ => rfl
    | 9, _ => rfl
    | 10, _ => rfl
  refine ⟨(s.heap.size, (fun k => (dd k).1, fun k => (dd k).2), nb), rfl, ⟨fun k q hq => hdd k q hq, fun k q hq => ?_⟩, ?_⟩
  · match k, hq with
    | 0, hq => cases hq; exact ⟨h01, h02⟩
    | 1, hq => cases hq; exact ⟨h11, h12⟩
    | 2, hq => cases hq; exact ⟨h21, h22⟩
    | 3, hq => cases hq; exact ⟨h31, h32⟩
    | 4, hq => cases hq; exact ⟨h41, h42⟩
    | k + 5, hq => exact nomatch (show (none : Option (ClassId × FieldType)) = some q from hq)
  · refine ⟨?_, ?_, hZ9, hT9, ?_, ?_, ⟨fun i hi => ?_, fun i j hi hj e => hS9.2 i j hi hj ((e1 i hi).symm.trans (e.trans (e1 j hj)))⟩, ?_, ?_, hm9, fun w hw => va_Nw.of (tw_on (List.mem_filter.mp hw).2) (hts w (List.mem_filter.mp hw).1), fun a ha c hc n => va_Nc.of (hs _ (exc_in a ha c hc n))⟩
    · exact vx_Zqof (hts _ (List.mem_of_getElem? (i := 449) (by decide +kernel))) (hts _ (List.mem_of_getElem? (i := 47) (by decide +kernel))) (hs _ (by decide +kernel)) hA
    · exact vx_Zqof (hts _ (List.mem_of_getElem? (i := 451) (by decide +kernel))) (hts _ (List.mem_of_getElem? (i := 47) (by decide +kernel))) (hs _ (by decide +kernel)) hA
    · exact va_Zof (hts _ (List.mem_of_getElem? (i := 577) (by decide +kernel))) (hts _ (List.mem_of_getElem? (i := 55) (by decide +kernel))) (va_eqt (hs _ (by decide +kernel))) hA
    · exact va_Zqof (hts _ (List.mem_of_getElem? (i := 593) (by decide +kernel))) (hts _ (List.mem_of_getElem? (i := 52) (by decide +kernel))) (hs _ (by decide +kernel)) hA
    · show va_O "java/lang/String" (nb (20 + i)) _ s s.heap ∧ va_OF "java/lang/String" "coder" "B" (.int 0) (nb (20 + i)) _ s s.heap ∧ va_OF "java/lang/String" "value" "[B" (.ref (nb (40 + i))) (nb (20 + i)) _ s s.heap ∧ va_T .byte (nb (40 + i)) _ _ _ s s.heap
      rw [e1 i hi, e2 i hi]
      exact hS9.1 i hi
    · have hq9 : ∀ k, k < 19 → (Term.string "GemPits" (qn9 (200 + k))).eval #[Value.ref b] s none [] s = some (.ref (q8 k)) := fun k h => hq8 k h
      exact List.forall_mem_cons.mpr ⟨vk_R.of (hts _ (List.mem_of_getElem? (i := 465) (by decide +kernel))) (hq9 0 (by decide)), List.forall_mem_cons.mpr ⟨vk_R.of (hts _ (List.mem_of_getElem? (i := 560) (by decide +kernel))) (hK9 3 (by decide)), List.forall_mem_cons.mpr ⟨vk_R.of (hts _ (List.mem_of_getElem? (i := 614) (by decide +kernel))) (hK9 4 (by decide)), List.forall_mem_cons.mpr ⟨vk_R.of (hts _ (List.mem_of_getElem? (i := 624) (by decide +kernel))) (hK9 5 (by decide)), List.forall_mem_cons.mpr ⟨vk_R.of (hts _ (List.mem_of_getElem? (i := 632) (by decide +kernel))) (hK9 6 (by decide)), List.forall_mem_cons.mpr ⟨vk_R.of (hts _ (List.mem_of_getElem? (i := 633) (by decide +kernel))) (hK9 7 (by decide)), List.forall_mem_cons.mpr ⟨vk_R.of (hts _ (List.mem_of_getElem? (i := 634) (by decide +kernel))) (hK9 8 (by decide)), List.forall_mem_cons.mpr ⟨vk_R.of (hts _ (List.mem_of_getElem? (i := 636) (by decide +kernel))) (hK9 9 (by decide)), List.forall_mem_cons.mpr ⟨vk_R.of (hts _ (List.mem_of_getElem? (i := 637) (by decide +kernel))) (hK9 10 (by decide)), List.forall_mem_cons.mpr ⟨vk_R.of (hts _ (List.mem_of_getElem? (i := 642) (by decide +kernel))) (hK9 0 (by decide)), List.forall_mem_cons.mpr ⟨vk_R.of (hts _ (List.mem_of_getElem? (i := 645) (by decide +kernel))) (hK9 1 (by decide)), List.forall_mem_cons.mpr ⟨vk_R.of (hts _ (List.mem_of_getElem? (i := 646) (by decide +kernel))) (hK9 2 (by decide)), List.forall_mem_cons.mpr ⟨vk_R.of (hts _ (List.mem_of_getElem? (i := 676) (by decide +kernel))) (hq9 1 (by decide)), List.forall_mem_cons.mpr ⟨vk_R.of (hts _ (List.mem_of_getElem? (i := 690) (by decide +kernel))) (hq9 2 (by decide)), List.forall_mem_cons.mpr ⟨vk_R.of (hts _ (List.mem_of_getElem? (i := 716) (by decide +kernel))) (hq9 3 (by decide)), List.forall_mem_cons.mpr ⟨vk_R.of (hts _ (List.mem_of_getElem? (i := 732) (by decide +kernel))) (hq9 4 (by decide)), List.forall_mem_cons.mpr ⟨vk_R.of (hts _ (List.mem_of_getElem? (i := 847) (by decide +kernel))) (hq9 5 (by decide)), List.forall_mem_cons.mpr ⟨vk_R.of (hts _ (List.mem_of_getElem? (i := 852) (by decide +kernel))) (hq9 6 (by decide)), List.forall_mem_cons.mpr ⟨vk_R.of (hts _ (List.mem_of_getElem? (i := 875) (by decide +kernel))) (hq9 7 (by decide)), List.forall_mem_cons.mpr ⟨vk_R.of (hts _ (List.mem_of_getElem? (i := 914) (by decide +kernel))) (hq9 8 (by decide)), List.forall_mem_cons.mpr ⟨vk_R.of (hts _ (List.mem_of_getElem? (i := 929) (by decide +kernel))) (hq9 9 (by decide)), List.forall_mem_cons.mpr ⟨vk_R.of (hts _ (List.mem_of_getElem? (i := 939) (by decide +kernel))) (hq9 10 (by decide)), List.forall_mem_cons.mpr ⟨vk_R.of (hts _ (List.mem_of_getElem? (i := 946) (by decide +kernel))) (hq9 11 (by decide)), List.forall_mem_cons.mpr ⟨vk_R.of (hts _ (List.mem_of_getElem? (i := 996) (by decide +kernel))) (hq9 12 (by decide)), List.forall_mem_cons.mpr ⟨vk_R.of (hts _ (List.mem_of_getElem? (i := 1012) (by decide +kernel))) (hq9 13 (by decide)), List.forall_mem_cons.mpr ⟨vk_R.of (hts _ (List.mem_of_getElem? (i := 1018) (by decide +kernel))) (hq9 14 (by decide)), List.forall_mem_cons.mpr ⟨vk_R.of (hts _ (List.mem_of_getElem? (i := 1023) (by decide +kernel))) (hq9 15 (by decide)), List.forall_mem_cons.mpr ⟨vk_R.of (hts _ (List.mem_of_getElem? (i := 1065) (by decide +kernel))) (hq9 16 (by decide)), List.forall_mem_cons.mpr ⟨vk_R.of (hts _ (List.mem_of_getElem? (i := 1073) (by decide +kernel))) (hq9 17 (by decide)), List.forall_mem_cons.mpr ⟨vk_R.of (hts _ (List.mem_of_getElem? (i := 1089) (by decide +kernel))) (hq9 18 (by decide)), List.forall_mem_cons.mpr ⟨vk_R.of (hts _ (List.mem_of_getElem? (i := 1230) (by decide +kernel))) (str_eq (hs _ (by decide +kernel : Cond.eq (Term.string "GemPits$Law" 20) (Term.string "GemPitsModel" 121) ∈ flatC (Jvm.Cond.and given_1 narrow_1))) (hK9 0 (by decide))), List.forall_mem_cons.mpr ⟨vk_R.of (hts _ (List.mem_of_getElem? (i := 1241) (by decide +kernel))) (str_eq (hs _ (by decide +kernel : Cond.eq (Term.string "GemPits$Law" 31) (Term.string "GemPitsModel" 130) ∈ flatC (Jvm.Cond.and given_1 narrow_1))) (hK9 1 (by decide))), List.forall_mem_cons.mpr ⟨vk_R.of (hts _ (List.mem_of_getElem? (i := 1242) (by decide +kernel))) (str_eq (hs _ (by decide +kernel : Cond.eq (Term.string "GemPits$Law" 33) (Term.string "GemPitsModel" 132) ∈ flatC (Jvm.Cond.and given_1 narrow_1))) (hK9 2 (by decide))), List.forall_mem_cons.mpr ⟨vk_R.of (hts _ (List.mem_of_getElem? (i := 1248) (by decide +kernel))) (str_eq (hs _ (by decide +kernel : Cond.eq (Term.string "GemPits$Agreement" 15) (Term.string "GemPitsModel" 134) ∈ flatC (Jvm.Cond.and given_1 narrow_1))) (hK9 3 (by decide))), List.forall_mem_cons.mpr ⟨vk_R.of (hts _ (List.mem_of_getElem? (i := 1249) (by decide +kernel))) (str_eq (hs _ (by decide +kernel : Cond.eq (Term.string "GemPits$Agreement" 23) (Term.string "GemPitsModel" 136) ∈ flatC (Jvm.Cond.and given_1 narrow_1))) (hK9 4 (by decide))), List.forall_mem_cons.mpr ⟨vk_R.of (hts _ (List.mem_of_getElem? (i := 1250) (by decide +kernel))) (str_eq (hs _ (by decide +kernel : Cond.eq (Term.string "GemPits$Agreement" 33) (Term.string "GemPitsModel" 138) ∈ flatC (Jvm.Cond.and given_1 narrow_1))) (hK9 5 (by decide))), List.forall_mem_cons.mpr ⟨vk_R.of (hts _ (List.mem_of_getElem? (i := 1251) (by decide +kernel))) (str_eq (hs _ (by decide +kernel : Cond.eq (Term.string "GemPits$Agreement" 39) (Term.string "GemPitsModel" 140) ∈ flatC (Jvm.Cond.and given_1 narrow_1))) (hK9 6 (by decide))), List.forall_mem_cons.mpr ⟨vk_R.of (hts _ (List.mem_of_getElem? (i := 1252) (by decide +kernel))) (str_eq (hs _ (by decide +kernel : Cond.eq (Term.string "GemPits$Agreement" 49) (Term.string "GemPitsModel" 142) ∈ flatC (Jvm.Cond.and given_1 narrow_1))) (hK9 9 (by decide))), List.forall_mem_cons.mpr ⟨vk_R.of (hts _ (List.mem_of_getElem? (i := 1253) (by decide +kernel))) (str_eq (hs _ (by decide +kernel : Cond.eq (Term.string "GemPits$Agreement" 51) (Term.string "GemPitsModel" 144) ∈ flatC (Jvm.Cond.and given_1 narrow_1))) (hK9 10 (by decide))), List.forall_mem_cons.mpr ⟨vk_R.of (hts _ (List.mem_of_getElem? (i := 1254) (by decide +kernel))) (str_eq (hs _ (by decide +kernel : Cond.eq (Term.string "GemPits$Agreement" 41) (Term.string "GemPitsModel" 146) ∈ flatC (Jvm.Cond.and given_1 narrow_1))) (hK9 7 (by decide))), List.forall_mem_cons.mpr ⟨vk_R.of (hts _ (List.mem_of_getElem? (i := 1255) (by decide +kernel))) (str_eq (hs _ (by decide +kernel : Cond.eq (Term.string "GemPits$Agreement" 43) (Term.string "GemPitsModel" 148) ∈ flatC (Jvm.Cond.and given_1 narrow_1))) (hK9 8 (by decide))), fun q hq => nomatch hq⟩⟩⟩⟩⟩⟩⟩⟩⟩⟩⟩⟩⟩⟩⟩⟩⟩⟩⟩⟩⟩⟩⟩⟩⟩⟩⟩⟩⟩⟩⟩⟩⟩⟩⟩⟩⟩⟩⟩⟩⟩
    · exact va_AO.of (hts _ (List.mem_of_getElem? (i := 828) (by decide +kernel)))
set_option maxHeartbeats 4000000 in
/-- from the entry the law comes to its end with true -/
theorem whole_start {p : Program} {e : Env} {s : State} {m : MethodId} {below : List Frame} {meth : Method} {c : Code} (l : Launch) (hflags : l.flags = flags0) {b L : Nat} {xs : Nat → Int32} (hL : L ≤ 3072) (C0 : lw_At p s m meth c b L xs) : W p l e room_1 s m #[Value.ref b] below meth c s.heap [] 0 0 (lw_Z below #[Value.ref b] s) (entryFrame m ([Value.ref b] : List Value).toArray 7) := by
  obtain ⟨hx, hb, hr, hml, hown, hts, hX, hbl, hlocks, hgv⟩ := C0
  obtain ⟨E, hE, hK, hZ⟩ := st_E hts hgv
  have hl := lv_entry ([.ref b]) (n := 7) (Nat.le_of_ble_eq_true rfl)
  rw [lg_entry_eq]
  have C : GX (p, l, e, room_1, s, m, #[Value.ref b], below, meth, c) E cL_law_ 7 RL (some .boolean) meth.name := ⟨hx, hb, hml, hown, fun w hw => hts w (gw_tbl hw), hr, hlocks, rfl, by rw [hE]; exact Nat.le_refl _, hK, hZ⟩
  have hl9 : l.stackTraces = false := by
    unfold Launch.stackTraces; rw [hflags]; decide
  have S : SX (p, l, e, room_1, s, m, #[Value.ref b], below, meth, c) E b L xs := ⟨hX, hbl, by show ¬ E.1 ≤ b; rw [hE]; exact Nat.not_le.mpr hbl⟩
  refine law_start (K := (p, l, e, room_1, s, m, #[Value.ref b], below, meth, c)) C rfl hl9 S hL (fun cs ss lv h hc hs9 => ?_) s.heap [] _ (fun a e h => nomatch h) va_S.rf (lok_of hl rfl)
  refine g_iconst (n := 1354) (v := 1) C dL_law__1353 rfl (by decide) ?_
  intro H locs ls hH hS hL9
  refine va_forget (fun q hq => by have := hS.2.2 q hq; rw [← hE]; exact this) ?_
  refine W.widen hc hs9 ?_
  exact lw_ret hx hb hr hlocks dL_law__1354
