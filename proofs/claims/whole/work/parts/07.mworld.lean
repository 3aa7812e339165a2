/-! THE REFERENCE's WORLD: its one object at o, the arrays at ad; F: its numbers, A: its arrays, both by the fields' places -/
def mSl : List Nat := [3, 4, 5, 6, 7, 8, 10, 11, 12, 14, 20, 21, 22, 25, 28, 29, 30]
abbrev mfs (ad : Nat → Nat) (F : Nat → Int32) : List Value := [.int (F 0), .int (F 1), .int (F 2), .ref (ad 3), .ref (ad 4), .ref (ad 5), .ref (ad 6), .ref (ad 7), .ref (ad 8), .int (F 9), .ref (ad 10), .ref (ad 11), .ref (ad 12), .int (F 13), .ref (ad 14), .int (F 15), .int (F 16), .int (F 17), .int (F 18), .int (F 19), .ref (ad 20), .ref (ad 21), .ref (ad 22), .int (F 23), .int (F 24), .ref (ad 25), .int (F 26), .int (F 27), .ref (ad 28), .ref (ad 29), .ref (ad 30)]
def mar (E : Ev) (A : Nat → Nat → Int32) (k : Nat) : Option va_E := match k with
  | 3 => some (.inl (E.2.2 1, 30, .inl (A 3)))
  | 4 => some (.inl (E.2.2 1, 30, .inl (A 4)))
  | 5 => some (.inl (E.2.2 1, 30, .inl (A 5)))
  | 6 => some (.inl (E.2.2 1, 30, .inl (A 6)))
  | 7 => some (.inl (E.2.2 1, 30, .inl (A 7)))
  | 8 => some (.inl (E.2.2 1, 30, .inl (A 8)))
  | 10 => some (.inl (E.2.2 1, 3, .inl (A 10)))
  | 11 => some (.inl (E.2.2 1, 7, .inl (A 11)))
  | 12 => some (.inl (E.2.2 1, 7, .inl (A 12)))
  | 14 => some (.inl (E.2.2 0, 400, .inl (A 14)))
  | 20 => some (.inl (E.2.2 1, 5, .inl (A 20)))
  | 21 => some (.inl (E.2.2 1, 600, .inl (A 21)))
  | 22 => some (.inl (E.2.2 1, 360, .inl (A 22)))
  | 25 => some (.inl (E.2.2 1, 6, .inl (A 25)))
  | 28 => some (.inl (E.2.2 2, 80, .inl (A 28)))
  | 29 => some (.inl (E.2.2 1, 6400, .inl (A 29)))
  | 30 => some (.inl (E.2.2 1, 6400, .inl (A 30)))
  | _ => none
def mh (E : Ev) (o : Nat) (ad : Nat → Nat) (F : Nat → Int32) (A : Nat → Nat → Int32) (h : AH) : AH := fun b => if b = o then some (.inr (11, mfs ad F)) else match mSl.find? (fun k => ad k == b) with
  | some k => mar E A k
  | none => h b
/-- the addresses are apart -/
def mI (o : Nat) (ad : Nat → Nat) : Prop := (∀ k ∈ mSl, ad k ≠ o) ∧ ∀ j ∈ mSl, ∀ k ∈ mSl, ad j = ad k → j = k
def aset (A : Nat → Nat → Int32) (k j : Nat) (x : Int32) : Nat → Nat → Int32 := fun a b => if a = k then (if b = j then x else A a b) else A a b
theorem aset_same (A : Nat → Nat → Int32) (k j : Nat) (x : Int32) : aset A k j x k j = x := by simp [aset]
theorem aset_ne (A : Nat → Nat → Int32) {k j a b : Nat} (x : Int32) (h : ¬ (a = k ∧ b = j)) : aset A k j x a b = A a b := by
  unfold aset
  by_cases h1 : a = k
  · rw [if_pos h1, if_neg (fun q => h ⟨h1, q⟩)]
  · rw [if_neg h1]
theorem find_of {l : List Nat} {p : Nat → Bool} {k : Nat} (hk : k ∈ l) (hp : p k = true) (hu : ∀ j ∈ l, p j = true → j = k) : l.find? p = some k := by
  cases e : l.find? p with
  | none => exact absurd hp (by simpa using List.find?_eq_none.mp e k hk)
  | some j => rw [hu j (List.mem_of_find?_eq_some e) (List.find?_some e)]
theorem mh_o {E : Ev} {o : Nat} {ad : Nat → Nat} {F : Nat → Int32} {A : Nat → Nat → Int32} {h : AH} : mh E o ad F A h o = some (.inr (11, mfs ad F)) := if_pos rfl
theorem mh_find {o : Nat} {ad : Nat → Nat} (I : mI o ad) {k : Nat} (hk : k ∈ mSl) : mSl.find? (fun j => ad j == ad k) = some k := find_of hk (by simp) (fun j hj hp => I.2 j hj k hk (by simpa using hp))
theorem mh_a {E : Ev} {o : Nat} {ad : Nat → Nat} {F : Nat → Int32} {A : Nat → Nat → Int32} {h : AH} (I : mI o ad) {k : Nat} (hk : k ∈ mSl) : mh E o ad F A h (ad k) = mar E A k := by
  unfold mh
  rw [if_neg (I.1 k hk), mh_find I hk]
theorem mh_setF {E : Ev} {o : Nat} {ad : Nat → Nat} {F F' : Nat → Int32} {A : Nat → Nat → Int32} {h : AH} {fs : List Value} (e : fs = mfs ad F') : hset (mh E o ad F A h) o (.inr (11, fs)) = mh E o ad F' A h := by
  funext b
  unfold hset mh
  by_cases q : b = o
  · rw [if_pos q, if_pos q, e]
  · rw [if_neg q, if_neg q, if_neg q]
theorem mh_setA {E : Ev} {o : Nat} {ad : Nat → Nat} {F : Nat → Int32} {A A' : Nat → Nat → Int32} {h : AH} (I : mI o ad) {k : Nat} (hk : k ∈ mSl) {e : va_E} (he : mar E A' k = some e) (hr : ∀ j, j ≠ k → mar E A' j = mar E A j) : hset (mh E o ad F A h) (ad k) e = mh E o ad F A' h := by
  funext b
  unfold hset
  by_cases q : b = ad k
  · rw [if_pos q, q, mh_a I hk, he]
  · rw [if_neg q]
    unfold mh
    by_cases q2 : b = o
    · rw [if_pos q2, if_pos q2]
    · rw [if_neg q2, if_neg q2]
      cases e9 : mSl.find? (fun j => ad j == b) with
      | none => rfl
      | some j =>
        have hj := List.find?_some e9
        have hjk : j ≠ k := fun z => q (by rw [← z]; simpa using (beq_iff_eq.mp hj).symm)
        exact (hr j hjk).symm
theorem upd_aset (A : Nat → Nat → Int32) (k j : Nat) (x : Int32) : aset A k j x k = upd (A k) j x := by
  funext b
  simp [aset, upd]
theorem aset_row (A : Nat → Nat → Int32) {k a : Nat} (j : Nat) (x : Int32) (h : a ≠ k) : aset A k j x a = A a := by
  funext b
  simp [aset, h]
theorem mar_row {E : Ev} {A A' : Nat → Nat → Int32} {j : Nat} (h : A' j = A j) : mar E A' j = mar E A j := by
  unfold mar
  split <;> first | rfl | rw [h]
theorem mfs_0 {ad : Nat → Nat} {F : Nat → Int32} {x : Int32} : (mfs ad F).set 0 (.int x) = mfs ad (upd F 0 x) := rfl
theorem mfs_1 {ad : Nat → Nat} {F : Nat → Int32} {x : Int32} : (mfs ad F).set 1 (.int x) = mfs ad (upd F 1 x) := rfl
theorem mfs_2 {ad : Nat → Nat} {F : Nat → Int32} {x : Int32} : (mfs ad F).set 2 (.int x) = mfs ad (upd F 2 x) := rfl
theorem mfs_9 {ad : Nat → Nat} {F : Nat → Int32} {x : Int32} : (mfs ad F).set 9 (.int x) = mfs ad (upd F 9 x) := rfl
theorem mfs_13 {ad : Nat → Nat} {F : Nat → Int32} {x : Int32} : (mfs ad F).set 13 (.int x) = mfs ad (upd F 13 x) := rfl
theorem mfs_15 {ad : Nat → Nat} {F : Nat → Int32} {x : Int32} : (mfs ad F).set 15 (.int x) = mfs ad (upd F 15 x) := rfl
theorem mfs_16 {ad : Nat → Nat} {F : Nat → Int32} {x : Int32} : (mfs ad F).set 16 (.int x) = mfs ad (upd F 16 x) := rfl
theorem mfs_17 {ad : Nat → Nat} {F : Nat → Int32} {x : Int32} : (mfs ad F).set 17 (.int x) = mfs ad (upd F 17 x) := rfl
theorem mfs_18 {ad : Nat → Nat} {F : Nat → Int32} {x : Int32} : (mfs ad F).set 18 (.int x) = mfs ad (upd F 18 x) := rfl
theorem mfs_19 {ad : Nat → Nat} {F : Nat → Int32} {x : Int32} : (mfs ad F).set 19 (.int x) = mfs ad (upd F 19 x) := rfl
theorem mfs_23 {ad : Nat → Nat} {F : Nat → Int32} {x : Int32} : (mfs ad F).set 23 (.int x) = mfs ad (upd F 23 x) := rfl
theorem mfs_24 {ad : Nat → Nat} {F : Nat → Int32} {x : Int32} : (mfs ad F).set 24 (.int x) = mfs ad (upd F 24 x) := rfl
theorem mfs_26 {ad : Nat → Nat} {F : Nat → Int32} {x : Int32} : (mfs ad F).set 26 (.int x) = mfs ad (upd F 26 x) := rfl
theorem mfs_27 {ad : Nat → Nat} {F : Nat → Int32} {x : Int32} : (mfs ad F).set 27 (.int x) = mfs ad (upd F 27 x) := rfl
section MROWS
variable {K : Cx} {E : Ev} {cc : ByteArray} {nL : Nat} {own : String} {ret : Option FieldType} {nm : String} {Q : State → Prop} {cs ss pc : Nat} {lv : List (Nat × Value)} {st : List Value} {h : AH}
variable {o : Nat} {ad : Nat → Nat} {F : Nat → Int32} {A : Nat → Nat → Int32}
theorem m_get {n index : Nat} {v : Value} (f : Nat) (C : GX K E cc nL own ret nm) (hd : decode cc pc = .ok (.getfield index, 3)) (hn : pc + 3 = n) (hk : f < 31) (hv : (mfs ad F)[f]? = some v) (hlink : Cond.fieldLink own index "GemPitsModel" (TX11 f).2.1 (TX11 f).2.2.1 ∈ GW) (href : (TX11 f).1 = "GemPitsModel") (k : G K E nL Q cs ss n lv (v :: st) (mh E o ad F A h)) : G K E nL Q cs ss pc lv (.ref o :: st) (mh E o ad F A h) :=
  g_get (T := TX11) C f hd hn mh_o hv rfl hk inX11 hlink href k
theorem m_put {n index : Nat} {x : Int32} (f : Nat) (C : GX K E cc nL own ret nm) (hd : decode cc pc = .ok (.putfield index, 3)) (hn : pc + 3 = n) (hk : f < 31) (hlink : Cond.fieldLink own index "GemPitsModel" (TX11 f).2.1 (TX11 f).2.2.1 ∈ GW) (href : (TX11 f).1 = "GemPitsModel") (hfin : (TX11 f).2.2.2 = false) (hdt : tyX11 f = .int) (he : (mfs ad F).set f (.int x) = mfs ad (upd F f x)) (k : G K E nL Q cs ss n lv st (mh E o ad (upd F f x) A h)) : G K E nL Q cs ss pc lv (.int x :: .ref o :: st) (mh E o ad F A h) :=
  g_put (T := TX11) (ty0 := tyX11) C f hd hn mh_o rfl hk inX11 hlink href tyX11_ok nmX11 hfin hdt rfl rfl (by show f < 31; exact hk) (by rw [mh_setF he]; exact k)
theorem m_putZ {n index : Nat} {x : Int32} (f : Nat) (C : GX K E cc nL own ret nm) (hd : decode cc pc = .ok (.putfield index, 3)) (hn : pc + 3 = n) (hk : f < 31) (hlink : Cond.fieldLink own index "GemPitsModel" (TX11 f).2.1 (TX11 f).2.2.1 ∈ GW) (href : (TX11 f).1 = "GemPitsModel") (hfin : (TX11 f).2.2.2 = false) (hdt : tyX11 f = .boolean) (hnar : narrow .boolean (.int x) = .int x) (hfit : fits .boolean (.int x) = true) (he : (mfs ad F).set f (.int x) = mfs ad (upd F f x)) (k : G K E nL Q cs ss n lv st (mh E o ad (upd F f x) A h)) : G K E nL Q cs ss pc lv (.int x :: .ref o :: st) (mh E o ad F A h) :=
  g_put (T := TX11) (ty0 := tyX11) C f hd hn mh_o rfl hk inX11 hlink href tyX11_ok nmX11 hfin hdt hnar hfit (by show f < 31; exact hk) (by rw [mh_setF he]; exact k)
theorem m_iald {n : Nat} {i v : Int32} {N : Nat} (k : Nat) (j : Nat) (C : GX K E cc nL own ret nm) (hd : decode cc pc = .ok (.iaload, 1)) (hn : pc + 1 = n) (I : mI o ad) (hk : k ∈ mSl) (ha : mar E A k = some (.inl (E.2.2 1, N, .inl (A k)))) (hi : i = nI j) (hj : j < N) (hN : N < 2147483648) (hv : A k j = v) (kk : G K E nL Q cs ss n lv (.int v :: st) (mh E o ad F A h)) : G K E nL Q cs ss pc lv (.int i :: .ref (ad k) :: st) (mh E o ad F A h) := by
  subst hi
  refine g_iald C hd hn ((mh_a I hk).trans ha) (vp_in_nI hj hN) ?_
  rw [nI_clamp (by omega), hv]
  exact kk
theorem m_bald {n : Nat} {i v : Int32} {N : Nat} (k : Nat) (j : Nat) (C : GX K E cc nL own ret nm) (hd : decode cc pc = .ok (.baload, 1)) (hn : pc + 1 = n) (I : mI o ad) (hk : k ∈ mSl) (ha : mar E A k = some (.inl (E.2.2 0, N, .inl (A k)))) (hi : i = nI j) (hj : j < N) (hN : N < 2147483648) (hv : A k j = v) (kk : G K E nL Q cs ss n lv (.int v :: st) (mh E o ad F A h)) : G K E nL Q cs ss pc lv (.int i :: .ref (ad k) :: st) (mh E o ad F A h) := by
  subst hi
  refine g_bald C hd hn ((mh_a I hk).trans ha) (vp_in_nI hj hN) ?_
  rw [nI_clamp (by omega), hv]
  exact kk
theorem m_zald {n : Nat} {i v : Int32} {N : Nat} (k : Nat) (j : Nat) (C : GX K E cc nL own ret nm) (hd : decode cc pc = .ok (.baload, 1)) (hn : pc + 1 = n) (I : mI o ad) (hk : k ∈ mSl) (ha : mar E A k = some (.inl (E.2.2 2, N, .inl (A k)))) (hi : i = nI j) (hj : j < N) (hN : N < 2147483648) (hv : A k j = v) (kk : G K E nL Q cs ss n lv (.int v :: st) (mh E o ad F A h)) : G K E nL Q cs ss pc lv (.int i :: .ref (ad k) :: st) (mh E o ad F A h) := by
  subst hi
  refine g_zald C hd hn ((mh_a I hk).trans ha) (vp_in_nI hj hN) ?_
  rw [nI_clamp (by omega), hv]
  exact kk
theorem m_iast {n : Nat} {i x : Int32} {N : Nat} (k : Nat) (j : Nat) (C : GX K E cc nL own ret nm) (hd : decode cc pc = .ok (.iastore, 1)) (hn : pc + 1 = n) (I : mI o ad) (hk : k ∈ mSl) (ha : ∀ B : Nat → Nat → Int32, mar E B k = some (.inl (E.2.2 1, N, .inl (B k)))) (hi : i = nI j) (hj : j < N) (hN : N < 2147483648) (kk : G K E nL Q cs ss n lv st (mh E o ad F (aset A k j x) h)) : G K E nL Q cs ss pc lv (.int x :: .int i :: .ref (ad k) :: st) (mh E o ad F A h) := by
  subst hi
  refine g_iast C hd hn ((mh_a I hk).trans (ha A)) (vp_in_nI hj hN) ?_
  rw [nI_clamp (by omega), mh_setA I hk (A' := aset A k j x) (by rw [ha, upd_aset]) (fun a q => mar_row (aset_row A j x q))]
  exact kk
theorem m_bast {n : Nat} {i x : Int32} {N : Nat} (k : Nat) (j : Nat) (C : GX K E cc nL own ret nm) (hd : decode cc pc = .ok (.bastore, 1)) (hn : pc + 1 = n) (I : mI o ad) (hk : k ∈ mSl) (ha : ∀ B : Nat → Nat → Int32, mar E B k = some (.inl (E.2.2 0, N, .inl (B k)))) (hi : i = nI j) (hj : j < N) (hN : N < 2147483648) (kk : G K E nL Q cs ss n lv st (mh E o ad F (aset A k j (x.toInt8.toInt32)) h)) : G K E nL Q cs ss pc lv (.int x :: .int i :: .ref (ad k) :: st) (mh E o ad F A h) := by
  subst hi
  refine g_bast C hd hn ((mh_a I hk).trans (ha A)) (vp_in_nI hj hN) ?_
  rw [nI_clamp (by omega), vp_nar_byte, mh_setA I hk (A' := aset A k j (x.toInt8.toInt32)) (by rw [ha, upd_aset]) (fun a q => mar_row (aset_row A j _ q))]
  exact kk
theorem m_zast {n : Nat} {i x : Int32} {N : Nat} (k : Nat) (j : Nat) (C : GX K E cc nL own ret nm) (hd : decode cc pc = .ok (.bastore, 1)) (hn : pc + 1 = n) (I : mI o ad) (hk : k ∈ mSl) (ha : ∀ B : Nat → Nat → Int32, mar E B k = some (.inl (E.2.2 2, N, .inl (B k)))) (hi : i = nI j) (hj : j < N) (hN : N < 2147483648) (hx : vp_nar .boolean x = x) (kk : G K E nL Q cs ss n lv st (mh E o ad F (aset A k j x) h)) : G K E nL Q cs ss pc lv (.int x :: .int i :: .ref (ad k) :: st) (mh E o ad F A h) := by
  subst hi
  refine g_zast C hd hn ((mh_a I hk).trans (ha A)) (vp_in_nI hj hN) ?_
  rw [nI_clamp (by omega), hx, mh_setA I hk (A' := aset A k j x) (by rw [ha, upd_aset]) (fun a q => mar_row (aset_row A j x q))]
  exact kk
end MROWS
