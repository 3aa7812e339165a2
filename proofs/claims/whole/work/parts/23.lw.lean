section GPS
variable {K : Cx} {E : Ev} {cc : ByteArray} {nL : Nat} {own : String} {ret : Option FieldType} {nm : String} {Q : State → Prop} {cs ss pc : Nat} {lv : List (Nat × Value)} {st : List Value} {h : AH}
theorem g_getS {n : Nat} (C : GX K E cc nL own ret nm) {a ci index : Nat} {ref Cn : String} {T : u_T} {N : Nat} {fs : List Value} {v : Value} (f : Nat) (hd : decode cc pc = .ok (.getfield index, 3)) (hn : pc + 3 = n) (he : h a = some (.inr (ci, fs))) (hv : fs[f]? = some v) (hc : vwCl[ci]? = some (Cn, T, N)) (hk : f < N) (hin : ∀ w ∈ u_ws Cn T N, w ∈ GW) (hlink : Cond.fieldLink own index ref (T f).2.1 (T f).2.2.1 ∈ GW) (hsm : Cond.sameField ref (T f).1 (T f).2.1 (T f).2.2.1 ∈ GW)
    (k : G K E nL Q cs ss n lv (v :: st) h) : G K E nL Q cs ss pc lv (.ref a :: st) h := fun H locs ls hH hS hL =>
  va_get (D := E.2.1) (cl := vwCl) (ws := [(a, .inr (ci, fs))]) (tys := eT E) C.1 C.2.1 C.2.2.2.2.1 hin C.ow C.k (fun j q hq => by
    have hj : j = 0 := by
      have := (List.getElem?_eq_some_iff.mp hq).1
      simpa using this
    subst hj
    cases hq
    exact (hH a _ he).1) 0 rfl hc f hk (C.gw hlink) (u_same (C.gw hsm)) hv hd (by rw [hn]; exact k H locs ls hH hS hL)
theorem g_putS {n : Nat} (C : GX K E cc nL own ret nm) {a ci index : Nat} {ref Cn : String} {T : u_T} {N : Nat} {fs : List Value} {v : Value} {ty : FieldType} {ty0 : Nat → FieldType} (f : Nat) (hd : decode cc pc = .ok (.putfield index, 3)) (hn : pc + 3 = n) (he : h a = some (.inr (ci, fs))) (hc : vwCl[ci]? = some (Cn, T, N)) (hk : f < N) (hin : ∀ w ∈ u_ws Cn T N, w ∈ GW) (hlink : Cond.fieldLink own index ref (T f).2.1 (T f).2.2.1 ∈ GW) (hsm : Cond.sameField ref (T f).1 (T f).2.1 (T f).2.2.1 ∈ GW)
    (hty : ∀ k, k < N → parseFieldDescriptor (T k).2.2.1 = some (ty0 k)) (hnm : ∀ a, a < N → ∀ b, b < N → a ≠ b → (T a).2.1 ≠ (T b).2.1) (hfin : (T f).2.2.2 = false) (hdt : ty0 f = ty) (hnar : narrow ty v = v) (hfit : fits ty v = true) (hl : f < fs.length)
    (k : G K E nL Q cs ss n lv st (hset h a (.inr (ci, fs.set f v)))) : G K E nL Q cs ss pc lv (v :: .ref a :: st) h := by
  intro H locs ls hH hS hL
  have hts := C.2.2.2.2.1
  have hK := C.k
  have hap := va_apart (own := own) hts hin ty0 hty hnm hK hc
  obtain ⟨hat, hA⟩ := hH a _ he
  obtain ⟨r, h1, cell, q1, q2, q3, q4⟩ := hat
  have hr : r = (Cn, T, N) := Option.some.inj (h1.symm.trans hc)
  subst hr
  obtain ⟨hSl, hfc, kC, hkC, hkind⟩ := hK.1 ci _ hc
  obtain ⟨cf, kf, fi, fd, hi, hsl⟩ := hSl f hk
  have hlay := hts _ (hin _ (u_in_lay hk))
  unfold u_lay at hlay
  rw [if_neg (by rw [hfin]; decide)] at hlay
  have hst := (u_facts hfc hkC (u_lays hts hin hk) hi).1
  have h6 := u_store hfc hkC hkind hlay hi (by rw [← hdt]; exact hty f hk) hnar hfit
  refine W.putK C.1 C.2.1 (f := fd) ⟨C.ow, C.gw hlink, ⟨_, _, _, u_same (C.gw hsm) _ hi⟩, hst⟩ (by rw [q2]; exact h6) q1 q3 (by rw [hsl]; exact k2_hasslot (q4 f hk)) rfl rfl hd fun H' e1 e2 e3 => ?_
  rw [hsl] at e1 ⊢
  rw [hn]
  exact k H' _ ls (hOK_set hH he ⟨_, hc, t_OB.to (V := updV (vp_V fs) f v) ⟨_, e1, q2, q3, t_set q4 hap hk v⟩ (fun j _ => vp_updV_set hl v j)⟩ e3) (hS.put e2 e3 hA) hL
end GPS
/-! rows over a layer -/
section LROWS
variable {K : Cx} {E : Ev} {cc : ByteArray} {nL : Nat} {own : String} {ret : Option FieldType} {nm : String} {Q : State → Prop} {cs ss pc : Nat} {lv : List (Nat × Value)} {st : List Value} {h : AH}
theorem l_get {n : Nat} (C : GX K E cc nL own ret nm) {a ci index : Nat} {ref Cn : String} {T : u_T} {N : Nat} {fs : List Value} {v : Value} {L : List (Nat × va_E)} (i f : Nat) (hd : decode cc pc = .ok (.getfield index, 3)) (hn : pc + 3 = n) (A : lA L) (hi : L[i]? = some (a, .inr (ci, fs))) (hv : fs[f]? = some v) (hc : vwCl[ci]? = some (Cn, T, N)) (hk : f < N) (hin : ∀ w ∈ u_ws Cn T N, w ∈ GW) (hlink : Cond.fieldLink own index ref (T f).2.1 (T f).2.2.1 ∈ GW) (href : (T f).1 = ref) (k : G K E nL Q cs ss n lv (v :: st) (LW L h)) : G K E nL Q cs ss pc lv (.ref a :: st) (LW L h) :=
  g_get C f hd hn (LW_at A i hi) hv hc hk hin hlink href k
theorem l_getS {n : Nat} (C : GX K E cc nL own ret nm) {a ci index : Nat} {ref Cn : String} {T : u_T} {N : Nat} {fs : List Value} {v : Value} {L : List (Nat × va_E)} (i f : Nat) (hd : decode cc pc = .ok (.getfield index, 3)) (hn : pc + 3 = n) (A : lA L) (hi : L[i]? = some (a, .inr (ci, fs))) (hv : fs[f]? = some v) (hc : vwCl[ci]? = some (Cn, T, N)) (hk : f < N) (hin : ∀ w ∈ u_ws Cn T N, w ∈ GW) (hlink : Cond.fieldLink own index ref (T f).2.1 (T f).2.2.1 ∈ GW) (hsm : Cond.sameField ref (T f).1 (T f).2.1 (T f).2.2.1 ∈ GW) (k : G K E nL Q cs ss n lv (v :: st) (LW L h)) : G K E nL Q cs ss pc lv (.ref a :: st) (LW L h) :=
  g_getS C f hd hn (LW_at A i hi) hv hc hk hin hlink hsm k
theorem l_put {n : Nat} (C : GX K E cc nL own ret nm) {a ci index : Nat} {ref Cn : String} {T : u_T} {N : Nat} {fs : List Value} {v : Value} {L : List (Nat × va_E)} (i f : Nat) {ty : FieldType} {ty0 : Nat → FieldType} (hd : decode cc pc = .ok (.putfield index, 3)) (hn : pc + 3 = n) (A : lA L) (hi : L[i]? = some (a, .inr (ci, fs))) (hc : vwCl[ci]? = some (Cn, T, N)) (hk : f < N) (hin : ∀ w ∈ u_ws Cn T N, w ∈ GW) (hlink : Cond.fieldLink own index ref (T f).2.1 (T f).2.2.1 ∈ GW) (href : (T f).1 = ref) (hty : ∀ k, k < N → parseFieldDescriptor (T k).2.2.1 = some (ty0 k)) (hnm : ∀ a, a < N → ∀ b, b < N → a ≠ b → (T a).2.1 ≠ (T b).2.1) (hfin : (T f).2.2.2 = false) (hdt : ty0 f = ty) (hnar : narrow ty v = v) (hfit : fits ty v = true) (hl : f < fs.length) (k : G K E nL Q cs ss n lv st (LW (L.set i (a, .inr (ci, fs.set f v))) h)) : G K E nL Q cs ss pc lv (v :: .ref a :: st) (LW L h) :=
  g_put C f hd hn (LW_at A i hi) hc hk hin hlink href hty hnm hfin hdt hnar hfit hl (by rw [LW_put A i hi]; exact k)
theorem l_putS {n : Nat} (C : GX K E cc nL own ret nm) {a ci index : Nat} {ref Cn : String} {T : u_T} {N : Nat} {fs : List Value} {v : Value} {L : List (Nat × va_E)} (i f : Nat) {ty : FieldType} {ty0 : Nat → FieldType} (hd : decode cc pc = .ok (.putfield index, 3)) (hn : pc + 3 = n) (A : lA L) (hi : L[i]? = some (a, .inr (ci, fs))) (hc : vwCl[ci]? = some (Cn, T, N)) (hk : f < N) (hin : ∀ w ∈ u_ws Cn T N, w ∈ GW) (hlink : Cond.fieldLink own index ref (T f).2.1 (T f).2.2.1 ∈ GW) (hsm : Cond.sameField ref (T f).1 (T f).2.1 (T f).2.2.1 ∈ GW) (hty : ∀ k, k < N → parseFieldDescriptor (T k).2.2.1 = some (ty0 k)) (hnm : ∀ a, a < N → ∀ b, b < N → a ≠ b → (T a).2.1 ≠ (T b).2.1) (hfin : (T f).2.2.2 = false) (hdt : ty0 f = ty) (hnar : narrow ty v = v) (hfit : fits ty v = true) (hl : f < fs.length) (k : G K E nL Q cs ss n lv st (LW (L.set i (a, .inr (ci, fs.set f v))) h)) : G K E nL Q cs ss pc lv (v :: .ref a :: st) (LW L h) :=
  g_putS C f hd hn (LW_at A i hi) hc hk hin hlink hsm hty hnm hfin hdt hnar hfit hl (by rw [LW_put A i hi]; exact k)
theorem l_putF {n : Nat} (C : GX K E cc nL own ret nm) {a ci index : Nat} {ref Cn : String} {T : u_T} {N : Nat} {fs : List Value} {v : Value} {L : List (Nat × va_E)} (i f : Nat) {ty : FieldType} {ty0 : Nat → FieldType} (hd : decode cc pc = .ok (.putfield index, 3)) (hn : pc + 3 = n) (A : lA L) (hi : L[i]? = some (a, .inr (ci, fs))) (hc : vwCl[ci]? = some (Cn, T, N)) (hk : f < N) (hin : ∀ w ∈ u_ws Cn T N, w ∈ GW) (hlink : Cond.fieldLink own index ref (T f).2.1 (T f).2.2.1 ∈ GW) (href : (T f).1 = ref) (hty : ∀ k, k < N → parseFieldDescriptor (T k).2.2.1 = some (ty0 k)) (hnm : ∀ a, a < N → ∀ b, b < N → a ≠ b → (T a).2.1 ≠ (T b).2.1) (hfin : (T f).2.2.2 = true) (hin2 : nm = "<init>") (hdecl : (T f).1 = own) (hdt : ty0 f = ty) (hnar : narrow ty v = v) (hfit : fits ty v = true) (hl : f < fs.length) (k : G K E nL Q cs ss n lv st (LW (L.set i (a, .inr (ci, fs.set f v))) h)) : G K E nL Q cs ss pc lv (v :: .ref a :: st) (LW L h) :=
  g_putF C f hd hn (LW_at A i hi) hc hk hin hlink href hty hnm hfin hin2 hdecl hdt hnar hfit hl (by rw [LW_put A i hi]; exact k)
theorem l_iald {n a N : Nat} {f : Nat → Int32} {x v : Int32} {L : List (Nat × va_E)} (i j : Nat) (C : GX K E cc nL own ret nm) (hd : decode cc pc = .ok (.iaload, 1)) (hn : pc + 1 = n) (A : lA L) (hi : L[i]? = some (a, .inl (E.2.2 1, N, .inl f))) (hx : x = nI j) (hj : j < N) (hN : N < 2147483648) (hv : f j = v) (k : G K E nL Q cs ss n lv (.int v :: st) (LW L h)) : G K E nL Q cs ss pc lv (.int x :: .ref a :: st) (LW L h) := by
  subst hx
  refine g_iald C hd hn (LW_at A i hi) (vp_in_nI hj hN) ?_
  rw [nI_clamp (by omega), hv]
  exact k
theorem l_bald {n a N : Nat} {f : Nat → Int32} {x v : Int32} {L : List (Nat × va_E)} (i j : Nat) (C : GX K E cc nL own ret nm) (hd : decode cc pc = .ok (.baload, 1)) (hn : pc + 1 = n) (A : lA L) (hi : L[i]? = some (a, .inl (E.2.2 0, N, .inl f))) (hx : x = nI j) (hj : j < N) (hN : N < 2147483648) (hv : f j = v) (k : G K E nL Q cs ss n lv (.int v :: st) (LW L h)) : G K E nL Q cs ss pc lv (.int x :: .ref a :: st) (LW L h) := by
  subst hx
  refine g_bald C hd hn (LW_at A i hi) (vp_in_nI hj hN) ?_
  rw [nI_clamp (by omega), hv]
  exact k
theorem l_zald {n a N : Nat} {f : Nat → Int32} {x v : Int32} {L : List (Nat × va_E)} (i j : Nat) (C : GX K E cc nL own ret nm) (hd : decode cc pc = .ok (.baload, 1)) (hn : pc + 1 = n) (A : lA L) (hi : L[i]? = some (a, .inl (E.2.2 2, N, .inl f))) (hx : x = nI j) (hj : j < N) (hN : N < 2147483648) (hv : f j = v) (k : G K E nL Q cs ss n lv (.int v :: st) (LW L h)) : G K E nL Q cs ss pc lv (.int x :: .ref a :: st) (LW L h) := by
  subst hx
  refine g_zald C hd hn (LW_at A i hi) (vp_in_nI hj hN) ?_
  rw [nI_clamp (by omega), hv]
  exact k
theorem l_iast {n a N : Nat} {f : Nat → Int32} {y x : Int32} {L : List (Nat × va_E)} (i j : Nat) (C : GX K E cc nL own ret nm) (hd : decode cc pc = .ok (.iastore, 1)) (hn : pc + 1 = n) (A : lA L) (hi : L[i]? = some (a, .inl (E.2.2 1, N, .inl f))) (hx : y = nI j) (hj : j < N) (hN : N < 2147483648) (k : G K E nL Q cs ss n lv st (LW (L.set i (a, .inl (E.2.2 1, N, .inl (upd f j (x))))) h)) : G K E nL Q cs ss pc lv (.int x :: .int y :: .ref a :: st) (LW L h) := by
  subst hx
  refine g_iast C hd hn (LW_at A i hi) (vp_in_nI hj hN) ?_
  rw [nI_clamp (by omega), LW_put A i hi]
  exact k
theorem l_bast {n a N : Nat} {f : Nat → Int32} {y x : Int32} {L : List (Nat × va_E)} (i j : Nat) (C : GX K E cc nL own ret nm) (hd : decode cc pc = .ok (.bastore, 1)) (hn : pc + 1 = n) (A : lA L) (hi : L[i]? = some (a, .inl (E.2.2 0, N, .inl f))) (hx : y = nI j) (hj : j < N) (hN : N < 2147483648) (k : G K E nL Q cs ss n lv st (LW (L.set i (a, .inl (E.2.2 0, N, .inl (upd f j (x.toInt8.toInt32))))) h)) : G K E nL Q cs ss pc lv (.int x :: .int y :: .ref a :: st) (LW L h) := by
  subst hx
  refine g_bast C hd hn (LW_at A i hi) (vp_in_nI hj hN) ?_
  rw [nI_clamp (by omega), vp_nar_byte, LW_put A i hi]
  exact k
theorem l_zast {n a N : Nat} {f : Nat → Int32} {y x : Int32} {L : List (Nat × va_E)} (i j : Nat) (C : GX K E cc nL own ret nm) (hd : decode cc pc = .ok (.bastore, 1)) (hn : pc + 1 = n) (A : lA L) (hi : L[i]? = some (a, .inl (E.2.2 2, N, .inl f))) (hx : y = nI j) (hj : j < N) (hN : N < 2147483648) (hz : vp_nar .boolean x = x) (k : G K E nL Q cs ss n lv st (LW (L.set i (a, .inl (E.2.2 2, N, .inl (upd f j (x))))) h)) : G K E nL Q cs ss pc lv (.int x :: .int y :: .ref a :: st) (LW L h) := by
  subst hx
  refine g_zast C hd hn (LW_at A i hi) (vp_in_nI hj hN) ?_
  rw [nI_clamp (by omega), hz, LW_put A i hi]
  exact k
theorem l_aald {n a N b : Nat} {f : Nat → Option Nat} {x : Int32} {L : List (Nat × va_E)} (i j : Nat) (C : GX K E cc nL own ret nm) (hd : decode cc pc = .ok (.aaload, 1)) (hn : pc + 1 = n) (A : lA L) (hi : L[i]? = some (a, eQ E N f)) (hx : x = nI j) (hj : j < N) (hN : N < 2147483648) (hv : f j = some b) (k : G K E nL Q cs ss n lv (.ref b :: st) (LW L h)) : G K E nL Q cs ss pc lv (.int x :: .ref a :: st) (LW L h) := by
  subst hx
  exact g_aald C hd hn (LW_at A i hi) (vp_in_nI hj hN) (by rw [nI_clamp (by omega)]; exact hv) k
theorem l_aast {n a N b : Nat} {f : Nat → Option Nat} {x : Int32} {L : List (Nat × va_E)} (i j : Nat) (C : GX K E cc nL own ret nm) (hd : decode cc pc = .ok (.aastore, 1)) (hn : pc + 1 = n) (A : lA L) (hi : L[i]? = some (a, eQ E N f)) (hb : isO (LW L h) b) (hx : x = nI j) (hj : j < N) (hN : N < 2147483648) (k : G K E nL Q cs ss n lv st (LW (L.set i (a, eQ E N (va_up f j (some b)))) h)) : G K E nL Q cs ss pc lv (.ref b :: .int x :: .ref a :: st) (LW L h) := by
  subst hx
  refine g_aast C hd hn (LW_at A i hi) hb (vp_in_nI hj hN) ?_
  rw [nI_clamp (by omega), LW_put A i hi]
  exact k
theorem l_alen {n a : Nat} {cA : Nat} {x : vp_A} {v : Int32} {L : List (Nat × va_E)} (i t0 : Nat) {ty : FieldType} (C : GX K E cc nL own ret nm) (hd : decode cc pc = .ok (.arraylength, 1)) (hn : pc + 1 = n) (A : lA L) (hi : L[i]? = some (a, .inl (cA, x))) (ht : (eT E)[t0]? = some (cA, ty)) (hv : nI x.1 = v) (k : G K E nL Q cs ss n lv (.int v :: st) (LW L h)) : G K E nL Q cs ss pc lv (.ref a :: st) (LW L h) :=
  g_alen C t0 hd hn (LW_at A i hi) ht hv k
end LROWS
