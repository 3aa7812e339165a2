/-! an object at o that is being built, with what was laid for it since, over h -/
def bh (o : Nat) (x : va_E) (L : List (Nat × va_E)) (h : AH) : AH := fun b => if b = o then some x else match L.find? (fun q => q.1 == b) with
  | some q => some q.2
  | none => h b
theorem bh_o {o : Nat} {x : va_E} {L : List (Nat × va_E)} {h : AH} : bh o x L h o = some x := if_pos rfl
theorem bh_put {o : Nat} {x y : va_E} {L : List (Nat × va_E)} {h : AH} : hset (bh o x L h) o y = bh o y L h := by
  funext b
  unfold hset bh
  by_cases q : b = o
  · rw [if_pos q, if_pos q]
  · rw [if_neg q, if_neg q, if_neg q]
/-- the addresses are apart -/
def bA (o : Nat) (L : List (Nat × va_E)) : Prop := (o :: L.map Prod.fst).Pairwise (fun a b => a ≠ b)
theorem bh_fresh {o : Nat} {x : va_E} {L : List (Nat × va_E)} {h : AH} {q : Nat} (hq : bh o x L h q = none) : q ≠ o ∧ L.find? (fun z => z.1 == q) = none := by
  unfold bh at hq
  by_cases e : q = o
  · rw [if_pos e] at hq
    cases hq
  · rw [if_neg e] at hq
    refine ⟨e, ?_⟩
    cases f : L.find? (fun z => z.1 == q) with
    | none => rfl
    | some z => rw [f] at hq; cases hq
theorem bA_new {o : Nat} {x : va_E} {L : List (Nat × va_E)} {h : AH} {q : Nat} {e : va_E} (hA : bA o L) (hq : bh o x L h q = none) : bA o (L ++ [(q, e)]) := by
  obtain ⟨h1, h2⟩ := bh_fresh hq
  unfold bA at hA ⊢
  rw [List.map_append]
  show ((o :: L.map Prod.fst) ++ [q]).Pairwise _
  refine List.pairwise_append.mpr ⟨hA, List.pairwise_singleton _ _, fun a ha b hb => ?_⟩
  rw [List.mem_singleton.mp hb]
  rcases List.mem_cons.mp ha with r | r
  · rw [r]; exact fun z => h1 z.symm
  · obtain ⟨z, hz, e9⟩ := List.mem_map.mp r
    intro e8
    have := List.find?_eq_none.mp h2 z hz
    exact this (by rw [e9, e8]; simp)
theorem bh_new {o : Nat} {x : va_E} {L : List (Nat × va_E)} {h : AH} {q : Nat} {e : va_E} (hq : bh o x L h q = none) : hset (bh o x L h) q e = bh o x (L ++ [(q, e)]) h := by
  obtain ⟨h1, h2⟩ := bh_fresh hq
  funext b
  unfold hset bh
  rw [List.find?_append]
  by_cases c : b = q
  · rw [if_pos c, c, if_neg h1, h2]
    simp
  · rw [if_neg c]
    by_cases c2 : b = o
    · rw [if_pos c2, if_pos c2]
    · rw [if_neg c2, if_neg c2]
      have c3 : (q == b) = false := beq_eq_false_iff_ne.mpr (fun z => c z.symm)
      cases f : L.find? (fun z => z.1 == b) with
      | some z => simp
      | none => simp [c3]
/-- .. the newest array's new entries -/
theorem bh_last {o : Nat} {x : va_E} {L : List (Nat × va_E)} {h : AH} {q : Nat} {e e' : va_E} (hA : bA o (L ++ [(q, e)])) : hset (bh o x (L ++ [(q, e)]) h) q e' = bh o x (L ++ [(q, e')]) h ∧ bA o (L ++ [(q, e')]) ∧ bh o x (L ++ [(q, e)]) h q = some e := by
  have hm : bA o (L ++ [(q, e')]) := by
    unfold bA at hA ⊢
    rw [List.map_append] at hA ⊢
    exact hA
  have h1 : q ≠ o := by
    unfold bA at hA
    have := (List.pairwise_cons.mp hA).1 q (by simp)
    exact fun z => this z.symm
  have h2 : L.find? (fun z => z.1 == q) = none := by
    refine List.find?_eq_none.mpr (fun z hz => ?_)
    unfold bA at hA
    have h3 := (List.pairwise_cons.mp hA).2
    rw [List.map_append] at h3
    have := (List.pairwise_append.mp h3).2.2 z.1 (List.mem_map.mpr ⟨z, hz, rfl⟩) q (by simp)
    simpa using this
  refine ⟨?_, hm, ?_⟩
  · funext b
    unfold hset bh
    rw [List.find?_append, List.find?_append]
    by_cases c : b = q
    · rw [if_pos c, c, if_neg h1, h2]
      simp
    · rw [if_neg c]
      have c3 : (q == b) = false := beq_eq_false_iff_ne.mpr (fun z => c z.symm)
      by_cases c2 : b = o
      · rw [if_pos c2, if_pos c2]
      · rw [if_neg c2, if_neg c2]
        cases f : L.find? (fun z => z.1 == b) with
        | some z => simp
        | none => simp [c3]
  · unfold bh
    rw [List.find?_append, if_neg h1, h2]
    simp
theorem bh_lget {o : Nat} {x : va_E} {L : List (Nat × va_E)} {h : AH} {q : Nat} {e : va_E} (hA : bA o (L ++ [(q, e)])) : bh o x (L ++ [(q, e)]) h q = some e := (bh_last (e' := e) hA).2.2
theorem bh_lset {o : Nat} {x : va_E} {L : List (Nat × va_E)} {h : AH} {q : Nat} {e e' : va_E} (hA : bA o (L ++ [(q, e)])) : hset (bh o x (L ++ [(q, e)]) h) q e' = bh o x (L ++ [(q, e')]) h := (bh_last hA).1
theorem bA_last {o : Nat} {L : List (Nat × va_E)} {q : Nat} {e : va_E} (e' : va_E) (hA : bA o (L ++ [(q, e)])) : bA o (L ++ [(q, e')]) := (bh_last (x := e) (h := fun _ => none) hA).2.1
theorem nd_inj {ad : Nat → Nat} : ∀ l : List Nat, (l.map ad).Pairwise (fun a b => a ≠ b) → ∀ j ∈ l, ∀ k ∈ l, ad j = ad k → j = k := by
  intro l
  induction l with
  | nil => intro _ j hj; cases hj
  | cons x r ih =>
    intro hp j hj k hk e
    have h1 := List.pairwise_cons.mp hp
    rcases List.mem_cons.mp hj with rfl | hj
    · rcases List.mem_cons.mp hk with rfl | hk
      · rfl
      · exact absurd e (h1.1 (ad k) (List.mem_map.mpr ⟨k, hk, rfl⟩))
    · rcases List.mem_cons.mp hk with hkx | hk
      · exact absurd (e.symm.trans rfl) (by rw [hkx]; exact h1.1 (ad j) (List.mem_map.mpr ⟨j, hj, rfl⟩))
      · exact ih h1.2 j hj k hk e
theorem mI_of {o : Nat} {ad : Nat → Nat} (h : (o :: mSl.map ad).Pairwise (fun a b => a ≠ b)) : mI o ad :=
  ⟨fun k hk e => (List.pairwise_cons.mp h).1 _ (List.mem_map.mpr ⟨k, hk, rfl⟩) e.symm, nd_inj mSl (List.pairwise_cons.mp h).2⟩
theorem mar_some (E : Ev) (A : Nat → Nat → Int32) : ∀ k ∈ mSl, mar E A k = some ((mar E A k).getD (.inr (0, []))) := by
  intro k hk
  simp only [mSl, List.mem_cons, List.not_mem_nil, or_false] at hk
  rcases hk with rfl | rfl | rfl | rfl | rfl | rfl | rfl | rfl | rfl | rfl | rfl | rfl | rfl | rfl | rfl | rfl | rfl <;> rfl
theorem find_mapq {ad : Nat → Nat} {g : Nat → va_E} {b : Nat} : ∀ l : List Nat, (l.map (fun k => (ad k, g k))).find? (fun q => q.1 == b) = (l.find? (fun k => ad k == b)).map (fun k => (ad k, g k)) := by
  intro l
  induction l with
  | nil => rfl
  | cons x r ih =>
    rw [List.map_cons, List.find?_cons, List.find?_cons]
    cases ad x == b with
    | true => rfl
    | false => exact ih
theorem bh_mh {E : Ev} {o : Nat} {ad : Nat → Nat} {F : Nat → Int32} {A : Nat → Nat → Int32} {h : AH} {L : List (Nat × va_E)} {fs : List Value} (hL : L = mSl.map (fun k => (ad k, (mar E A k).getD (.inr (0, []))))) (hf : fs = mfs ad F) : bh o (.inr (11, fs)) L h = mh E o ad F A h := by
  funext b
  unfold bh mh
  by_cases c : b = o
  · rw [if_pos c, if_pos c, hf]
  · rw [if_neg c, if_neg c, hL, find_mapq]
    cases f : mSl.find? (fun k => ad k == b) with
    | none => rfl
    | some k => exact (mar_some E A k (List.mem_of_find?_eq_some f)).symm
theorem bh_none {o : Nat} {x : va_E} {L : List (Nat × va_E)} {h : AH} {q : Nat} (e : bh o x L h q = none) : h q = none := by
  unfold bh at e
  by_cases c : q = o
  · rw [if_pos c] at e; cases e
  · rw [if_neg c] at e
    cases f : L.find? (fun z => z.1 == q) with
    | some z => rw [f] at e; cases e
    | none => rw [f] at e; exact e
def mF0 : Nat → Int32 := fun k => match k with
  | 2 => 20
  | 19 => -1
  | 26 => 1
  | 27 => 1
  | _ => 0
def mA0 : Nat → Nat → Int32 := fun k => match k with
  | 10 => upd (upd (upd (fun _ => 0) 0 0) 1 1000) 2 0
  | _ => fun _ => 0
abbrev mdf : List Value := [.int 0, .int 0, .int 0, .null, .null, .null, .null, .null, .null, .int 0, .null, .null, .null, .int 0, .null, .int 0, .int 0, .int 0, .int 0, .int 0, .null, .null, .null, .int 0, .int 0, .null, .int 0, .int 0, .null, .null, .null]
theorem dX11_init_0 : decode cX11_init 0 = .ok (.aload_n 0, 1) := by decide +kernel
theorem dX11_init_1 : decode cX11_init 1 = .ok (.invokespecial 1, 3) := by decide +kernel
theorem dX11_init_4 : decode cX11_init 4 = .ok (.aload_n 0, 1) := by decide +kernel
theorem dX11_init_5 : decode cX11_init 5 = .ok (.bipush 20, 2) := by decide +kernel
theorem dX11_init_7 : decode cX11_init 7 = .ok (.putfield 7, 3) := by decide +kernel
theorem dX11_init_10 : decode cX11_init 10 = .ok (.aload_n 0, 1) := by decide +kernel
theorem dX11_init_11 : decode cX11_init 11 = .ok (.bipush 30, 2) := by decide +kernel
theorem dX11_init_13 : decode cX11_init 13 = .ok (.newarray .int, 2) := by decide +kernel
theorem dX11_init_15 : decode cX11_init 15 = .ok (.putfield 13, 3) := by decide +kernel
theorem dX11_init_18 : decode cX11_init 18 = .ok (.aload_n 0, 1) := by decide +kernel
theorem dX11_init_19 : decode cX11_init 19 = .ok (.bipush 30, 2) := by decide +kernel
theorem dX11_init_21 : decode cX11_init 21 = .ok (.newarray .int, 2) := by decide +kernel
theorem dX11_init_23 : decode cX11_init 23 = .ok (.putfield 17, 3) := by decide +kernel
theorem dX11_init_26 : decode cX11_init 26 = .ok (.aload_n 0, 1) := by decide +kernel
theorem dX11_init_27 : decode cX11_init 27 = .ok (.bipush 30, 2) := by decide +kernel
theorem dX11_init_29 : decode cX11_init 29 = .ok (.newarray .int, 2) := by decide +kernel
theorem dX11_init_31 : decode cX11_init 31 = .ok (.putfield 20, 3) := by decide +kernel
theorem dX11_init_34 : decode cX11_init 34 = .ok (.aload_n 0, 1) := by decide +kernel
theorem dX11_init_35 : decode cX11_init 35 = .ok (.bipush 30, 2) := by decide +kernel
theorem dX11_init_37 : decode cX11_init 37 = .ok (.newarray .int, 2) := by decide +kernel
theorem dX11_init_39 : decode cX11_init 39 = .ok (.putfield 23, 3) := by decide +kernel
theorem dX11_init_42 : decode cX11_init 42 = .ok (.aload_n 0, 1) := by decide +kernel
theorem dX11_init_43 : decode cX11_init 43 = .ok (.bipush 30, 2) := by decide +kernel
theorem dX11_init_45 : decode cX11_init 45 = .ok (.newarray .int, 2) := by decide +kernel
theorem dX11_init_47 : decode cX11_init 47 = .ok (.putfield 26, 3) := by decide +kernel
theorem dX11_init_50 : decode cX11_init 50 = .ok (.aload_n 0, 1) := by decide +kernel
theorem dX11_init_51 : decode cX11_init 51 = .ok (.bipush 30, 2) := by decide +kernel
theorem dX11_init_53 : decode cX11_init 53 = .ok (.newarray .int, 2) := by decide +kernel
theorem dX11_init_55 : decode cX11_init 55 = .ok (.putfield 29, 3) := by decide +kernel
theorem dX11_init_58 : decode cX11_init 58 = .ok (.aload_n 0, 1) := by decide +kernel
theorem dX11_init_59 : decode cX11_init 59 = .ok (.iconst 3, 1) := by decide +kernel
theorem dX11_init_60 : decode cX11_init 60 = .ok (.newarray .int, 2) := by decide +kernel
theorem dX11_init_62 : decode cX11_init 62 = .ok (.dup, 1) := by decide +kernel
theorem dX11_init_63 : decode cX11_init 63 = .ok (.iconst 0, 1) := by decide +kernel
theorem dX11_init_64 : decode cX11_init 64 = .ok (.iconst 0, 1) := by decide +kernel
theorem dX11_init_65 : decode cX11_init 65 = .ok (.iastore, 1) := by decide +kernel
theorem dX11_init_66 : decode cX11_init 66 = .ok (.dup, 1) := by decide +kernel
theorem dX11_init_67 : decode cX11_init 67 = .ok (.iconst 1, 1) := by decide +kernel
theorem dX11_init_68 : decode cX11_init 68 = .ok (.sipush 1000, 3) := by decide +kernel
theorem dX11_init_71 : decode cX11_init 71 = .ok (.iastore, 1) := by decide +kernel
theorem dX11_init_72 : decode cX11_init 72 = .ok (.dup, 1) := by decide +kernel
theorem dX11_init_73 : decode cX11_init 73 = .ok (.iconst 2, 1) := by decide +kernel
theorem dX11_init_74 : decode cX11_init 74 = .ok (.iconst 0, 1) := by decide +kernel
theorem dX11_init_75 : decode cX11_init 75 = .ok (.iastore, 1) := by decide +kernel
theorem dX11_init_76 : decode cX11_init 76 = .ok (.putfield 32, 3) := by decide +kernel
theorem dX11_init_79 : decode cX11_init 79 = .ok (.aload_n 0, 1) := by decide +kernel
theorem dX11_init_80 : decode cX11_init 80 = .ok (.bipush 7, 2) := by decide +kernel
theorem dX11_init_82 : decode cX11_init 82 = .ok (.newarray .int, 2) := by decide +kernel
theorem dX11_init_84 : decode cX11_init 84 = .ok (.putfield 35, 3) := by decide +kernel
theorem dX11_init_87 : decode cX11_init 87 = .ok (.aload_n 0, 1) := by decide +kernel
theorem dX11_init_88 : decode cX11_init 88 = .ok (.bipush 7, 2) := by decide +kernel
theorem dX11_init_90 : decode cX11_init 90 = .ok (.newarray .int, 2) := by decide +kernel
theorem dX11_init_92 : decode cX11_init 92 = .ok (.putfield 38, 3) := by decide +kernel
theorem dX11_init_95 : decode cX11_init 95 = .ok (.aload_n 0, 1) := by decide +kernel
theorem dX11_init_96 : decode cX11_init 96 = .ok (.sipush 400, 3) := by decide +kernel
theorem dX11_init_99 : decode cX11_init 99 = .ok (.newarray .byte, 2) := by decide +kernel
theorem dX11_init_101 : decode cX11_init 101 = .ok (.putfield 41, 3) := by decide +kernel
theorem dX11_init_104 : decode cX11_init 104 = .ok (.aload_n 0, 1) := by decide +kernel
theorem dX11_init_105 : decode cX11_init 105 = .ok (.iconst (-1), 1) := by decide +kernel
theorem dX11_init_106 : decode cX11_init 106 = .ok (.putfield 45, 3) := by decide +kernel
theorem dX11_init_109 : decode cX11_init 109 = .ok (.aload_n 0, 1) := by decide +kernel
theorem dX11_init_110 : decode cX11_init 110 = .ok (.iconst 5, 1) := by decide +kernel
theorem dX11_init_111 : decode cX11_init 111 = .ok (.newarray .int, 2) := by decide +kernel
theorem dX11_init_113 : decode cX11_init 113 = .ok (.putfield 48, 3) := by decide +kernel
theorem dX11_init_116 : decode cX11_init 116 = .ok (.aload_n 0, 1) := by decide +kernel
theorem dX11_init_117 : decode cX11_init 117 = .ok (.sipush 600, 3) := by decide +kernel
theorem dX11_init_120 : decode cX11_init 120 = .ok (.newarray .int, 2) := by decide +kernel
theorem dX11_init_122 : decode cX11_init 122 = .ok (.putfield 51, 3) := by decide +kernel
theorem dX11_init_125 : decode cX11_init 125 = .ok (.aload_n 0, 1) := by decide +kernel
theorem dX11_init_126 : decode cX11_init 126 = .ok (.sipush 360, 3) := by decide +kernel
theorem dX11_init_129 : decode cX11_init 129 = .ok (.newarray .int, 2) := by decide +kernel
theorem dX11_init_131 : decode cX11_init 131 = .ok (.putfield 54, 3) := by decide +kernel
theorem dX11_init_134 : decode cX11_init 134 = .ok (.aload_n 0, 1) := by decide +kernel
theorem dX11_init_135 : decode cX11_init 135 = .ok (.bipush 6, 2) := by decide +kernel
theorem dX11_init_137 : decode cX11_init 137 = .ok (.newarray .int, 2) := by decide +kernel
theorem dX11_init_139 : decode cX11_init 139 = .ok (.putfield 57, 3) := by decide +kernel
theorem dX11_init_142 : decode cX11_init 142 = .ok (.aload_n 0, 1) := by decide +kernel
theorem dX11_init_143 : decode cX11_init 143 = .ok (.iconst 1, 1) := by decide +kernel
theorem dX11_init_144 : decode cX11_init 144 = .ok (.putfield 60, 3) := by decide +kernel
theorem dX11_init_147 : decode cX11_init 147 = .ok (.aload_n 0, 1) := by decide +kernel
theorem dX11_init_148 : decode cX11_init 148 = .ok (.iconst 1, 1) := by decide +kernel
theorem dX11_init_149 : decode cX11_init 149 = .ok (.putfield 63, 3) := by decide +kernel
theorem dX11_init_152 : decode cX11_init 152 = .ok (.aload_n 0, 1) := by decide +kernel
theorem dX11_init_153 : decode cX11_init 153 = .ok (.bipush 80, 2) := by decide +kernel
theorem dX11_init_155 : decode cX11_init 155 = .ok (.newarray .boolean, 2) := by decide +kernel
theorem dX11_init_157 : decode cX11_init 157 = .ok (.putfield 66, 3) := by decide +kernel
theorem dX11_init_160 : decode cX11_init 160 = .ok (.aload_n 0, 1) := by decide +kernel
theorem dX11_init_161 : decode cX11_init 161 = .ok (.sipush 6400, 3) := by decide +kernel
theorem dX11_init_164 : decode cX11_init 164 = .ok (.newarray .int, 2) := by decide +kernel
theorem dX11_init_166 : decode cX11_init 166 = .ok (.putfield 70, 3) := by decide +kernel
theorem dX11_init_169 : decode cX11_init 169 = .ok (.aload_n 0, 1) := by decide +kernel
theorem dX11_init_170 : decode cX11_init 170 = .ok (.sipush 6400, 3) := by decide +kernel
theorem dX11_init_173 : decode cX11_init 173 = .ok (.newarray .int, 2) := by decide +kernel
theorem dX11_init_175 : decode cX11_init 175 = .ok (.putfield 73, 3) := by decide +kernel
theorem dX11_init_178 : decode cX11_init 178 = .ok (.return_, 1) := by decide +kernel
set_option maxHeartbeats 4000000 in
set_option maxRecDepth 20000 in
theorem ct_init0 {l : Launch} {E : Ev} {P : Value → AH → Prop}  {o : Nat} {h : AH} (hp : ∀ ad : Nat → Nat, mI o ad → (∀ k ∈ mSl, h (ad k) = none) → P .null (mh E o ad mF0 mA0 h)) : Mt l E yX11_init cX11_init 1 none 1 20 17 14448 [.ref o] (bh o (.inr (11, mdf)) [] h) P := by
  refine Mt.of (by decide) (Nat.le_of_ble_eq_true rfl) ?_
  intro K hK hR C
  have hA : bA o ([] : List (Nat × va_E)) := by unfold bA; simp
  refine g_aload_n (n := 1) C dX11_init_0 rfl rfl ?_
  refine g_objInit (n := 4) C dX11_init_1 rfl w_1099 w_72 w_73 (roomF hR rfl) (roomL hR rfl) ?_
  refine g_aload_n (n := 5) C dX11_init_4 rfl rfl ?_
  refine g_bipush (n := 7) (v := 20) C dX11_init_5 rfl (by decide) ?_
  refine g_put (n := 10) (T := TX11) (ty0 := tyX11) C 2 dX11_init_7 rfl bh_o rfl (by decide) inX11 w_1102 rfl tyX11_ok nmX11 rfl rfl rfl rfl (by show 2 < 31; decide) ?_
  rw [bh_put]
  rw [show List.set _ 2 _ = ([.int 0, .int 0, .int 20, .null, .null, .null, .null, .null, .null, .int 0, .null, .null, .null, .int 0, .null, .int 0, .int 0, .int 0, .int 0, .int 0, .null, .null, .null, .int 0, .int 0, .null, .int 0, .int 0, .null, .null, .null] : List Value) from rfl]
  refine g_aload_n (n := 11) C dX11_init_10 rfl rfl ?_
  refine g_bipush (n := 13) (v := 30) C dX11_init_11 rfl (by decide) ?_
  refine g_newa (n := 15) C 1 (N := 30) (a0 := (30, .inl (fun _ => 0))) dX11_init_13 rfl rfl rfl (fun _ h => h) w_142 (fun _ => rfl) (by decide) (by decide) (by decide) (roomC hR rfl) (roomS hR rfl) ?_
  intro q3 zf3 ze3
  have hA3 := bA_new (e := .inl (E.2.2 1, 30, .inl (fun _ => 0))) hA zf3
  rw [bh_new zf3]
  have zn3 := bh_none zf3
  clear zf3 hA
  have hA := hA3
  clear hA3
  refine g_putF (n := 18) (T := TX11) (ty0 := tyX11) C 3 dX11_init_15 rfl bh_o rfl (by decide) inX11 w_1103 rfl tyX11_ok nmX11 rfl rfl rfl rfl rfl rfl (by show 3 < 31; decide) ?_
  rw [bh_put]
  rw [show List.set _ 3 _ = ([.int 0, .int 0, .int 20, .ref q3, .null, .null, .null, .null, .null, .int 0, .null, .null, .null, .int 0, .null, .int 0, .int 0, .int 0, .int 0, .int 0, .null, .null, .null, .int 0, .int 0, .null, .int 0, .int 0, .null, .null, .null] : List Value) from rfl]
  rw [show _ ++ [_] = ([(q3, .inl (E.2.2 1, 30, .inl (fun _ => 0)))] : List (Nat × va_E)) from rfl] at hA ⊢
  refine g_aload_n (n := 19) C dX11_init_18 rfl rfl ?_
  refine g_bipush (n := 21) (v := 30) C dX11_init_19 rfl (by decide) ?_
  refine g_newa (n := 23) C 1 (N := 30) (a0 := (30, .inl (fun _ => 0))) dX11_init_21 rfl rfl rfl (fun _ h => h) w_142 (fun _ => rfl) (by decide) (by decide) (by decide) (roomC hR rfl) (roomS hR rfl) ?_
  intro q4 zf4 ze4
  have hA4 := bA_new (e := .inl (E.2.2 1, 30, .inl (fun _ => 0))) hA zf4
  rw [bh_new zf4]
  have zn4 := bh_none zf4
  clear zf4 hA
  have hA := hA4
  clear hA4
  refine g_putF (n := 26) (T := TX11) (ty0 := tyX11) C 4 dX11_init_23 rfl bh_o rfl (by decide) inX11 w_1104 rfl tyX11_ok nmX11 rfl rfl rfl rfl rfl rfl (by show 4 < 31; decide) ?_
  rw [bh_put]
  rw [show List.set _ 4 _ = ([.int 0, .int 0, .int 20, .ref q3, .ref q4, .null, .null, .null, .null, .int 0, .null, .null, .null, .int 0, .null, .int 0, .int 0, .int 0, .int 0, .int 0, .null, .null, .null, .int 0, .int 0, .null, .int 0, .int 0, .null, .null, .null] : List Value) from rfl]
  rw [show _ ++ [_] = ([(q3, .inl (E.2.2 1, 30, .inl (fun _ => 0))), (q4, .inl (E.2.2 1, 30, .inl (fun _ => 0)))] : List (Nat × va_E)) from rfl] at hA ⊢
  refine g_aload_n (n := 27) C dX11_init_26 rfl rfl ?_
  refine g_bipush (n := 29) (v := 30) C dX11_init_27 rfl (by decide) ?_
  refine g_newa (n := 31) C 1 (N := 30) (a0 := (30, .inl (fun _ => 0))) dX11_init_29 rfl rfl rfl (fun _ h => h) w_142 (fun _ => rfl) (by decide) (by decide) (by decide) (roomC hR rfl) (roomS hR rfl) ?_
  intro q5 zf5 ze5
  have hA5 := bA_new (e := .inl (E.2.2 1, 30, .inl (fun _ => 0))) hA zf5
  rw [bh_new zf5]
  have zn5 := bh_none zf5
  clear zf5 hA
  have hA := hA5
  clear hA5
  refine g_putF (n := 34) (T := TX11) (ty0 := tyX11) C 5 dX11_init_31 rfl bh_o rfl (by decide) inX11 w_1105 rfl tyX11_ok nmX11 rfl rfl rfl rfl rfl rfl (by show 5 < 31; decide) ?_
  rw [bh_put]
  rw [show List.set _ 5 _ = ([.int 0, .int 0, .int 20, .ref q3, .ref q4, .ref q5, .null, .null, .null, .int 0, .null, .null, .null, .int 0, .null, .int 0, .int 0, .int 0, .int 0, .int 0, .null, .null, .null, .int 0, .int 0, .null, .int 0, .int 0, .null, .null, .null] : List Value) from rfl]
  rw [show _ ++ [_] = ([(q3, .inl (E.2.2 1, 30, .inl (fun _ => 0))), (q4, .inl (E.2.2 1, 30, .inl (fun _ => 0))), (q5, .inl (E.2.2 1, 30, .inl (fun _ => 0)))] : List (Nat × va_E)) from rfl] at hA ⊢
  refine g_aload_n (n := 35) C dX11_init_34 rfl rfl ?_
  refine g_bipush (n := 37) (v := 30) C dX11_init_35 rfl (by decide) ?_
  refine g_newa (n := 39) C 1 (N := 30) (a0 := (30, .inl (fun _ => 0))) dX11_init_37 rfl rfl rfl (fun _ h => h) w_142 (fun _ => rfl) (by decide) (by decide) (by decide) (roomC hR rfl) (roomS hR rfl) ?_
  intro q6 zf6 ze6
  have hA6 := bA_new (e := .inl (E.2.2 1, 30, .inl (fun _ => 0))) hA zf6
  rw [bh_new zf6]
  have zn6 := bh_none zf6
  clear zf6 hA
  have hA := hA6
  clear hA6
  refine g_putF (n := 42) (T := TX11) (ty0 := tyX11) C 6 dX11_init_39 rfl bh_o rfl (by decide) inX11 w_1106 rfl tyX11_ok nmX11 rfl rfl rfl rfl rfl rfl (by show 6 < 31; decide) ?_
  rw [bh_put]
  rw [show List.set _ 6 _ = ([.int 0, .int 0, .int 20, .ref q3, .ref q4, .ref q5, .ref q6, .null, .null, .int 0, .null, .null, .null, .int 0, .null, .int 0, .int 0, .int 0, .int 0, .int 0, .null, .null, .null, .int 0, .int 0, .null, .int 0, .int 0, .null, .null, .null] : List Value) from rfl]
  rw [show _ ++ [_] = ([(q3, .inl (E.2.2 1, 30, .inl (fun _ => 0))), (q4, .inl (E.2.2 1, 30, .inl (fun _ => 0))), (q5, .inl (E.2.2 1, 30, .inl (fun _ => 0))), (q6, .inl (E.2.2 1, 30, .inl (fun _ => 0)))] : List (Nat × va_E)) from rfl] at hA ⊢
  refine g_aload_n (n := 43) C dX11_init_42 rfl rfl ?_
  refine g_bipush (n := 45) (v := 30) C dX11_init_43 rfl (by decide) ?_
  refine g_newa (n := 47) C 1 (N := 30) (a0 := (30, .inl (fun _ => 0))) dX11_init_45 rfl rfl rfl (fun _ h => h) w_142 (fun _ => rfl) (by decide) (by decide) (by decide) (roomC hR rfl) (roomS hR rfl) ?_
  intro q7 zf7 ze7
  have hA7 := bA_new (e := .inl (E.2.2 1, 30, .inl (fun _ => 0))) hA zf7
  rw [bh_new zf7]
  have zn7 := bh_none zf7
  clear zf7 hA
  have hA := hA7
  clear hA7
  refine g_putF (n := 50) (T := TX11) (ty0 := tyX11) C 7 dX11_init_47 rfl bh_o rfl (by decide) inX11 w_1107 rfl tyX11_ok nmX11 rfl rfl rfl rfl rfl rfl (by show 7 < 31; decide) ?_
  rw [bh_put]
  rw [show List.set _ 7 _ = ([.int 0, .int 0, .int 20, .ref q3, .ref q4, .ref q5, .ref q6, .ref q7, .null, .int 0, .null, .null, .null, .int 0, .null, .int 0, .int 0, .int 0, .int 0, .int 0, .null, .null, .null, .int 0, .int 0, .null, .int 0, .int 0, .null, .null, .null] : List Value) from rfl]
  rw [show _ ++ [_] = ([(q3, .inl (E.2.2 1, 30, .inl (fun _ => 0))), (q4, .inl (E.2.2 1, 30, .inl (fun _ => 0))), (q5, .inl (E.2.2 1, 30, .inl (fun _ => 0))), (q6, .inl (E.2.2 1, 30, .inl (fun _ => 0))), (q7, .inl (E.2.2 1, 30, .inl (fun _ => 0)))] : List (Nat × va_E)) from rfl] at hA ⊢
  refine g_aload_n (n := 51) C dX11_init_50 rfl rfl ?_
  refine g_bipush (n := 53) (v := 30) C dX11_init_51 rfl (by decide) ?_
  refine g_newa (n := 55) C 1 (N := 30) (a0 := (30, .inl (fun _ => 0))) dX11_init_53 rfl rfl rfl (fun _ h => h) w_142 (fun _ => rfl) (by decide) (by decide) (by decide) (roomC hR rfl) (roomS hR rfl) ?_
  intro q8 zf8 ze8
  have hA8 := bA_new (e := .inl (E.2.2 1, 30, .inl (fun _ => 0))) hA zf8
  rw [bh_new zf8]
  have zn8 := bh_none zf8
  clear zf8 hA
  have hA := hA8
  clear hA8
  refine g_putF (n := 58) (T := TX11) (ty0 := tyX11) C 8 dX11_init_55 rfl bh_o rfl (by decide) inX11 w_1108 rfl tyX11_ok nmX11 rfl rfl rfl rfl rfl rfl (by show 8 < 31; decide) ?_
  rw [bh_put]
  rw [show List.set _ 8 _ = ([.int 0, .int 0, .int 20, .ref q3, .ref q4, .ref q5, .ref q6, .ref q7, .ref q8, .int 0, .null, .null, .null, .int 0, .null, .int 0, .int 0, .int 0, .int 0, .int 0, .null, .null, .null, .int 0, .int 0, .null, .int 0, .int 0, .null, .null, .null] : List Value) from rfl]
  rw [show _ ++ [_] = ([(q3, .inl (E.2.2 1, 30, .inl (fun _ => 0))), (q4, .inl (E.2.2 1, 30, .inl (fun _ => 0))), (q5, .inl (E.2.2 1, 30, .inl (fun _ => 0))), (q6, .inl (E.2.2 1, 30, .inl (fun _ => 0))), (q7, .inl (E.2.2 1, 30, .inl (fun _ => 0))), (q8, .inl (E.2.2 1, 30, .inl (fun _ => 0)))] : List (Nat × va_E)) from rfl] at hA ⊢
  refine g_aload_n (n := 59) C dX11_init_58 rfl rfl ?_
  refine g_iconst (n := 60) (v := 3) C dX11_init_59 rfl (by decide) ?_
  refine g_newa (n := 62) C 1 (N := 3) (a0 := (3, .inl (fun _ => 0))) dX11_init_60 rfl rfl rfl (fun _ h => h) w_142 (fun _ => rfl) (by decide) (by decide) (by decide) (roomC hR rfl) (roomS hR rfl) ?_
  intro q10 zf10 ze10
  have hA10 := bA_new (e := .inl (E.2.2 1, 3, .inl (fun _ => 0))) hA zf10
  rw [bh_new zf10]
  have zn10 := bh_none zf10
  clear zf10 hA
  have hA := hA10
  clear hA10
  refine g_dup (n := 63) C dX11_init_62 rfl rfl ?_
  refine g_iconst (n := 64) (v := 0) C dX11_init_63 rfl (by decide) ?_
  refine g_iconst (n := 65) (v := 0) C dX11_init_64 rfl (by decide) ?_
  refine g_iast (n := 66) C dX11_init_65 rfl (bh_lget hA) (vp_in_nI (n := 0) (by decide) (by decide)) ?_
  rw [bh_lset hA, show (0 : Int32).toNatClampNeg = 0 from rfl]
  have hB := bA_last (.inl (E.2.2 1, 3, .inl (upd (fun _ => 0) 0 0))) hA
  clear hA
  have hA := hB
  clear hB
  refine g_dup (n := 67) C dX11_init_66 rfl rfl ?_
  refine g_iconst (n := 68) (v := 1) C dX11_init_67 rfl (by decide) ?_
  refine g_sipush (n := 71) (v := 1000) C dX11_init_68 rfl (by decide) ?_
  refine g_iast (n := 72) C dX11_init_71 rfl (bh_lget hA) (vp_in_nI (n := 1) (by decide) (by decide)) ?_
  rw [bh_lset hA, show (1 : Int32).toNatClampNeg = 1 from rfl]
  have hB := bA_last (.inl (E.2.2 1, 3, .inl (upd (upd (fun _ => 0) 0 0) 1 1000))) hA
  clear hA
  have hA := hB
  clear hB
  refine g_dup (n := 73) C dX11_init_72 rfl rfl ?_
  refine g_iconst (n := 74) (v := 2) C dX11_init_73 rfl (by decide) ?_
  refine g_iconst (n := 75) (v := 0) C dX11_init_74 rfl (by decide) ?_
  refine g_iast (n := 76) C dX11_init_75 rfl (bh_lget hA) (vp_in_nI (n := 2) (by decide) (by decide)) ?_
  rw [bh_lset hA, show (2 : Int32).toNatClampNeg = 2 from rfl]
  have hB := bA_last (.inl (E.2.2 1, 3, .inl (upd (upd (upd (fun _ => 0) 0 0) 1 1000) 2 0))) hA
  clear hA
  have hA := hB
  clear hB
  refine g_putF (n := 79) (T := TX11) (ty0 := tyX11) C 10 dX11_init_76 rfl bh_o rfl (by decide) inX11 w_1110 rfl tyX11_ok nmX11 rfl rfl rfl rfl rfl rfl (by show 10 < 31; decide) ?_
  rw [bh_put]
  rw [show List.set _ 10 _ = ([.int 0, .int 0, .int 20, .ref q3, .ref q4, .ref q5, .ref q6, .ref q7, .ref q8, .int 0, .ref q10, .null, .null, .int 0, .null, .int 0, .int 0, .int 0, .int 0, .int 0, .null, .null, .null, .int 0, .int 0, .null, .int 0, .int 0, .null, .null, .null] : List Value) from rfl]
  rw [show _ ++ [_] = ([(q3, .inl (E.2.2 1, 30, .inl (fun _ => 0))), (q4, .inl (E.2.2 1, 30, .inl (fun _ => 0))), (q5, .inl (E.2.2 1, 30, .inl (fun _ => 0))), (q6, .inl (E.2.2 1, 30, .inl (fun _ => 0))), (q7, .inl (E.2.2 1, 30, .inl (fun _ => 0))), (q8, .inl (E.2.2 1, 30, .inl (fun _ => 0))), (q10, .inl (E.2.2 1, 3, .inl ((upd (upd (upd (fun _ => 0) 0 0) 1 1000) 2 0))))] : List (Nat × va_E)) from rfl] at hA ⊢
  refine g_aload_n (n := 80) C dX11_init_79 rfl rfl ?_
  refine g_bipush (n := 82) (v := 7) C dX11_init_80 rfl (by decide) ?_
  refine g_newa (n := 84) C 1 (N := 7) (a0 := (7, .inl (fun _ => 0))) dX11_init_82 rfl rfl rfl (fun _ h => h) w_142 (fun _ => rfl) (by decide) (by decide) (by decide) (roomC hR rfl) (roomS hR rfl) ?_
  intro q11 zf11 ze11
  have hA11 := bA_new (e := .inl (E.2.2 1, 7, .inl (fun _ => 0))) hA zf11
  rw [bh_new zf11]
  have zn11 := bh_none zf11
  clear zf11 hA
  have hA := hA11
  clear hA11
  refine g_putF (n := 87) (T := TX11) (ty0 := tyX11) C 11 dX11_init_84 rfl bh_o rfl (by decide) inX11 w_1111 rfl tyX11_ok nmX11 rfl rfl rfl rfl rfl rfl (by show 11 < 31; decide) ?_
  rw [bh_put]
  rw [show List.set _ 11 _ = ([.int 0, .int 0, .int 20, .ref q3, .ref q4, .ref q5, .ref q6, .ref q7, .ref q8, .int 0, .ref q10, .ref q11, .null, .int 0, .null, .int 0, .int 0, .int 0, .int 0, .int 0, .null, .null, .null, .int 0, .int 0, .null, .int 0, .int 0, .null, .null, .null] : List Value) from rfl]
  rw [show _ ++ [_] = ([(q3, .inl (E.2.2 1, 30, .inl (fun _ => 0))), (q4, .inl (E.2.2 1, 30, .inl (fun _ => 0))), (q5, .inl (E.2.2 1, 30, .inl (fun _ => 0))), (q6, .inl (E.2.2 1, 30, .inl (fun _ => 0))), (q7, .inl (E.2.2 1, 30, .inl (fun _ => 0))), (q8, .inl (E.2.2 1, 30, .inl (fun _ => 0))), (q10, .inl (E.2.2 1, 3, .inl ((upd (upd (upd (fun _ => 0) 0 0) 1 1000) 2 0)))), (q11, .inl (E.2.2 1, 7, .inl (fun _ => 0)))] : List (Nat × va_E)) from rfl] at hA ⊢
  refine g_aload_n (n := 88) C dX11_init_87 rfl rfl ?_
  refine g_bipush (n := 90) (v := 7) C dX11_init_88 rfl (by decide) ?_
  refine g_newa (n := 92) C 1 (N := 7) (a0 := (7, .inl (fun _ => 0))) dX11_init_90 rfl rfl rfl (fun _ h => h) w_142 (fun _ => rfl) (by decide) (by decide) (by decide) (roomC hR rfl) (roomS hR rfl) ?_
  intro q12 zf12 ze12
  have hA12 := bA_new (e := .inl (E.2.2 1, 7, .inl (fun _ => 0))) hA zf12
  rw [bh_new zf12]
  have zn12 := bh_none zf12
  clear zf12 hA
  have hA := hA12
  clear hA12
  refine g_putF (n := 95) (T := TX11) (ty0 := tyX11) C 12 dX11_init_92 rfl bh_o rfl (by decide) inX11 w_1112 rfl tyX11_ok nmX11 rfl rfl rfl rfl rfl rfl (by show 12 < 31; decide) ?_
  rw [bh_put]
  rw [show List.set _ 12 _ = ([.int 0, .int 0, .int 20, .ref q3, .ref q4, .ref q5, .ref q6, .ref q7, .ref q8, .int 0, .ref q10, .ref q11, .ref q12, .int 0, .null, .int 0, .int 0, .int 0, .int 0, .int 0, .null, .null, .null, .int 0, .int 0, .null, .int 0, .int 0, .null, .null, .null] : List Value) from rfl]
  rw [show _ ++ [_] = ([(q3, .inl (E.2.2 1, 30, .inl (fun _ => 0))), (q4, .inl (E.2.2 1, 30, .inl (fun _ => 0))), (q5, .inl (E.2.2 1, 30, .inl (fun _ => 0))), (q6, .inl (E.2.2 1, 30, .inl (fun _ => 0))), (q7, .inl (E.2.2 1, 30, .inl (fun _ => 0))), (q8, .inl (E.2.2 1, 30, .inl (fun _ => 0))), (q10, .inl (E.2.2 1, 3, .inl ((upd (upd (upd (fun _ => 0) 0 0) 1 1000) 2 0)))), (q11, .inl (E.2.2 1, 7, .inl (fun _ => 0))), (q12, .inl (E.2.2 1, 7, .inl (fun _ => 0)))] : List (Nat × va_E)) from rfl] at hA ⊢
  refine g_aload_n (n := 96) C dX11_init_95 rfl rfl ?_
  refine g_sipush (n := 99) (v := 400) C dX11_init_96 rfl (by decide) ?_
  refine g_newa (n := 101) C 0 (N := 400) (a0 := (400, .inl (fun _ => 0))) dX11_init_99 rfl rfl rfl (fun _ h => h) w_87 (fun _ => rfl) (by decide) (by decide) (by decide) (roomC hR rfl) (roomS hR rfl) ?_
  intro q14 zf14 ze14
  have hA14 := bA_new (e := .inl (E.2.2 0, 400, .inl (fun _ => 0))) hA zf14
  rw [bh_new zf14]
  have zn14 := bh_none zf14
  clear zf14 hA
  have hA := hA14
  clear hA14
  refine g_putF (n := 104) (T := TX11) (ty0 := tyX11) C 14 dX11_init_101 rfl bh_o rfl (by decide) inX11 w_1114 rfl tyX11_ok nmX11 rfl rfl rfl rfl rfl rfl (by show 14 < 31; decide) ?_
  rw [bh_put]
  rw [show List.set _ 14 _ = ([.int 0, .int 0, .int 20, .ref q3, .ref q4, .ref q5, .ref q6, .ref q7, .ref q8, .int 0, .ref q10, .ref q11, .ref q12, .int 0, .ref q14, .int 0, .int 0, .int 0, .int 0, .int 0, .null, .null, .null, .int 0, .int 0, .null, .int 0, .int 0, .null, .null, .null] : List Value) from rfl]
  rw [show _ ++ [_] = ([(q3, .inl (E.2.2 1, 30, .inl (fun _ => 0))), (q4, .inl (E.2.2 1, 30, .inl (fun _ => 0))), (q5, .inl (E.2.2 1, 30, .inl (fun _ => 0))), (q6, .inl (E.2.2 1, 30, .inl (fun _ => 0))), (q7, .inl (E.2.2 1, 30, .inl (fun _ => 0))), (q8, .inl (E.2.2 1, 30, .inl (fun _ => 0))), (q10, .inl (E.2.2 1, 3, .inl ((upd (upd (upd (fun _ => 0) 0 0) 1 1000) 2 0)))), (q11, .inl (E.2.2 1, 7, .inl (fun _ => 0))), (q12, .inl (E.2.2 1, 7, .inl (fun _ => 0))), (q14, .inl (E.2.2 0, 400, .inl (fun _ => 0)))] : List (Nat × va_E)) from rfl] at hA ⊢
  refine g_aload_n (n := 105) C dX11_init_104 rfl rfl ?_
  refine g_iconst (n := 106) (v := (-1)) C dX11_init_105 rfl (by decide) ?_
  refine g_put (n := 109) (T := TX11) (ty0 := tyX11) C 19 dX11_init_106 rfl bh_o rfl (by decide) inX11 w_1119 rfl tyX11_ok nmX11 rfl rfl rfl rfl (by show 19 < 31; decide) ?_
  rw [bh_put]
  rw [show List.set _ 19 _ = ([.int 0, .int 0, .int 20, .ref q3, .ref q4, .ref q5, .ref q6, .ref q7, .ref q8, .int 0, .ref q10, .ref q11, .ref q12, .int 0, .ref q14, .int 0, .int 0, .int 0, .int 0, .int (-1), .null, .null, .null, .int 0, .int 0, .null, .int 0, .int 0, .null, .null, .null] : List Value) from rfl]
  refine g_aload_n (n := 110) C dX11_init_109 rfl rfl ?_
  refine g_iconst (n := 111) (v := 5) C dX11_init_110 rfl (by decide) ?_
  refine g_newa (n := 113) C 1 (N := 5) (a0 := (5, .inl (fun _ => 0))) dX11_init_111 rfl rfl rfl (fun _ h => h) w_142 (fun _ => rfl) (by decide) (by decide) (by decide) (roomC hR rfl) (roomS hR rfl) ?_
  intro q20 zf20 ze20
  have hA20 := bA_new (e := .inl (E.2.2 1, 5, .inl (fun _ => 0))) hA zf20
  rw [bh_new zf20]
  have zn20 := bh_none zf20
  clear zf20 hA
  have hA := hA20
  clear hA20
  refine g_putF (n := 116) (T := TX11) (ty0 := tyX11) C 20 dX11_init_113 rfl bh_o rfl (by decide) inX11 w_1120 rfl tyX11_ok nmX11 rfl rfl rfl rfl rfl rfl (by show 20 < 31; decide) ?_
  rw [bh_put]
  rw [show List.set _ 20 _ = ([.int 0, .int 0, .int 20, .ref q3, .ref q4, .ref q5, .ref q6, .ref q7, .ref q8, .int 0, .ref q10, .ref q11, .ref q12, .int 0, .ref q14, .int 0, .int 0, .int 0, .int 0, .int (-1), .ref q20, .null, .null, .int 0, .int 0, .null, .int 0, .int 0, .null, .null, .null] : List Value) from rfl]
  rw [show _ ++ [_] = ([(q3, .inl (E.2.2 1, 30, .inl (fun _ => 0))), (q4, .inl (E.2.2 1, 30, .inl (fun _ => 0))), (q5, .inl (E.2.2 1, 30, .inl (fun _ => 0))), (q6, .inl (E.2.2 1, 30, .inl (fun _ => 0))), (q7, .inl (E.2.2 1, 30, .inl (fun _ => 0))), (q8, .inl (E.2.2 1, 30, .inl (fun _ => 0))), (q10, .inl (E.2.2 1, 3, .inl ((upd (upd (upd (fun _ => 0) 0 0) 1 1000) 2 0)))), (q11, .inl (E.2.2 1, 7, .inl (fun _ => 0))), (q12, .inl (E.2.2 1, 7, .inl (fun _ => 0))), (q14, .inl (E.2.2 0, 400, .inl (fun _ => 0))), (q20, .inl (E.2.2 1, 5, .inl (fun _ => 0)))] : List (Nat × va_E)) from rfl] at hA ⊢
  refine g_aload_n (n := 117) C dX11_init_116 rfl rfl ?_
  refine g_sipush (n := 120) (v := 600) C dX11_init_117 rfl (by decide) ?_
  refine g_newa (n := 122) C 1 (N := 600) (a0 := (600, .inl (fun _ => 0))) dX11_init_120 rfl rfl rfl (fun _ h => h) w_142 (fun _ => rfl) (by decide) (by decide) (by decide) (roomC hR rfl) (roomS hR rfl) ?_
  intro q21 zf21 ze21
  have hA21 := bA_new (e := .inl (E.2.2 1, 600, .inl (fun _ => 0))) hA zf21
  rw [bh_new zf21]
  have zn21 := bh_none zf21
  clear zf21 hA
  have hA := hA21
  clear hA21
  refine g_putF (n := 125) (T := TX11) (ty0 := tyX11) C 21 dX11_init_122 rfl bh_o rfl (by decide) inX11 w_1121 rfl tyX11_ok nmX11 rfl rfl rfl rfl rfl rfl (by show 21 < 31; decide) ?_
  rw [bh_put]
  rw [show List.set _ 21 _ = ([.int 0, .int 0, .int 20, .ref q3, .ref q4, .ref q5, .ref q6, .ref q7, .ref q8, .int 0, .ref q10, .ref q11, .ref q12, .int 0, .ref q14, .int 0, .int 0, .int 0, .int 0, .int (-1), .ref q20, .ref q21, .null, .int 0, .int 0, .null, .int 0, .int 0, .null, .null, .null] : List Value) from rfl]
  rw [show _ ++ [_] = ([(q3, .inl (E.2.2 1, 30, .inl (fun _ => 0))), (q4, .inl (E.2.2 1, 30, .inl (fun _ => 0))), (q5, .inl (E.2.2 1, 30, .inl (fun _ => 0))), (q6, .inl (E.2.2 1, 30, .inl (fun _ => 0))), (q7, .inl (E.2.2 1, 30, .inl (fun _ => 0))), (q8, .inl (E.2.2 1, 30, .inl (fun _ => 0))), (q10, .inl (E.2.2 1, 3, .inl ((upd (upd (upd (fun _ => 0) 0 0) 1 1000) 2 0)))), (q11, .inl (E.2.2 1, 7, .inl (fun _ => 0))), (q12, .inl (E.2.2 1, 7, .inl (fun _ => 0))), (q14, .inl (E.2.2 0, 400, .inl (fun _ => 0))), (q20, .inl (E.2.2 1, 5, .inl (fun _ => 0))), (q21, .inl (E.2.2 1, 600, .inl (fun _ => 0)))] : List (Nat × va_E)) from rfl] at hA ⊢
  refine g_aload_n (n := 126) C dX11_init_125 rfl rfl ?_
  refine g_sipush (n := 129) (v := 360) C dX11_init_126 rfl (by decide) ?_
  refine g_newa (n := 131) C 1 (N := 360) (a0 := (360, .inl (fun _ => 0))) dX11_init_129 rfl rfl rfl (fun _ h => h) w_142 (fun _ => rfl) (by decide) (by decide) (by decide) (roomC hR rfl) (roomS hR rfl) ?_
  intro q22 zf22 ze22
  have hA22 := bA_new (e := .inl (E.2.2 1, 360, .inl (fun _ => 0))) hA zf22
  rw [bh_new zf22]
  have zn22 := bh_none zf22
  clear zf22 hA
  have hA := hA22
  clear hA22
  refine g_putF (n := 134) (T := TX11) (ty0 := tyX11) C 22 dX11_init_131 rfl bh_o rfl (by decide) inX11 w_1122 rfl tyX11_ok nmX11 rfl rfl rfl rfl rfl rfl (by show 22 < 31; decide) ?_
  rw [bh_put]
  rw [show List.set _ 22 _ = ([.int 0, .int 0, .int 20, .ref q3, .ref q4, .ref q5, .ref q6, .ref q7, .ref q8, .int 0, .ref q10, .ref q11, .ref q12, .int 0, .ref q14, .int 0, .int 0, .int 0, .int 0, .int (-1), .ref q20, .ref q21, .ref q22, .int 0, .int 0, .null, .int 0, .int 0, .null, .null, .null] : List Value) from rfl]
  rw [show _ ++ [_] = ([(q3, .inl (E.2.2 1, 30, .inl (fun _ => 0))), (q4, .inl (E.2.2 1, 30, .inl (fun _ => 0))), (q5, .inl (E.2.2 1, 30, .inl (fun _ => 0))), (q6, .inl (E.2.2 1, 30, .inl (fun _ => 0))), (q7, .inl (E.2.2 1, 30, .inl (fun _ => 0))), (q8, .inl (E.2.2 1, 30, .inl (fun _ => 0))), (q10, .inl (E.2.2 1, 3, .inl ((upd (upd (upd (fun _ => 0) 0 0) 1 1000) 2 0)))), (q11, .inl (E.2.2 1, 7, .inl (fun _ => 0))), (q12, .inl (E.2.2 1, 7, .inl (fun _ => 0))), (q14, .inl (E.2.2 0, 400, .inl (fun _ => 0))), (q20, .inl (E.2.2 1, 5, .inl (fun _ => 0))), (q21, .inl (E.2.2 1, 600, .inl (fun _ => 0))), (q22, .inl (E.2.2 1, 360, .inl (fun _ => 0)))] : List (Nat × va_E)) from rfl] at hA ⊢
  refine g_aload_n (n := 135) C dX11_init_134 rfl rfl ?_
  refine g_bipush (n := 137) (v := 6) C dX11_init_135 rfl (by decide) ?_
  refine g_newa (n := 139) C 1 (N := 6) (a0 := (6, .inl (fun _ => 0))) dX11_init_137 rfl rfl rfl (fun _ h => h) w_142 (fun _ => rfl) (by decide) (by decide) (by decide) (roomC hR rfl) (roomS hR rfl) ?_
  intro q25 zf25 ze25
  have hA25 := bA_new (e := .inl (E.2.2 1, 6, .inl (fun _ => 0))) hA zf25
  rw [bh_new zf25]
  have zn25 := bh_none zf25
  clear zf25 hA
  have hA := hA25
  clear hA25
  refine g_putF (n := 142) (T := TX11) (ty0 := tyX11) C 25 dX11_init_139 rfl bh_o rfl (by decide) inX11 w_1125 rfl tyX11_ok nmX11 rfl rfl rfl rfl rfl rfl (by show 25 < 31; decide) ?_
  rw [bh_put]
  rw [show List.set _ 25 _ = ([.int 0, .int 0, .int 20, .ref q3, .ref q4, .ref q5, .ref q6, .ref q7, .ref q8, .int 0, .ref q10, .ref q11, .ref q12, .int 0, .ref q14, .int 0, .int 0, .int 0, .int 0, .int (-1), .ref q20, .ref q21, .ref q22, .int 0, .int 0, .ref q25, .int 0, .int 0, .null, .null, .null] : List Value) from rfl]
  rw [show _ ++ [_] = ([(q3, .inl (E.2.2 1, 30, .inl (fun _ => 0))), (q4, .inl (E.2.2 1, 30, .inl (fun _ => 0))), (q5, .inl (E.2.2 1, 30, .inl (fun _ => 0))), (q6, .inl (E.2.2 1, 30, .inl (fun _ => 0))), (q7, .inl (E.2.2 1, 30, .inl (fun _ => 0))), (q8, .inl (E.2.2 1, 30, .inl (fun _ => 0))), (q10, .inl (E.2.2 1, 3, .inl ((upd (upd (upd (fun _ => 0) 0 0) 1 1000) 2 0)))), (q11, .inl (E.2.2 1, 7, .inl (fun _ => 0))), (q12, .inl (E.2.2 1, 7, .inl (fun _ => 0))), (q14, .inl (E.2.2 0, 400, .inl (fun _ => 0))), (q20, .inl (E.2.2 1, 5, .inl (fun _ => 0))), (q21, .inl (E.2.2 1, 600, .inl (fun _ => 0))), (q22, .inl (E.2.2 1, 360, .inl (fun _ => 0))), (q25, .inl (E.2.2 1, 6, .inl (fun _ => 0)))] : List (Nat × va_E)) from rfl] at hA ⊢
  refine g_aload_n (n := 143) C dX11_init_142 rfl rfl ?_
  refine g_iconst (n := 144) (v := 1) C dX11_init_143 rfl (by decide) ?_
  refine g_put (n := 147) (T := TX11) (ty0 := tyX11) C 26 dX11_init_144 rfl bh_o rfl (by decide) inX11 w_1126 rfl tyX11_ok nmX11 rfl rfl rfl rfl (by show 26 < 31; decide) ?_
  rw [bh_put]
  rw [show List.set _ 26 _ = ([.int 0, .int 0, .int 20, .ref q3, .ref q4, .ref q5, .ref q6, .ref q7, .ref q8, .int 0, .ref q10, .ref q11, .ref q12, .int 0, .ref q14, .int 0, .int 0, .int 0, .int 0, .int (-1), .ref q20, .ref q21, .ref q22, .int 0, .int 0, .ref q25, .int 1, .int 0, .null, .null, .null] : List Value) from rfl]
  refine g_aload_n (n := 148) C dX11_init_147 rfl rfl ?_
  refine g_iconst (n := 149) (v := 1) C dX11_init_148 rfl (by decide) ?_
  refine g_put (n := 152) (T := TX11) (ty0 := tyX11) C 27 dX11_init_149 rfl bh_o rfl (by decide) inX11 w_1127 rfl tyX11_ok nmX11 rfl rfl rfl rfl (by show 27 < 31; decide) ?_
  rw [bh_put]
  rw [show List.set _ 27 _ = ([.int 0, .int 0, .int 20, .ref q3, .ref q4, .ref q5, .ref q6, .ref q7, .ref q8, .int 0, .ref q10, .ref q11, .ref q12, .int 0, .ref q14, .int 0, .int 0, .int 0, .int 0, .int (-1), .ref q20, .ref q21, .ref q22, .int 0, .int 0, .ref q25, .int 1, .int 1, .null, .null, .null] : List Value) from rfl]
  refine g_aload_n (n := 153) C dX11_init_152 rfl rfl ?_
  refine g_bipush (n := 155) (v := 80) C dX11_init_153 rfl (by decide) ?_
  refine g_newa (n := 157) C 2 (N := 80) (a0 := (80, .inl (fun _ => 0))) dX11_init_155 rfl rfl rfl (fun _ h => h) w_233 (fun _ => rfl) (by decide) (by decide) (by decide) (roomC hR rfl) (roomS hR rfl) ?_
  intro q28 zf28 ze28
  have hA28 := bA_new (e := .inl (E.2.2 2, 80, .inl (fun _ => 0))) hA zf28
  rw [bh_new zf28]
  have zn28 := bh_none zf28
  clear zf28 hA
  have hA := hA28
  clear hA28
  refine g_putF (n := 160) (T := TX11) (ty0 := tyX11) C 28 dX11_init_157 rfl bh_o rfl (by decide) inX11 w_1128 rfl tyX11_ok nmX11 rfl rfl rfl rfl rfl rfl (by show 28 < 31; decide) ?_
  rw [bh_put]
  rw [show List.set _ 28 _ = ([.int 0, .int 0, .int 20, .ref q3, .ref q4, .ref q5, .ref q6, .ref q7, .ref q8, .int 0, .ref q10, .ref q11, .ref q12, .int 0, .ref q14, .int 0, .int 0, .int 0, .int 0, .int (-1), .ref q20, .ref q21, .ref q22, .int 0, .int 0, .ref q25, .int 1, .int 1, .ref q28, .null, .null] : List Value) from rfl]
  rw [show _ ++ [_] = ([(q3, .inl (E.2.2 1, 30, .inl (fun _ => 0))), (q4, .inl (E.2.2 1, 30, .inl (fun _ => 0))), (q5, .inl (E.2.2 1, 30, .inl (fun _ => 0))), (q6, .inl (E.2.2 1, 30, .inl (fun _ => 0))), (q7, .inl (E.2.2 1, 30, .inl (fun _ => 0))), (q8, .inl (E.2.2 1, 30, .inl (fun _ => 0))), (q10, .inl (E.2.2 1, 3, .inl ((upd (upd (upd (fun _ => 0) 0 0) 1 1000) 2 0)))), (q11, .inl (E.2.2 1, 7, .inl (fun _ => 0))), (q12, .inl (E.2.2 1, 7, .inl (fun _ => 0))), (q14, .inl (E.2.2 0, 400, .inl (fun _ => 0))), (q20, .inl (E.2.2 1, 5, .inl (fun _ => 0))), (q21, .inl (E.2.2 1, 600, .inl (fun _ => 0))), (q22, .inl (E.2.2 1, 360, .inl (fun _ => 0))), (q25, .inl (E.2.2 1, 6, .inl (fun _ => 0))), (q28, .inl (E.2.2 2, 80, .inl (fun _ => 0)))] : List (Nat × va_E)) from rfl] at hA ⊢
  refine g_aload_n (n := 161) C dX11_init_160 rfl rfl ?_
  refine g_sipush (n := 164) (v := 6400) C dX11_init_161 rfl (by decide) ?_
  refine g_newa (n := 166) C 1 (N := 6400) (a0 := (6400, .inl (fun _ => 0))) dX11_init_164 rfl rfl rfl (fun _ h => h) w_142 (fun _ => rfl) (by decide) (by decide) (by decide) (roomC hR rfl) (roomS hR rfl) ?_
  intro q29 zf29 ze29
  have hA29 := bA_new (e := .inl (E.2.2 1, 6400, .inl (fun _ => 0))) hA zf29
  rw [bh_new zf29]
  have zn29 := bh_none zf29
  clear zf29 hA
  have hA := hA29
  clear hA29
  refine g_putF (n := 169) (T := TX11) (ty0 := tyX11) C 29 dX11_init_166 rfl bh_o rfl (by decide) inX11 w_1129 rfl tyX11_ok nmX11 rfl rfl rfl rfl rfl rfl (by show 29 < 31; decide) ?_
  rw [bh_put]
  rw [show List.set _ 29 _ = ([.int 0, .int 0, .int 20, .ref q3, .ref q4, .ref q5, .ref q6, .ref q7, .ref q8, .int 0, .ref q10, .ref q11, .ref q12, .int 0, .ref q14, .int 0, .int 0, .int 0, .int 0, .int (-1), .ref q20, .ref q21, .ref q22, .int 0, .int 0, .ref q25, .int 1, .int 1, .ref q28, .ref q29, .null] : List Value) from rfl]
  rw [show _ ++ [_] = ([(q3, .inl (E.2.2 1, 30, .inl (fun _ => 0))), (q4, .inl (E.2.2 1, 30, .inl (fun _ => 0))), (q5, .inl (E.2.2 1, 30, .inl (fun _ => 0))), (q6, .inl (E.2.2 1, 30, .inl (fun _ => 0))), (q7, .inl (E.2.2 1, 30, .inl (fun _ => 0))), (q8, .inl (E.2.2 1, 30, .inl (fun _ => 0))), (q10, .inl (E.2.2 1, 3, .inl ((upd (upd (upd (fun _ => 0) 0 0) 1 1000) 2 0)))), (q11, .inl (E.2.2 1, 7, .inl (fun _ => 0))), (q12, .inl (E.2.2 1, 7, .inl (fun _ => 0))), (q14, .inl (E.2.2 0, 400, .inl (fun _ => 0))), (q20, .inl (E.2.2 1, 5, .inl (fun _ => 0))), (q21, .inl (E.2.2 1, 600, .inl (fun _ => 0))), (q22, .inl (E.2.2 1, 360, .inl (fun _ => 0))), (q25, .inl (E.2.2 1, 6, .inl (fun _ => 0))), (q28, .inl (E.2.2 2, 80, .inl (fun _ => 0))), (q29, .inl (E.2.2 1, 6400, .inl (fun _ => 0)))] : List (Nat × va_E)) from rfl] at hA ⊢
  refine g_aload_n (n := 170) C dX11_init_169 rfl rfl ?_
  refine g_sipush (n := 173) (v := 6400) C dX11_init_170 rfl (by decide) ?_
  refine g_newa (n := 175) C 1 (N := 6400) (a0 := (6400, .inl (fun _ => 0))) dX11_init_173 rfl rfl rfl (fun _ h => h) w_142 (fun _ => rfl) (by decide) (by decide) (by decide) (roomC hR rfl) (roomS hR rfl) ?_
  intro q30 zf30 ze30
  have hA30 := bA_new (e := .inl (E.2.2 1, 6400, .inl (fun _ => 0))) hA zf30
  rw [bh_new zf30]
  have zn30 := bh_none zf30
  clear zf30 hA
  have hA := hA30
  clear hA30
  refine g_putF (n := 178) (T := TX11) (ty0 := tyX11) C 30 dX11_init_175 rfl bh_o rfl (by decide) inX11 w_1130 rfl tyX11_ok nmX11 rfl rfl rfl rfl rfl rfl (by show 30 < 31; decide) ?_
  rw [bh_put]
  rw [show List.set _ 30 _ = ([.int 0, .int 0, .int 20, .ref q3, .ref q4, .ref q5, .ref q6, .ref q7, .ref q8, .int 0, .ref q10, .ref q11, .ref q12, .int 0, .ref q14, .int 0, .int 0, .int 0, .int 0, .int (-1), .ref q20, .ref q21, .ref q22, .int 0, .int 0, .ref q25, .int 1, .int 1, .ref q28, .ref q29, .ref q30] : List Value) from rfl]
  rw [show _ ++ [_] = ([(q3, .inl (E.2.2 1, 30, .inl (fun _ => 0))), (q4, .inl (E.2.2 1, 30, .inl (fun _ => 0))), (q5, .inl (E.2.2 1, 30, .inl (fun _ => 0))), (q6, .inl (E.2.2 1, 30, .inl (fun _ => 0))), (q7, .inl (E.2.2 1, 30, .inl (fun _ => 0))), (q8, .inl (E.2.2 1, 30, .inl (fun _ => 0))), (q10, .inl (E.2.2 1, 3, .inl ((upd (upd (upd (fun _ => 0) 0 0) 1 1000) 2 0)))), (q11, .inl (E.2.2 1, 7, .inl (fun _ => 0))), (q12, .inl (E.2.2 1, 7, .inl (fun _ => 0))), (q14, .inl (E.2.2 0, 400, .inl (fun _ => 0))), (q20, .inl (E.2.2 1, 5, .inl (fun _ => 0))), (q21, .inl (E.2.2 1, 600, .inl (fun _ => 0))), (q22, .inl (E.2.2 1, 360, .inl (fun _ => 0))), (q25, .inl (E.2.2 1, 6, .inl (fun _ => 0))), (q28, .inl (E.2.2 2, 80, .inl (fun _ => 0))), (q29, .inl (E.2.2 1, 6400, .inl (fun _ => 0))), (q30, .inl (E.2.2 1, 6400, .inl (fun _ => 0)))] : List (Nat × va_E)) from rfl] at hA ⊢
  refine g_vret C dX11_init_178 (by decide) (by decide) ?_
  have e9 := bh_mh (E := E) (o := o) (h := h) (ad := fun k => match k with | 3 => q3 | 4 => q4 | 5 => q5 | 6 => q6 | 7 => q7 | 8 => q8 | 10 => q10 | 11 => q11 | 12 => q12 | 14 => q14 | 20 => q20 | 21 => q21 | 22 => q22 | 25 => q25 | 28 => q28 | 29 => q29 | 30 => q30 | _ => 0) (F := mF0) (A := mA0) (L := [(q3, .inl (E.2.2 1, 30, .inl (fun _ => 0))), (q4, .inl (E.2.2 1, 30, .inl (fun _ => 0))), (q5, .inl (E.2.2 1, 30, .inl (fun _ => 0))), (q6, .inl (E.2.2 1, 30, .inl (fun _ => 0))), (q7, .inl (E.2.2 1, 30, .inl (fun _ => 0))), (q8, .inl (E.2.2 1, 30, .inl (fun _ => 0))), (q10, .inl (E.2.2 1, 3, .inl ((upd (upd (upd (fun _ => 0) 0 0) 1 1000) 2 0)))), (q11, .inl (E.2.2 1, 7, .inl (fun _ => 0))), (q12, .inl (E.2.2 1, 7, .inl (fun _ => 0))), (q14, .inl (E.2.2 0, 400, .inl (fun _ => 0))), (q20, .inl (E.2.2 1, 5, .inl (fun _ => 0))), (q21, .inl (E.2.2 1, 600, .inl (fun _ => 0))), (q22, .inl (E.2.2 1, 360, .inl (fun _ => 0))), (q25, .inl (E.2.2 1, 6, .inl (fun _ => 0))), (q28, .inl (E.2.2 2, 80, .inl (fun _ => 0))), (q29, .inl (E.2.2 1, 6400, .inl (fun _ => 0))), (q30, .inl (E.2.2 1, 6400, .inl (fun _ => 0)))]) (fs := [.int 0, .int 0, .int 20, .ref q3, .ref q4, .ref q5, .ref q6, .ref q7, .ref q8, .int 0, .ref q10, .ref q11, .ref q12, .int 0, .ref q14, .int 0, .int 0, .int 0, .int 0, .int (-1), .ref q20, .ref q21, .ref q22, .int 0, .int 0, .ref q25, .int 1, .int 1, .ref q28, .ref q29, .ref q30]) rfl rfl
  rw [e9]
  exact hp _ (mI_of hA) (fun k hk => by
    simp only [mSl, List.mem_cons, List.not_mem_nil, or_false] at hk
    rcases hk with rfl | rfl | rfl | rfl | rfl | rfl | rfl | rfl | rfl | rfl | rfl | rfl | rfl | rfl | rfl | rfl | rfl <;> assumption)
