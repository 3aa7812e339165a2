/-! THE LAW'S WORLD AT ITS START -/
theorem wV_m0 {L : List (Nat → Option va_E)} {c : Nat} {g : Nat → va_E} (i : Nat) (h : L[c]? = some (many9 0 g)) : wV L c i = none := by
  unfold wV
  rw [List.getD_eq_getElem?_getD, h]
  show (if i < 0 then some (g i) else none) = none
  rw [if_neg (Nat.not_lt_zero i)]
theorem mar_in {E : Ev} {A : Nat → Nat → Int32} {k : Nat} {e : va_E} (h : mar E A k = some e) : k ∈ mSl := by
  unfold mar at h
  split at h <;> first | decide | (cases h)
theorem mar_in2 {E : Ev} {A : Nat → Nat → Int32} {k : Nat} (h : mar E A k ≠ none) : k ∈ mSl := by
  obtain ⟨e, he⟩ := Option.ne_none_iff_exists'.mp h
  exact mar_in he
theorem s_hit {E : Ev} {adm : Nat → Nat} {o ou : Nat} {L : List (Nat × va_E)} {h : AH} {F : Nat → Int32} {A : Nat → Nat → Int32} (N : lA L) (hI : mI o adm) (hf : ∀ k ∈ mSl, LW L h (adm k) = none) (ho : LW L h o = none) (hou : mh E o adm F A (LW L h) ou = none) (e : va_E) :
    hset (mh E o adm F A (LW L h)) ou e ou = some e ∧ hset (mh E o adm F A (LW L h)) ou e o = some (.inr (11, mfs adm F)) ∧ (∀ k ∈ mSl, hset (mh E o adm F A (LW L h)) ou e (adm k) = mar E A k) ∧ (∀ (i a : Nat) (e9 : va_E), L[i]? = some (a, e9) → hset (mh E o adm F A (LW L h)) ou e a = some e9) ∧ (o ≠ ou ∧ (∀ k ∈ mSl, adm k ≠ ou) ∧ ∀ (i a : Nat) (e9 : va_E), L[i]? = some (a, e9) → a ≠ ou ∧ a ≠ o ∧ ∀ k ∈ mSl, adm k ≠ a) := by
  have h1 : o ≠ ou := fun z => by rw [← z, mh_o] at hou; cases hou
  have h2 : ∀ k ∈ mSl, adm k ≠ ou := fun k hk z => by rw [← z, mh_a hI hk, mar_some E A k hk] at hou; cases hou
  have h3 : ∀ (i a : Nat) (e9 : va_E), L[i]? = some (a, e9) → a ≠ o ∧ ∀ k ∈ mSl, adm k ≠ a := fun i a e9 hi => by
    have q := LW_at (h := h) N i hi
    exact ⟨fun z => (by rw [z, ho] at q; cases q), fun k hk z => (by rw [← z, hf k hk] at q; cases q)⟩
  have h4 : ∀ (i a : Nat) (e9 : va_E), L[i]? = some (a, e9) → mh E o adm F A (LW L h) a = some e9 := fun i a e9 hi => by
    unfold mh
    rw [if_neg (h3 i a e9 hi).1, List.find?_eq_none.mpr (fun k hk z => (h3 i a e9 hi).2 k hk (by simpa using z))]
    exact LW_at N i hi
  have h5 : ∀ (i a : Nat) (e9 : va_E), L[i]? = some (a, e9) → a ≠ ou := fun i a e9 hi z => by
    have q := h4 i a e9 hi
    rw [z, hou] at q
    cases q
  exact ⟨hset_same _ _ _, (hset_ne _ _ h1).trans mh_o, fun k hk => (hset_ne _ _ (h2 k hk)).trans (mh_a hI hk), fun i a e9 hi => (hset_ne _ _ (h5 i a e9 hi)).trans (h4 i a e9 hi), h1, h2, fun i a e9 hi => ⟨h5 i a e9 hi, h3 i a e9 hi⟩⟩
def sJ (adm : Nat → Nat) (o ou : Nat) (L : List (Nat × va_E)) : Nat → Nat × Nat := fun b => if b = ou then (30, 0) else if b = o then (31, 0) else match mSl.find? (fun k => adm k == b) with
  | some k => (32, k)
  | none => match L.find? (fun q => q.1 == b) with
    | some (_, .inr (c, _)) => (c, 0)
    | _ => (99, 0)
theorem sJ_m {adm : Nat → Nat} {o ou : Nat} {L : List (Nat × va_E)} (hI : mI o adm) (h : ∀ k ∈ mSl, adm k ≠ ou) {k : Nat} (hk : k ∈ mSl) : sJ adm o ou L (adm k) = (32, k) := by
  unfold sJ
  rw [if_neg (h k hk), if_neg (hI.1 k hk)]
  have : mSl.find? (fun j => adm j == adm k) = some k := by
    cases f : mSl.find? (fun j => adm j == adm k) with
    | none => exact absurd (beq_self_eq_true (adm k)) (List.find?_eq_none.mp f k hk)
    | some j => rw [hI.2 j (List.mem_of_find?_eq_some f) k hk (by simpa using List.find?_some f)]
  rw [this]
theorem sJ_l {adm : Nat → Nat} {o ou : Nat} {L : List (Nat × va_E)} (N : lA L) {i a c : Nat} {vs : List Value} (hi : L[i]? = some (a, .inr (c, vs))) (h : a ≠ ou ∧ a ≠ o ∧ ∀ k ∈ mSl, adm k ≠ a) : sJ adm o ou L a = (c, 0) := by
  unfold sJ
  rw [if_neg h.1, if_neg h.2.1, List.find?_eq_none.mpr (fun k hk z => h.2.2 k hk (by simpa using z)), lfind N hi]
def sad (E : Ev) (adm : Nat → Nat) (o ou x t b k al le gr lw mk al2 hd9 ag u g fl cl wo fe : Nat) : Nat → Nat → Nat := fun c i => match c, i with
  | 0, _ => x
  | 1, _ => t
  | 2, _ => b
  | 3, _ => k
  | 4, _ => al
  | 6, _ => le
  | 7, _ => gr
  | 8, _ => lw
  | 10, _ => mk
  | 11, _ => al2
  | 13, _ => hd9
  | 14, _ => ag
  | 15, _ => u
  | 20, _ => g
  | 21, _ => fl
  | 22, _ => cl
  | 23, _ => wo
  | 24, _ => fe
  | 30, _ => ou
  | 31, _ => o
  | 32, i => adm i
  | _, _ => E.2.2 10
set_option maxHeartbeats 4000000 in
theorem w_start {E : Ev} {adm : Nat → Nat} {o ou x t b k al le gr lw mk al2 hd9 ag u g fl cl wo fe : Nat} {h : AH} (N : lA [(x, dE), (t, dE), (b, dE), (k, dE), (al, dE), (le, dE), (gr, dE), (lw, dE), (mk, dE), (al2, dE), (hd9, dE), (ag, dE), (u, dE), (g, dE), (fl, dE), (cl, dE), (wo, dE), (fe, dE)]) (hI : mI o adm) (hf : ∀ k9 ∈ mSl, LW [(x, (.inr (10, [.ref t, .ref k, .ref mk, .ref g, .int (-1)]))), (t, .inr (9, [.ref b, .int 0])), (b, .inl (E.2.2 0, 400, .inl (fun _ => 0))), (k, (.inr (2, [.ref al, .ref le, .ref gr, .ref lw, .int 20, .int 0]))), (al, (.inr (0, [.int 0, .ref (E.2.2 10), .int 0]))), (le, .inl (E.2.2 1, 96, .inl (fun _ => 0))), (gr, .inl (E.2.2 1, 96, .inl (flf (fun _ => 0) 100 96))), (lw, .inr (3, [.int 0, .int 1000, .int 0])), (mk, (.inr (4, [.ref al2, .ref hd9, .ref ag, .int 0, .int 0]))), (al2, (.inr (0, [.int 0, .ref (E.2.2 10), .int 0]))), (hd9, .inl (E.2.2 1, 6, .inl (fun _ => 0))), (ag, .inr (1, [.ref u, .int 0, .int 0])), (u, .inl (E.2.2 1, 6, .inl (fun _ => 0))), (g, (.inr (7, [.ref fl, .ref cl, .ref wo, .ref fe, .int 1, .int 1, .int 0]))), (fl, .inl (E.2.2 2, 80, .inl (fun _ => 0))), (cl, .inl (E.2.2 2, 1980, .inl (fun _ => 0))), (wo, .inl (E.2.2 1, 1980, .inl (fun _ => 0))), (fe, .inl (E.2.2 1, 1980, .inl (fun _ => 0)))] h (adm k9) = none) (ho : LW [(x, (.inr (10, [.ref t, .ref k, .ref mk, .ref g, .int (-1)]))), (t, .inr (9, [.ref b, .int 0])), (b, .inl (E.2.2 0, 400, .inl (fun _ => 0))), (k, (.inr (2, [.ref al, .ref le, .ref gr, .ref lw, .int 20, .int 0]))), (al, (.inr (0, [.int 0, .ref (E.2.2 10), .int 0]))), (le, .inl (E.2.2 1, 96, .inl (fun _ => 0))), (gr, .inl (E.2.2 1, 96, .inl (flf (fun _ => 0) 100 96))), (lw, .inr (3, [.int 0, .int 1000, .int 0])), (mk, (.inr (4, [.ref al2, .ref hd9, .ref ag, .int 0, .int 0]))), (al2, (.inr (0, [.int 0, .ref (E.2.2 10), .int 0]))), (hd9, .inl (E.2.2 1, 6, .inl (fun _ => 0))), (ag, .inr (1, [.ref u, .int 0, .int 0])), (u, .inl (E.2.2 1, 6, .inl (fun _ => 0))), (g, (.inr (7, [.ref fl, .ref cl, .ref wo, .ref fe, .int 1, .int 1, .int 0]))), (fl, .inl (E.2.2 2, 80, .inl (fun _ => 0))), (cl, .inl (E.2.2 2, 1980, .inl (fun _ => 0))), (wo, .inl (E.2.2 1, 1980, .inl (fun _ => 0))), (fe, .inl (E.2.2 1, 1980, .inl (fun _ => 0)))] h o = none) (hou : mh E o adm mF0 mA0 (LW [(x, (.inr (10, [.ref t, .ref k, .ref mk, .ref g, .int (-1)]))), (t, .inr (9, [.ref b, .int 0])), (b, .inl (E.2.2 0, 400, .inl (fun _ => 0))), (k, (.inr (2, [.ref al, .ref le, .ref gr, .ref lw, .int 20, .int 0]))), (al, (.inr (0, [.int 0, .ref (E.2.2 10), .int 0]))), (le, .inl (E.2.2 1, 96, .inl (fun _ => 0))), (gr, .inl (E.2.2 1, 96, .inl (flf (fun _ => 0) 100 96))), (lw, .inr (3, [.int 0, .int 1000, .int 0])), (mk, (.inr (4, [.ref al2, .ref hd9, .ref ag, .int 0, .int 0]))), (al2, (.inr (0, [.int 0, .ref (E.2.2 10), .int 0]))), (hd9, .inl (E.2.2 1, 6, .inl (fun _ => 0))), (ag, .inr (1, [.ref u, .int 0, .int 0])), (u, .inl (E.2.2 1, 6, .inl (fun _ => 0))), (g, (.inr (7, [.ref fl, .ref cl, .ref wo, .ref fe, .int 1, .int 1, .int 0]))), (fl, .inl (E.2.2 2, 80, .inl (fun _ => 0))), (cl, .inl (E.2.2 2, 1980, .inl (fun _ => 0))), (wo, .inl (E.2.2 1, 1980, .inl (fun _ => 0))), (fe, .inl (E.2.2 1, 1980, .inl (fun _ => 0)))] h) ou = none) :
    WI E x o ou mF0 mA0 0 0 mF0 mA0 (hset (mh E o adm mF0 mA0 (LW [(x, (.inr (10, [.ref t, .ref k, .ref mk, .ref g, .int (-1)]))), (t, .inr (9, [.ref b, .int 0])), (b, .inl (E.2.2 0, 400, .inl (fun _ => 0))), (k, (.inr (2, [.ref al, .ref le, .ref gr, .ref lw, .int 20, .int 0]))), (al, (.inr (0, [.int 0, .ref (E.2.2 10), .int 0]))), (le, .inl (E.2.2 1, 96, .inl (fun _ => 0))), (gr, .inl (E.2.2 1, 96, .inl (flf (fun _ => 0) 100 96))), (lw, .inr (3, [.int 0, .int 1000, .int 0])), (mk, (.inr (4, [.ref al2, .ref hd9, .ref ag, .int 0, .int 0]))), (al2, (.inr (0, [.int 0, .ref (E.2.2 10), .int 0]))), (hd9, .inl (E.2.2 1, 6, .inl (fun _ => 0))), (ag, .inr (1, [.ref u, .int 0, .int 0])), (u, .inl (E.2.2 1, 6, .inl (fun _ => 0))), (g, (.inr (7, [.ref fl, .ref cl, .ref wo, .ref fe, .int 1, .int 1, .int 0]))), (fl, .inl (E.2.2 2, 80, .inl (fun _ => 0))), (cl, .inl (E.2.2 2, 1980, .inl (fun _ => 0))), (wo, .inl (E.2.2 1, 1980, .inl (fun _ => 0))), (fe, .inl (E.2.2 1, 1980, .inl (fun _ => 0)))] h)) ou (olE E (fun _ => 0))) := by
  have N1 : lA [(x, (.inr (10, [.ref t, .ref k, .ref mk, .ref g, .int (-1)]))), (t, .inr (9, [.ref b, .int 0])), (b, .inl (E.2.2 0, 400, .inl (fun _ => 0))), (k, (.inr (2, [.ref al, .ref le, .ref gr, .ref lw, .int 20, .int 0]))), (al, (.inr (0, [.int 0, .ref (E.2.2 10), .int 0]))), (le, .inl (E.2.2 1, 96, .inl (fun _ => 0))), (gr, .inl (E.2.2 1, 96, .inl (flf (fun _ => 0) 100 96))), (lw, .inr (3, [.int 0, .int 1000, .int 0])), (mk, (.inr (4, [.ref al2, .ref hd9, .ref ag, .int 0, .int 0]))), (al2, (.inr (0, [.int 0, .ref (E.2.2 10), .int 0]))), (hd9, .inl (E.2.2 1, 6, .inl (fun _ => 0))), (ag, .inr (1, [.ref u, .int 0, .int 0])), (u, .inl (E.2.2 1, 6, .inl (fun _ => 0))), (g, (.inr (7, [.ref fl, .ref cl, .ref wo, .ref fe, .int 1, .int 1, .int 0]))), (fl, .inl (E.2.2 2, 80, .inl (fun _ => 0))), (cl, .inl (E.2.2 2, 1980, .inl (fun _ => 0))), (wo, .inl (E.2.2 1, 1980, .inl (fun _ => 0))), (fe, .inl (E.2.2 1, 1980, .inl (fun _ => 0)))] := N
  have N2 : lA [(x, (.inr (0, []) : va_E)), (t, (.inr (1, []) : va_E)), (b, (.inr (2, []) : va_E)), (k, (.inr (3, []) : va_E)), (al, (.inr (4, []) : va_E)), (le, (.inr (6, []) : va_E)), (gr, (.inr (7, []) : va_E)), (lw, (.inr (8, []) : va_E)), (mk, (.inr (10, []) : va_E)), (al2, (.inr (11, []) : va_E)), (hd9, (.inr (13, []) : va_E)), (ag, (.inr (14, []) : va_E)), (u, (.inr (15, []) : va_E)), (g, (.inr (20, []) : va_E)), (fl, (.inr (21, []) : va_E)), (cl, (.inr (22, []) : va_E)), (wo, (.inr (23, []) : va_E)), (fe, (.inr (24, []) : va_E))] := N
  obtain ⟨g1, g2, g3, g4, g5, g6, g7⟩ := s_hit N1 hI hf ho hou (olE E (fun _ => 0))
  have gJ : ∀ (i a c : Nat), ([(x, (.inr (0, []) : va_E)), (t, (.inr (1, []) : va_E)), (b, (.inr (2, []) : va_E)), (k, (.inr (3, []) : va_E)), (al, (.inr (4, []) : va_E)), (le, (.inr (6, []) : va_E)), (gr, (.inr (7, []) : va_E)), (lw, (.inr (8, []) : va_E)), (mk, (.inr (10, []) : va_E)), (al2, (.inr (11, []) : va_E)), (hd9, (.inr (13, []) : va_E)), (ag, (.inr (14, []) : va_E)), (u, (.inr (15, []) : va_E)), (g, (.inr (20, []) : va_E)), (fl, (.inr (21, []) : va_E)), (cl, (.inr (22, []) : va_E)), (wo, (.inr (23, []) : va_E)), (fe, (.inr (24, []) : va_E))] : List (Nat × va_E))[i]? = some (a, .inr (c, [])) → sJ adm o ou [(x, (.inr (0, []) : va_E)), (t, (.inr (1, []) : va_E)), (b, (.inr (2, []) : va_E)), (k, (.inr (3, []) : va_E)), (al, (.inr (4, []) : va_E)), (le, (.inr (6, []) : va_E)), (gr, (.inr (7, []) : va_E)), (lw, (.inr (8, []) : va_E)), (mk, (.inr (10, []) : va_E)), (al2, (.inr (11, []) : va_E)), (hd9, (.inr (13, []) : va_E)), (ag, (.inr (14, []) : va_E)), (u, (.inr (15, []) : va_E)), (g, (.inr (20, []) : va_E)), (fl, (.inr (21, []) : va_E)), (cl, (.inr (22, []) : va_E)), (wo, (.inr (23, []) : va_E)), (fe, (.inr (24, []) : va_E))] a = (c, 0) := fun i a c hi => by
    have hk : ∃ e9, ([(x, (.inr (10, [.ref t, .ref k, .ref mk, .ref g, .int (-1)]))), (t, .inr (9, [.ref b, .int 0])), (b, .inl (E.2.2 0, 400, .inl (fun _ => 0))), (k, (.inr (2, [.ref al, .ref le, .ref gr, .ref lw, .int 20, .int 0]))), (al, (.inr (0, [.int 0, .ref (E.2.2 10), .int 0]))), (le, .inl (E.2.2 1, 96, .inl (fun _ => 0))), (gr, .inl (E.2.2 1, 96, .inl (flf (fun _ => 0) 100 96))), (lw, .inr (3, [.int 0, .int 1000, .int 0])), (mk, (.inr (4, [.ref al2, .ref hd9, .ref ag, .int 0, .int 0]))), (al2, (.inr (0, [.int 0, .ref (E.2.2 10), .int 0]))), (hd9, .inl (E.2.2 1, 6, .inl (fun _ => 0))), (ag, .inr (1, [.ref u, .int 0, .int 0])), (u, .inl (E.2.2 1, 6, .inl (fun _ => 0))), (g, (.inr (7, [.ref fl, .ref cl, .ref wo, .ref fe, .int 1, .int 1, .int 0]))), (fl, .inl (E.2.2 2, 80, .inl (fun _ => 0))), (cl, .inl (E.2.2 2, 1980, .inl (fun _ => 0))), (wo, .inl (E.2.2 1, 1980, .inl (fun _ => 0))), (fe, .inl (E.2.2 1, 1980, .inl (fun _ => 0)))] : List (Nat × va_E))[i]? = some (a, e9) := by
      have q : (([(x, (.inr (0, []) : va_E)), (t, (.inr (1, []) : va_E)), (b, (.inr (2, []) : va_E)), (k, (.inr (3, []) : va_E)), (al, (.inr (4, []) : va_E)), (le, (.inr (6, []) : va_E)), (gr, (.inr (7, []) : va_E)), (lw, (.inr (8, []) : va_E)), (mk, (.inr (10, []) : va_E)), (al2, (.inr (11, []) : va_E)), (hd9, (.inr (13, []) : va_E)), (ag, (.inr (14, []) : va_E)), (u, (.inr (15, []) : va_E)), (g, (.inr (20, []) : va_E)), (fl, (.inr (21, []) : va_E)), (cl, (.inr (22, []) : va_E)), (wo, (.inr (23, []) : va_E)), (fe, (.inr (24, []) : va_E))] : List (Nat × va_E)).map Prod.fst)[i]? = some a := by rw [List.getElem?_map, hi]; rfl
      have q2 : (([(x, (.inr (10, [.ref t, .ref k, .ref mk, .ref g, .int (-1)]))), (t, .inr (9, [.ref b, .int 0])), (b, .inl (E.2.2 0, 400, .inl (fun _ => 0))), (k, (.inr (2, [.ref al, .ref le, .ref gr, .ref lw, .int 20, .int 0]))), (al, (.inr (0, [.int 0, .ref (E.2.2 10), .int 0]))), (le, .inl (E.2.2 1, 96, .inl (fun _ => 0))), (gr, .inl (E.2.2 1, 96, .inl (flf (fun _ => 0) 100 96))), (lw, .inr (3, [.int 0, .int 1000, .int 0])), (mk, (.inr (4, [.ref al2, .ref hd9, .ref ag, .int 0, .int 0]))), (al2, (.inr (0, [.int 0, .ref (E.2.2 10), .int 0]))), (hd9, .inl (E.2.2 1, 6, .inl (fun _ => 0))), (ag, .inr (1, [.ref u, .int 0, .int 0])), (u, .inl (E.2.2 1, 6, .inl (fun _ => 0))), (g, (.inr (7, [.ref fl, .ref cl, .ref wo, .ref fe, .int 1, .int 1, .int 0]))), (fl, .inl (E.2.2 2, 80, .inl (fun _ => 0))), (cl, .inl (E.2.2 2, 1980, .inl (fun _ => 0))), (wo, .inl (E.2.2 1, 1980, .inl (fun _ => 0))), (fe, .inl (E.2.2 1, 1980, .inl (fun _ => 0)))] : List (Nat × va_E)).map Prod.fst)[i]? = some a := q
      rw [List.getElem?_map] at q2
      obtain ⟨w, hw, e⟩ := Option.map_eq_some_iff.mp q2
      exact ⟨w.2, by rw [hw, ← e]⟩
    obtain ⟨e9, he9⟩ := hk
    exact sJ_l N2 hi (g7 i a e9 he9)
  have Q1 : ∀ c i e, wV (wL E (sad E adm o ou x t b k al le gr lw mk al2 hd9 ag u g fl cl wo fe) mF0 mA0 (fun c _ => if c = 7 then flf (fun _ => 0) 100 96 else fun _ => 0) (fun _ => 0) (fun _ => 0) (fun _ _ => none) 0 0 mF0 mA0 (fun _ => 0)) c i = some e → hset (mh E o adm mF0 mA0 (LW [(x, (.inr (10, [.ref t, .ref k, .ref mk, .ref g, .int (-1)]))), (t, .inr (9, [.ref b, .int 0])), (b, .inl (E.2.2 0, 400, .inl (fun _ => 0))), (k, (.inr (2, [.ref al, .ref le, .ref gr, .ref lw, .int 20, .int 0]))), (al, (.inr (0, [.int 0, .ref (E.2.2 10), .int 0]))), (le, .inl (E.2.2 1, 96, .inl (fun _ => 0))), (gr, .inl (E.2.2 1, 96, .inl (flf (fun _ => 0) 100 96))), (lw, .inr (3, [.int 0, .int 1000, .int 0])), (mk, (.inr (4, [.ref al2, .ref hd9, .ref ag, .int 0, .int 0]))), (al2, (.inr (0, [.int 0, .ref (E.2.2 10), .int 0]))), (hd9, .inl (E.2.2 1, 6, .inl (fun _ => 0))), (ag, .inr (1, [.ref u, .int 0, .int 0])), (u, .inl (E.2.2 1, 6, .inl (fun _ => 0))), (g, (.inr (7, [.ref fl, .ref cl, .ref wo, .ref fe, .int 1, .int 1, .int 0]))), (fl, .inl (E.2.2 2, 80, .inl (fun _ => 0))), (cl, .inl (E.2.2 2, 1980, .inl (fun _ => 0))), (wo, .inl (E.2.2 1, 1980, .inl (fun _ => 0))), (fe, .inl (E.2.2 1, 1980, .inl (fun _ => 0)))] h)) ou (olE E (fun _ => 0)) (sad E adm o ou x t b k al le gr lw mk al2 hd9 ag u g fl cl wo fe c i) = some e := fun c i e hv => match c, i, hv with
  | 0, 0, hv => (g4 0 x _ rfl).trans hv
  | 0, i + 1, hv => absurd hv (fun z => nomatch z)
  | 1, 0, hv => (g4 1 t _ rfl).trans hv
  | 1, i + 1, hv => absurd hv (fun z => nomatch z)
  | 2, 0, hv => (g4 2 b _ rfl).trans hv
  | 2, i + 1, hv => absurd hv (fun z => nomatch z)
  | 3, 0, hv => (g4 3 k _ rfl).trans hv
  | 3, i + 1, hv => absurd hv (fun z => nomatch z)
  | 4, 0, hv => (g4 4 al _ rfl).trans hv
  | 4, i + 1, hv => absurd hv (fun z => nomatch z)
  | 5, i, hv => absurd hv (fun z => nomatch z)
  | 6, 0, hv => (g4 5 le _ rfl).trans hv
  | 6, i + 1, hv => absurd hv (fun z => nomatch z)
  | 7, 0, hv => (g4 6 gr _ rfl).trans hv
  | 7, i + 1, hv => absurd hv (fun z => nomatch z)
  | 8, 0, hv => (g4 7 lw _ rfl).trans hv
  | 8, i + 1, hv => absurd hv (fun z => nomatch z)
  | 9, i, hv => absurd (hv.symm.trans (wV_m0 i rfl)) (fun z => nomatch z)
  | 10, 0, hv => (g4 8 mk _ rfl).trans hv
  | 10, i + 1, hv => absurd hv (fun z => nomatch z)
  | 11, 0, hv => (g4 9 al2 _ rfl).trans hv
  | 11, i + 1, hv => absurd hv (fun z => nomatch z)
  | 12, i, hv => absurd hv (fun z => nomatch z)
  | 13, 0, hv => (g4 10 hd9 _ rfl).trans hv
  | 13, i + 1, hv => absurd hv (fun z => nomatch z)
  | 14, 0, hv => (g4 11 ag _ rfl).trans hv
  | 14, i + 1, hv => absurd hv (fun z => nomatch z)
  | 15, 0, hv => (g4 12 u _ rfl).trans hv
  | 15, i + 1, hv => absurd hv (fun z => nomatch z)
  | 16, i, hv => absurd (hv.symm.trans (wV_m0 i rfl)) (fun z => nomatch z)
  | 17, i, hv => absurd (hv.symm.trans (wV_m0 i rfl)) (fun z => nomatch z)
  | 18, i, hv => absurd (hv.symm.trans (wV_m0 i rfl)) (fun z => nomatch z)
  | 19, i, hv => absurd hv (fun z => nomatch z)
  | 20, 0, hv => (g4 13 g _ rfl).trans hv
  | 20, i + 1, hv => absurd hv (fun z => nomatch z)
  | 21, 0, hv => (g4 14 fl _ rfl).trans hv
  | 21, i + 1, hv => absurd hv (fun z => nomatch z)
  | 22, 0, hv => (g4 15 cl _ rfl).trans hv
  | 22, i + 1, hv => absurd hv (fun z => nomatch z)
  | 23, 0, hv => (g4 16 wo _ rfl).trans hv
  | 23, i + 1, hv => absurd hv (fun z => nomatch z)
  | 24, 0, hv => (g4 17 fe _ rfl).trans hv
  | 24, i + 1, hv => absurd hv (fun z => nomatch z)
  | 25, i, hv => absurd hv (fun z => nomatch z)
  | 26, i, hv => absurd hv (fun z => nomatch z)
  | 27, i, hv => absurd hv (fun z => nomatch z)
  | 28, i, hv => absurd hv (fun z => nomatch z)
  | 29, i, hv => absurd hv (fun z => nomatch z)
  | 30, 0, hv => g1.trans hv
  | 30, i + 1, hv => absurd hv (fun z => nomatch z)
  | 31, 0, hv => g2.trans hv
  | 31, i + 1, hv => absurd hv (fun z => nomatch z)
  | 32, i, hv => (g3 i (mar_in (show mar E mA0 i = some e from hv))).trans hv
  | c + 33, i, hv => absurd hv (fun z => nomatch z)
  have Q2 : ∀ c i, wV (wL E (sad E adm o ou x t b k al le gr lw mk al2 hd9 ag u g fl cl wo fe) mF0 mA0 (fun c _ => if c = 7 then flf (fun _ => 0) 100 96 else fun _ => 0) (fun _ => 0) (fun _ => 0) (fun _ _ => none) 0 0 mF0 mA0 (fun _ => 0)) c i ≠ none → sJ adm o ou [(x, (.inr (0, []) : va_E)), (t, (.inr (1, []) : va_E)), (b, (.inr (2, []) : va_E)), (k, (.inr (3, []) : va_E)), (al, (.inr (4, []) : va_E)), (le, (.inr (6, []) : va_E)), (gr, (.inr (7, []) : va_E)), (lw, (.inr (8, []) : va_E)), (mk, (.inr (10, []) : va_E)), (al2, (.inr (11, []) : va_E)), (hd9, (.inr (13, []) : va_E)), (ag, (.inr (14, []) : va_E)), (u, (.inr (15, []) : va_E)), (g, (.inr (20, []) : va_E)), (fl, (.inr (21, []) : va_E)), (cl, (.inr (22, []) : va_E)), (wo, (.inr (23, []) : va_E)), (fe, (.inr (24, []) : va_E))] (sad E adm o ou x t b k al le gr lw mk al2 hd9 ag u g fl cl wo fe c i) = (c, i) := fun c i hv => match c, i, hv with
  | 0, 0, hv => gJ 0 x 0 rfl
  | 0, i + 1, hv => absurd rfl hv
  | 1, 0, hv => gJ 1 t 1 rfl
  | 1, i + 1, hv => absurd rfl hv
  | 2, 0, hv => gJ 2 b 2 rfl
  | 2, i + 1, hv => absurd rfl hv
  | 3, 0, hv => gJ 3 k 3 rfl
  | 3, i + 1, hv => absurd rfl hv
  | 4, 0, hv => gJ 4 al 4 rfl
  | 4, i + 1, hv => absurd rfl hv
  | 5, i, hv => absurd rfl hv
  | 6, 0, hv => gJ 5 le 6 rfl
  | 6, i + 1, hv => absurd rfl hv
  | 7, 0, hv => gJ 6 gr 7 rfl
  | 7, i + 1, hv => absurd rfl hv
  | 8, 0, hv => gJ 7 lw 8 rfl
  | 8, i + 1, hv => absurd rfl hv
  | 9, i, hv => (hv (wV_m0 i rfl)).elim
  | 10, 0, hv => gJ 8 mk 10 rfl
  | 10, i + 1, hv => absurd rfl hv
  | 11, 0, hv => gJ 9 al2 11 rfl
  | 11, i + 1, hv => absurd rfl hv
  | 12, i, hv => absurd rfl hv
  | 13, 0, hv => gJ 10 hd9 13 rfl
  | 13, i + 1, hv => absurd rfl hv
  | 14, 0, hv => gJ 11 ag 14 rfl
  | 14, i + 1, hv => absurd rfl hv
  | 15, 0, hv => gJ 12 u 15 rfl
  | 15, i + 1, hv => absurd rfl hv
  | 16, i, hv => (hv (wV_m0 i rfl)).elim
  | 17, i, hv => (hv (wV_m0 i rfl)).elim
  | 18, i, hv => (hv (wV_m0 i rfl)).elim
  | 19, i, hv => absurd rfl hv
  | 20, 0, hv => gJ 13 g 20 rfl
  | 20, i + 1, hv => absurd rfl hv
  | 21, 0, hv => gJ 14 fl 21 rfl
  | 21, i + 1, hv => absurd rfl hv
  | 22, 0, hv => gJ 15 cl 22 rfl
  | 22, i + 1, hv => absurd rfl hv
  | 23, 0, hv => gJ 16 wo 23 rfl
  | 23, i + 1, hv => absurd rfl hv
  | 24, 0, hv => gJ 17 fe 24 rfl
  | 24, i + 1, hv => absurd rfl hv
  | 25, i, hv => absurd rfl hv
  | 26, i, hv => absurd rfl hv
  | 27, i, hv => absurd rfl hv
  | 28, i, hv => absurd rfl hv
  | 29, i, hv => absurd rfl hv
  | 30, 0, hv => if_pos rfl
  | 30, i + 1, hv => absurd rfl hv
  | 31, 0, hv => (by show sJ adm o ou _ o = _; unfold sJ; rw [if_neg g5, if_pos rfl])
  | 31, i + 1, hv => absurd rfl hv
  | 32, i, hv => sJ_m hI g6 (mar_in2 (show mar E mA0 i ≠ none from hv))
  | c + 33, i, hv => absurd rfl hv
  refine ⟨sad E adm o ou x t b k al le gr lw mk al2 hd9 ag u g fl cl wo fe, fun c _ => if c = 7 then flf (fun _ => 0) 100 96 else fun _ => 0, fun _ => 0, fun _ => 0, fun _ _ => none, fun _ => 0, ⟨Q1, fun c i d j h1 h2 e => ?_⟩, ?_, rfl, rfl, rfl⟩
  · have q := (Q2 c i h1).symm.trans ((congrArg _ e).trans (Q2 d j h2))
    exact ⟨congrArg Prod.fst q, congrArg Prod.snd q⟩
  · refine ⟨⟨rfl, by decide, rfl, by decide⟩, ⟨0, rfl, by decide⟩, fun k => ⟨(by decide : (-128 : Int) ≤ (0 : Int32).toInt), (by decide : (0 : Int32).toInt ≤ 127)⟩, fun s hs => ⟨rfl, ?_⟩, ⟨Nat.le_refl _, by decide, fun _ => rfl, fun i hi => absurd hi (Nat.not_lt_zero i)⟩, ⟨Nat.le_refl _, by decide, fun _ => rfl, fun i hi => absurd hi (Nat.not_lt_zero i)⟩, fun k _ _ => rfl, ⟨rfl, fun k _ _ => rfl⟩, ⟨fun _ k => rfl, Or.inl rfl, fun k _ _ => ⟨(by decide : (0 : Int32) ≤ 0), (by decide : (0 : Int32) ≤ 100)⟩, Or.inl rfl⟩, fun j hj => absurd hj (Nat.not_lt_zero j), ⟨rfl, fun i _ => rfl⟩, ⟨1, 1, rfl, rfl, by decide, by decide, by decide, by decide, Or.inl rfl, fun z => absurd rfl z⟩, fun i hi => absurd hi (Nat.not_lt_zero i), ⟨(by decide : (0 : Int32) ≤ 0), (by decide : (0 : Int32) ≤ 3000), (by decide : (0 : Int32) ≤ 0), (by decide : (0 : Int32) ≤ 10000000)⟩⟩
    show (if s < 96 then (100 : Int32) else 0) = 100
    rw [if_pos hs]
