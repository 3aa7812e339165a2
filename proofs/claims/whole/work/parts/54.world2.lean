theorem Wd.one {h : AH} {ad : Nat → Nat → Nat} {L : List (Nat → Option va_E)} (W : Wd h ad (wV L)) (c : Nat) {e0 : va_E} (e : va_E) (h0 : L[c]? = some (one9 e0)) : Wd (hset h (ad c 0) e) ad (wV (L.set c (one9 e))) := by
  rw [← wV_one e h0]
  exact W.set c 0 (e0 := e0) e (by show (L.getD c _) 0 = _; rw [List.getD_eq_getElem?_getD, h0]; rfl)
theorem Wd.onenew {h : AH} {ad : Nat → Nat → Nat} {L : List (Nat → Option va_E)} (W : Wd h ad (wV L)) (c : Nat) {e0 : va_E} {q : Nat} (e : va_E) (hq : h q = none) (h0 : L[c]? = some (one9 e0)) : Wd (hset h q e) (adset ad c 0 q) (wV (L.set c (one9 e))) := by
  rw [← wV_one e h0]
  exact W.new c 0 e hq
theorem Wd.many {h : AH} {ad : Nat → Nat → Nat} {L : List (Nat → Option va_E)} (W : Wd h ad (wV L)) (c : Nat) {j n : Nat} {g : Nat → va_E} (g' : Nat → va_E) (e : va_E) (h0 : L[c]? = some (many9 n g)) (hj : j < n) (hg : ∀ i, i < n → i ≠ j → g' i = g i) (he : g' j = e) : Wd (hset h (ad c j) e) ad (wV (L.set c (many9 n g'))) := by
  rw [← wV_many e h0 hj (Or.inl rfl) hg he]
  exact W.set c j (e0 := g j) e (by show (L.getD c _) j = _; rw [List.getD_eq_getElem?_getD, h0]; exact many_at hj)
theorem Wd.manynew {h : AH} {ad : Nat → Nat → Nat} {L : List (Nat → Option va_E)} (W : Wd h ad (wV L)) (c : Nat) {n q : Nat} {g : Nat → va_E} (g' : Nat → va_E) (e : va_E) (hq : h q = none) (h0 : L[c]? = some (many9 n g)) (hg : ∀ i, i < n → g' i = g i) (he : g' n = e) : Wd (hset h q e) (adset ad c n q) (wV (L.set c (many9 (n + 1) g'))) := by
  rw [← wV_many e h0 (Nat.lt_succ_self n) (Or.inr ⟨rfl, rfl⟩) (fun i hi hne => hg i (by omega)) he]
  exact W.new c n e hq
theorem Wd.lst {h : AH} {ad : Nat → Nat → Nat} {E : Ev} {L : List (Nat → Option va_E)} (W : Wd h ad (wV L)) (c : Nat) {N M : Nat} {f : Nat → Option Nat} (g : Nat → Option Nat) (h0 : L[c]? = some (lst9 E N f)) (hN : 1 ≤ N) (hM : 1 ≤ M) : Wd (hset h (ad c 0) (eQ E M g)) ad (wV (L.set c (lst9 E M g))) := by
  rw [← wV_lst h0 hM]
  exact W.set c 0 (e0 := eQ E N f) _ (by show (L.getD c _) 0 = _; rw [List.getD_eq_getElem?_getD, h0]; exact lst_at hN)
theorem Wd.lstnew {h : AH} {ad : Nat → Nat → Nat} {E : Ev} {L : List (Nat → Option va_E)} (W : Wd h ad (wV L)) (c : Nat) {N M q : Nat} {f : Nat → Option Nat} (g : Nat → Option Nat) (hq : h q = none) (h0 : L[c]? = some (lst9 E N f)) (hM : 1 ≤ M) : Wd (hset h q (eQ E M g)) (adset ad c 0 q) (wV (L.set c (lst9 E M g))) := by
  rw [← wV_lst h0 hM]
  exact W.new c 0 _ hq
section WX
variable {E : Ev} {h : AH} {ad : Nat → Nat → Nat} {F : Nat → Int32} {A : Nat → Nat → Int32} {R : Nat → Nat → Nat → Int32} {z : Nat → Int32} {N : Nat → Nat} {f : Nat → Nat → Option Nat} {n m : Nat} {Fm : Nat → Int32} {Am : Nat → Nat → Int32} {O : OL}
theorem w_list (W : Wd h ad (wV (wL E ad F A R z N f n m Fm Am O))) (X : CR E ad F A R z N f n m) : (n ≠ 0 → h (ad 5 0) = some (eQ E (N 0) (f 0))) ∧ n ≤ N 0 ∧ N 0 ≤ 100 ∧ cpits h A (f 0) (fun i => ad 9 i) n ∧ alF E h (ad 5 0) n (N 0) (f 0) := by
  obtain ⟨-, -, -, -, ⟨h1, h2, h3, h4⟩, -⟩ := X
  have h5 : 1 ≤ N 0 → h (ad 5 0) = some (eQ E (N 0) (f 0)) := fun q => W.at 5 0 (show lst9 E (N 0) (f 0) 0 = _ from lst_at q)
  have h6 : ∀ i, i < n → h (ad 9 i) = some (.inr (5, [.int (A 3 i), .int (A 4 i), .int (A 7 i), .int (A 8 i), .int (A 5 i), .int (A 6 i)])) := fun i hi => W.at 9 i (show many9 n (fun i => (.inr (5, [.int (A 3 i), .int (A 4 i), .int (A 7 i), .int (A 8 i), .int (A 5 i), .int (A 6 i)]) : va_E)) i = _ from many_at hi)
  refine ⟨fun q => h5 (by omega), h1, h2, fun i hi => ⟨h4 i hi, h6 i hi⟩, ?_, h1, h2, fun i y hi hy => ?_⟩
  · rcases Nat.eq_zero_or_pos (N 0) with q | q
    · exact Or.inl ⟨q, h3 q⟩
    · exact Or.inr ⟨q, h5 q⟩
  · rw [h4 i hi] at hy
    cases hy
    exact isO5 (h6 i hi)
theorem w_list2 (W : Wd h ad (wV (wL E ad F A R z N f n m Fm Am O))) (X : CR E ad F A R z N f n m) : (m ≠ 0 → h (ad 12 0) = some (eQ E (N 1) (f 1))) ∧ m ≤ N 1 ∧ N 1 ≤ 100 ∧ (∀ j, j < m → f 1 j = some (ad 16 j) ∧ h (ad 16 j) = some (.inr (8, [.int (A 21 (10 * j)), .int (A 21 (10 * j + 1)), .ref (ad 17 j), .ref (ad 18 j), .int (A 21 (10 * j + 2)), .int (A 21 (10 * j + 3))])) ∧ h (ad 17 j) = some (.inl (E.2.2 1, 6, .inl (R 17 j))) ∧ h (ad 18 j) = some (.inl (E.2.2 1, 6, .inl (R 18 j)))) ∧ alF E h (ad 12 0) m (N 1) (f 1) := by
  obtain ⟨-, -, -, -, -, ⟨h1, h2, h3, h4⟩, -⟩ := X
  have h5 : 1 ≤ N 1 → h (ad 12 0) = some (eQ E (N 1) (f 1)) := fun q => W.at 12 0 (show lst9 E (N 1) (f 1) 0 = _ from lst_at q)
  have h6 : ∀ j, j < m → h (ad 16 j) = some (.inr (8, [.int (A 21 (10 * j)), .int (A 21 (10 * j + 1)), .ref (ad 17 j), .ref (ad 18 j), .int (A 21 (10 * j + 2)), .int (A 21 (10 * j + 3))])) := fun j hj => W.at 16 j (show many9 m (fun j => (.inr (8, [.int (A 21 (10 * j)), .int (A 21 (10 * j + 1)), .ref (ad 17 j), .ref (ad 18 j), .int (A 21 (10 * j + 2)), .int (A 21 (10 * j + 3))]) : va_E)) j = _ from many_at hj)
  refine ⟨fun q => h5 (by omega), h1, h2, fun j hj => ⟨h4 j hj, h6 j hj, W.at 17 j (show many9 m (fun j => (.inl (E.2.2 1, 6, .inl (R 17 j)) : va_E)) j = _ from many_at hj), W.at 18 j (show many9 m (fun j => (.inl (E.2.2 1, 6, .inl (R 18 j)) : va_E)) j = _ from many_at hj)⟩, ?_, h1, h2, fun i y hi hy => ?_⟩
  · rcases Nat.eq_zero_or_pos (N 1) with q | q
    · exact Or.inl ⟨q, h3 q⟩
    · exact Or.inr ⟨q, h5 q⟩
  · rw [h4 i hi] at hy
    cases hy
    exact isO8 (h6 i hi)
/-- the heap, told as the reference's world over itself -/
theorem w_mh (W : Wd h ad (wV (wL E ad F A R z N f n m Fm Am O))) : h = mh E (ad 31 0) (ad 32) Fm Am h := by
  funext b
  unfold mh
  by_cases q : b = ad 31 0
  · rw [if_pos q, q]
    exact W.at 31 0 rfl
  · rw [if_neg q]
    cases e : mSl.find? (fun k => ad 32 k == b) with
    | none => rfl
    | some k =>
      have hb : ad 32 k = b := by simpa using List.find?_some e
      have hk := List.mem_of_find?_eq_some e
      show h b = mar E Am k
      rw [← hb, mar_some E Am k hk]
      exact W.at 32 k (show mar E Am k = _ from mar_some E Am k hk)
theorem w_mI (W : Wd h ad (wV (wL E ad F A R z N f n m Fm Am O))) : mI (ad 31 0) (ad 32) :=
  ⟨fun k hk => W.ne (show mar E Am k = _ from mar_some E Am k hk) (show wV (wL E ad F A R z N f n m Fm Am O) 31 0 = some (.inr (11, mfs (ad 32) Fm)) from rfl) (fun q _ => absurd q (by decide)), fun j hj k hk e => (W.2 32 j 32 k (by rw [show wV (wL E ad F A R z N f n m Fm Am O) 32 j = _ from mar_some E Am j hj]; exact fun z => nomatch z) (by rw [show wV (wL E ad F A R z N f n m Fm Am O) 32 k = _ from mar_some E Am k hk]; exact fun z => nomatch z) e).2⟩
theorem mar_none (E : Ev) (A B : Nat → Nat → Int32) (k : Nat) (h : mar E A k = none) : mar E B k = none := by
  unfold mar at h ⊢
  split at h <;> first | (cases h; done) | rfl
/-- .. and behind a call of it -/
theorem w_mh2 (W : Wd h ad (wV (wL E ad F A R z N f n m Fm Am O))) (F9 : Nat → Int32) (A9 : Nat → Nat → Int32) : Wd (mh E (ad 31 0) (ad 32) F9 A9 h) ad (wV (wL E ad F A R z N f n m F9 A9 O)) := by
  have key : ∀ c i, wV (wL E ad F A R z N f n m F9 A9 O) c i ≠ none → wV (wL E ad F A R z N f n m Fm Am O) c i ≠ none := by
    intro c i hq hn
    by_cases c1 : c = 31
    · subst c1
      cases i with
      | zero => exact absurd hn (fun z => nomatch z)
      | succ i => exact hq rfl
    · by_cases c2 : c = 32
      · subst c2
        exact hq (mar_none E Am A9 i hn)
      · refine hq (Eq.trans ?_ hn)
        unfold wV
        rw [List.getD_eq_getElem?_getD, List.getD_eq_getElem?_getD]
        rw [show (wL E ad F A R z N f n m F9 A9 O) = ((wL E ad F A R z N f n m Fm Am O).set 31 (one9 (.inr (11, mfs (ad 32) F9)))).set 32 (mar E A9) from rfl, List.getElem?_set_ne (fun z => c2 z.symm), List.getElem?_set_ne (fun z => c1 z.symm)]
  refine ⟨fun c i e he => ?_, fun c i d j h1 h2 => W.2 c i d j (key c i h1) (key d j h2)⟩
  have hne := key c i (by rw [he]; exact fun z => nomatch z)
  obtain ⟨e0, he0⟩ := Option.ne_none_iff_exists'.mp hne
  by_cases c1 : c = 31
  · subst c1
    cases i with
    | zero =>
      rw [mh_o]
      exact he
    | succ i => exact absurd he (fun z => nomatch z)
  · by_cases c2 : c = 32
    · subst c2
      have hk : i ∈ mSl := by
        have he2 : mar E A9 i = some e := he
        unfold mar at he2
        split at he2 <;> first | decide | (cases he2)
      rw [mh_a (w_mI W) hk]
      exact he
    · have hm : mh E (ad 31 0) (ad 32) F9 A9 h (ad c i) = h (ad c i) := by
        unfold mh
        rw [if_neg (W.ne he0 (show wV (wL E ad F A R z N f n m Fm Am O) 31 0 = some (.inr (11, mfs (ad 32) Fm)) from rfl) (fun q _ => c1 q))]
        have hnf : mSl.find? (fun k => ad 32 k == ad c i) = none := List.find?_eq_none.mpr (fun k hk q => W.ne he0 (show wV (wL E ad F A R z N f n m Fm Am O) 32 k = _ from mar_some E Am k hk) (fun q _ => c2 q) (by simpa using (beq_iff_eq.mp q).symm))
        rw [hnf]
      rw [hm]
      refine W.1 c i e (Eq.trans ?_ he)
      unfold wV
      rw [List.getD_eq_getElem?_getD, List.getD_eq_getElem?_getD]
      rw [show (wL E ad F A R z N f n m F9 A9 O) = ((wL E ad F A R z N f n m Fm Am O).set 31 (one9 (.inr (11, mfs (ad 32) F9)))).set 32 (mar E A9) from rfl, List.getElem?_set_ne (fun z => c2 z.symm), List.getElem?_set_ne (fun z => c1 z.symm)]
end WX
