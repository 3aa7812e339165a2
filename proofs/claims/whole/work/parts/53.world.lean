/-! THE WORLD of the law: roles (kind, number), their addresses ad, what stands there -/
abbrev OL : Type := Nat → Int64
abbrev olE (E : Ev) (O : OL) : va_E := .inl (E.2.2 4, 1, .inr (.inl O))
def one9 (e : va_E) : Nat → Option va_E := fun i => match i with
  | 0 => some e
  | _ => none
def lst9 (E : Ev) (N : Nat) (f : Nat → Option Nat) : Nat → Option va_E := fun i => match N, i with
  | k + 1, 0 => some (eQ E (k + 1) f)
  | _, _ => none
def many9 (n : Nat) (g : Nat → va_E) : Nat → Option va_E := fun i => if i < n then some (g i) else none
def wL (E : Ev) (ad : Nat → Nat → Nat) (F : Nat → Int32) (A : Nat → Nat → Int32) (R : Nat → Nat → Nat → Int32) (z : Nat → Int32) (N : Nat → Nat) (f : Nat → Nat → Option Nat) (n m : Nat) (Fm : Nat → Int32) (Am : Nat → Nat → Int32) (O : OL) : List (Nat → Option va_E) := [
  one9 (.inr (10, [.ref (ad 1 0), .ref (ad 3 0), .ref (ad 10 0), .ref (ad 20 0), .int (F 19)])),
  one9 (.inr (9, [.ref (ad 2 0), .int (F 15)])),
  one9 (.inl (E.2.2 0, 400, .inl (A 14))),
  one9 (.inr (2, [.ref (ad 4 0), .ref (ad 6 0), .ref (ad 7 0), .ref (ad 8 0), .int (F 2), .int (F 1)])),
  one9 (.inr (0, [.int (z 0), .ref (ad 5 0), .int (nI n)])),
  lst9 E (N 0) (f 0),
  one9 (.inl (E.2.2 1, 96, .inl (R 6 0))),
  one9 (.inl (E.2.2 1, 96, .inl (R 7 0))),
  one9 (.inr (3, [.int (A 10 0), .int (A 10 1), .int (A 10 2)])),
  many9 n (fun i => .inr (5, [.int (A 3 i), .int (A 4 i), .int (A 7 i), .int (A 8 i), .int (A 5 i), .int (A 6 i)])),
  one9 (.inr (4, [.ref (ad 11 0), .ref (ad 13 0), .ref (ad 14 0), .int (F 24), .int (z 3)])),
  one9 (.inr (0, [.int (z 1), .ref (ad 12 0), .int (nI m)])),
  lst9 E (N 1) (f 1),
  one9 (.inl (E.2.2 1, 6, .inl (R 13 0))),
  one9 (.inr (1, [.ref (ad 15 0), .int (A 11 0), .int (A 11 6)])),
  one9 (.inl (E.2.2 1, 6, .inl (R 15 0))),
  many9 m (fun j => .inr (8, [.int (A 21 (10 * j)), .int (A 21 (10 * j + 1)), .ref (ad 17 j), .ref (ad 18 j), .int (A 21 (10 * j + 2)), .int (A 21 (10 * j + 3))])),
  many9 m (fun j => .inl (E.2.2 1, 6, .inl (R 17 j))),
  many9 m (fun j => .inl (E.2.2 1, 6, .inl (R 18 j))),
  fun _ => none,
  one9 (.inr (7, [.ref (ad 21 0), .ref (ad 22 0), .ref (ad 23 0), .ref (ad 24 0), .int (F 26), .int (F 27), .int (z 2)])),
  one9 (.inl (E.2.2 2, 80, .inl (A 28))),
  one9 (.inl (E.2.2 2, 1980, .inl (R 22 0))),
  one9 (.inl (E.2.2 1, 1980, .inl (R 23 0))),
  one9 (.inl (E.2.2 1, 1980, .inl (R 24 0))),
  fun _ => none,
  fun _ => none,
  fun _ => none,
  fun _ => none,
  fun _ => none,
  one9 (olE E O),
  one9 (.inr (11, mfs (ad 32) Fm)),
  mar E Am]
def wV (L : List (Nat → Option va_E)) : Nat → Nat → Option va_E := fun c i => (L.getD c (fun _ => none)) i
def Wd (h : AH) (ad : Nat → Nat → Nat) (V : Nat → Nat → Option va_E) : Prop :=
  (∀ c i e, V c i = some e → h (ad c i) = some e) ∧ ∀ c i d j, V c i ≠ none → V d j ≠ none → ad c i = ad d j → c = d ∧ i = j
theorem Wd.at {h : AH} {ad : Nat → Nat → Nat} {V : Nat → Nat → Option va_E} (W : Wd h ad V) (c i : Nat) {e : va_E} (hv : V c i = some e) : h (ad c i) = some e := W.1 c i e hv
theorem Wd.ne {h : AH} {ad : Nat → Nat → Nat} {V : Nat → Nat → Option va_E} (W : Wd h ad V) {c i d j : Nat} {e e' : va_E} (hv : V c i = some e) (hw : V d j = some e') (hn : c = d → i = j → False) : ad c i ≠ ad d j := fun q => by
  obtain ⟨h1, h2⟩ := W.2 c i d j (by rw [hv]; exact fun z => nomatch z) (by rw [hw]; exact fun z => nomatch z) q
  exact hn h1 h2
def vset (V : Nat → Nat → Option va_E) (c i : Nat) (e : va_E) : Nat → Nat → Option va_E := fun a b => if a = c ∧ b = i then some e else V a b
theorem Wd.set {h : AH} {ad : Nat → Nat → Nat} {V : Nat → Nat → Option va_E} (W : Wd h ad V) (c i : Nat) {e0 : va_E} (e : va_E) (hv : V c i = some e0) : Wd (hset h (ad c i) e) ad (vset V c i e) := by
  have hV : ∀ a b, vset V c i e a b ≠ none → V a b ≠ none := fun a b q => by
    unfold vset at q
    by_cases q9 : a = c ∧ b = i
    · rw [q9.1, q9.2, hv]; exact fun y => nomatch y
    · rw [if_neg q9] at q; exact q
  refine ⟨fun a b e' he' => ?_, fun a b d j h1 h2 => W.2 a b d j (hV a b h1) (hV d j h2)⟩
  unfold vset at he'
  by_cases q : a = c ∧ b = i
  · rw [if_pos q] at he'
    rw [q.1, q.2, hset_same]
    exact he'
  · rw [if_neg q] at he'
    rw [hset_ne _ _ (W.ne he' hv (fun y1 y2 => q ⟨y1, y2⟩))]
    exact W.1 a b e' he'
def adset (ad : Nat → Nat → Nat) (c i q : Nat) : Nat → Nat → Nat := fun a b => if a = c ∧ b = i then q else ad a b
theorem Wd.new {h : AH} {ad : Nat → Nat → Nat} {V : Nat → Nat → Option va_E} (W : Wd h ad V) (c i : Nat) {q : Nat} (e : va_E) (hq : h q = none) : Wd (hset h q e) (adset ad c i q) (vset V c i e) := by
  have key : ∀ a b, ¬ (a = c ∧ b = i) → vset V c i e a b ≠ none → ∃ e', V a b = some e' ∧ ad a b ≠ q := fun a b n9 h1 => by
    unfold vset at h1
    rw [if_neg n9] at h1
    obtain ⟨e', he'⟩ := Option.ne_none_iff_exists'.mp h1
    exact ⟨e', he', fun y => by have := W.1 a b e' he'; rw [y, hq] at this; cases this⟩
  refine ⟨fun a b e' he' => ?_, fun a b d j h1 h2 q9 => ?_⟩
  · unfold adset
    by_cases y : a = c ∧ b = i
    · unfold vset at he'
      rw [if_pos y] at he' ⊢
      rw [hset_same]
      exact he'
    · obtain ⟨e1, h1, h2⟩ := key a b y (by rw [he']; exact fun z => nomatch z)
      unfold vset at he'
      rw [if_neg y] at he' ⊢
      rw [hset_ne _ _ h2]
      exact W.1 a b e' he'
  · unfold adset at q9
    by_cases y : a = c ∧ b = i
    · by_cases y2 : d = c ∧ j = i
      · exact ⟨y.1.trans y2.1.symm, y.2.trans y2.2.symm⟩
      · obtain ⟨e1, g1, g2⟩ := key d j y2 h2
        rw [if_pos y, if_neg y2] at q9
        exact absurd q9.symm g2
    · obtain ⟨e1, g1, g2⟩ := key a b y h1
      by_cases y2 : d = c ∧ j = i
      · rw [if_neg y, if_pos y2] at q9
        exact absurd q9 g2
      · obtain ⟨e2, k1, k2⟩ := key d j y2 h2
        rw [if_neg y, if_neg y2] at q9
        exact W.2 a b d j (by rw [g1]; exact fun z => nomatch z) (by rw [k1]; exact fun z => nomatch z) q9
theorem Wd.to {h : AH} {ad ad' : Nat → Nat → Nat} {V V' : Nat → Nat → Option va_E} (W : Wd h ad V) (hV : ∀ c i, V' c i = V c i) (ha : ∀ c i, ad' c i = ad c i) : Wd h ad' V' := by
  rw [show V' = V from funext fun c => funext fun i => hV c i, show ad' = ad from funext fun c => funext fun i => ha c i]
  exact W
/-- one thing of a kind of one is set -/
theorem wV_one {L : List (Nat → Option va_E)} {c : Nat} {e0 : va_E} (e : va_E) (h : L[c]? = some (one9 e0)) : vset (wV L) c 0 e = wV (L.set c (one9 e)) := by
  funext a b
  unfold vset wV
  have hc : c < L.length := (List.getElem?_eq_some_iff.mp h).1
  by_cases q : a = c
  · subst q
    rw [List.getD_eq_getElem?_getD, List.getD_eq_getElem?_getD, h, List.getElem?_set_self hc]
    cases b with
    | zero => rw [if_pos ⟨rfl, rfl⟩]; rfl
    | succ b => rw [if_neg (fun z => absurd z.2 (by omega))]; rfl
  · rw [if_neg (fun z => q z.1), List.getD_eq_getElem?_getD, List.getD_eq_getElem?_getD, List.getElem?_set_ne (fun z => q z.symm)]
/-- one of many is set, or the next one laid -/
theorem wV_many {L : List (Nat → Option va_E)} {c j n n' : Nat} {g g' : Nat → va_E} (e : va_E) (h : L[c]? = some (many9 n g)) (hj : j < n') (hn : n' = n ∨ (n' = n + 1 ∧ j = n)) (hg : ∀ i, i < n' → i ≠ j → g' i = g i) (he : g' j = e) : vset (wV L) c j e = wV (L.set c (many9 n' g')) := by
  funext a b
  unfold vset wV
  have hc : c < L.length := (List.getElem?_eq_some_iff.mp h).1
  by_cases q : a = c
  · subst q
    rw [List.getD_eq_getElem?_getD, List.getD_eq_getElem?_getD, h, List.getElem?_set_self hc]
    show _ = many9 n' g' b
    unfold many9
    by_cases y : b = j
    · rw [if_pos ⟨rfl, y⟩, y, if_pos hj, he]
    · rw [if_neg (fun z => y z.2)]
      show (if b < n then some (g b) else none) = _
      by_cases w : b < n
      · rw [if_pos w, if_pos (by omega), hg b (by omega) y]
      · rw [if_neg w, if_neg (by omega)]
  · rw [if_neg (fun z => q z.1), List.getD_eq_getElem?_getD, List.getD_eq_getElem?_getD, List.getElem?_set_ne (fun z => q z.symm)]
/-- .. a list's row is laid anew -/
theorem wV_lst {E : Ev} {L : List (Nat → Option va_E)} {c N M : Nat} {f g : Nat → Option Nat} (h : L[c]? = some (lst9 E N f)) (hM : 1 ≤ M) : vset (wV L) c 0 (eQ E M g) = wV (L.set c (lst9 E M g)) := by
  funext a b
  unfold vset wV
  have hc : c < L.length := (List.getElem?_eq_some_iff.mp h).1
  by_cases q : a = c
  · subst q
    rw [List.getD_eq_getElem?_getD, List.getD_eq_getElem?_getD, h, List.getElem?_set_self hc]
    cases M with
    | zero => omega
    | succ M => 
      cases b with
      | zero => rw [if_pos ⟨rfl, rfl⟩]; rfl
      | succ b => 
        rw [if_neg (fun z => absurd z.2 (by omega))]
        cases N <;> rfl
  · rw [if_neg (fun z => q z.1), List.getD_eq_getElem?_getD, List.getD_eq_getElem?_getD, List.getElem?_set_ne (fun z => q z.symm)]
theorem many_at {n i : Nat} {g : Nat → va_E} (h : i < n) : many9 n g i = some (g i) := if_pos h
theorem lst_at {E : Ev} {N : Nat} {f : Nat → Option Nat} (h : 1 ≤ N) : lst9 E N f 0 = some (eQ E N f) := by
  cases N with
  | zero => omega
  | succ N => rfl
/-- how the class's numbers stand to the reference's -/
def CR (E : Ev) (ad : Nat → Nat → Nat) (F : Nat → Int32) (A : Nat → Nat → Int32) (R : Nat → Nat → Nat → Int32) (z : Nat → Int32) (N : Nat → Nat) (f : Nat → Nat → Option Nat) (n m : Nat) : Prop :=
  (F 9 = nI n ∧ n ≤ 30 ∧ F 23 = nI m ∧ m ≤ 60) ∧
  (∃ t, F 15 = nI t ∧ t ≤ 400) ∧
  (∀ k, -128 ≤ (A 14 k).toInt ∧ (A 14 k).toInt ≤ 127) ∧
  (∀ s, s < 96 → R 6 0 s = rlow (F 2) A (nI s) n ∧ R 7 0 s = rhigh (F 2) A (nI s) n) ∧
  (n ≤ N 0 ∧ N 0 ≤ 100 ∧ (N 0 = 0 → ad 5 0 = E.2.2 10) ∧ ∀ i, i < n → f 0 i = some (ad 9 i)) ∧
  (m ≤ N 1 ∧ N 1 ≤ 100 ∧ (N 1 = 0 → ad 12 0 = E.2.2 10) ∧ ∀ j, j < m → f 1 j = some (ad 16 j)) ∧
  (∀ k, 1 ≤ k → k < 6 → R 13 0 k = A 25 k) ∧
  (R 15 0 0 = 0 ∧ ∀ k, 1 ≤ k → k < 6 → R 15 0 k = A 11 k) ∧
  ((F 13 = 0 → ∀ k, A 11 k = 0) ∧ (A 11 0 = 0 ∨ A 11 0 = 1) ∧ (∀ k, 1 ≤ k → k < 6 → 0 ≤ A 11 k ∧ A 11 k ≤ 100) ∧ (F 13 = 0 ∨ F 13 = 1)) ∧
  (∀ j, j < m → (∀ b, b < 6 → R 17 j b = A 22 (6 * j + b) ∧ (A 22 (6 * j + b) = -1 ∨ (0 ≤ A 22 (6 * j + b) ∧ A 22 (6 * j + b) ≤ 1000000))) ∧ (∀ k, k < 6 → R 18 j k = A 21 (10 * j + 4 + k)) ∧ (A 21 (10 * j + 2) = -1 ∨ 0 ≤ A 21 (10 * j + 2)) ∧ (A 21 (10 * j + 2) < 0 → ∀ k, k < 6 → A 21 (10 * j + 4 + k) = 0)) ∧
  (z 3 = rcnt (fun j => ¬ A 21 (10 * j + 2) < 0) m ∧ ∀ i, 10 * m ≤ i → A 21 i = 0) ∧
  (∃ W H, F 26 = nI W ∧ F 27 = nI H ∧ 1 ≤ W ∧ W ≤ 10 ∧ 1 ≤ H ∧ H ≤ 8 ∧ (z 2 = 0 ∨ z 2 = 1) ∧ (¬ z 2 = 0 → alldn (A 28) (R 22 0) (R 23 0) (R 24 0) W H)) ∧
  (∀ i, i < n → (A 5 i = -1 ∨ 0 ≤ A 5 i) ∧ (A 6 i = -1 ∨ 0 ≤ A 6 i)) ∧
  (0 ≤ F 1 ∧ F 1 ≤ 3000 ∧ 0 ≤ F 24 ∧ F 24 ≤ 10000000)
/-- the world stands: x the class's object, o the reference's, ou the law's own row -/
def WI (E : Ev) (x o ou : Nat) (F : Nat → Int32) (A : Nat → Nat → Int32) (n m : Nat) (Fm : Nat → Int32) (Am : Nat → Nat → Int32) (h : AH) : Prop :=
  ∃ ad R z N f O, Wd h ad (wV (wL E ad F A R z N f n m Fm Am O)) ∧ CR E ad F A R z N f n m ∧ ad 0 0 = x ∧ ad 31 0 = o ∧ ad 30 0 = ou
