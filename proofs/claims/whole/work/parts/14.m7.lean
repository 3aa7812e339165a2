/-- one more cut tried: what both pieces are worth together, with how many cuts -/
def bt (c a b : Int32 × Int32) : Int32 × Int32 := if a.1 + b.1 < c.1 then c else if a.1 + b.1 = c.1 then (if c.2 ≤ a.2 + b.2 + 1 then c else (a.1 + b.1, a.2 + b.2 + 1)) else (a.1 + b.1, a.2 + b.2 + 1)
def tvf (T : Nat → Nat → Nat → Nat → Int32 × Int32) (c : Int32 × Int32) (x y w h : Nat) : Nat → Int32 × Int32
  | 0 => c
  | k + 1 => bt (tvf T c x y w h k) (T x y k h) (T (x + k + 1) y (w - k - 1) h)
def thf (T : Nat → Nat → Nat → Nat → Int32 × Int32) (c : Int32 × Int32) (x y w h : Nat) : Nat → Int32 × Int32
  | 0 => c
  | k + 1 => bt (thf T c x y w h k) (T x y w k) (T x (y + k + 1) w (h - k - 1))
noncomputable def tba (Z : Nat → Int32) (x y w h : Nat) : Int32 × Int32 := (@ite _ (rclr Z x y w h) (Classical.propDecidable _) (nI (w + 1) * nI (h + 1) * (nI (w + 1) * nI (h + 1))) 0, 0)
noncomputable def tstep (Z : Nat → Int32) (T : Nat → Nat → Nat → Nat → Int32 × Int32) (x y w h : Nat) : Int32 × Int32 := thf T (tvf T (tba Z x y w h) x y w h w) x y w h h
noncomputable def trec (Z : Nat → Int32) : Nat → Nat → Nat → Nat → Nat → Int32 × Int32
  | 0 => fun x y w h => tba Z x y w h
  | n + 1 => fun x y w h => tstep Z (trec Z n) x y w h
theorem tvf_cong {T T' : Nat → Nat → Nat → Nat → Int32 × Int32} {c : Int32 × Int32} {x y w h : Nat} : ∀ k, k ≤ w → (∀ x y w' , w' < w → T x y w' h = T' x y w' h) → tvf T c x y w h k = tvf T' c x y w h k
  | 0, _, _ => rfl
  | k + 1, hk, e => by
    unfold tvf
    rw [tvf_cong k (by omega) e, e x y k (by omega), e (x + k + 1) y (w - k - 1) (by omega)]
theorem thf_cong {T T' : Nat → Nat → Nat → Nat → Int32 × Int32} {c : Int32 × Int32} {x y w h : Nat} : ∀ k, k ≤ h → (∀ x y h', h' < h → T x y w h' = T' x y w h') → thf T c x y w h k = thf T' c x y w h k
  | 0, _, _ => rfl
  | k + 1, hk, e => by
    unfold thf
    rw [thf_cong k (by omega) e, e x y k (by omega), e x (y + k + 1) (h - k - 1) (by omega)]
theorem tstep_cong {Z : Nat → Int32} {T T' : Nat → Nat → Nat → Nat → Int32 × Int32} {x y w h : Nat} (e : ∀ x y w' h', w' + h' < w + h → T x y w' h' = T' x y w' h') : tstep Z T x y w h = tstep Z T' x y w h := by
  unfold tstep
  rw [tvf_cong (T' := T') w (Nat.le_refl w) (fun x y w' hw => e x y w' h (by omega)), thf_cong (T' := T') h (Nat.le_refl h) (fun x y h' hh => e x y w h' (by omega))]
theorem trec_fuel (Z : Nat → Int32) : ∀ n m x y w h, w + h ≤ n → w + h ≤ m → trec Z n x y w h = trec Z m x y w h := by
  intro n
  induction n with
  | zero =>
    intro m x y w h h1 h2
    have e1 : w = 0 := by omega
    have e2 : h = 0 := by omega
    subst e1; subst e2
    cases m with
    | zero => rfl
    | succ m => rfl
  | succ n ih =>
    intro m x y w h h1 h2
    cases m with
    | zero =>
      have e1 : w = 0 := by omega
      have e2 : h = 0 := by omega
      subst e1; subst e2
      rfl
    | succ m => exact tstep_cong (fun x y w' h' hlt => ih m x y w' h' (by omega) (by omega))
/-- what a piece is worth at most, and the fewest cuts for it -/
noncomputable def rT (Z : Nat → Int32) (x y w h : Nat) : Int32 × Int32 := trec Z (w + h) x y w h
theorem rT_step (Z : Nat → Int32) (x y w h : Nat) : rT Z x y w h = tstep Z (rT Z) x y w h := by
  unfold rT
  rw [trec_fuel Z (w + h) (w + h + 1) x y w h (by omega) (by omega)]
  exact tstep_cong (fun x y w' h' hlt => trec_fuel Z _ _ x y w' h' (by omega) (by omega))
def lex4 (h w y x p q r s : Nat) : Prop := h < p ∨ (h = p ∧ (w < q ∨ (w = q ∧ (y < r ∨ (y = r ∧ x < s)))))
/-- of a rough W wide and H high all pieces before (p, q, r, s) are weighed -/
def wdone (Z : Nat → Int32) (W H : Nat) (B : Nat → Nat → Int32) (p q r s : Nat) : Prop := ∀ x y w h, x + w < W → y + h < H → lex4 h w y x p q r s → B 29 (npl x y w h) = (rT Z x y w h).1 ∧ B 30 (npl x y w h) = (rT Z x y w h).2
def wkeep (A B : Nat → Nat → Int32) : Prop := ∀ k, k ≠ 29 → k ≠ 30 → B k = A k
theorem npl_inj {x y w h x' y' w' h' : Nat} (h1 : x < 10) (h2 : y < 8) (h3 : w < 10) (h1' : x' < 10) (h2' : y' < 8) (h3' : w' < 10) (e : npl x y w h = npl x' y' w' h') : x = x' ∧ y = y' ∧ w = w' ∧ h = h' := by
  unfold npl at e
  omega
def aset2 (B : Nat → Nat → Int32) (t : Nat) (v : Int32 × Int32) : Nat → Nat → Int32 := aset (aset B 29 t v.1) 30 t v.2
theorem aset2_keep {A B : Nat → Nat → Int32} {t : Nat} {v : Int32 × Int32} (h : wkeep A B) : wkeep A (aset2 B t v) := fun k h1 h2 => by
  unfold aset2
  rw [aset_row _ _ _ h2, aset_row _ _ _ h1]
  exact h k h1 h2
theorem aset2_29 (B : Nat → Nat → Int32) (t : Nat) (v : Int32 × Int32) : aset2 B t v 29 t = v.1 := by
  unfold aset2
  rw [aset_row _ _ _ (by decide), aset_same]
theorem aset2_30 (B : Nat → Nat → Int32) (t : Nat) (v : Int32 × Int32) : aset2 B t v 30 t = v.2 := aset_same _ _ _ _
theorem aset2_29n (B : Nat → Nat → Int32) {t u : Nat} (v : Int32 × Int32) (h : u ≠ t) : aset2 B t v 29 u = B 29 u := by
  unfold aset2
  rw [aset_row _ _ _ (by decide), aset_rd _ _ h]
theorem aset2_30n (B : Nat → Nat → Int32) {t u : Nat} (v : Int32 × Int32) (h : u ≠ t) : aset2 B t v 30 u = B 30 u := by
  unfold aset2
  rw [aset_rd _ _ h, aset_row _ _ _ (by decide)]
theorem aset2_2 (B : Nat → Nat → Int32) (t : Nat) (v v' : Int32 × Int32) : aset (aset (aset2 B t v) 29 t v'.1) 30 t v'.2 = aset2 B t v' := by
  funext a b
  unfold aset2 aset
  by_cases h1 : a = 30
  · subst h1
    by_cases h2 : b = t <;> simp [h2]
  · by_cases h3 : a = 29
    · subst h3
      by_cases h2 : b = t <;> simp [h2]
    · simp [h1, h3]
/-- a try of a cut, in the arrays -/
theorem bt_set {B : Nat → Nat → Int32} {t a b : Nat} {v va vb : Int32 × Int32} (hat : a ≠ t) (hbt : b ≠ t) (ea : B 29 a = va.1 ∧ B 30 a = va.2) (eb : B 29 b = vb.1 ∧ B 30 b = vb.2) : (rskp (aset2 B t v) t a b → aset2 B t v = aset2 B t (bt v va vb)) ∧ (¬ rskp (aset2 B t v) t a b → aset (aset (aset2 B t v) 29 t (aset2 B t v 29 a + aset2 B t v 29 b)) 30 t (aset2 B t v 30 a + aset2 B t v 30 b + 1) = aset2 B t (bt v va vb)) := by
  rw [aset2_29n _ _ hat, aset2_29n _ _ hbt, aset2_30n _ _ hat, aset2_30n _ _ hbt, ea.1, ea.2, eb.1, eb.2]
  have key : rskp (aset2 B t v) t a b ↔ (va.1 + vb.1 < v.1 ∨ (va.1 + vb.1 = v.1 ∧ v.2 ≤ va.2 + vb.2 + 1)) := by
    unfold rskp
    rw [aset2_29n _ _ hat, aset2_29n _ _ hbt, aset2_30n _ _ hat, aset2_30n _ _ hbt, ea.1, ea.2, eb.1, eb.2, aset2_29, aset2_30]
  rw [key]
  constructor
  · intro h
    congr 1
    unfold bt
    rcases h with h | ⟨h, h2⟩
    · rw [if_pos h]
    · rw [if_neg (by rw [h]; exact fun zq => Int32.lt_irrefl zq), if_pos h, if_pos h2]
  · intro h
    have e : bt v va vb = (va.1 + vb.1, va.2 + vb.2 + 1) := by
      unfold bt
      rw [if_neg (fun q => h (Or.inl q))]
      by_cases c : va.1 + vb.1 = v.1
      · rw [if_pos c, if_neg (fun q => h (Or.inr ⟨c, q⟩))]
      · rw [if_neg c]
    rw [e]
    exact aset2_2 B t v (va.1 + vb.1, va.2 + vb.2 + 1)
/-- the piece at hand is weighed too -/
theorem wdone_s {Z : Nat → Int32} {W H : Nat} {B : Nat → Nat → Int32} {p q r s : Nat} (hW : W ≤ 10) (hH : H ≤ 8) (h : wdone Z W H B p q r s) (hx : s + q < W) (hy : r + p < H) (v : Int32 × Int32) (hv : v = rT Z s r q p) : wdone Z W H (aset2 B (npl s r q p) v) p q r (s + 1) := by
  intro x y w h9 h1 h2 h3
  by_cases e : x = s ∧ y = r ∧ w = q ∧ h9 = p
  · obtain ⟨rfl, rfl, rfl, rfl⟩ := e
    rw [aset2_29, aset2_30, hv]
    exact ⟨rfl, rfl⟩
  · have ne : npl x y w h9 ≠ npl s r q p := fun z => by
      have := npl_inj (by omega) (by omega) (by omega) (by omega) (by omega) (by omega) z
      exact e ⟨this.1, this.2.1, this.2.2.1, this.2.2.2⟩
    rw [aset2_29n _ _ ne, aset2_30n _ _ ne]
    exact h x y w h9 h1 h2 (by unfold lex4 at h3 ⊢; omega)
theorem wdone_set {Z : Nat → Int32} {W H : Nat} {B : Nat → Nat → Int32} {p q r s : Nat} (hW : W ≤ 10) (hH : H ≤ 8) (h : wdone Z W H B p q r s) (hx : s + q < W) (hy : r + p < H) (v : Int32 × Int32) : wdone Z W H (aset2 B (npl s r q p) v) p q r s := by
  intro x y w h9 h1 h2 h3
  have ne : npl x y w h9 ≠ npl s r q p := fun z => by
    have := npl_inj (by omega) (by omega) (by omega) (by omega) (by omega) (by omega) z
    unfold lex4 at h3
    omega
  rw [aset2_29n _ _ ne, aset2_30n _ _ ne]
  exact h x y w h9 h1 h2 h3
theorem lt_ge {N p a : Nat} {x : Int32} (hx : x = nI N) (c : ¬ x ≤ nI p + nI a) (h : p ≤ N - a) (hN : N < 100) (ha : a < 100) : p + a < N := by
  rw [nI_add] at c
  rcases Nat.lt_or_ge (p + a) N with q | q
  · exact q
  · exact absurd (by rw [hx]; exact nI_le q (by omega)) c
theorem eq_ge {N p a : Nat} {x : Int32} (hx : x = nI N) (c : x ≤ nI p + nI a) (h : p ≤ N - a) (hN : N < 100) (ha : a < 100) (h9 : a ≤ N) : p = N - a := by
  rw [hx, nI_add] at c
  have := (nI_leI (by omega) (by omega)).mp c
  omega
theorem npl_lt {x y w h : Nat} (h1 : x + w < 10) (h2 : y + h < 8) : npl x y w h < 6400 := by
  unfold npl
  omega
theorem dX11_weighs_0 : decode cX11_weighs 0 = .ok (.iconst 0, 1) := by decide +kernel
theorem dX11_weighs_1 : decode cX11_weighs 1 = .ok (.istore_n 1, 1) := by decide +kernel
theorem dX11_weighs_2 : decode cX11_weighs 2 = .ok (.iload_n 1, 1) := by decide +kernel
theorem dX11_weighs_3 : decode cX11_weighs 3 = .ok (.aload_n 0, 1) := by decide +kernel
theorem dX11_weighs_4 : decode cX11_weighs 4 = .ok (.getfield 63, 3) := by decide +kernel
theorem dX11_weighs_7 : decode cX11_weighs 7 = .ok (.if_icmp .ge 214, 3) := by decide +kernel
theorem dX11_weighs_10 : decode cX11_weighs 10 = .ok (.iconst 0, 1) := by decide +kernel
theorem dX11_weighs_11 : decode cX11_weighs 11 = .ok (.istore_n 2, 1) := by decide +kernel
theorem dX11_weighs_12 : decode cX11_weighs 12 = .ok (.iload_n 2, 1) := by decide +kernel
theorem dX11_weighs_13 : decode cX11_weighs 13 = .ok (.aload_n 0, 1) := by decide +kernel
theorem dX11_weighs_14 : decode cX11_weighs 14 = .ok (.getfield 60, 3) := by decide +kernel
theorem dX11_weighs_17 : decode cX11_weighs 17 = .ok (.if_icmp .ge 198, 3) := by decide +kernel
theorem dX11_weighs_20 : decode cX11_weighs 20 = .ok (.iconst 0, 1) := by decide +kernel
theorem dX11_weighs_21 : decode cX11_weighs 21 = .ok (.istore_n 3, 1) := by decide +kernel
theorem dX11_weighs_22 : decode cX11_weighs 22 = .ok (.iload_n 3, 1) := by decide +kernel
theorem dX11_weighs_23 : decode cX11_weighs 23 = .ok (.iload_n 1, 1) := by decide +kernel
theorem dX11_weighs_24 : decode cX11_weighs 24 = .ok (.iadd, 1) := by decide +kernel
theorem dX11_weighs_25 : decode cX11_weighs 25 = .ok (.aload_n 0, 1) := by decide +kernel
theorem dX11_weighs_26 : decode cX11_weighs 26 = .ok (.getfield 63, 3) := by decide +kernel
theorem dX11_weighs_29 : decode cX11_weighs 29 = .ok (.if_icmp .ge 180, 3) := by decide +kernel
theorem dX11_weighs_32 : decode cX11_weighs 32 = .ok (.iconst 0, 1) := by decide +kernel
theorem dX11_weighs_33 : decode cX11_weighs 33 = .ok (.istore 4, 2) := by decide +kernel
theorem dX11_weighs_35 : decode cX11_weighs 35 = .ok (.iload 4, 2) := by decide +kernel
theorem dX11_weighs_37 : decode cX11_weighs 37 = .ok (.iload_n 2, 1) := by decide +kernel
theorem dX11_weighs_38 : decode cX11_weighs 38 = .ok (.iadd, 1) := by decide +kernel
theorem dX11_weighs_39 : decode cX11_weighs 39 = .ok (.aload_n 0, 1) := by decide +kernel
theorem dX11_weighs_40 : decode cX11_weighs 40 = .ok (.getfield 60, 3) := by decide +kernel
theorem dX11_weighs_43 : decode cX11_weighs 43 = .ok (.if_icmp .ge 160, 3) := by decide +kernel
theorem dX11_weighs_46 : decode cX11_weighs 46 = .ok (.iload 4, 2) := by decide +kernel
theorem dX11_weighs_48 : decode cX11_weighs 48 = .ok (.iload_n 3, 1) := by decide +kernel
theorem dX11_weighs_49 : decode cX11_weighs 49 = .ok (.iload_n 2, 1) := by decide +kernel
theorem dX11_weighs_50 : decode cX11_weighs 50 = .ok (.iload_n 1, 1) := by decide +kernel
theorem dX11_weighs_51 : decode cX11_weighs 51 = .ok (.invokestatic 217, 3) := by decide +kernel
theorem dX11_weighs_54 : decode cX11_weighs 54 = .ok (.istore 5, 2) := by decide +kernel
theorem dX11_weighs_56 : decode cX11_weighs 56 = .ok (.iload_n 2, 1) := by decide +kernel
theorem dX11_weighs_57 : decode cX11_weighs 57 = .ok (.iconst 1, 1) := by decide +kernel
theorem dX11_weighs_58 : decode cX11_weighs 58 = .ok (.iadd, 1) := by decide +kernel
theorem dX11_weighs_59 : decode cX11_weighs 59 = .ok (.iload_n 1, 1) := by decide +kernel
theorem dX11_weighs_60 : decode cX11_weighs 60 = .ok (.iconst 1, 1) := by decide +kernel
theorem dX11_weighs_61 : decode cX11_weighs 61 = .ok (.iadd, 1) := by decide +kernel
theorem dX11_weighs_62 : decode cX11_weighs 62 = .ok (.imul, 1) := by decide +kernel
theorem dX11_weighs_63 : decode cX11_weighs 63 = .ok (.istore 6, 2) := by decide +kernel
theorem dX11_weighs_65 : decode cX11_weighs 65 = .ok (.aload_n 0, 1) := by decide +kernel
theorem dX11_weighs_66 : decode cX11_weighs 66 = .ok (.getfield 70, 3) := by decide +kernel
theorem dX11_weighs_69 : decode cX11_weighs 69 = .ok (.iload 5, 2) := by decide +kernel
theorem dX11_weighs_71 : decode cX11_weighs 71 = .ok (.aload_n 0, 1) := by decide +kernel
theorem dX11_weighs_72 : decode cX11_weighs 72 = .ok (.iload 4, 2) := by decide +kernel
theorem dX11_weighs_74 : decode cX11_weighs 74 = .ok (.iload_n 3, 1) := by decide +kernel
theorem dX11_weighs_75 : decode cX11_weighs 75 = .ok (.iload_n 2, 1) := by decide +kernel
theorem dX11_weighs_76 : decode cX11_weighs 76 = .ok (.iload_n 1, 1) := by decide +kernel
theorem dX11_weighs_77 : decode cX11_weighs 77 = .ok (.invokevirtual 221, 3) := by decide +kernel
theorem dX11_weighs_80 : decode cX11_weighs 80 = .ok (.ifCond .eq 11, 3) := by decide +kernel
theorem dX11_weighs_83 : decode cX11_weighs 83 = .ok (.iload 6, 2) := by decide +kernel
theorem dX11_weighs_85 : decode cX11_weighs 85 = .ok (.iload 6, 2) := by decide +kernel
theorem dX11_weighs_87 : decode cX11_weighs 87 = .ok (.imul, 1) := by decide +kernel
theorem dX11_weighs_88 : decode cX11_weighs 88 = .ok (.goto 4, 3) := by decide +kernel
theorem dX11_weighs_91 : decode cX11_weighs 91 = .ok (.iconst 0, 1) := by decide +kernel
theorem dX11_weighs_92 : decode cX11_weighs 92 = .ok (.iastore, 1) := by decide +kernel
theorem dX11_weighs_93 : decode cX11_weighs 93 = .ok (.aload_n 0, 1) := by decide +kernel
theorem dX11_weighs_94 : decode cX11_weighs 94 = .ok (.getfield 73, 3) := by decide +kernel
theorem dX11_weighs_97 : decode cX11_weighs 97 = .ok (.iload 5, 2) := by decide +kernel
theorem dX11_weighs_99 : decode cX11_weighs 99 = .ok (.iconst 0, 1) := by decide +kernel
theorem dX11_weighs_100 : decode cX11_weighs 100 = .ok (.iastore, 1) := by decide +kernel
theorem dX11_weighs_101 : decode cX11_weighs 101 = .ok (.iconst 0, 1) := by decide +kernel
theorem dX11_weighs_102 : decode cX11_weighs 102 = .ok (.istore 7, 2) := by decide +kernel
theorem dX11_weighs_104 : decode cX11_weighs 104 = .ok (.iload 7, 2) := by decide +kernel
theorem dX11_weighs_106 : decode cX11_weighs 106 = .ok (.iload_n 2, 1) := by decide +kernel
theorem dX11_weighs_107 : decode cX11_weighs 107 = .ok (.if_icmp .ge 42, 3) := by decide +kernel
theorem dX11_weighs_110 : decode cX11_weighs 110 = .ok (.aload_n 0, 1) := by decide +kernel
theorem dX11_weighs_111 : decode cX11_weighs 111 = .ok (.iload 5, 2) := by decide +kernel
theorem dX11_weighs_113 : decode cX11_weighs 113 = .ok (.iload 4, 2) := by decide +kernel
theorem dX11_weighs_115 : decode cX11_weighs 115 = .ok (.iload_n 3, 1) := by decide +kernel
theorem dX11_weighs_116 : decode cX11_weighs 116 = .ok (.iload 7, 2) := by decide +kernel
theorem dX11_weighs_118 : decode cX11_weighs 118 = .ok (.iload_n 1, 1) := by decide +kernel
theorem dX11_weighs_119 : decode cX11_weighs 119 = .ok (.invokestatic 217, 3) := by decide +kernel
theorem dX11_weighs_122 : decode cX11_weighs 122 = .ok (.iload 4, 2) := by decide +kernel
theorem dX11_weighs_124 : decode cX11_weighs 124 = .ok (.iload 7, 2) := by decide +kernel
theorem dX11_weighs_126 : decode cX11_weighs 126 = .ok (.iadd, 1) := by decide +kernel
theorem dX11_weighs_127 : decode cX11_weighs 127 = .ok (.iconst 1, 1) := by decide +kernel
theorem dX11_weighs_128 : decode cX11_weighs 128 = .ok (.iadd, 1) := by decide +kernel
theorem dX11_weighs_129 : decode cX11_weighs 129 = .ok (.iload_n 3, 1) := by decide +kernel
theorem dX11_weighs_130 : decode cX11_weighs 130 = .ok (.iload_n 2, 1) := by decide +kernel
theorem dX11_weighs_131 : decode cX11_weighs 131 = .ok (.iload 7, 2) := by decide +kernel
theorem dX11_weighs_133 : decode cX11_weighs 133 = .ok (.isub, 1) := by decide +kernel
theorem dX11_weighs_134 : decode cX11_weighs 134 = .ok (.iconst 1, 1) := by decide +kernel
theorem dX11_weighs_135 : decode cX11_weighs 135 = .ok (.isub, 1) := by decide +kernel
theorem dX11_weighs_136 : decode cX11_weighs 136 = .ok (.iload_n 1, 1) := by decide +kernel
theorem dX11_weighs_137 : decode cX11_weighs 137 = .ok (.invokestatic 217, 3) := by decide +kernel
theorem dX11_weighs_140 : decode cX11_weighs 140 = .ok (.invokevirtual 225, 3) := by decide +kernel
theorem dX11_weighs_143 : decode cX11_weighs 143 = .ok (.iinc 7 1, 3) := by decide +kernel
theorem dX11_weighs_146 : decode cX11_weighs 146 = .ok (.goto (-42), 3) := by decide +kernel
theorem dX11_weighs_149 : decode cX11_weighs 149 = .ok (.iconst 0, 1) := by decide +kernel
theorem dX11_weighs_150 : decode cX11_weighs 150 = .ok (.istore 7, 2) := by decide +kernel
theorem dX11_weighs_152 : decode cX11_weighs 152 = .ok (.iload 7, 2) := by decide +kernel
theorem dX11_weighs_154 : decode cX11_weighs 154 = .ok (.iload_n 1, 1) := by decide +kernel
theorem dX11_weighs_155 : decode cX11_weighs 155 = .ok (.if_icmp .ge 42, 3) := by decide +kernel
theorem dX11_weighs_158 : decode cX11_weighs 158 = .ok (.aload_n 0, 1) := by decide +kernel
theorem dX11_weighs_159 : decode cX11_weighs 159 = .ok (.iload 5, 2) := by decide +kernel
theorem dX11_weighs_161 : decode cX11_weighs 161 = .ok (.iload 4, 2) := by decide +kernel
theorem dX11_weighs_163 : decode cX11_weighs 163 = .ok (.iload_n 3, 1) := by decide +kernel
theorem dX11_weighs_164 : decode cX11_weighs 164 = .ok (.iload_n 2, 1) := by decide +kernel
theorem dX11_weighs_165 : decode cX11_weighs 165 = .ok (.iload 7, 2) := by decide +kernel
theorem dX11_weighs_167 : decode cX11_weighs 167 = .ok (.invokestatic 217, 3) := by decide +kernel
theorem dX11_weighs_170 : decode cX11_weighs 170 = .ok (.iload 4, 2) := by decide +kernel
theorem dX11_weighs_172 : decode cX11_weighs 172 = .ok (.iload_n 3, 1) := by decide +kernel
theorem dX11_weighs_173 : decode cX11_weighs 173 = .ok (.iload 7, 2) := by decide +kernel
theorem dX11_weighs_175 : decode cX11_weighs 175 = .ok (.iadd, 1) := by decide +kernel
theorem dX11_weighs_176 : decode cX11_weighs 176 = .ok (.iconst 1, 1) := by decide +kernel
theorem dX11_weighs_177 : decode cX11_weighs 177 = .ok (.iadd, 1) := by decide +kernel
theorem dX11_weighs_178 : decode cX11_weighs 178 = .ok (.iload_n 2, 1) := by decide +kernel
theorem dX11_weighs_179 : decode cX11_weighs 179 = .ok (.iload_n 1, 1) := by decide +kernel
theorem dX11_weighs_180 : decode cX11_weighs 180 = .ok (.iload 7, 2) := by decide +kernel
theorem dX11_weighs_182 : decode cX11_weighs 182 = .ok (.isub, 1) := by decide +kernel
theorem dX11_weighs_183 : decode cX11_weighs 183 = .ok (.iconst 1, 1) := by decide +kernel
theorem dX11_weighs_184 : decode cX11_weighs 184 = .ok (.isub, 1) := by decide +kernel
theorem dX11_weighs_185 : decode cX11_weighs 185 = .ok (.invokestatic 217, 3) := by decide +kernel
theorem dX11_weighs_188 : decode cX11_weighs 188 = .ok (.invokevirtual 225, 3) := by decide +kernel
theorem dX11_weighs_191 : decode cX11_weighs 191 = .ok (.iinc 7 1, 3) := by decide +kernel
theorem dX11_weighs_194 : decode cX11_weighs 194 = .ok (.goto (-42), 3) := by decide +kernel
theorem dX11_weighs_197 : decode cX11_weighs 197 = .ok (.iinc 4 1, 3) := by decide +kernel
theorem dX11_weighs_200 : decode cX11_weighs 200 = .ok (.goto (-165), 3) := by decide +kernel
theorem dX11_weighs_203 : decode cX11_weighs 203 = .ok (.iinc 3 1, 3) := by decide +kernel
theorem dX11_weighs_206 : decode cX11_weighs 206 = .ok (.goto (-184), 3) := by decide +kernel
theorem dX11_weighs_209 : decode cX11_weighs 209 = .ok (.iinc 2 1, 3) := by decide +kernel
theorem dX11_weighs_212 : decode cX11_weighs 212 = .ok (.goto (-200), 3) := by decide +kernel
theorem dX11_weighs_215 : decode cX11_weighs 215 = .ok (.iinc 1 1, 3) := by decide +kernel
theorem dX11_weighs_218 : decode cX11_weighs 218 = .ok (.goto (-216), 3) := by decide +kernel
theorem dX11_weighs_221 : decode cX11_weighs 221 = .ok (.return_, 1) := by decide +kernel
set_option maxHeartbeats 4000000 in
set_option maxRecDepth 20000 in
theorem ct_weighs {l : Launch} {E : Ev} {P : Value → AH → Prop} {o : Nat} {ad : Nat → Nat} {F : Nat → Int32} {A : Nat → Nat → Int32} {h : AH} (I : mI o ad) {W H : Nat} (hw : F 26 = nI W) (hh : F 27 = nI H) (hW : W ≤ 10) (hH : H ≤ 8) (hp : ∀ B, wkeep A B → wdone (A 28) W H B H 0 0 0 → P .null (mh E o ad F B h)) : Mt l E yX11_weighs cX11_weighs 8 none 1 27 0 0 [.ref o] (mh E o ad F A h) P := by
  refine Mt.of (by decide) (Nat.le_of_ble_eq_true rfl) ?_
  intro K hK hR C
  refine g_iconst (n := 1) (v := 0) C dX11_weighs_0 rfl (by decide) ?_
  refine g_istore_n (n := 2) C dX11_weighs_1 rfl (by decide) ?_
  have lp : ∀ p : Nat, p ≤ H → ∀ (t : Int32) (B : Nat → Nat → Int32), t = nI p → wkeep A B → wdone (A 28) W H B p 0 0 0 → G K E 8 (QM K E none 0 0 P) 0 0 2 [(0, .ref o), (1, .int t)] [] (mh E o ad F B h) := by
    refine loopN (fun p => ∀ (t : Int32) (B : Nat → Nat → Int32), t = nI p → wkeep A B → wdone (A 28) W H B p 0 0 0 → G K E 8 (QM K E none 0 0 P) 0 0 2 [(0, .ref o), (1, .int t)] [] (mh E o ad F B h)) (H) ?_
    intro p hlep ihp t B et kB dB
    subst et
    refine g_iload_n (n := 3) C dX11_weighs_2 rfl rfl ?_
    refine g_aload_n (n := 4) C dX11_weighs_3 rfl rfl ?_
    refine m_get (n := 7) 27 C dX11_weighs_4 rfl (by decide) rfl w_1127 rfl ?_
    refine g_icmp_ge (n := 10) (t := 221) C dX11_weighs_7 rfl (by decide) (fun zc7 => ?_) (fun zc7 => ?_)
    · --t7
      refine g_vret C dX11_weighs_221 (by decide) (by decide) ?_
      have ep : p = H := i_eq hh zc7 hlep (by omega)
      subst ep
      exact hp B kB dB
    · --f7
      refine g_iconst (n := 11) (v := 0) C dX11_weighs_10 rfl (by decide) ?_
      refine g_istore_n (n := 12) C dX11_weighs_11 rfl (by decide) ?_
      have lq : ∀ q : Nat, q ≤ W → ∀ (t : Int32) (B : Nat → Nat → Int32), t = nI q → wkeep A B → wdone (A 28) W H B p q 0 0 → G K E 8 (QM K E none 0 0 P) 0 0 12 [(0, .ref o), (1, .int (nI p)), (2, .int t)] [] (mh E o ad F B h) := by
        refine loopN (fun q => ∀ (t : Int32) (B : Nat → Nat → Int32), t = nI q → wkeep A B → wdone (A 28) W H B p q 0 0 → G K E 8 (QM K E none 0 0 P) 0 0 12 [(0, .ref o), (1, .int (nI p)), (2, .int t)] [] (mh E o ad F B h)) (W) ?_
        intro q hleq ihq t B et kB dB
        subst et
        refine g_iload_n (n := 13) C dX11_weighs_12 rfl rfl ?_
        refine g_aload_n (n := 14) C dX11_weighs_13 rfl rfl ?_
        refine m_get (n := 17) 26 C dX11_weighs_14 rfl (by decide) rfl w_1126 rfl ?_
        refine g_icmp_ge (n := 20) (t := 215) C dX11_weighs_17 rfl (by decide) (fun zc17 => ?_) (fun zc17 => ?_)
        · --t17
          refine g_iinc (n := 218) C dX11_weighs_215 rfl rfl rfl (by decide) ?_
          refine g_goto (t := 2) C dX11_weighs_218 (by decide) ?_
          exact g_lv [0, 1] rfl (ihp (i_lt hh zc7 hlep (by omega)) _ _ (nI_1 p) kB (fun x y w h h1 h2 h3 => dB x y w h h1 h2 (by have := i_eq hw zc17 hleq (by omega); unfold lex4 at h3 ⊢; omega)))
        · --f17
          refine g_iconst (n := 21) (v := 0) C dX11_weighs_20 rfl (by decide) ?_
          refine g_istore_n (n := 22) C dX11_weighs_21 rfl (by decide) ?_
          have lr : ∀ r : Nat, r ≤ H - p → ∀ (t : Int32) (B : Nat → Nat → Int32), t = nI r → wkeep A B → wdone (A 28) W H B p q r 0 → G K E 8 (QM K E none 0 0 P) 0 0 22 [(0, .ref o), (1, .int (nI p)), (2, .int (nI q)), (3, .int t)] [] (mh E o ad F B h) := by
            refine loopN (fun r => ∀ (t : Int32) (B : Nat → Nat → Int32), t = nI r → wkeep A B → wdone (A 28) W H B p q r 0 → G K E 8 (QM K E none 0 0 P) 0 0 22 [(0, .ref o), (1, .int (nI p)), (2, .int (nI q)), (3, .int t)] [] (mh E o ad F B h)) (H - p) ?_
            intro r hler ihr t B et kB dB
            subst et
            have hp8 : p < H := (i_lt hh zc7 hlep (by omega))
            refine g_iload_n (n := 23) C dX11_weighs_22 rfl rfl ?_
            refine g_iload_n (n := 24) C dX11_weighs_23 rfl rfl ?_
            refine g_iadd (n := 25) C dX11_weighs_24 rfl ?_
            refine g_aload_n (n := 26) C dX11_weighs_25 rfl rfl ?_
            refine m_get (n := 29) 27 C dX11_weighs_26 rfl (by decide) rfl w_1127 rfl ?_
            refine g_icmp_ge (n := 32) (t := 209) C dX11_weighs_29 rfl (by decide) (fun zc29 => ?_) (fun zc29 => ?_)
            · --t29
              refine g_iinc (n := 212) C dX11_weighs_209 rfl rfl rfl (by decide) ?_
              refine g_goto (t := 12) C dX11_weighs_212 (by decide) ?_
              exact g_lv [0, 1, 2] rfl (ihq (i_lt hw zc17 hleq (by omega)) _ _ (nI_1 q) kB (fun x y w h h1 h2 h3 => dB x y w h h1 h2 (by have := eq_ge hh zc29 hler (by omega) (by omega) (by omega); unfold lex4 at h3 ⊢; omega)))
            · --f29
              refine g_iconst (n := 33) (v := 0) C dX11_weighs_32 rfl (by decide) ?_
              refine g_istore (n := 35) C dX11_weighs_33 rfl (by decide) ?_
              have ls : ∀ s : Nat, s ≤ W - q → ∀ (t : Int32) (B : Nat → Nat → Int32), t = nI s → wkeep A B → wdone (A 28) W H B p q r s → G K E 8 (QM K E none 0 0 P) 0 0 35 [(0, .ref o), (1, .int (nI p)), (2, .int (nI q)), (3, .int (nI r)), (4, .int t)] [] (mh E o ad F B h) := by
                refine loopN (fun s => ∀ (t : Int32) (B : Nat → Nat → Int32), t = nI s → wkeep A B → wdone (A 28) W H B p q r s → G K E 8 (QM K E none 0 0 P) 0 0 35 [(0, .ref o), (1, .int (nI p)), (2, .int (nI q)), (3, .int (nI r)), (4, .int t)] [] (mh E o ad F B h)) (W - q) ?_
                intro s hles ihs t B et kB dB
                subst et
                have hq8 : q < W := (i_lt hw zc17 hleq (by omega))
                refine g_iload (n := 37) C dX11_weighs_35 rfl rfl ?_
                refine g_iload_n (n := 38) C dX11_weighs_37 rfl rfl ?_
                refine g_iadd (n := 39) C dX11_weighs_38 rfl ?_
                refine g_aload_n (n := 40) C dX11_weighs_39 rfl rfl ?_
                refine m_get (n := 43) 26 C dX11_weighs_40 rfl (by decide) rfl w_1126 rfl ?_
                refine g_icmp_ge (n := 46) (t := 203) C dX11_weighs_43 rfl (by decide) (fun zc43 => ?_) (fun zc43 => ?_)
                · --t43
                  refine g_iinc (n := 206) C dX11_weighs_203 rfl rfl rfl (by decide) ?_
                  refine g_goto (t := 22) C dX11_weighs_206 (by decide) ?_
                  exact g_lv [0, 1, 2, 3] rfl (ihr (by have := (lt_ge hh zc29 hler (by omega) (by omega)); omega) _ _ (nI_1 r) kB (fun x y w h h1 h2 h3 => dB x y w h h1 h2 (by have := eq_ge hw zc43 hles (by omega) (by omega) (by omega); unfold lex4 at h3 ⊢; omega)))
                · --f43
                  have hp9 : p < H := (i_lt hh zc7 hlep (by omega))
                  have hq9 : q < W := (i_lt hw zc17 hleq (by omega))
                  have hy9 : r + p < H := (lt_ge hh zc29 hler (by omega) (by omega))
                  have hx9 : s + q < W := (lt_ge hw zc43 hles (by omega) (by omega))
                  have hpx : s + q < 10 := by omega
                  have hpy : r + p < 8 := by omega
                  refine g_iload (n := 48) C dX11_weighs_46 rfl rfl ?_
                  refine g_iload_n (n := 49) C dX11_weighs_48 rfl rfl ?_
                  refine g_iload_n (n := 50) C dX11_weighs_49 rfl rfl ?_
                  refine g_iload_n (n := 51) C dX11_weighs_50 rfl rfl ?_
                  refine g_callS (n := 54) (As := [.int _, .int _, .int _, .int _]) C dX11_weighs_51 rfl mw_X11_placeOf w_1379 rfl rfl (room hR rfl) (ct_place ?_)
                  rw [rplace_n]
                  refine g_istore (n := 56) C dX11_weighs_54 rfl (by decide) ?_
                  refine g_iload_n (n := 57) C dX11_weighs_56 rfl rfl ?_
                  refine g_iconst (n := 58) (v := 1) C dX11_weighs_57 rfl (by decide) ?_
                  refine g_iadd (n := 59) C dX11_weighs_58 rfl ?_
                  refine g_iload_n (n := 60) C dX11_weighs_59 rfl rfl ?_
                  refine g_iconst (n := 61) (v := 1) C dX11_weighs_60 rfl (by decide) ?_
                  refine g_iadd (n := 62) C dX11_weighs_61 rfl ?_
                  refine g_imul (n := 63) C dX11_weighs_62 rfl ?_
                  rw [nI_1, nI_1]
                  refine g_istore (n := 65) C dX11_weighs_63 rfl (by decide) ?_
                  have mid : ∀ (c6 : Int32) (v : Int32 × Int32), v = tba (A 28) s r q p → G K E 8 (QM K E none 0 0 P) 0 0 101 [(0, .ref o), (1, .int (nI p)), (2, .int (nI q)), (3, .int (nI r)), (4, .int (nI s)), (5, .int (nI (npl s r q p))), (6, .int c6)] [] (mh E o ad F (aset2 B (npl s r q p) v) h) := by
                    intro c6 v ev0
                    refine g_iconst (n := 102) (v := 0) C dX11_weighs_101 rfl (by decide) ?_
                    refine g_istore (n := 104) C dX11_weighs_102 rfl (by decide) ?_
                    have lk : ∀ k : Nat, k ≤ q → ∀ (t7 : Int32) (v : Int32 × Int32), t7 = nI k → v = tvf (rT (A 28)) (tba (A 28) s r q p) s r q p k → G K E 8 (QM K E none 0 0 P) 0 0 104 [(0, .ref o), (1, .int (nI p)), (2, .int (nI q)), (3, .int (nI r)), (4, .int (nI s)), (5, .int (nI (npl s r q p))), (6, .int c6), (7, .int t7)] [] (mh E o ad F (aset2 B (npl s r q p) v) h) := by
                      refine loopN (fun k => ∀ (t7 : Int32) (v : Int32 × Int32), t7 = nI k → v = tvf (rT (A 28)) (tba (A 28) s r q p) s r q p k → G K E 8 (QM K E none 0 0 P) 0 0 104 [(0, .ref o), (1, .int (nI p)), (2, .int (nI q)), (3, .int (nI r)), (4, .int (nI s)), (5, .int (nI (npl s r q p))), (6, .int c6), (7, .int t7)] [] (mh E o ad F (aset2 B (npl s r q p) v) h)) (q) ?_
                      intro k hlek ihk t7 v e7 ev
                      subst e7
                      refine g_iload (n := 106) C dX11_weighs_104 rfl rfl ?_
                      refine g_iload_n (n := 107) C dX11_weighs_106 rfl rfl ?_
                      refine g_icmp_ge (n := 110) (t := 149) C dX11_weighs_107 rfl (by decide) (fun zc107 => ?_) (fun zc107 => ?_)
                      · --t107
                        refine g_iconst (n := 150) (v := 0) C dX11_weighs_149 rfl (by decide) ?_
                        refine g_istore (n := 152) C dX11_weighs_150 rfl (by decide) ?_
                        have ll : ∀ l : Nat, l ≤ p → ∀ (t7 : Int32) (v : Int32 × Int32), t7 = nI l → v = thf (rT (A 28)) (tvf (rT (A 28)) (tba (A 28) s r q p) s r q p q) s r q p l → G K E 8 (QM K E none 0 0 P) 0 0 152 [(0, .ref o), (1, .int (nI p)), (2, .int (nI q)), (3, .int (nI r)), (4, .int (nI s)), (5, .int (nI (npl s r q p))), (6, .int c6), (7, .int t7)] [] (mh E o ad F (aset2 B (npl s r q p) v) h) := by
                          refine loopN (fun l => ∀ (t7 : Int32) (v : Int32 × Int32), t7 = nI l → v = thf (rT (A 28)) (tvf (rT (A 28)) (tba (A 28) s r q p) s r q p q) s r q p l → G K E 8 (QM K E none 0 0 P) 0 0 152 [(0, .ref o), (1, .int (nI p)), (2, .int (nI q)), (3, .int (nI r)), (4, .int (nI s)), (5, .int (nI (npl s r q p))), (6, .int c6), (7, .int t7)] [] (mh E o ad F (aset2 B (npl s r q p) v) h)) (p) ?_
                          intro l hlel ihl t7 v e7 ev2
                          subst e7
                          refine g_iload (n := 154) C dX11_weighs_152 rfl rfl ?_
                          refine g_iload_n (n := 155) C dX11_weighs_154 rfl rfl ?_
                          refine g_icmp_ge (n := 158) (t := 197) C dX11_weighs_155 rfl (by decide) (fun zc155 => ?_) (fun zc155 => ?_)
                          · --t155
                            refine g_iinc (n := 200) C dX11_weighs_197 rfl rfl rfl (by decide) ?_
                            refine g_goto (t := 35) C dX11_weighs_200 (by decide) ?_
                            exact g_lv [0, 1, 2, 3, 4] rfl (ihs (by omega) _ _ (nI_1 s) (aset2_keep kB) (wdone_s hW hH dB hx9 hy9 _ (by rw [rT_step, ev2]; unfold tstep; have el := i_eq (n := p) rfl zc155 hlel (by omega); rw [el])))
                          · --f155
                            have hl9 : l < p := i_lt (n := p) rfl zc155 hlel (by omega)
                            refine g_aload_n (n := 159) C dX11_weighs_158 rfl rfl ?_
                            refine g_iload (n := 161) C dX11_weighs_159 rfl rfl ?_
                            refine g_iload (n := 163) C dX11_weighs_161 rfl rfl ?_
                            refine g_iload_n (n := 164) C dX11_weighs_163 rfl rfl ?_
                            refine g_iload_n (n := 165) C dX11_weighs_164 rfl rfl ?_
                            refine g_iload (n := 167) C dX11_weighs_165 rfl rfl ?_
                            refine g_callS (n := 170) (As := [.int _, .int _, .int _, .int _]) C dX11_weighs_167 rfl mw_X11_placeOf w_1379 rfl rfl (room hR rfl) (ct_place ?_)
                            rw [rplace_n]
                            refine g_iload (n := 172) C dX11_weighs_170 rfl rfl ?_
                            refine g_iload_n (n := 173) C dX11_weighs_172 rfl rfl ?_
                            refine g_iload (n := 175) C dX11_weighs_173 rfl rfl ?_
                            refine g_iadd (n := 176) C dX11_weighs_175 rfl ?_
                            refine g_iconst (n := 177) (v := 1) C dX11_weighs_176 rfl (by decide) ?_
                            refine g_iadd (n := 178) C dX11_weighs_177 rfl ?_
                            refine g_iload_n (n := 179) C dX11_weighs_178 rfl rfl ?_
                            refine g_iload_n (n := 180) C dX11_weighs_179 rfl rfl ?_
                            refine g_iload (n := 182) C dX11_weighs_180 rfl rfl ?_
                            refine g_isub (n := 183) C dX11_weighs_182 rfl ?_
                            refine g_iconst (n := 184) (v := 1) C dX11_weighs_183 rfl (by decide) ?_
                            refine g_isub (n := 185) C dX11_weighs_184 rfl ?_
                            rw [show nI r + nI l + 1 = nI (r + l + 1) from by rw [nI_add, nI_1], show nI p - nI l - 1 = nI (p - l - 1) from by rw [pk_sub (by omega)]; exact pk_sub (b := 1) (by omega)]
                            refine g_callS (n := 188) (As := [.int _, .int _, .int _, .int _]) C dX11_weighs_185 rfl mw_X11_placeOf w_1379 rfl rfl (room hR rfl) (ct_place ?_)
                            rw [rplace_n]
                            have bs := bt_set (B := B) (t := npl s r q p) (v := v) (va := rT (A 28) s r q l) (vb := rT (A 28) s (r + l + 1) q (p - l - 1)) (fun zz => by have := npl_inj (by omega) (by omega) (by omega) (by omega) (by omega) (by omega) zz; omega) (fun zz => by have := npl_inj (by omega) (by omega) (by omega) (by omega) (by omega) (by omega) zz; omega) (dB s r q l (by omega) (by omega) (by unfold lex4; omega)) (dB s (r + l + 1) q (p - l - 1) (by omega) (by omega) (by unfold lex4; omega))
                            refine g_callV (n := 191) (As := [.int _, .int _, .int _]) C dX11_weighs_188 rfl mw_X11_better w_1386 (g_recv C mh_o rfl) rfl rfl (room hR rfl) (ct_better I (npl_lt hpx hpy) (npl_lt (by omega) (by omega)) (npl_lt (by omega) (by omega)) (fun zk => ?_) (fun zk => ?_))
                            ·
                              rw [bs.1 zk]
                              refine g_iinc (n := 194) C dX11_weighs_191 rfl rfl rfl (by decide) ?_
                              refine g_goto (t := 152) C dX11_weighs_194 (by decide) ?_
                              exact g_lv [0, 1, 2, 3, 4, 5, 6, 7] rfl (ihl hl9 _ _ (nI_1 l) (by rw [ev2]; rfl))
                            ·
                              rw [bs.2 zk]
                              refine g_iinc (n := 194) C dX11_weighs_191 rfl rfl rfl (by decide) ?_
                              refine g_goto (t := 152) C dX11_weighs_194 (by decide) ?_
                              exact g_lv [0, 1, 2, 3, 4, 5, 6, 7] rfl (ihl hl9 _ _ (nI_1 l) (by rw [ev2]; rfl))
                        exact g_lv [0, 1, 2, 3, 4, 5, 6, 7] rfl (ll 0 (Nat.zero_le _) _ _ rfl (by have ek := i_eq (n := q) rfl zc107 hlek (by omega); subst ek; exact ev))
                      · --f107
                        have hk9 : k < q := i_lt (n := q) rfl zc107 hlek (by omega)
                        refine g_aload_n (n := 111) C dX11_weighs_110 rfl rfl ?_
                        refine g_iload (n := 113) C dX11_weighs_111 rfl rfl ?_
                        refine g_iload (n := 115) C dX11_weighs_113 rfl rfl ?_
                        refine g_iload_n (n := 116) C dX11_weighs_115 rfl rfl ?_
                        refine g_iload (n := 118) C dX11_weighs_116 rfl rfl ?_
                        refine g_iload_n (n := 119) C dX11_weighs_118 rfl rfl ?_
                        refine g_callS (n := 122) (As := [.int _, .int _, .int _, .int _]) C dX11_weighs_119 rfl mw_X11_placeOf w_1379 rfl rfl (room hR rfl) (ct_place ?_)
                        rw [rplace_n]
                        refine g_iload (n := 124) C dX11_weighs_122 rfl rfl ?_
                        refine g_iload (n := 126) C dX11_weighs_124 rfl rfl ?_
                        refine g_iadd (n := 127) C dX11_weighs_126 rfl ?_
                        refine g_iconst (n := 128) (v := 1) C dX11_weighs_127 rfl (by decide) ?_
                        refine g_iadd (n := 129) C dX11_weighs_128 rfl ?_
                        refine g_iload_n (n := 130) C dX11_weighs_129 rfl rfl ?_
                        refine g_iload_n (n := 131) C dX11_weighs_130 rfl rfl ?_
                        refine g_iload (n := 133) C dX11_weighs_131 rfl rfl ?_
                        refine g_isub (n := 134) C dX11_weighs_133 rfl ?_
                        refine g_iconst (n := 135) (v := 1) C dX11_weighs_134 rfl (by decide) ?_
                        refine g_isub (n := 136) C dX11_weighs_135 rfl ?_
                        refine g_iload_n (n := 137) C dX11_weighs_136 rfl rfl ?_
                        rw [show nI s + nI k + 1 = nI (s + k + 1) from by rw [nI_add, nI_1], show nI q - nI k - 1 = nI (q - k - 1) from by rw [pk_sub (by omega)]; exact pk_sub (b := 1) (by omega)]
                        refine g_callS (n := 140) (As := [.int _, .int _, .int _, .int _]) C dX11_weighs_137 rfl mw_X11_placeOf w_1379 rfl rfl (room hR rfl) (ct_place ?_)
                        rw [rplace_n]
                        have bs := bt_set (B := B) (t := npl s r q p) (v := v) (va := rT (A 28) s r k p) (vb := rT (A 28) (s + k + 1) r (q - k - 1) p) (fun zz => by have := npl_inj (by omega) (by omega) (by omega) (by omega) (by omega) (by omega) zz; omega) (fun zz => by have := npl_inj (by omega) (by omega) (by omega) (by omega) (by omega) (by omega) zz; omega) (dB s r k p (by omega) (by omega) (by unfold lex4; omega)) (dB (s + k + 1) r (q - k - 1) p (by omega) (by omega) (by unfold lex4; omega))
                        refine g_callV (n := 143) (As := [.int _, .int _, .int _]) C dX11_weighs_140 rfl mw_X11_better w_1386 (g_recv C mh_o rfl) rfl rfl (room hR rfl) (ct_better I (npl_lt hpx hpy) (npl_lt (by omega) (by omega)) (npl_lt (by omega) (by omega)) (fun zk => ?_) (fun zk => ?_))
                        ·
                          rw [bs.1 zk]
                          refine g_iinc (n := 146) C dX11_weighs_143 rfl rfl rfl (by decide) ?_
                          refine g_goto (t := 104) C dX11_weighs_146 (by decide) ?_
                          exact g_lv [0, 1, 2, 3, 4, 5, 6, 7] rfl (ihk hk9 _ _ (nI_1 k) (by rw [ev]; rfl))
                        ·
                          rw [bs.2 zk]
                          refine g_iinc (n := 146) C dX11_weighs_143 rfl rfl rfl (by decide) ?_
                          refine g_goto (t := 104) C dX11_weighs_146 (by decide) ?_
                          exact g_lv [0, 1, 2, 3, 4, 5, 6, 7] rfl (ihk hk9 _ _ (nI_1 k) (by rw [ev]; rfl))
                    exact g_lv [0, 1, 2, 3, 4, 5, 6, 7] rfl (lk 0 (Nat.zero_le _) _ _ rfl ev0)
                  refine g_aload_n (n := 66) C dX11_weighs_65 rfl rfl ?_
                  refine m_get (n := 69) 29 C dX11_weighs_66 rfl (by decide) rfl w_1129 rfl ?_
                  refine g_iload (n := 71) C dX11_weighs_69 rfl rfl ?_
                  refine g_aload_n (n := 72) C dX11_weighs_71 rfl rfl ?_
                  refine g_iload (n := 74) C dX11_weighs_72 rfl rfl ?_
                  refine g_iload_n (n := 75) C dX11_weighs_74 rfl rfl ?_
                  refine g_iload_n (n := 76) C dX11_weighs_75 rfl rfl ?_
                  refine g_iload_n (n := 77) C dX11_weighs_76 rfl rfl ?_
                  refine g_callV (n := 80) (As := [.int _, .int _, .int _, .int _]) C dX11_weighs_77 rfl mw_X11_isClear w_1382 (g_recv C mh_o rfl) rfl rfl (room hR rfl) (ct_clear I hpx hpy (fun za77 => ?_) (fun za77 => ?_))
                  · --k77.0
                    refine g_if_eq (n := 83) (t := 91) C dX11_weighs_80 rfl (by decide) (fun zc80 => ?_) (fun zc80 => ?_)
                    · exact absurd zc80 (by decide)
                    refine g_iload (n := 85) C dX11_weighs_83 rfl rfl ?_
                    refine g_iload (n := 87) C dX11_weighs_85 rfl rfl ?_
                    refine g_imul (n := 88) C dX11_weighs_87 rfl ?_
                    refine g_goto (t := 92) C dX11_weighs_88 (by decide) ?_
                    refine m_iast (n := 93) 29 (npl s r q p) C dX11_weighs_92 rfl I (by decide) (fun _ => rfl) rfl (npl_lt hpx hpy) (by decide) ?_
                    refine g_aload_n (n := 94) C dX11_weighs_93 rfl rfl ?_
                    refine m_get (n := 97) 30 C dX11_weighs_94 rfl (by decide) rfl w_1130 rfl ?_
                    refine g_iload (n := 99) C dX11_weighs_97 rfl rfl ?_
                    refine g_iconst (n := 100) (v := 0) C dX11_weighs_99 rfl (by decide) ?_
                    refine m_iast (n := 101) 30 (npl s r q p) C dX11_weighs_100 rfl I (by decide) (fun _ => rfl) rfl (npl_lt hpx hpy) (by decide) ?_
                    exact g_lv [0, 1, 2, 3, 4, 5, 6] rfl (mid _ (_, 0) (by unfold tba; first | rw [if_pos (show rclr (A 28) s r q p by rw [← kB 28 (by decide) (by decide)]; assumption)] | rw [if_neg (show ¬ rclr (A 28) s r q p by rw [← kB 28 (by decide) (by decide)]; assumption)]))
                  · --k77.1
                    refine g_if_eq (n := 83) (t := 91) C dX11_weighs_80 rfl (by decide) (fun zc80 => ?_) (fun zc80 => ?_)
                    rotate_left
                    · exact absurd zc80 (by decide)
                    refine g_iconst (n := 92) (v := 0) C dX11_weighs_91 rfl (by decide) ?_
                    refine m_iast (n := 93) 29 (npl s r q p) C dX11_weighs_92 rfl I (by decide) (fun _ => rfl) rfl (npl_lt hpx hpy) (by decide) ?_
                    refine g_aload_n (n := 94) C dX11_weighs_93 rfl rfl ?_
                    refine m_get (n := 97) 30 C dX11_weighs_94 rfl (by decide) rfl w_1130 rfl ?_
                    refine g_iload (n := 99) C dX11_weighs_97 rfl rfl ?_
                    refine g_iconst (n := 100) (v := 0) C dX11_weighs_99 rfl (by decide) ?_
                    refine m_iast (n := 101) 30 (npl s r q p) C dX11_weighs_100 rfl I (by decide) (fun _ => rfl) rfl (npl_lt hpx hpy) (by decide) ?_
                    exact g_lv [0, 1, 2, 3, 4, 5, 6] rfl (mid _ (_, 0) (by unfold tba; first | rw [if_pos (show rclr (A 28) s r q p by rw [← kB 28 (by decide) (by decide)]; assumption)] | rw [if_neg (show ¬ rclr (A 28) s r q p by rw [← kB 28 (by decide) (by decide)]; assumption)]))
              exact g_lv [0, 1, 2, 3, 4] rfl (ls 0 (Nat.zero_le _) _ _ rfl kB dB)
          exact g_lv [0, 1, 2, 3] rfl (lr 0 (Nat.zero_le _) _ _ rfl kB dB)
      exact g_lv [0, 1, 2] rfl (lq 0 (Nat.zero_le _) _ _ rfl kB dB)
  exact g_lv [0, 1] rfl (lp 0 (Nat.zero_le _) _ _ rfl (fun _ _ _ => rfl) (fun x y w h h1 h2 h3 => by unfold lex4 at h3; omega))
