theorem qu_at (f : Nat → Int32) (k : Nat) (x : Int32) : upd f k x k = x := if_pos rfl
theorem qu_ne {f : Nat → Int32} {k j : Nat} {x : Int32} (h : j ≠ k) : upd f k x j = f j := if_neg h
theorem qu_up (f : Nat → Int32) (k : Nat) (x y : Int32) : upd (upd f k x) k y = upd f k y := by
  funext j
  unfold upd
  by_cases h : j = k
  · rw [if_pos h, if_pos h]
  · rw [if_neg h, if_neg h, if_neg h]
theorem crun_chk : (List.range 10).all (fun b => (List.range 10).all (fun a => (List.range 10).all (fun d => (List.range 10).all (fun c => !(decide (a ≤ b) && decide (c ≤ d) && crun a b == crun c d) || (a == c && b == d))))) = true := by decide +kernel
theorem crun_inj : ∀ b, b < 10 → ∀ a, a ≤ b → ∀ d, d < 10 → ∀ c, c ≤ d → crun a b = crun c d → a = c ∧ b = d := by
  intro b hb a ha d hd c hc e
  have h1 := List.all_eq_true.mp (List.all_eq_true.mp (List.all_eq_true.mp (List.all_eq_true.mp crun_chk b (List.mem_range.mpr hb)) a (List.mem_range.mpr (by omega))) d (List.mem_range.mpr hd)) c (List.mem_range.mpr (by omega))
  simpa [ha, hc, e] using h1
theorem cpl_inj {l t r b l' t' r' b' : Nat} (h1 : l ≤ r) (h2 : r < 10) (h3 : t ≤ b) (h4 : b < 8) (g1 : l' ≤ r') (g2 : r' < 10) (g3 : t' ≤ b') (g4 : b' < 8) (e : cpl l t r b = cpl l' t' r' b') : l = l' ∧ t = t' ∧ r = r' ∧ b = b' := by
  have q1 := crun_le8 b h4 t h3
  have q2 := crun_le8 b' g4 t' g3
  unfold cpl at e
  have e1 : crun l r = crun l' r' := by omega
  have e2 : crun t b = crun t' b' := by omega
  have r1 := crun_inj r h2 l h1 r' g2 l' g1 e1
  have r2 := crun_inj b (by omega) t h3 b' (by omega) t' g3 e2
  exact ⟨r1.1, r2.1, r1.2, r2.2⟩
theorem rclr_v {Z : Nat → Int32} {x y w h k : Nat} (hk : k < w) : rclr Z x y w h ↔ rclr Z x y k h ∧ rclr Z (x + k + 1) y (w - k - 1) h := by
  unfold rclr
  constructor
  · intro q
    refine ⟨fun j i hj hi => q j i hj (by omega), fun j i hj hi => ?_⟩
    have := q j (k + 1 + i) hj (by omega)
    rw [show x + (k + 1 + i) = x + k + 1 + i from by omega] at this
    exact this
  · rintro ⟨q1, q2⟩ j i hj hi
    by_cases c : i ≤ k
    · exact q1 j i hj c
    · have := q2 j (i - (k + 1)) hj (by omega)
      rw [show x + k + 1 + (i - (k + 1)) = x + i from by omega] at this
      exact this
theorem rclr_h {Z : Nat → Int32} {x y w h k : Nat} (hk : k < h) : rclr Z x y w h ↔ rclr Z x y w k ∧ rclr Z x (y + k + 1) w (h - k - 1) := by
  unfold rclr
  constructor
  · intro q
    refine ⟨fun j i hj hi => q j i (by omega) hi, fun j i hj hi => ?_⟩
    have := q (k + 1 + j) i (by omega) hi
    rw [show y + (k + 1 + j) = y + k + 1 + j from by omega] at this
    exact this
  · rintro ⟨q1, q2⟩ j i hj hi
    by_cases c : j ≤ k
    · exact q1 j i c hi
    · have := q2 (j - (k + 1)) i (by omega) hi
      rw [show y + k + 1 + (j - (k + 1)) = y + j from by omega] at this
      exact this
theorem sq_lt {A B M : Nat} (hA : 0 < A) (hB : 0 < B) (hM : A + B = M) (h2 : M ≤ 80) : nI (A * A) + nI (B * B) < nI (M * M) := by
  subst hM
  have h3 : (A + B) * (A + B) ≤ 80 * 80 := Nat.mul_le_mul h2 h2
  have h4 : 0 < A * B := Nat.mul_pos hA hB
  have h5 : (A + B) * (A + B) = A * A + A * B + (B * A + B * B) := by rw [Nat.add_mul, Nat.mul_add, Nat.mul_add]
  rw [nI_add]
  exact nI_lt (by omega) (by omega)
theorem bt_keep {c a b : Int32 × Int32} (h : a.1 + b.1 < c.1) : bt c a b = c := by
  unfold bt
  rw [if_pos h]
/-- a piece without a flaw is best uncut -/
theorem rT_clear {Z : Nat → Int32} : ∀ s x y w h, w + h ≤ s → w < 10 → h < 8 → rclr Z x y w h → rT Z x y w h = (nI ((w + 1) * (h + 1) * ((w + 1) * (h + 1))), 0) := by
  intro s
  induction s with
  | zero =>
    intro x y w h hs hw hh hc
    have e1 : w = 0 := by omega
    have e2 : h = 0 := by omega
    subst e1; subst e2
    rw [rT_step]
    show tba Z x y 0 0 = _
    unfold tba
    rw [if_pos hc]
    rfl
  | succ s ih =>
    intro x y w h hs hw hh hc
    have hM : (w + 1) * (h + 1) ≤ 10 * 8 := Nat.mul_le_mul (by omega) (by omega)
    have eb : tba Z x y w h = (nI ((w + 1) * (h + 1) * ((w + 1) * (h + 1))), 0) := by
      unfold tba
      rw [if_pos hc, pk_mul, pk_mul]
    have ev : ∀ k, k ≤ w → tvf (rT Z) (nI ((w + 1) * (h + 1) * ((w + 1) * (h + 1))), 0) x y w h k = (nI ((w + 1) * (h + 1) * ((w + 1) * (h + 1))), 0) := by
      intro k
      induction k with
      | zero => intro _; rfl
      | succ k ihk =>
        intro hk
        have hc2 := (rclr_v (k := k) (by omega)).mp hc
        unfold tvf
        rw [ihk (by omega), ih x y k h (by omega) (by omega) hh hc2.1, ih (x + k + 1) y (w - k - 1) h (by omega) (by omega) hh hc2.2]
        refine bt_keep (sq_lt (Nat.mul_pos (by omega) (by omega)) (Nat.mul_pos (by omega) (by omega)) ?_ hM)
        rw [← Nat.add_mul, show k + 1 + (w - k - 1 + 1) = w + 1 from by omega]
    have eh : ∀ k, k ≤ h → thf (rT Z) (nI ((w + 1) * (h + 1) * ((w + 1) * (h + 1))), 0) x y w h k = (nI ((w + 1) * (h + 1) * ((w + 1) * (h + 1))), 0) := by
      intro k
      induction k with
      | zero => intro _; rfl
      | succ k ihk =>
        intro hk
        have hc2 := (rclr_h (k := k) (by omega)).mp hc
        unfold thf
        rw [ihk (by omega), ih x y w k (by omega) hw (by omega) hc2.1, ih x (y + k + 1) w (h - k - 1) (by omega) hw (by omega) hc2.2]
        refine bt_keep (sq_lt (Nat.mul_pos (by omega) (by omega)) (Nat.mul_pos (by omega) (by omega)) ?_ hM)
        rw [← Nat.mul_add, show k + 1 + (h - k - 1 + 1) = h + 1 from by omega]
    rw [rT_step]
    unfold tstep
    rw [eb, ev w (Nat.le_refl _), eh h (Nat.le_refl _)]
/-- the class's tables are right at a piece -/
def cdn (Z C W F : Nat → Int32) (x y w h : Nat) : Prop := (C (cpl x y (x + w) (y + h)) = 0 ↔ ¬ rclr Z x y w h) ∧ W (cpl x y (x + w) (y + h)) = (rT Z x y w h).1 ∧ F (cpl x y (x + w) (y + h)) = (rT Z x y w h).2
theorem cclr_iff {Z C W F : Nat → Int32} {x y w h : Nat} (hv : ∀ k, k < w → cdn Z C W F x y k h ∧ cdn Z C W F (x + k + 1) y (w - k - 1) h) (hh : ∀ k, k < h → cdn Z C W F x y w k ∧ cdn Z C W F x (y + k + 1) w (h - k - 1)) : cclr C Z x y (x + w) (y + h) ↔ rclr Z x y w h := by
  unfold cclr
  by_cases c : 0 < w
  · obtain ⟨h1, h2⟩ := hv 0 c
    have e1 := h1.1
    have e2 := h2.1
    rw [show x + 0 + 1 + (w - 0 - 1) = x + w from by omega] at e2
    have hs := rclr_v (Z := Z) (x := x) (y := y) (w := w) (h := h) (k := 0) c
    constructor
    · rintro (⟨-, q1, q2⟩ | ⟨q0, -⟩ | ⟨q0, -⟩)
      · exact hs.mpr ⟨Classical.byContradiction (fun z => q1 (e1.mpr z)), Classical.byContradiction (fun z => q2 (e2.mpr z))⟩
      · exact absurd (show x < x + w by omega) q0
      · exact absurd (show x < x + w by omega) q0
    · intro q
      have q2 := hs.mp q
      exact Or.inl ⟨by omega, fun z => e1.mp z q2.1, fun z => e2.mp z q2.2⟩
  · have ew : w = 0 := by omega
    subst ew
    by_cases c2 : 0 < h
    · obtain ⟨h1, h2⟩ := hh 0 c2
      have e1 := h1.1
      have e2 := h2.1
      rw [show y + 0 + 1 + (h - 0 - 1) = y + h from by omega] at e2
      have hs := rclr_h (Z := Z) (x := x) (y := y) (w := 0) (h := h) (k := 0) c2
      constructor
      · rintro (⟨q0, -⟩ | ⟨-, -, q1, q2⟩ | ⟨-, q0, -⟩)
        · exact absurd q0 (by omega)
        · exact hs.mpr ⟨Classical.byContradiction (fun z => q1 (e1.mpr z)), Classical.byContradiction (fun z => q2 (e2.mpr z))⟩
        · exact absurd (show y < y + h by omega) q0
      · intro q
        have q2 := hs.mp q
        exact Or.inr (Or.inl ⟨by omega, by omega, fun z => e1.mp z q2.1, fun z => e2.mp z q2.2⟩)
    · have eh : h = 0 := by omega
      subst eh
      constructor
      · rintro (⟨q0, -⟩ | ⟨-, q0, -⟩ | ⟨-, -, q1⟩)
        · exact absurd q0 (by omega)
        · exact absurd q0 (by omega)
        · intro j i hj hi
          have ej : j = 0 := by omega
          have ei : i = 0 := by omega
          subst ej; subst ei
          exact q1
      · intro q
        exact Or.inr (Or.inr ⟨by omega, by omega, q 0 0 (by omega) (by omega)⟩)
theorem wg_1 {Wf Ff : Nat → Int32} {p a b : Nat} {v va vb : Int32 × Int32} (hap : a ≠ p) (hbp : b ≠ p) (ea : Wf a = va.1 ∧ Ff a = va.2) (eb : Wf b = vb.1 ∧ Ff b = vb.2) (c : cbet (upd Wf p v.1) (upd Ff p v.2) p a b) : upd (upd Wf p v.1) p (upd Wf p v.1 a + upd Wf p v.1 b) = upd Wf p (bt v va vb).1 ∧ upd (upd Ff p v.2) p (upd Ff p v.2 a + upd Ff p v.2 b + 1) = upd Ff p (bt v va vb).2 := by
  unfold cbet at c
  rw [qu_at, qu_at, qu_ne hap, qu_ne hbp, qu_ne hap, qu_ne hbp, ea.1, ea.2, eb.1, eb.2] at c
  rw [qu_up, qu_up, qu_ne hap, qu_ne hbp, qu_ne hap, qu_ne hbp, ea.1, ea.2, eb.1, eb.2]
  unfold bt
  rcases c with c | ⟨c1, c2⟩
  · rw [if_neg (fun z => Int32.lt_irrefl (Int32.lt_trans z c)), if_neg (fun z => by rw [z] at c; exact Int32.lt_irrefl c)]
    exact ⟨rfl, rfl⟩
  · rw [if_neg (fun z => by rw [c1] at z; exact Int32.lt_irrefl z), if_pos c1, if_neg (Int32.not_le.mpr c2)]
    exact ⟨rfl, rfl⟩
theorem wg_0 {Wf Ff : Nat → Int32} {p a b : Nat} {v va vb : Int32 × Int32} (hap : a ≠ p) (hbp : b ≠ p) (ea : Wf a = va.1 ∧ Ff a = va.2) (eb : Wf b = vb.1 ∧ Ff b = vb.2) (c : ¬ cbet (upd Wf p v.1) (upd Ff p v.2) p a b) : bt v va vb = v := by
  unfold cbet at c
  rw [qu_at, qu_at, qu_ne hap, qu_ne hbp, qu_ne hap, qu_ne hbp, ea.1, ea.2, eb.1, eb.2] at c
  unfold bt
  by_cases h1 : va.1 + vb.1 < v.1
  · rw [if_pos h1]
  · rw [if_neg h1]
    by_cases h2 : va.1 + vb.1 = v.1
    · rw [if_pos h2]
      by_cases h3 : v.2 ≤ va.2 + vb.2 + 1
      · rw [if_pos h3]
      · exact absurd (Or.inr ⟨h2, Int32.not_le.mp h3⟩) c
    · rcases Int32.lt_or_lt_of_ne h2 with q | q
      · exact absurd q h1
      · exact absurd (Or.inl q) c
theorem LW3_put {cl wo fe : Nat} {x y z y' z' : va_E} {h : AH} (A : lA [(cl, dE), (wo, dE), (fe, dE)]) : hset (hset (LW [(cl, x), (wo, y), (fe, z)] h) wo y') fe z' = LW [(cl, x), (wo, y'), (fe, z')] h := by
  have A1 : lA [(cl, x), (wo, y), (fe, z)] := A
  have A2 : lA [(cl, x), (wo, y'), (fe, z)] := A
  rw [LW_put A1 1 rfl]
  dsimp only [List.set]
  rw [LW_put A2 2 rfl]
  rfl
theorem LW_LW {L L' : List (Nat × va_E)} {h : AH} (hk : L.map Prod.fst = L'.map Prod.fst) : LW L' (LW L h) = LW L' h := by
  funext b
  unfold LW
  cases f : L'.find? (fun q => q.1 == b) with
  | some q => rfl
  | none =>
    have g : L.find? (fun q => q.1 == b) = none := List.find?_eq_none.mpr (fun z hz e => by
      have hm : z.1 ∈ L'.map Prod.fst := hk ▸ List.mem_map.mpr ⟨z, hz, rfl⟩
      obtain ⟨y, hy, ey⟩ := List.mem_map.mp hm
      exact List.find?_eq_none.mp f y hy (by rw [ey]; exact e))
    rw [g]
theorem dX7_weigh_0 : decode cX7_weigh 0 = .ok (.iload_n 1, 1) := by decide +kernel
theorem dX7_weigh_1 : decode cX7_weigh 1 = .ok (.iload_n 2, 1) := by decide +kernel
theorem dX7_weigh_2 : decode cX7_weigh 2 = .ok (.iload_n 3, 1) := by decide +kernel
theorem dX7_weigh_3 : decode cX7_weigh 3 = .ok (.iload 4, 2) := by decide +kernel
theorem dX7_weigh_5 : decode cX7_weigh 5 = .ok (.invokestatic 37, 3) := by decide +kernel
theorem dX7_weigh_8 : decode cX7_weigh 8 = .ok (.istore 5, 2) := by decide +kernel
theorem dX7_weigh_10 : decode cX7_weigh 10 = .ok (.iload_n 3, 1) := by decide +kernel
theorem dX7_weigh_11 : decode cX7_weigh 11 = .ok (.iload_n 1, 1) := by decide +kernel
theorem dX7_weigh_12 : decode cX7_weigh 12 = .ok (.isub, 1) := by decide +kernel
theorem dX7_weigh_13 : decode cX7_weigh 13 = .ok (.iconst 1, 1) := by decide +kernel
theorem dX7_weigh_14 : decode cX7_weigh 14 = .ok (.iadd, 1) := by decide +kernel
theorem dX7_weigh_15 : decode cX7_weigh 15 = .ok (.iload 4, 2) := by decide +kernel
theorem dX7_weigh_17 : decode cX7_weigh 17 = .ok (.iload_n 2, 1) := by decide +kernel
theorem dX7_weigh_18 : decode cX7_weigh 18 = .ok (.isub, 1) := by decide +kernel
theorem dX7_weigh_19 : decode cX7_weigh 19 = .ok (.iconst 1, 1) := by decide +kernel
theorem dX7_weigh_20 : decode cX7_weigh 20 = .ok (.iadd, 1) := by decide +kernel
theorem dX7_weigh_21 : decode cX7_weigh 21 = .ok (.imul, 1) := by decide +kernel
theorem dX7_weigh_22 : decode cX7_weigh 22 = .ok (.istore 6, 2) := by decide +kernel
theorem dX7_weigh_24 : decode cX7_weigh 24 = .ok (.aload_n 0, 1) := by decide +kernel
theorem dX7_weigh_25 : decode cX7_weigh 25 = .ok (.getfield 13, 3) := by decide +kernel
theorem dX7_weigh_28 : decode cX7_weigh 28 = .ok (.iload 5, 2) := by decide +kernel
theorem dX7_weigh_30 : decode cX7_weigh 30 = .ok (.aload_n 0, 1) := by decide +kernel
theorem dX7_weigh_31 : decode cX7_weigh 31 = .ok (.iload_n 1, 1) := by decide +kernel
theorem dX7_weigh_32 : decode cX7_weigh 32 = .ok (.iload_n 2, 1) := by decide +kernel
theorem dX7_weigh_33 : decode cX7_weigh 33 = .ok (.iload_n 3, 1) := by decide +kernel
theorem dX7_weigh_34 : decode cX7_weigh 34 = .ok (.iload 4, 2) := by decide +kernel
theorem dX7_weigh_36 : decode cX7_weigh 36 = .ok (.invokevirtual 45, 3) := by decide +kernel
theorem dX7_weigh_39 : decode cX7_weigh 39 = .ok (.bastore, 1) := by decide +kernel
theorem dX7_weigh_40 : decode cX7_weigh 40 = .ok (.aload_n 0, 1) := by decide +kernel
theorem dX7_weigh_41 : decode cX7_weigh 41 = .ok (.getfield 16, 3) := by decide +kernel
theorem dX7_weigh_44 : decode cX7_weigh 44 = .ok (.iload 5, 2) := by decide +kernel
theorem dX7_weigh_46 : decode cX7_weigh 46 = .ok (.aload_n 0, 1) := by decide +kernel
theorem dX7_weigh_47 : decode cX7_weigh 47 = .ok (.getfield 13, 3) := by decide +kernel
theorem dX7_weigh_50 : decode cX7_weigh 50 = .ok (.iload 5, 2) := by decide +kernel
theorem dX7_weigh_52 : decode cX7_weigh 52 = .ok (.baload, 1) := by decide +kernel
theorem dX7_weigh_53 : decode cX7_weigh 53 = .ok (.ifCond .eq 11, 3) := by decide +kernel
theorem dX7_weigh_56 : decode cX7_weigh 56 = .ok (.iload 6, 2) := by decide +kernel
theorem dX7_weigh_58 : decode cX7_weigh 58 = .ok (.iload 6, 2) := by decide +kernel
theorem dX7_weigh_60 : decode cX7_weigh 60 = .ok (.imul, 1) := by decide +kernel
theorem dX7_weigh_61 : decode cX7_weigh 61 = .ok (.goto 4, 3) := by decide +kernel
theorem dX7_weigh_64 : decode cX7_weigh 64 = .ok (.iconst 0, 1) := by decide +kernel
theorem dX7_weigh_65 : decode cX7_weigh 65 = .ok (.iastore, 1) := by decide +kernel
theorem dX7_weigh_66 : decode cX7_weigh 66 = .ok (.aload_n 0, 1) := by decide +kernel
theorem dX7_weigh_67 : decode cX7_weigh 67 = .ok (.getfield 20, 3) := by decide +kernel
theorem dX7_weigh_70 : decode cX7_weigh 70 = .ok (.iload 5, 2) := by decide +kernel
theorem dX7_weigh_72 : decode cX7_weigh 72 = .ok (.iconst 0, 1) := by decide +kernel
theorem dX7_weigh_73 : decode cX7_weigh 73 = .ok (.iastore, 1) := by decide +kernel
theorem dX7_weigh_74 : decode cX7_weigh 74 = .ok (.aload_n 0, 1) := by decide +kernel
theorem dX7_weigh_75 : decode cX7_weigh 75 = .ok (.getfield 13, 3) := by decide +kernel
theorem dX7_weigh_78 : decode cX7_weigh 78 = .ok (.iload 5, 2) := by decide +kernel
theorem dX7_weigh_80 : decode cX7_weigh 80 = .ok (.baload, 1) := by decide +kernel
theorem dX7_weigh_81 : decode cX7_weigh 81 = .ok (.ifCond .eq 4, 3) := by decide +kernel
theorem dX7_weigh_84 : decode cX7_weigh 84 = .ok (.return_, 1) := by decide +kernel
theorem dX7_weigh_85 : decode cX7_weigh 85 = .ok (.iload_n 1, 1) := by decide +kernel
theorem dX7_weigh_86 : decode cX7_weigh 86 = .ok (.istore 7, 2) := by decide +kernel
theorem dX7_weigh_88 : decode cX7_weigh 88 = .ok (.iload 7, 2) := by decide +kernel
theorem dX7_weigh_90 : decode cX7_weigh 90 = .ok (.iload_n 3, 1) := by decide +kernel
theorem dX7_weigh_91 : decode cX7_weigh 91 = .ok (.if_icmp .ge 35, 3) := by decide +kernel
theorem dX7_weigh_94 : decode cX7_weigh 94 = .ok (.aload_n 0, 1) := by decide +kernel
theorem dX7_weigh_95 : decode cX7_weigh 95 = .ok (.iload 5, 2) := by decide +kernel
theorem dX7_weigh_97 : decode cX7_weigh 97 = .ok (.iload_n 1, 1) := by decide +kernel
theorem dX7_weigh_98 : decode cX7_weigh 98 = .ok (.iload_n 2, 1) := by decide +kernel
theorem dX7_weigh_99 : decode cX7_weigh 99 = .ok (.iload 7, 2) := by decide +kernel
theorem dX7_weigh_101 : decode cX7_weigh 101 = .ok (.iload 4, 2) := by decide +kernel
theorem dX7_weigh_103 : decode cX7_weigh 103 = .ok (.invokestatic 37, 3) := by decide +kernel
theorem dX7_weigh_106 : decode cX7_weigh 106 = .ok (.iload 7, 2) := by decide +kernel
theorem dX7_weigh_108 : decode cX7_weigh 108 = .ok (.iconst 1, 1) := by decide +kernel
theorem dX7_weigh_109 : decode cX7_weigh 109 = .ok (.iadd, 1) := by decide +kernel
theorem dX7_weigh_110 : decode cX7_weigh 110 = .ok (.iload_n 2, 1) := by decide +kernel
theorem dX7_weigh_111 : decode cX7_weigh 111 = .ok (.iload_n 3, 1) := by decide +kernel
theorem dX7_weigh_112 : decode cX7_weigh 112 = .ok (.iload 4, 2) := by decide +kernel
theorem dX7_weigh_114 : decode cX7_weigh 114 = .ok (.invokestatic 37, 3) := by decide +kernel
theorem dX7_weigh_117 : decode cX7_weigh 117 = .ok (.invokevirtual 49, 3) := by decide +kernel
theorem dX7_weigh_120 : decode cX7_weigh 120 = .ok (.iinc 7 1, 3) := by decide +kernel
theorem dX7_weigh_123 : decode cX7_weigh 123 = .ok (.goto (-35), 3) := by decide +kernel
theorem dX7_weigh_126 : decode cX7_weigh 126 = .ok (.iload_n 2, 1) := by decide +kernel
theorem dX7_weigh_127 : decode cX7_weigh 127 = .ok (.istore 7, 2) := by decide +kernel
theorem dX7_weigh_129 : decode cX7_weigh 129 = .ok (.iload 7, 2) := by decide +kernel
theorem dX7_weigh_131 : decode cX7_weigh 131 = .ok (.iload 4, 2) := by decide +kernel
theorem dX7_weigh_133 : decode cX7_weigh 133 = .ok (.if_icmp .ge 34, 3) := by decide +kernel
theorem dX7_weigh_136 : decode cX7_weigh 136 = .ok (.aload_n 0, 1) := by decide +kernel
theorem dX7_weigh_137 : decode cX7_weigh 137 = .ok (.iload 5, 2) := by decide +kernel
theorem dX7_weigh_139 : decode cX7_weigh 139 = .ok (.iload_n 1, 1) := by decide +kernel
theorem dX7_weigh_140 : decode cX7_weigh 140 = .ok (.iload_n 2, 1) := by decide +kernel
theorem dX7_weigh_141 : decode cX7_weigh 141 = .ok (.iload_n 3, 1) := by decide +kernel
theorem dX7_weigh_142 : decode cX7_weigh 142 = .ok (.iload 7, 2) := by decide +kernel
theorem dX7_weigh_144 : decode cX7_weigh 144 = .ok (.invokestatic 37, 3) := by decide +kernel
theorem dX7_weigh_147 : decode cX7_weigh 147 = .ok (.iload_n 1, 1) := by decide +kernel
theorem dX7_weigh_148 : decode cX7_weigh 148 = .ok (.iload 7, 2) := by decide +kernel
theorem dX7_weigh_150 : decode cX7_weigh 150 = .ok (.iconst 1, 1) := by decide +kernel
theorem dX7_weigh_151 : decode cX7_weigh 151 = .ok (.iadd, 1) := by decide +kernel
theorem dX7_weigh_152 : decode cX7_weigh 152 = .ok (.iload_n 3, 1) := by decide +kernel
theorem dX7_weigh_153 : decode cX7_weigh 153 = .ok (.iload 4, 2) := by decide +kernel
theorem dX7_weigh_155 : decode cX7_weigh 155 = .ok (.invokestatic 37, 3) := by decide +kernel
theorem dX7_weigh_158 : decode cX7_weigh 158 = .ok (.invokevirtual 49, 3) := by decide +kernel
theorem dX7_weigh_161 : decode cX7_weigh 161 = .ok (.iinc 7 1, 3) := by decide +kernel
theorem dX7_weigh_164 : decode cX7_weigh 164 = .ok (.goto (-35), 3) := by decide +kernel
theorem dX7_weigh_167 : decode cX7_weigh 167 = .ok (.return_, 1) := by decide +kernel
set_option maxHeartbeats 4000000 in
set_option maxRecDepth 20000 in
theorem cc_weigh {l : Launch} {E : Ev} {P : Value → AH → Prop}  {g fl cl wo fe : Nat} {wi hi z : Int32} {h : AH} (hg : h g = some (.inr (7, [.ref fl, .ref cl, .ref wo, .ref fe, .int wi, .int hi, .int z]))) {Cf Wf Ff Z : Nat → Int32} (hc : h cl = some (.inl (E.2.2 2, 1980, .inl Cf))) (hw : h wo = some (.inl (E.2.2 1, 1980, .inl Wf))) (hf : h fe = some (.inl (E.2.2 1, 1980, .inl Ff))) (hfl : h fl = some (.inl (E.2.2 2, 80, .inl Z))) (A0 : lA [(cl, dE), (wo, dE), (fe, dE)]) (hgn : g ∉ [cl, wo, fe]) (hfn : fl ∉ [cl, wo, fe]) {x9 y9 w9 h9 : Nat} (hx : x9 + w9 < 10) (hy : y9 + h9 < 8) (hv : ∀ k, k < w9 → cdn Z Cf Wf Ff x9 y9 k h9 ∧ cdn Z Cf Wf Ff (x9 + k + 1) y9 (w9 - k - 1) h9) (hh : ∀ k, k < h9 → cdn Z Cf Wf Ff x9 y9 w9 k ∧ cdn Z Cf Wf Ff x9 (y9 + k + 1) w9 (h9 - k - 1)) (hp : ∀ C1 W1 F1 : Nat → Int32, (∀ k, k ≠ (cpl x9 y9 (x9 + w9) (y9 + h9)) → C1 k = Cf k ∧ W1 k = Wf k ∧ F1 k = Ff k) → cdn Z C1 W1 F1 x9 y9 w9 h9 → P .null (LW [(cl, .inl (E.2.2 2, 1980, .inl (C1))), (wo, .inl (E.2.2 1, 1980, .inl (W1))), (fe, .inl (E.2.2 1, 1980, .inl (F1)))] h)) : Mt l E yX7_weigh cX7_weigh 8 none 3 68 0 0 [.ref g, .int (nI x9), .int (nI y9), .int (nI (x9 + w9)), .int (nI (y9 + h9))] (h) P := by
  refine Mt.of (by decide) (Nat.le_of_ble_eq_true rfl) ?_
  intro K hK hR C
  have hwf : wo ≠ fe := fun z => by
    have := A0
    unfold lA at this
    simp [z] at this
  rw [LW_is3 hc hw hf]
  refine g_iload_n (n := 1) C dX7_weigh_0 rfl rfl ?_
  refine g_iload_n (n := 2) C dX7_weigh_1 rfl rfl ?_
  refine g_iload_n (n := 3) C dX7_weigh_2 rfl rfl ?_
  refine g_iload (n := 5) C dX7_weigh_3 rfl rfl ?_
  refine g_callS (n := 8) (As := [.int _, .int _, .int _, .int _]) C dX7_weigh_5 rfl mw_X7_place w_342 rfl rfl (room hR rfl) (cc_place (l9 := x9) (t9 := y9) (r9 := x9 + w9) (b9 := y9 + h9) (by omega) (by omega) (by omega) (by omega) ?_)
  refine g_istore (n := 10) C dX7_weigh_8 rfl (by decide) ?_
  refine g_iload_n (n := 11) C dX7_weigh_10 rfl rfl ?_
  refine g_iload_n (n := 12) C dX7_weigh_11 rfl rfl ?_
  refine g_isub (n := 13) C dX7_weigh_12 rfl ?_
  refine g_iconst (n := 14) (v := 1) C dX7_weigh_13 rfl (by decide) ?_
  refine g_iadd (n := 15) C dX7_weigh_14 rfl ?_
  refine g_iload (n := 17) C dX7_weigh_15 rfl rfl ?_
  refine g_iload_n (n := 18) C dX7_weigh_17 rfl rfl ?_
  refine g_isub (n := 19) C dX7_weigh_18 rfl ?_
  refine g_iconst (n := 20) (v := 1) C dX7_weigh_19 rfl (by decide) ?_
  refine g_iadd (n := 21) C dX7_weigh_20 rfl ?_
  refine g_imul (n := 22) C dX7_weigh_21 rfl ?_
  rw [pk_sub (show x9 ≤ x9 + w9 from by omega), nI_1, pk_sub (show y9 ≤ y9 + h9 from by omega), nI_1, show x9 + w9 - x9 + 1 = w9 + 1 from by omega, show y9 + h9 - y9 + 1 = h9 + 1 from by omega]
  refine g_istore (n := 24) C dX7_weigh_22 rfl (by decide) ?_
  refine g_aload_n (n := 25) C dX7_weigh_24 rfl rfl ?_
  refine b_get (n := 28) (T := TX7) 1 C dX7_weigh_25 rfl hg hgn rfl rfl (by decide) inX7 w_212 rfl ?_
  refine g_iload (n := 30) C dX7_weigh_28 rfl rfl ?_
  refine g_aload_n (n := 31) C dX7_weigh_30 rfl rfl ?_
  refine g_iload_n (n := 32) C dX7_weigh_31 rfl rfl ?_
  refine g_iload_n (n := 33) C dX7_weigh_32 rfl rfl ?_
  refine g_iload_n (n := 34) C dX7_weigh_33 rfl rfl ?_
  refine g_iload (n := 36) C dX7_weigh_34 rfl rfl ?_
  refine g_callV (n := 39) (As := [.int _, .int _, .int _, .int _]) C dX7_weigh_36 rfl mw_X7_isClear w_348 (g_recv C (lnb hg (by exact hgn)) rfl) rfl rfl (room hR rfl) (cc_isClear (lnb hg (by exact hgn)) (LW_at (by exact A0) 0 rfl) (lnb hfl (by exact hfn)) (l9 := x9) (t9 := y9) (r9 := x9 + w9) (b9 := y9 + h9) (by omega) (by omega) (by omega) (by omega) (fun za36 => ?_) (fun zb36 => ?_))
  · --k36.0
    refine l_zast (n := 40) 0 ((cpl x9 y9 (x9 + w9) (y9 + h9))) C dX7_weigh_39 rfl A0 rfl rfl (cpl_lt (by omega) (by omega) (by omega) (by omega)) (by decide) (by rfl) ?_
    dsimp only [List.set]
    refine g_aload_n (n := 41) C dX7_weigh_40 rfl rfl ?_
    refine b_get (n := 44) (T := TX7) 2 C dX7_weigh_41 rfl hg hgn rfl rfl (by decide) inX7 w_213 rfl ?_
    refine g_iload (n := 46) C dX7_weigh_44 rfl rfl ?_
    refine g_aload_n (n := 47) C dX7_weigh_46 rfl rfl ?_
    refine b_get (n := 50) (T := TX7) 1 C dX7_weigh_47 rfl hg hgn rfl rfl (by decide) inX7 w_212 rfl ?_
    refine g_iload (n := 52) C dX7_weigh_50 rfl rfl ?_
    refine l_zald (n := 53) (v := 1) 0 ((cpl x9 y9 (x9 + w9) (y9 + h9))) C dX7_weigh_52 rfl A0 rfl rfl (cpl_lt (by omega) (by omega) (by omega) (by omega)) (by decide) (qu_at _ _ _) ?_
    refine g_if_eq (n := 56) (t := 64) C dX7_weigh_53 rfl (by decide) (fun zc53 => ?_) (fun zc53 => ?_)
    · exact absurd zc53 (by decide)
    refine g_iload (n := 58) C dX7_weigh_56 rfl rfl ?_
    refine g_iload (n := 60) C dX7_weigh_58 rfl rfl ?_
    refine g_imul (n := 61) C dX7_weigh_60 rfl ?_
    refine g_goto (t := 65) C dX7_weigh_61 (by decide) ?_
    refine l_iast (n := 66) 1 ((cpl x9 y9 (x9 + w9) (y9 + h9))) C dX7_weigh_65 rfl A0 rfl rfl (cpl_lt (by omega) (by omega) (by omega) (by omega)) (by decide) ?_
    dsimp only [List.set]
    refine g_aload_n (n := 67) C dX7_weigh_66 rfl rfl ?_
    refine b_get (n := 70) (T := TX7) 3 C dX7_weigh_67 rfl hg hgn rfl rfl (by decide) inX7 w_214 rfl ?_
    refine g_iload (n := 72) C dX7_weigh_70 rfl rfl ?_
    refine g_iconst (n := 73) (v := 0) C dX7_weigh_72 rfl (by decide) ?_
    refine l_iast (n := 74) 2 ((cpl x9 y9 (x9 + w9) (y9 + h9))) C dX7_weigh_73 rfl A0 rfl rfl (cpl_lt (by omega) (by omega) (by omega) (by omega)) (by decide) ?_
    dsimp only [List.set]
    refine g_aload_n (n := 75) C dX7_weigh_74 rfl rfl ?_
    refine b_get (n := 78) (T := TX7) 1 C dX7_weigh_75 rfl hg hgn rfl rfl (by decide) inX7 w_212 rfl ?_
    refine g_iload (n := 80) C dX7_weigh_78 rfl rfl ?_
    refine l_zald (n := 81) (v := 1) 0 ((cpl x9 y9 (x9 + w9) (y9 + h9))) C dX7_weigh_80 rfl A0 rfl rfl (cpl_lt (by omega) (by omega) (by omega) (by omega)) (by decide) (qu_at _ _ _) ?_
    refine g_if_eq (n := 84) (t := 85) C dX7_weigh_81 rfl (by decide) (fun zc81 => ?_) (fun zc81 => ?_)
    · exact absurd zc81 (by decide)
    refine g_vret C dX7_weigh_84 (by decide) (by decide) ?_
    have hpc : rclr Z x9 y9 w9 h9 := (cclr_iff hv hh).mp za36
    refine hp _ _ _ (fun k hk => ⟨qu_ne hk, qu_ne hk, qu_ne hk⟩) ?_
    unfold cdn
    rw [qu_at, qu_at, qu_at, rT_clear (w9 + h9) x9 y9 w9 h9 (Nat.le_refl _) (by omega) (by omega) hpc, pk_mul, pk_mul]
    exact ⟨⟨fun z => absurd z (by decide), fun z => absurd hpc z⟩, rfl, rfl⟩
  · --k36.1
    refine l_zast (n := 40) 0 ((cpl x9 y9 (x9 + w9) (y9 + h9))) C dX7_weigh_39 rfl A0 rfl rfl (cpl_lt (by omega) (by omega) (by omega) (by omega)) (by decide) (by rfl) ?_
    dsimp only [List.set]
    refine g_aload_n (n := 41) C dX7_weigh_40 rfl rfl ?_
    refine b_get (n := 44) (T := TX7) 2 C dX7_weigh_41 rfl hg hgn rfl rfl (by decide) inX7 w_213 rfl ?_
    refine g_iload (n := 46) C dX7_weigh_44 rfl rfl ?_
    refine g_aload_n (n := 47) C dX7_weigh_46 rfl rfl ?_
    refine b_get (n := 50) (T := TX7) 1 C dX7_weigh_47 rfl hg hgn rfl rfl (by decide) inX7 w_212 rfl ?_
    refine g_iload (n := 52) C dX7_weigh_50 rfl rfl ?_
    refine l_zald (n := 53) (v := 0) 0 ((cpl x9 y9 (x9 + w9) (y9 + h9))) C dX7_weigh_52 rfl A0 rfl rfl (cpl_lt (by omega) (by omega) (by omega) (by omega)) (by decide) (qu_at _ _ _) ?_
    refine g_if_eq (n := 56) (t := 64) C dX7_weigh_53 rfl (by decide) (fun zc53 => ?_) (fun zc53 => ?_)
    rotate_left
    · exact absurd zc53 (by decide)
    refine g_iconst (n := 65) (v := 0) C dX7_weigh_64 rfl (by decide) ?_
    refine l_iast (n := 66) 1 ((cpl x9 y9 (x9 + w9) (y9 + h9))) C dX7_weigh_65 rfl A0 rfl rfl (cpl_lt (by omega) (by omega) (by omega) (by omega)) (by decide) ?_
    dsimp only [List.set]
    refine g_aload_n (n := 67) C dX7_weigh_66 rfl rfl ?_
    refine b_get (n := 70) (T := TX7) 3 C dX7_weigh_67 rfl hg hgn rfl rfl (by decide) inX7 w_214 rfl ?_
    refine g_iload (n := 72) C dX7_weigh_70 rfl rfl ?_
    refine g_iconst (n := 73) (v := 0) C dX7_weigh_72 rfl (by decide) ?_
    refine l_iast (n := 74) 2 ((cpl x9 y9 (x9 + w9) (y9 + h9))) C dX7_weigh_73 rfl A0 rfl rfl (cpl_lt (by omega) (by omega) (by omega) (by omega)) (by decide) ?_
    dsimp only [List.set]
    refine g_aload_n (n := 75) C dX7_weigh_74 rfl rfl ?_
    refine b_get (n := 78) (T := TX7) 1 C dX7_weigh_75 rfl hg hgn rfl rfl (by decide) inX7 w_212 rfl ?_
    refine g_iload (n := 80) C dX7_weigh_78 rfl rfl ?_
    refine l_zald (n := 81) (v := 0) 0 ((cpl x9 y9 (x9 + w9) (y9 + h9))) C dX7_weigh_80 rfl A0 rfl rfl (cpl_lt (by omega) (by omega) (by omega) (by omega)) (by decide) (qu_at _ _ _) ?_
    refine g_if_eq (n := 84) (t := 85) C dX7_weigh_81 rfl (by decide) (fun zc81 => ?_) (fun zc81 => ?_)
    rotate_left
    · exact absurd zc81 (by decide)
    refine g_iload_n (n := 86) C dX7_weigh_85 rfl rfl ?_
    refine g_istore (n := 88) C dX7_weigh_86 rfl (by decide) ?_
    have lpx : ∀ m : Nat, m ≤ w9 → ∀ (t9 : Int32), t9 = nI (x9 + m) → G K E 8 (QM K E none 0 0 P) 0 0 88 [(0, .ref g), (1, .int (nI x9)), (2, .int (nI y9)), (3, .int (nI (x9 + w9))), (4, .int (nI (y9 + h9))), (5, .int (nI (cpl x9 y9 (x9 + w9) (y9 + h9)))), (7, .int t9)] [] (LW [(cl, .inl (E.2.2 2, 1980, .inl (upd Cf (cpl x9 y9 (x9 + w9) (y9 + h9)) 0))), (wo, .inl (E.2.2 1, 1980, .inl (upd Wf (cpl x9 y9 (x9 + w9) (y9 + h9)) (tvf (rT Z) (0, 0) x9 y9 w9 h9 m).1))), (fe, .inl (E.2.2 1, 1980, .inl (upd Ff (cpl x9 y9 (x9 + w9) (y9 + h9)) (tvf (rT Z) (0, 0) x9 y9 w9 h9 m).2)))] h) := by
      refine loopN (fun m => ∀ (t9 : Int32), t9 = nI (x9 + m) → G K E 8 (QM K E none 0 0 P) 0 0 88 [(0, .ref g), (1, .int (nI x9)), (2, .int (nI y9)), (3, .int (nI (x9 + w9))), (4, .int (nI (y9 + h9))), (5, .int (nI (cpl x9 y9 (x9 + w9) (y9 + h9)))), (7, .int t9)] [] (LW [(cl, .inl (E.2.2 2, 1980, .inl (upd Cf (cpl x9 y9 (x9 + w9) (y9 + h9)) 0))), (wo, .inl (E.2.2 1, 1980, .inl (upd Wf (cpl x9 y9 (x9 + w9) (y9 + h9)) (tvf (rT Z) (0, 0) x9 y9 w9 h9 m).1))), (fe, .inl (E.2.2 1, 1980, .inl (upd Ff (cpl x9 y9 (x9 + w9) (y9 + h9)) (tvf (rT Z) (0, 0) x9 y9 w9 h9 m).2)))] h)) (w9) ?_
      intro m hlem ihm t9 et
      subst et
      refine g_iload (n := 90) C dX7_weigh_88 rfl rfl ?_
      refine g_iload_n (n := 91) C dX7_weigh_90 rfl rfl ?_
      refine g_icmp_ge (n := 94) (t := 126) C dX7_weigh_91 rfl (by decide) (fun zc91 => ?_) (fun zc91 => ?_)
      · --t91
        refine g_iload_n (n := 127) C dX7_weigh_126 rfl rfl ?_
        refine g_istore (n := 129) C dX7_weigh_127 rfl (by decide) ?_
        have em : m = w9 := by
          have := i_eq (p := x9 + m) (n := x9 + w9) rfl zc91 (by omega) (by omega)
          omega
        subst em
        rw [show tvf (rT Z) (0, 0) x9 y9 m h9 m = thf (rT Z) (tvf (rT Z) (0, 0) x9 y9 m h9 m) x9 y9 m h9 0 from rfl]
        have lpy : ∀ n9 : Nat, n9 ≤ h9 → ∀ (t9 : Int32), t9 = nI (y9 + n9) → G K E 8 (QM K E none 0 0 P) 0 0 129 [(0, .ref g), (1, .int (nI x9)), (2, .int (nI y9)), (3, .int (nI (x9 + m))), (4, .int (nI (y9 + h9))), (5, .int (nI (cpl x9 y9 (x9 + m) (y9 + h9)))), (7, .int t9)] [] (LW [(cl, .inl (E.2.2 2, 1980, .inl (upd Cf (cpl x9 y9 (x9 + m) (y9 + h9)) 0))), (wo, .inl (E.2.2 1, 1980, .inl (upd Wf (cpl x9 y9 (x9 + m) (y9 + h9)) (thf (rT Z) (tvf (rT Z) (0, 0) x9 y9 m h9 m) x9 y9 m h9 n9).1))), (fe, .inl (E.2.2 1, 1980, .inl (upd Ff (cpl x9 y9 (x9 + m) (y9 + h9)) (thf (rT Z) (tvf (rT Z) (0, 0) x9 y9 m h9 m) x9 y9 m h9 n9).2)))] h) := by
          refine loopN (fun n9 => ∀ (t9 : Int32), t9 = nI (y9 + n9) → G K E 8 (QM K E none 0 0 P) 0 0 129 [(0, .ref g), (1, .int (nI x9)), (2, .int (nI y9)), (3, .int (nI (x9 + m))), (4, .int (nI (y9 + h9))), (5, .int (nI (cpl x9 y9 (x9 + m) (y9 + h9)))), (7, .int t9)] [] (LW [(cl, .inl (E.2.2 2, 1980, .inl (upd Cf (cpl x9 y9 (x9 + m) (y9 + h9)) 0))), (wo, .inl (E.2.2 1, 1980, .inl (upd Wf (cpl x9 y9 (x9 + m) (y9 + h9)) (thf (rT Z) (tvf (rT Z) (0, 0) x9 y9 m h9 m) x9 y9 m h9 n9).1))), (fe, .inl (E.2.2 1, 1980, .inl (upd Ff (cpl x9 y9 (x9 + m) (y9 + h9)) (thf (rT Z) (tvf (rT Z) (0, 0) x9 y9 m h9 m) x9 y9 m h9 n9).2)))] h)) (h9) ?_
          intro n9 hlen9 ihn9 t9 et
          subst et
          refine g_iload (n := 131) C dX7_weigh_129 rfl rfl ?_
          refine g_iload (n := 133) C dX7_weigh_131 rfl rfl ?_
          refine g_icmp_ge (n := 136) (t := 167) C dX7_weigh_133 rfl (by decide) (fun zc133 => ?_) (fun zc133 => ?_)
          · --t133
            refine g_vret C dX7_weigh_167 (by decide) (by decide) ?_
            have en : n9 = h9 := by
              have := i_eq (p := y9 + n9) (n := y9 + h9) rfl zc133 (by omega) (by omega)
              omega
            subst en
            have hpc : ¬ rclr Z x9 y9 m n9 := fun z => zb36 ((cclr_iff hv hh).mpr z)
            refine hp _ _ _ (fun k hk => ⟨qu_ne hk, qu_ne hk, qu_ne hk⟩) ?_
            have hr : rT Z x9 y9 m n9 = thf (rT Z) (tvf (rT Z) (0, 0) x9 y9 m n9 m) x9 y9 m n9 n9 := by
              rw [rT_step, tstep, tba, if_neg hpc]
            unfold cdn
            rw [qu_at, qu_at, qu_at, hr]
            exact ⟨⟨fun _ => hpc, fun _ => rfl⟩, rfl, rfl⟩
          · --f133
            refine g_aload_n (n := 137) C dX7_weigh_136 rfl rfl ?_
            refine g_iload (n := 139) C dX7_weigh_137 rfl rfl ?_
            refine g_iload_n (n := 140) C dX7_weigh_139 rfl rfl ?_
            refine g_iload_n (n := 141) C dX7_weigh_140 rfl rfl ?_
            refine g_iload_n (n := 142) C dX7_weigh_141 rfl rfl ?_
            refine g_iload (n := 144) C dX7_weigh_142 rfl rfl ?_
            refine g_callS (n := 147) (As := [.int _, .int _, .int _, .int _]) C dX7_weigh_144 rfl mw_X7_place w_342 rfl rfl (room hR rfl) (cc_place (l9 := x9) (t9 := y9) (r9 := x9 + m) (b9 := y9 + n9) (by omega) (by omega) (by omega) (by omega) ?_)
            refine g_iload_n (n := 148) C dX7_weigh_147 rfl rfl ?_
            refine g_iload (n := 150) C dX7_weigh_148 rfl rfl ?_
            refine g_iconst (n := 151) (v := 1) C dX7_weigh_150 rfl (by decide) ?_
            refine g_iadd (n := 152) C dX7_weigh_151 rfl ?_
            rw [nI_1 (y9 + n9)]
            refine g_iload_n (n := 153) C dX7_weigh_152 rfl rfl ?_
            refine g_iload (n := 155) C dX7_weigh_153 rfl rfl ?_
            refine g_callS (n := 158) (As := [.int _, .int _, .int _, .int _]) C dX7_weigh_155 rfl mw_X7_place w_342 rfl rfl (room hR rfl) (cc_place (l9 := x9) (t9 := y9 + n9 + 1) (r9 := x9 + m) (b9 := y9 + h9) (by omega) (by have := (show n9 < h9 from by have := i_lt (p := y9 + n9) (n := y9 + h9) rfl zc133 (by omega) (by omega); omega); omega) (by omega) (by omega) ?_)
            refine g_callV (n := 161) (As := [.int _, .int _, .int _]) C dX7_weigh_158 rfl mw_X7_tryCut w_352 (g_recv C (lnb hg (by exact hgn)) rfl) rfl rfl (room hR rfl) (cc_tryCut (lnb hg (by exact hgn)) (LW_at (by exact A0) 1 rfl) (LW_at (by exact A0) 2 rfl) hwf (t := (cpl x9 y9 (x9 + m) (y9 + h9))) (a := (cpl x9 y9 (x9 + m) (y9 + n9))) (b := (cpl x9 (y9 + n9 + 1) (x9 + m) (y9 + h9))) (cpl_lt (by omega) (by omega) (by omega) (by omega)) (by have := (show n9 < h9 from by have := i_lt (p := y9 + n9) (n := y9 + h9) rfl zc133 (by omega) (by omega); omega); exact (cpl_lt (by omega) (by omega) (by omega) (by omega))) (by have := (show n9 < h9 from by have := i_lt (p := y9 + n9) (n := y9 + h9) rfl zc133 (by omega) (by omega); omega); exact (cpl_lt (by omega) (by omega) (by omega) (by omega))) (fun za158 => ?_) (fun zb158 => ?_))
            · --k158.0
              have hlt := (show n9 < h9 from by have := i_lt (p := y9 + n9) (n := y9 + h9) rfl zc133 (by omega) (by omega); omega)
              have hm1 := (hh n9 hlt).1
              have hm2 := (hh n9 hlt).2
              unfold cdn at hm1 hm2
              rw [show y9 + n9 + 1 + (h9 - n9 - 1) = y9 + h9 from by omega] at hm2
              have hap : cpl x9 y9 (x9 + m) (y9 + n9) ≠ (cpl x9 y9 (x9 + m) (y9 + h9)) := fun z => by have := (cpl_inj (by omega) (by omega) (by omega) (by omega) (by omega) (by omega) (by omega) (by omega) z); omega
              have hbp : cpl x9 (y9 + n9 + 1) (x9 + m) (y9 + h9) ≠ (cpl x9 y9 (x9 + m) (y9 + h9)) := fun z => by have := (cpl_inj (by omega) (by omega) (by omega) (by omega) (by omega) (by omega) (by omega) (by omega) z); omega
              have hV : (thf (rT Z) (tvf (rT Z) (0, 0) x9 y9 m h9 m) x9 y9 m h9 (n9 + 1)) = bt (thf (rT Z) (tvf (rT Z) (0, 0) x9 y9 m h9 m) x9 y9 m h9 n9) _ _ := rfl
              have hwg := wg_1 (v := (thf (rT Z) (tvf (rT Z) (0, 0) x9 y9 m h9 m) x9 y9 m h9 n9)) hap hbp hm1.2 hm2.2 za158
              rw [LW3_put A0, hwg.1, hwg.2, ← hV]
              refine g_iinc (n := 164) C dX7_weigh_161 rfl rfl rfl (by decide) ?_
              refine g_goto (t := 129) C dX7_weigh_164 (by decide) ?_
              exact g_lv [0, 1, 2, 3, 4, 5, 7] rfl (ihn9 hlt _ (nI_1 (y9 + n9)))
            · --k158.1
              have hlt := (show n9 < h9 from by have := i_lt (p := y9 + n9) (n := y9 + h9) rfl zc133 (by omega) (by omega); omega)
              have hm1 := (hh n9 hlt).1
              have hm2 := (hh n9 hlt).2
              unfold cdn at hm1 hm2
              rw [show y9 + n9 + 1 + (h9 - n9 - 1) = y9 + h9 from by omega] at hm2
              have hap : cpl x9 y9 (x9 + m) (y9 + n9) ≠ (cpl x9 y9 (x9 + m) (y9 + h9)) := fun z => by have := (cpl_inj (by omega) (by omega) (by omega) (by omega) (by omega) (by omega) (by omega) (by omega) z); omega
              have hbp : cpl x9 (y9 + n9 + 1) (x9 + m) (y9 + h9) ≠ (cpl x9 y9 (x9 + m) (y9 + h9)) := fun z => by have := (cpl_inj (by omega) (by omega) (by omega) (by omega) (by omega) (by omega) (by omega) (by omega) z); omega
              have hV : (thf (rT Z) (tvf (rT Z) (0, 0) x9 y9 m h9 m) x9 y9 m h9 (n9 + 1)) = bt (thf (rT Z) (tvf (rT Z) (0, 0) x9 y9 m h9 m) x9 y9 m h9 n9) _ _ := rfl
              have hwg := wg_0 (v := (thf (rT Z) (tvf (rT Z) (0, 0) x9 y9 m h9 m) x9 y9 m h9 n9)) hap hbp hm1.2 hm2.2 zb158
              rw [show (thf (rT Z) (tvf (rT Z) (0, 0) x9 y9 m h9 m) x9 y9 m h9 n9) = (thf (rT Z) (tvf (rT Z) (0, 0) x9 y9 m h9 m) x9 y9 m h9 (n9 + 1)) from hwg.symm.trans hV.symm]
              refine g_iinc (n := 164) C dX7_weigh_161 rfl rfl rfl (by decide) ?_
              refine g_goto (t := 129) C dX7_weigh_164 (by decide) ?_
              exact g_lv [0, 1, 2, 3, 4, 5, 7] rfl (ihn9 hlt _ (nI_1 (y9 + n9)))
        exact g_lv [0, 1, 2, 3, 4, 5, 7] rfl (lpy 0 (Nat.zero_le _) _ rfl)
      · --f91
        refine g_aload_n (n := 95) C dX7_weigh_94 rfl rfl ?_
        refine g_iload (n := 97) C dX7_weigh_95 rfl rfl ?_
        refine g_iload_n (n := 98) C dX7_weigh_97 rfl rfl ?_
        refine g_iload_n (n := 99) C dX7_weigh_98 rfl rfl ?_
        refine g_iload (n := 101) C dX7_weigh_99 rfl rfl ?_
        refine g_iload (n := 103) C dX7_weigh_101 rfl rfl ?_
        refine g_callS (n := 106) (As := [.int _, .int _, .int _, .int _]) C dX7_weigh_103 rfl mw_X7_place w_342 rfl rfl (room hR rfl) (cc_place (l9 := x9) (t9 := y9) (r9 := x9 + m) (b9 := y9 + h9) (by omega) (by omega) (by omega) (by omega) ?_)
        refine g_iload (n := 108) C dX7_weigh_106 rfl rfl ?_
        refine g_iconst (n := 109) (v := 1) C dX7_weigh_108 rfl (by decide) ?_
        refine g_iadd (n := 110) C dX7_weigh_109 rfl ?_
        rw [nI_1 (x9 + m)]
        refine g_iload_n (n := 111) C dX7_weigh_110 rfl rfl ?_
        refine g_iload_n (n := 112) C dX7_weigh_111 rfl rfl ?_
        refine g_iload (n := 114) C dX7_weigh_112 rfl rfl ?_
        refine g_callS (n := 117) (As := [.int _, .int _, .int _, .int _]) C dX7_weigh_114 rfl mw_X7_place w_342 rfl rfl (room hR rfl) (cc_place (l9 := x9 + m + 1) (t9 := y9) (r9 := x9 + w9) (b9 := y9 + h9) (by have := (show m < w9 from by have := i_lt (p := x9 + m) (n := x9 + w9) rfl zc91 (by omega) (by omega); omega); omega) (by omega) (by omega) (by omega) ?_)
        refine g_callV (n := 120) (As := [.int _, .int _, .int _]) C dX7_weigh_117 rfl mw_X7_tryCut w_352 (g_recv C (lnb hg (by exact hgn)) rfl) rfl rfl (room hR rfl) (cc_tryCut (lnb hg (by exact hgn)) (LW_at (by exact A0) 1 rfl) (LW_at (by exact A0) 2 rfl) hwf (t := (cpl x9 y9 (x9 + w9) (y9 + h9))) (a := (cpl x9 y9 (x9 + m) (y9 + h9))) (b := (cpl (x9 + m + 1) y9 (x9 + w9) (y9 + h9))) (cpl_lt (by omega) (by omega) (by omega) (by omega)) (by have := (show m < w9 from by have := i_lt (p := x9 + m) (n := x9 + w9) rfl zc91 (by omega) (by omega); omega); exact (cpl_lt (by omega) (by omega) (by omega) (by omega))) (by have := (show m < w9 from by have := i_lt (p := x9 + m) (n := x9 + w9) rfl zc91 (by omega) (by omega); omega); exact (cpl_lt (by omega) (by omega) (by omega) (by omega))) (fun za117 => ?_) (fun zb117 => ?_))
        · --k117.0
          have hlt := (show m < w9 from by have := i_lt (p := x9 + m) (n := x9 + w9) rfl zc91 (by omega) (by omega); omega)
          have hm1 := (hv m hlt).1
          have hm2 := (hv m hlt).2
          unfold cdn at hm1 hm2
          rw [show x9 + m + 1 + (w9 - m - 1) = x9 + w9 from by omega] at hm2
          have hap : cpl x9 y9 (x9 + m) (y9 + h9) ≠ (cpl x9 y9 (x9 + w9) (y9 + h9)) := fun z => by have := (cpl_inj (by omega) (by omega) (by omega) (by omega) (by omega) (by omega) (by omega) (by omega) z); omega
          have hbp : cpl (x9 + m + 1) y9 (x9 + w9) (y9 + h9) ≠ (cpl x9 y9 (x9 + w9) (y9 + h9)) := fun z => by have := (cpl_inj (by omega) (by omega) (by omega) (by omega) (by omega) (by omega) (by omega) (by omega) z); omega
          have hV : (tvf (rT Z) (0, 0) x9 y9 w9 h9 (m + 1)) = bt (tvf (rT Z) (0, 0) x9 y9 w9 h9 m) _ _ := rfl
          have hwg := wg_1 (v := (tvf (rT Z) (0, 0) x9 y9 w9 h9 m)) hap hbp hm1.2 hm2.2 za117
          rw [LW3_put A0, hwg.1, hwg.2, ← hV]
          refine g_iinc (n := 123) C dX7_weigh_120 rfl rfl rfl (by decide) ?_
          refine g_goto (t := 88) C dX7_weigh_123 (by decide) ?_
          exact g_lv [0, 1, 2, 3, 4, 5, 7] rfl (ihm hlt _ (nI_1 (x9 + m)))
        · --k117.1
          have hlt := (show m < w9 from by have := i_lt (p := x9 + m) (n := x9 + w9) rfl zc91 (by omega) (by omega); omega)
          have hm1 := (hv m hlt).1
          have hm2 := (hv m hlt).2
          unfold cdn at hm1 hm2
          rw [show x9 + m + 1 + (w9 - m - 1) = x9 + w9 from by omega] at hm2
          have hap : cpl x9 y9 (x9 + m) (y9 + h9) ≠ (cpl x9 y9 (x9 + w9) (y9 + h9)) := fun z => by have := (cpl_inj (by omega) (by omega) (by omega) (by omega) (by omega) (by omega) (by omega) (by omega) z); omega
          have hbp : cpl (x9 + m + 1) y9 (x9 + w9) (y9 + h9) ≠ (cpl x9 y9 (x9 + w9) (y9 + h9)) := fun z => by have := (cpl_inj (by omega) (by omega) (by omega) (by omega) (by omega) (by omega) (by omega) (by omega) z); omega
          have hV : (tvf (rT Z) (0, 0) x9 y9 w9 h9 (m + 1)) = bt (tvf (rT Z) (0, 0) x9 y9 w9 h9 m) _ _ := rfl
          have hwg := wg_0 (v := (tvf (rT Z) (0, 0) x9 y9 w9 h9 m)) hap hbp hm1.2 hm2.2 zb117
          rw [show (tvf (rT Z) (0, 0) x9 y9 w9 h9 m) = (tvf (rT Z) (0, 0) x9 y9 w9 h9 (m + 1)) from hwg.symm.trans hV.symm]
          refine g_iinc (n := 123) C dX7_weigh_120 rfl rfl rfl (by decide) ?_
          refine g_goto (t := 88) C dX7_weigh_123 (by decide) ?_
          exact g_lv [0, 1, 2, 3, 4, 5, 7] rfl (ihm hlt _ (nI_1 (x9 + m)))
    exact g_lv [0, 1, 2, 3, 4, 5, 7] rfl (lpx 0 (Nat.zero_le _) _ rfl)
