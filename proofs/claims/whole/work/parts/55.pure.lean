/-! what both sides work out, told as one -/
theorem imax_i (x y : Int32) : (imax x y).toInt = max x.toInt y.toInt := by
  unfold imax
  by_cases c : x < y
  · rw [if_pos c]; have := Int32.lt_iff_toInt_lt.mp c; omega
  · rw [if_neg c]; have := Int32.le_iff_toInt_le.mp (Int32.not_lt.mp c); omega
theorem imin_i (x y : Int32) : (imin x y).toInt = min x.toInt y.toInt := by
  unfold imin
  by_cases c : y < x
  · rw [if_pos c]; have := Int32.lt_iff_toInt_lt.mp c; omega
  · rw [if_neg c]; have := Int32.le_iff_toInt_le.mp (Int32.not_lt.mp c); omega
theorem imax_rc (a w v : Int32) : imax (imax a w) v = imax (imax a v) w := Int32.toInt_inj.mp (by rw [imax_i, imax_i, imax_i, imax_i]; omega)
theorem imin_rc (a w v : Int32) : imin (imin a w) v = imin (imin a v) w := Int32.toInt_inj.mp (by rw [imin_i, imin_i, imin_i, imin_i]; omega)
theorem imin_c (a b : Int32) : imin a b = imin b a := Int32.toInt_inj.mp (by rw [imin_i, imin_i]; omega)
theorem i_succ {x M N : Int32} (hM : N.toInt = M.toInt + 1) : M < x ↔ ¬ x < N := by
  rw [Int32.lt_iff_toInt_lt, Int32.lt_iff_toInt_lt]
  omega
theorem nI_i {n : Nat} (h : n < 2147483648) : (nI n).toInt = n := by
  have h9 : nI n = Int32.ofInt n := rfl
  rw [h9, Int32.toInt_ofInt, show Int32.size = 4294967296 from rfl]
  exact Int.bmod_eq_of_le (by omega) (by omega)
theorem i_lim {p : Int32} {n : Nat} (hn : n < 1000) : nI n - 1 < p ↔ ¬ p < nI n := by
  have h1 : (nI n - 1).toInt = (n : Int) - 1 := pk_sub_toInt (a := n) (b := 1) (by omega) (by omega)
  rw [Int32.lt_iff_toInt_lt, Int32.lt_iff_toInt_lt, h1, nI_i (by omega)]
  omega
theorem i_nat {x : Int32} (h0 : ¬ x < 0) : x = nI x.toInt.toNat := by
  have h1 : ¬ x.toInt < 0 := fun q => h0 (Int32.lt_iff_toInt_lt.mpr q)
  have h2 := Int32.toInt_lt x
  exact Int32.toInt_inj.mp (by rw [nI_i (by omega)]; omega)
theorem m1_or {x : Int32} (h : x = -1 ∨ 0 ≤ x) : (x < 0 ↔ x = -1) := by
  rcases h with h | h
  · subst h; decide
  · refine ⟨fun q => absurd q (Int32.not_lt.mpr h), fun q => ?_⟩
    subst q
    exact absurd h (by decide)
theorem gLo_r {A : Nat → Nat → Int32} {Lf : Nat → Int32} {sp : Int32} {s : Nat} (hs : s < 96) : ∀ n, (∀ i, i < n → A 5 i = -1 ∨ 0 ≤ A 5 i) → gLo A Lf sp n s = rlow sp A (nI s) n := by
  intro n
  induction n with
  | zero =>
    intro _
    show (if s < 96 then 0 else Lf s) = 0
    rw [if_pos hs]
  | succ p ih =>
    intro h5
    have ih := ih (fun i hi => h5 i (by omega))
    unfold gLo rlow
    by_cases c : A 5 p = -1
    · rw [if_pos c, if_pos ((m1_or (h5 p (by omega))).mpr c)]
      exact ih
    · rw [if_neg c, if_neg (fun q => c ((m1_or (h5 p (by omega))).mp q)), ← ih]
      exact if_pos hs
theorem gHi_r {A : Nat → Nat → Int32} {Gf : Nat → Int32} {sp : Int32} {s : Nat} (hs : s < 96) : ∀ n, (∀ i, i < n → A 5 i = -1 ∨ 0 ≤ A 5 i) → gHi A Gf sp n s = rhigh sp A (nI s) n := by
  intro n
  induction n with
  | zero =>
    intro _
    show (if s < 96 then 100 else Gf s) = 100
    rw [if_pos hs]
  | succ p ih =>
    intro h5
    have ih := ih (fun i hi => h5 i (by omega))
    unfold gHi rhigh
    by_cases c : A 5 p = -1
    · rw [if_pos c, if_pos ((m1_or (h5 p (by omega))).mpr c)]
      exact ih
    · rw [if_neg c, if_neg (fun q => c ((m1_or (h5 p (by omega))).mp q)), ← ih]
      exact if_pos hs
theorem rlow_w {A : Nat → Nat → Int32} {t s g : Int32} {j : Nat} (h5 : A 5 j < 0) (hg : ¬ g < 0) : ∀ n, rlow t (aset A 5 j g) s n = if j < n then imax (rlow t A s n) (g - t * rapart (A 3 j) s) else rlow t A s n := by
  intro n
  induction n with
  | zero => rw [if_neg (by omega)]; rfl
  | succ n ih =>
    unfold rlow
    rw [show aset A 5 j g 3 n = A 3 n from by rw [aset_row A j g (by decide)]]
    by_cases c : n = j
    · subst c
      rw [show aset A 5 n g 5 n = g from aset_same _ _ _ _, if_neg hg, if_pos (by omega), if_pos h5, ih, if_neg (by omega)]
    · rw [show aset A 5 j g 5 n = A 5 n from aset_ne _ _ (fun q => c q.2), ih]
      by_cases c2 : j < n
      · rw [if_pos c2, if_pos (show j < n + 1 by omega)]
        by_cases c3 : A 5 n < 0
        · rw [if_pos c3, if_pos c3]
        · rw [if_neg c3, if_neg c3, imax_rc]
      · rw [if_neg c2, if_neg (show ¬ j < n + 1 by omega)]
theorem rhigh_w {A : Nat → Nat → Int32} {t s g : Int32} {j : Nat} (h5 : A 5 j < 0) (hg : ¬ g < 0) : ∀ n, rhigh t (aset A 5 j g) s n = if j < n then imin (rhigh t A s n) (g + t * rapart (A 3 j) s) else rhigh t A s n := by
  intro n
  induction n with
  | zero => rw [if_neg (by omega)]; rfl
  | succ n ih =>
    unfold rhigh
    rw [show aset A 5 j g 3 n = A 3 n from by rw [aset_row A j g (by decide)]]
    by_cases c : n = j
    · subst c
      rw [show aset A 5 n g 5 n = g from aset_same _ _ _ _, if_neg hg, if_pos (by omega), if_pos h5, ih, if_neg (by omega)]
    · rw [show aset A 5 j g 5 n = A 5 n from aset_ne _ _ (fun q => c q.2), ih]
      by_cases c2 : j < n
      · rw [if_pos c2, if_pos (show j < n + 1 by omega)]
        by_cases c3 : A 5 n < 0
        · rw [if_pos c3, if_pos c3]
        · rw [if_neg c3, if_neg c3, imin_rc]
      · rw [if_neg c2, if_neg (show ¬ j < n + 1 by omega)]
/-- spans speak of the first n pits alone -/
theorem rlow_c {A B : Nat → Nat → Int32} {t s : Int32} : ∀ n, (∀ i, i < n → A 5 i = B 5 i ∧ A 3 i = B 3 i) → rlow t A s n = rlow t B s n := by
  intro n
  induction n with
  | zero => intro _; rfl
  | succ n ih =>
    intro h
    unfold rlow
    rw [ih (fun i hi => h i (by omega)), (h n (by omega)).1, (h n (by omega)).2]
theorem rhigh_c {A B : Nat → Nat → Int32} {t s : Int32} : ∀ n, (∀ i, i < n → A 5 i = B 5 i ∧ A 3 i = B 3 i) → rhigh t A s n = rhigh t B s n := by
  intro n
  induction n with
  | zero => intro _; rfl
  | succ n ih =>
    intro h
    unfold rhigh
    rw [ih (fun i hi => h i (by omega)), (h n (by omega)).1, (h n (by omega)).2]
theorem rlow_0 {A : Nat → Nat → Int32} {t s : Int32} : ∀ n, 0 ≤ (rlow t A s n).toInt := by
  intro n
  induction n with
  | zero => show 0 ≤ (0 : Int32).toInt; decide
  | succ n ih =>
    unfold rlow
    by_cases c : A 5 n < 0
    · rw [if_pos c]; exact ih
    · rw [if_neg c, imax_i]; omega
theorem rhigh_100 {A : Nat → Nat → Int32} {t s : Int32} : ∀ n, (rhigh t A s n).toInt ≤ 100 := by
  intro n
  induction n with
  | zero => show (100 : Int32).toInt ≤ 100; decide
  | succ n ih =>
    unfold rhigh
    by_cases c : A 5 n < 0
    · rw [if_pos c]; exact ih
    · rw [if_neg c, imin_i]; omega
theorem cok_r {A : Nat → Nat → Int32} {s : Int32} {p : Nat} (h6 : A 6 p = -1 ∨ 0 ≤ A 6 p) : cok A (A 10 0) s p ↔ rok A s p := by
  unfold cok rok
  rw [m1_or h6, Int32.not_lt]
theorem may_r {A : Nat → Nat → Int32} {s : Int32} {n : Nat} (h6 : ∀ i, i < n → A 6 i = -1 ∨ 0 ≤ A 6 i) : (∀ i, i < n → cok A (A 10 0) s i) ↔ rmay A s n :=
  ⟨fun h i hi => (cok_r (h6 i hi)).mp (h i hi), fun h i hi => (cok_r (h6 i hi)).mpr (h i hi)⟩
theorem best_r {A : Nat → Nat → Int32} {Lf Gf : Nat → Int32} {t : Int32} {n : Nat} (h6 : ∀ i, i < n → A 6 i = -1 ∨ 0 ≤ A 6 i) (hL : ∀ s, s < 96 → Lf s = rlow t A (nI s) n ∧ Gf s = rhigh t A (nI s) n) : ∀ s, s ≤ 96 → (cbst Lf Gf A (A 10 0) n s).1 = (rbst t A n s).1 ∧ ((rbst t A n s = (-1, 0) ∧ cbst Lf Gf A (A 10 0) n s = (-1, -1, -1)) ∨ ∃ k, k < s ∧ rbst t A n s = (nI k, Lf k + Gf k) ∧ cbst Lf Gf A (A 10 0) n s = (nI k, Lf k + Gf k, Lf k)) := by
  intro s
  induction s with
  | zero => intro _; exact ⟨rfl, Or.inl ⟨rfl, rfl⟩⟩
  | succ s ih =>
    intro hs
    obtain ⟨-, ih⟩ := ih (by omega)
    have hm : (∀ i, i < n → cok A (A 10 0) (nI s) i) ↔ rmay A (nI s) n := may_r h6
    obtain ⟨e1, e2⟩ := hL s (by omega)
    have hb0 : 0 ≤ (Lf s).toInt := by rw [e1]; exact rlow_0 n
    have hb1 : (Gf s).toInt ≤ 100 := by rw [e2]; exact rhigh_100 n
    have hsum : Lf s ≤ Gf s → (Lf s + Gf s).toInt = (Lf s).toInt + (Gf s).toInt := fun q => by
      have := Int32.le_iff_toInt_le.mp q
      rw [Int32.toInt_add]
      exact Int.bmod_eq_of_le (by omega) (by omega)
    rcases ih with ⟨r1, c1⟩ | ⟨k, hk, r1, c1⟩
    · by_cases hc : Lf s ≤ Gf s ∧ rmay A (nI s) n
      · have hct : ctk Lf Gf A (A 10 0) n (-1) (-1) s := ⟨Or.inl (Int32.lt_iff_toInt_lt.mpr (by
          have := hsum hc.1
          have := Int32.le_iff_toInt_le.mp hc.1
          show (-1 : Int32).toInt < _
          rw [show (-1 : Int32).toInt = -1 from by decide]
          omega)), hc.1, hm.mpr hc.2⟩
        have hrs : ¬ rskip t A n (-1) 0 (nI s) := by
          rintro (q | q | ⟨q, -⟩)
          · rw [← e1, ← e2] at q; exact absurd hc.1 (Int32.not_le.mpr q)
          · exact q hc.2
          · exact q (by decide)
        have hR := rbst_take r1.symm hrs
        have hC := cbst_t c1.symm hct
        rw [← hR, ← hC, ← e1, ← e2]
        exact ⟨rfl, Or.inr ⟨s, by omega, rfl, rfl⟩⟩
      · have hct : ¬ ctk Lf Gf A (A 10 0) n (-1) (-1) s := fun q => hc ⟨q.2.1, hm.mp q.2.2⟩
        have hrs : rskip t A n (-1) 0 (nI s) := by
          by_cases q : Lf s ≤ Gf s
          · exact Or.inr (Or.inl (fun y => hc ⟨q, y⟩))
          · refine Or.inl ?_
            rw [← e1, ← e2]
            exact Int32.not_le.mp q
        rw [← rbst_skip r1.symm hrs, ← cbst_k c1.symm hct]
        exact ⟨rfl, Or.inl ⟨rfl, rfl⟩⟩
    · have ek := (hL k (by omega)).1
      by_cases hc : (Lf k + Gf k < Lf s + Gf s ∨ (Lf s + Gf s = Lf k + Gf k ∧ Lf k < Lf s)) ∧ Lf s ≤ Gf s ∧ rmay A (nI s) n
      · have hct : ctk Lf Gf A (A 10 0) n (Lf k + Gf k) (Lf k) s := ⟨hc.1, hc.2.1, hm.mpr hc.2.2⟩
        have hrs : ¬ rskip t A n (nI k) (Lf k + Gf k) (nI s) := by
          rintro (q | q | ⟨-, q⟩)
          · rw [← e1, ← e2] at q; exact absurd hc.2.1 (Int32.not_le.mpr q)
          · exact q hc.2.2
          · rw [← e1, ← e2, ← ek] at q
            rcases hc.1 with y | ⟨y1, y2⟩
            · rcases q with q | ⟨q, -⟩
              · exact Int32.lt_irrefl (Int32.lt_trans y q)
              · rw [q] at y; exact Int32.lt_irrefl y
            · rcases q with q | ⟨-, q⟩
              · rw [y1] at q; exact Int32.lt_irrefl q
              · exact absurd q (Int32.not_le.mpr y2)
        have hR := rbst_take r1.symm hrs
        have hC := cbst_t c1.symm hct
        rw [← hR, ← hC, ← e1, ← e2]
        exact ⟨rfl, Or.inr ⟨s, by omega, rfl, rfl⟩⟩
      · have hct : ¬ ctk Lf Gf A (A 10 0) n (Lf k + Gf k) (Lf k) s := fun q => hc ⟨q.1, q.2.1, hm.mp q.2.2⟩
        have hrs : rskip t A n (nI k) (Lf k + Gf k) (nI s) := by
          by_cases q : Lf s ≤ Gf s
          · by_cases y : rmay A (nI s) n
            · refine Or.inr (Or.inr ⟨Int32.not_lt.mpr (nI_le (a := 0) (Nat.zero_le _) (by omega)), ?_⟩)
              rw [← e1, ← e2, ← ek]
              by_cases w : Lf s + Gf s < Lf k + Gf k
              · exact Or.inl w
              · by_cases w2 : Lf s + Gf s = Lf k + Gf k
                · exact Or.inr ⟨w2, Int32.not_lt.mp (fun w3 => hc ⟨Or.inr ⟨w2, w3⟩, q, y⟩)⟩
                · rcases Int32.lt_or_lt_of_ne w2 with w3 | w3
                  · exact absurd w3 w
                  · exact absurd ⟨Or.inl w3, q, y⟩ hc
            · exact Or.inr (Or.inl y)
          · refine Or.inl ?_
            rw [← e1, ← e2]
            exact Int32.not_le.mp q
        rw [← rbst_skip r1.symm hrs, ← cbst_k c1.symm hct]
        exact ⟨rfl, Or.inr ⟨k, by omega, rfl, rfl⟩⟩
theorem bond_r {F : Nat → Int32} {A : Nat → Nat → Int32} {p : Nat} (h6 : A 6 p = -1 ∨ 0 ≤ A 6 p) : cbond (A 8 p) (A 6 p) (A 7 p) (F 1) = rbond F A p := by
  unfold cbond rbond
  by_cases c : A 8 p = 0
  · rw [if_pos c, if_pos c]
  · rw [if_neg c, if_neg c]
    by_cases d : A 6 p = -1
    · rw [if_pos d, if_pos ((m1_or h6).mpr d), if_pos ((m1_or h6).mpr d)]
    · rw [if_neg d, if_neg (fun q => d ((m1_or h6).mp q)), if_neg (fun q => d ((m1_or h6).mp q))]
theorem rcnt_c {p q : Nat → Prop} : ∀ n, (∀ i, i < n → (p i ↔ q i)) → rcnt p n = rcnt q n := by
  intro n
  induction n with
  | zero => intro _; rfl
  | succ n ih =>
    intro h
    unfold rcnt
    rw [ih (fun i hi => h i (by omega))]
    by_cases c : p n
    · rw [if_pos c, if_pos ((h n (by omega)).mp c)]
    · rw [if_neg c, if_neg (fun y => c ((h n (by omega)).mpr y))]
theorem rsum_c {p q : Nat → Prop} {v : Nat → Int32} : ∀ n, (∀ i, i < n → (p i ↔ q i)) → rsum p v n = rsum q v n := by
  intro n
  induction n with
  | zero => intro _; rfl
  | succ n ih =>
    intro h
    unfold rsum
    rw [ih (fun i hi => h i (by omega))]
    by_cases c : p n
    · rw [if_pos c, if_pos ((h n (by omega)).mp c)]
    · rw [if_neg c, if_neg (fun y => c ((h n (by omega)).mpr y))]
theorem buy_r {G H9 : Nat → Int32} {c : Nat} {lim : Int32} (h0 : ¬ lim < 0) (hG : ∀ b, b < 6 → G b = H9 (c + b)) : ∀ b, b ≤ 6 → (cbuy G lim b).1 = rbuy H9 c lim b ∧ ((rbuy H9 c lim b = -1 ∧ (cbuy G lim b).2 = lim - 1) ∨ ∃ i, i < b ∧ rbuy H9 c lim b = nI i ∧ (cbuy G lim b).2 = H9 (c + i) ∧ ¬ H9 (c + i) < lim) := by
  have hl0 : 0 ≤ lim.toInt := by have := Int32.le_iff_toInt_le.mp (Int32.not_lt.mp h0); exact this
  have hl1 : (lim - 1).toInt = lim.toInt - 1 := by
    rw [Int32.toInt_sub]
    have := Int32.toInt_lt lim
    rw [show (1 : Int32).toInt = 1 from by decide]
    exact Int.bmod_eq_of_le (by omega) (by omega)
  intro b
  induction b with
  | zero => intro _; exact ⟨rfl, Or.inl ⟨rfl, rfl⟩⟩
  | succ b ih =>
    intro hb
    obtain ⟨e0, ih⟩ := ih (by omega)
    have eg := hG b (by omega)
    by_cases c1 : H9 (c + b) < lim
    · have hr := rbuy_1 c1
      have hn : ¬ (¬ G b = -1 ∧ (cbuy G lim b).2 < G b) := by
        rintro ⟨q1, q2⟩
        rw [eg] at q2
        have c2 := Int32.lt_iff_toInt_lt.mp c1
        have q3 := Int32.lt_iff_toInt_lt.mp q2
        rcases ih with ⟨-, i2⟩ | ⟨i, -, -, i2, i3⟩
        · rw [i2, hl1] at q3; omega
        · rw [i2] at q3
          have := Int32.le_iff_toInt_le.mp (Int32.not_lt.mp i3)
          omega
      rw [← hr, ← cbuy_0 hn]
      refine ⟨e0, ih.imp id (fun q => ?_)⟩
      obtain ⟨i, i1, i2⟩ := q
      exact ⟨i, by omega, i2⟩
    · have hne : ¬ G b = -1 := fun q => by
        rw [eg] at q
        refine c1 (Int32.lt_iff_toInt_lt.mpr ?_)
        rw [q, show (-1 : Int32).toInt = -1 from by decide]
        omega
      rcases ih with ⟨i1, i2⟩ | ⟨i, hi, i1, i2, i3⟩
      · have hr := rbuy_2 (H9 := H9) (c := c) (lim := lim) (b := b) c1 (by rw [i1]; decide)
        have hlt : (cbuy G lim b).2 < G b := by
          rw [i2, eg]
          refine Int32.lt_iff_toInt_lt.mpr ?_
          have := Int32.le_iff_toInt_le.mp (Int32.not_lt.mp c1)
          omega
        rw [← hr, ← cbuy_1 hne hlt]
        exact ⟨rfl, Or.inr ⟨b, by omega, rfl, eg, c1⟩⟩
      · have hnn : ¬ rbuy H9 c lim b < 0 := by rw [i1]; exact Int32.not_lt.mpr (nI_le (a := 0) (Nat.zero_le _) (by omega))
        by_cases c3 : H9 (c + b) ≤ H9 (c + i)
        · have hr := rbuy_3 c1 hnn i1 (by omega) c3
          have hn : ¬ (¬ G b = -1 ∧ (cbuy G lim b).2 < G b) := by
            rintro ⟨-, q2⟩
            rw [eg, i2] at q2
            exact absurd c3 (Int32.not_le.mpr q2)
          rw [← hr, ← cbuy_0 hn]
          exact ⟨e0, Or.inr ⟨i, by omega, i1, i2, i3⟩⟩
        · have hr := rbuy_4 c1 hnn i1 (by omega) c3
          have hlt : (cbuy G lim b).2 < G b := by
            rw [eg, i2]
            exact Int32.not_le.mp c3
          rw [← hr, ← cbuy_1 hne hlt]
          exact ⟨rfl, Or.inr ⟨b, by omega, rfl, eg, c1⟩⟩
