theorem ringx (l a b c d e : Int32) : l - a - b - c - e = d + (l - a - b - c - d - e) := by grind
/-- what the reference gives of a price x -/
def rsp (F : Nat → Int32) (A : Nat → Nat → Int32) (x : Int32) : Nat → Int32 := fun k => match k with
  | 0 => rco F A x
  | 1 => rsh A (x - rco F A x) 1
  | 2 => rsh A (x - rco F A x) 2
  | 3 => rle A (x - rco F A x)
  | 4 => rdi A (x - rco F A x)
  | _ => rsh A (x - rco F A x) 5
abbrev rqA (F : Nat → Int32) (A : Nat → Nat → Int32) (j i : Nat) (x : Int32) : Nat → Nat → Int32 := rpA (upd F 0 0) (rseA A j i) (10 * j) x
theorem rq_row {F : Nat → Int32} {A : Nat → Nat → Int32} {j i : Nat} {x : Int32} {k : Nat} (h1 : k ≠ 21) (h2 : k ≠ 25) : rqA F A j i x k = A k := by
  funext b
  unfold rqA rpA rtail rh4 rh3 rh2 rh1 rst0 rs5 rs4 rs3 rs2 rs1 rseA
  rw [aset_ne _ _ (fun q => by omega), aset_ne _ _ (fun q => by omega), aset_ne _ _ (fun q => by omega), aset_ne _ _ (fun q => by omega), aset_ne _ _ (fun q => by omega), aset_ne _ _ (fun q => by omega), aset_ne _ _ (fun q => by omega), aset_ne _ _ (fun q => by omega), aset_ne _ _ (fun q => by omega), aset_ne _ _ (fun q => by omega), aset_ne _ _ (fun q => by omega), aset_ne _ _ (fun q => by omega), aset_ne _ _ (fun q => by omega), aset_ne _ _ (fun q => by omega)]
theorem rq_o {F : Nat → Int32} {A : Nat → Nat → Int32} {j i : Nat} {x : Int32} {b : Nat} (h : b < 10 * j + 2 ∨ 10 * j + 10 ≤ b) : rqA F A j i x 21 b = A 21 b := by
  unfold rqA rpA rtail rh4 rh3 rh2 rh1 rst0 rs5 rs4 rs3 rs2 rs1 rseA
  rw [aset_ne _ _ (fun q => by omega), aset_ne _ _ (fun q => by omega), aset_ne _ _ (fun q => by omega), aset_ne _ _ (fun q => by omega), aset_ne _ _ (fun q => by omega), aset_ne _ _ (fun q => by omega), aset_ne _ _ (fun q => by omega), aset_ne _ _ (fun q => by omega), aset_ne _ _ (fun q => by omega), aset_ne _ _ (fun q => by omega), aset_ne _ _ (fun q => by omega), aset_ne _ _ (fun q => by omega), aset_ne _ _ (fun q => by omega), aset_ne _ _ (fun q => by omega)]
theorem rq_2 {F : Nat → Int32} {A : Nat → Nat → Int32} {j i : Nat} {x : Int32} : rqA F A j i x 21 (10 * j + 2) = nI i := by
  unfold rqA rpA rtail rh4 rh3 rh2 rh1 rst0 rs5 rs4 rs3 rs2 rs1 rseA
  rw [aset_ne _ _ (fun q => by omega), aset_ne _ _ (fun q => by omega), aset_ne _ _ (fun q => by omega), aset_ne _ _ (fun q => by omega), aset_ne _ _ (fun q => by omega), aset_ne _ _ (fun q => by omega), aset_ne _ _ (fun q => by omega), aset_ne _ _ (fun q => by omega), aset_ne _ _ (fun q => by omega), aset_ne _ _ (fun q => by omega), aset_ne _ _ (fun q => by omega), aset_ne _ _ (fun q => by omega), aset_ne _ _ (fun q => by omega), aset_same]
theorem rq_3 {F : Nat → Int32} {A : Nat → Nat → Int32} {j i : Nat} {x : Int32} : rqA F A j i x 21 (10 * j + 3) = A 22 (6 * j + i) := by
  unfold rqA rpA rtail rh4 rh3 rh2 rh1 rst0 rs5 rs4 rs3 rs2 rs1 rseA
  rw [aset_ne _ _ (fun q => by omega), aset_ne _ _ (fun q => by omega), aset_ne _ _ (fun q => by omega), aset_ne _ _ (fun q => by omega), aset_ne _ _ (fun q => by omega), aset_ne _ _ (fun q => by omega), aset_ne _ _ (fun q => by omega), aset_ne _ _ (fun q => by omega), aset_ne _ _ (fun q => by omega), aset_ne _ _ (fun q => by omega), aset_ne _ _ (fun q => by omega), aset_ne _ _ (fun q => by omega), aset_same]
theorem rq_s {F : Nat → Int32} {A : Nat → Nat → Int32} {j i : Nat} {x : Int32} : ∀ k, k < 6 → rqA F A j i x 21 (10 * j + 4 + k) = rsp F A x k := by
  intro k hk
  unfold rqA rpA rtail rh4 rh3 rh2 rh1 rst0 rs5 rs4 rs3 rs2 rs1
  match k, hk with
  | 0, _ => rw [aset_ne _ _ (fun q => by omega), aset_ne _ _ (fun q => by omega), aset_ne _ _ (fun q => by omega), aset_ne _ _ (fun q => by omega), aset_ne _ _ (fun q => by omega), aset_ne _ _ (fun q => by omega), aset_ne _ _ (fun q => by omega), aset_ne _ _ (fun q => by omega), aset_ne _ _ (fun q => by omega), aset_ne _ _ (fun q => by omega), aset_ne _ _ (fun q => by omega)]; exact aset_same _ _ _ _
  | 1, _ => rw [aset_ne _ _ (fun q => by omega), aset_ne _ _ (fun q => by omega), aset_ne _ _ (fun q => by omega), aset_ne _ _ (fun q => by omega), aset_ne _ _ (fun q => by omega), aset_ne _ _ (fun q => by omega), aset_ne _ _ (fun q => by omega), aset_ne _ _ (fun q => by omega), aset_ne _ _ (fun q => by omega), aset_ne _ _ (fun q => by omega)]; exact aset_same _ _ _ _
  | 2, _ => rw [aset_ne _ _ (fun q => by omega), aset_ne _ _ (fun q => by omega), aset_ne _ _ (fun q => by omega), aset_ne _ _ (fun q => by omega), aset_ne _ _ (fun q => by omega), aset_ne _ _ (fun q => by omega), aset_ne _ _ (fun q => by omega), aset_ne _ _ (fun q => by omega), aset_ne _ _ (fun q => by omega)]; exact aset_same _ _ _ _
  | 3, _ => rw [aset_ne _ _ (fun q => by omega), aset_ne _ _ (fun q => by omega), aset_ne _ _ (fun q => by omega), aset_ne _ _ (fun q => by omega), aset_ne _ _ (fun q => by omega), aset_ne _ _ (fun q => by omega), aset_ne _ _ (fun q => by omega), aset_ne _ _ (fun q => by omega)]; exact aset_same _ _ _ _
  | 4, _ => rw [aset_ne _ _ (fun q => by omega), aset_ne _ _ (fun q => by omega), aset_ne _ _ (fun q => by omega), aset_ne _ _ (fun q => by omega), aset_ne _ _ (fun q => by omega)]; exact aset_same _ _ _ _
  | 5, _ => rw [aset_ne _ _ (fun q => by omega), aset_ne _ _ (fun q => by omega), aset_ne _ _ (fun q => by omega), aset_ne _ _ (fun q => by omega), aset_ne _ _ (fun q => by omega), aset_ne _ _ (fun q => by omega)]; exact aset_same _ _ _ _
theorem rq_h {F : Nat → Int32} {A : Nat → Nat → Int32} {j i : Nat} {x : Int32} : ∀ k, 1 ≤ k → k < 6 → rqA F A j i x 25 k = A 25 k + rsp F A x k := by
  intro k h1 hk
  unfold rqA rpA rtail rh4 rh3 rh2 rh1
  match k, h1, hk with
  | 1, _, _ => rw [aset_ne _ _ (fun q => by omega), aset_ne _ _ (fun q => by omega), aset_ne _ _ (fun q => by omega), aset_ne _ _ (fun q => by omega)]; exact aset_same _ _ _ _
  | 2, _, _ => rw [aset_ne _ _ (fun q => by omega), aset_ne _ _ (fun q => by omega), aset_ne _ _ (fun q => by omega)]; exact aset_same _ _ _ _
  | 3, _, _ => rw [aset_ne _ _ (fun q => by omega), aset_ne _ _ (fun q => by omega)]; exact aset_same _ _ _ _
  | 4, _, _ => rw [aset_ne _ _ (fun q => by omega)]; exact aset_same _ _ _ _
  | 5, _, _ => exact aset_same _ _ _ _
theorem i_0 : (0 : Int32).toInt = 0 := by decide
theorem sh_nn {a b : Int32} (h1 : 0 ≤ a.toInt) (h2 : a.toInt ≤ 1000000) (h3 : 0 ≤ b.toInt) (h4 : b.toInt ≤ 100) : 0 ≤ (a * b / 100).toInt := by
  have q1 : 0 ≤ a.toInt * b.toInt := Int.mul_nonneg h1 h3
  have q2 : a.toInt * b.toInt ≤ 1000000 * 100 := Int.mul_le_mul h2 h4 h3 (by omega)
  have q3 : (a * b).toInt = a.toInt * b.toInt := by
    rw [Int32.toInt_mul]
    exact Int.bmod_eq_of_le (by omega) (by omega)
  rw [Int32.toInt_div, q3, show (100 : Int32).toInt = 100 from by decide]
  have q4 : 0 ≤ (a.toInt * b.toInt).tdiv 100 := Int.tdiv_nonneg q1 (by decide)
  have q5 : (a.toInt * b.toInt).tdiv 100 ≤ a.toInt * b.toInt := by
    rw [Int.tdiv_eq_ediv_of_nonneg q1]
    omega
  rw [Int.bmod_eq_of_le (by omega) (by omega)]
  exact q4
theorem cpr_r {F : Nat → Int32} {A : Nat → Nat → Int32} {H : Nat → Int32} {x lh : Int32} (hH : ∀ k, 1 ≤ k → k < 6 → H k = A 11 k) (hc : A 11 0 = 0 ∨ A 11 0 = 1) (hb : ∀ k, 1 ≤ k → k < 6 → 0 ≤ A 11 k ∧ A 11 k ≤ 100) (hl : lh = A 25 3) (hx0 : 0 ≤ x.toInt) (hx1 : x.toInt ≤ 1000000) (hF : 0 ≤ (F 24).toInt) : ∀ k, k < 6 → cpr H (A 11 0) (A 11 6) x (F 24) lh k = rsp F A x k := by
  have e0 : cp0 (A 11 0) x (F 24) = rco F A x := by
    unfold cp0 rco
    rcases hc with c | c
    · rw [c, if_pos rfl, if_neg (by decide)]
    · rw [c, if_neg (by decide), if_pos rfl, imin_c]
  have hco : 0 ≤ (rco F A x).toInt ∧ (rco F A x).toInt ≤ x.toInt := by
    unfold rco
    split
    · rw [imin_i]; omega
    · rw [i_0]; omega
  have hlf : (x - rco F A x).toInt = x.toInt - (rco F A x).toInt := by
    rw [Int32.toInt_sub]
    exact Int.bmod_eq_of_le (by omega) (by omega)
  have es : ∀ k, 1 ≤ k → k < 6 → csh H (x - rco F A x) k = rsh A (x - rco F A x) k := fun k h1 h2 => by
    unfold csh rsh
    rw [hH k h1 h2]
  have e3 : cp3 H (A 11 6) lh (x - rco F A x) = rle A (x - rco F A x) := by
    unfold cp3 rle
    rw [es 3 (by decide) (by decide), hl]
    have hb3 := hb 3 (by decide) (by decide)
    have b1 := Int32.le_iff_toInt_le.mp hb3.1
    have b2 := Int32.le_iff_toInt_le.mp hb3.2
    rw [i_0] at b1
    rw [show (100 : Int32).toInt = 100 from by decide] at b2
    have hn : 0 ≤ (rsh A (x - rco F A x) 3).toInt := sh_nn (by omega) (by omega) b1 b2
    refine Int32.toInt_inj.mp ?_
    rw [imin_i, imax_i, imax_i, imin_i, i_0]
    omega
  intro k hk
  unfold cpr rsp
  match k, hk with
  | 0, _ => exact e0
  | 1, _ => show csh H (x - cp0 (A 11 0) x (F 24)) 1 = _; rw [e0]; exact es 1 (by decide) (by decide)
  | 2, _ => show csh H (x - cp0 (A 11 0) x (F 24)) 2 = _; rw [e0]; exact es 2 (by decide) (by decide)
  | 3, _ => show cp3 H (A 11 6) lh (x - cp0 (A 11 0) x (F 24)) = _; rw [e0]; exact e3
  | 4, _ =>
    show cp4 H (A 11 6) lh (x - cp0 (A 11 0) x (F 24)) = rdi A (x - rco F A x)
    rw [e0]
    unfold cp4 rdi
    rw [e3, es 1 (by decide) (by decide), es 2 (by decide) (by decide), es 5 (by decide) (by decide)]
    exact ringx _ _ _ _ _ _
  | 5, _ => show csh H (x - cp0 (A 11 0) x (F 24)) 5 = _; rw [e0]; exact es 5 (by decide) (by decide)
theorem rcnt_flip {p q : Nat → Prop} {j : Nat} (hp : ¬ p j) (hq : q j) : ∀ n, j < n → (∀ i, i < n → i ≠ j → (p i ↔ q i)) → rcnt p n + 1 = rcnt q n := by
  intro n
  induction n with
  | zero => intro h; omega
  | succ n ih =>
    intro hj h
    by_cases c : j = n
    · subst c
      rw [← rcnt_k hp, ← rcnt_1 hq, rcnt_c j (fun i hi => h i (by omega) (by omega))]
    · have ih := ih (by omega) (fun i hi hne => h i (by omega) hne)
      by_cases d : p n
      · rw [← rcnt_1 d, ← rcnt_1 ((h n (by omega) (fun z => c z.symm)).mp d), ← ih]
      · rw [← rcnt_k d, ← rcnt_k (fun y => d ((h n (by omega) (fun z => c z.symm)).mpr y)), ih]
theorem dX10_sell_0 : decode cX10_sell 0 = .ok (.aload_n 0, 1) := by decide +kernel
theorem dX10_sell_1 : decode cX10_sell 1 = .ok (.iload_n 1, 1) := by decide +kernel
theorem dX10_sell_2 : decode cX10_sell 2 = .ok (.invokevirtual 197, 3) := by decide +kernel
theorem dX10_sell_5 : decode cX10_sell 5 = .ok (.astore_n 3, 1) := by decide +kernel
theorem dX10_sell_6 : decode cX10_sell 6 = .ok (.iload_n 2, 1) := by decide +kernel
theorem dX10_sell_7 : decode cX10_sell 7 = .ok (.invokestatic 206, 3) := by decide +kernel
theorem dX10_sell_10 : decode cX10_sell 10 = .ok (.aload_n 3, 1) := by decide +kernel
theorem dX10_sell_11 : decode cX10_sell 11 = .ok (.invokevirtual 215, 3) := by decide +kernel
theorem dX10_sell_14 : decode cX10_sell 14 = .ok (.ifCond .eq 5, 3) := by decide +kernel
theorem dX10_sell_17 : decode cX10_sell 17 = .ok (.iconst (-1), 1) := by decide +kernel
theorem dX10_sell_18 : decode cX10_sell 18 = .ok (.ireturn, 1) := by decide +kernel
theorem dX10_sell_19 : decode cX10_sell 19 = .ok (.aload_n 3, 1) := by decide +kernel
theorem dX10_sell_20 : decode cX10_sell 20 = .ok (.iload_n 2, 1) := by decide +kernel
theorem dX10_sell_21 : decode cX10_sell 21 = .ok (.invokevirtual 218, 3) := by decide +kernel
theorem dX10_sell_24 : decode cX10_sell 24 = .ok (.istore 4, 2) := by decide +kernel
theorem dX10_sell_26 : decode cX10_sell 26 = .ok (.iload 4, 2) := by decide +kernel
theorem dX10_sell_28 : decode cX10_sell 28 = .ok (.iconst (-1), 1) := by decide +kernel
theorem dX10_sell_29 : decode cX10_sell 29 = .ok (.if_icmp .eq 13, 3) := by decide +kernel
theorem dX10_sell_32 : decode cX10_sell 32 = .ok (.aload_n 0, 1) := by decide +kernel
theorem dX10_sell_33 : decode cX10_sell 33 = .ok (.getfield 26, 3) := by decide +kernel
theorem dX10_sell_36 : decode cX10_sell 36 = .ok (.aload_n 3, 1) := by decide +kernel
theorem dX10_sell_37 : decode cX10_sell 37 = .ok (.iload 4, 2) := by decide +kernel
theorem dX10_sell_39 : decode cX10_sell 39 = .ok (.invokevirtual 221, 3) := by decide +kernel
theorem dX10_sell_42 : decode cX10_sell 42 = .ok (.iload 4, 2) := by decide +kernel
theorem dX10_sell_44 : decode cX10_sell 44 = .ok (.ireturn, 1) := by decide +kernel
set_option maxHeartbeats 4000000 in
set_option maxRecDepth 20000 in
theorem cw_sell {l : Launch} {E : Ev} {P : Value → AH → Prop} {PX : String → AH → Prop}  {x o ou n m : Nat} {F : Nat → Int32} {A : Nat → Nat → Int32} {Fm : Nat → Int32} {Am : Nat → Nat → Int32} {h : AH} (I9 : WI E x o ou F A n m Fm Am h) {s lim : Int32} (hl9 : l.stackTraces = false) (kx1 : s < 0 ∨ F 23 - 1 < s → PX "java/lang/IndexOutOfBoundsException" h) (kx2 : ∀ j, j < m → s = nI j → (lim < 0 ∨ 1000000 < lim) → PX "java/lang/IllegalArgumentException" h) (k3 : ∀ j, j < m → s = nI j → ¬ (lim < 0 ∨ 1000000 < lim) → ¬ A 21 (10 * j + 2) < 0 → P (.int (-1)) h) (k4 : ∀ j, j < m → s = nI j → ¬ (lim < 0 ∨ 1000000 < lim) → A 21 (10 * j + 2) < 0 → rbuy (A 22) (6 * j) lim 6 = -1 → P (.int (-1)) h) (k5 : ∀ j, j < m → s = nI j → ¬ (lim < 0 ∨ 1000000 < lim) → A 21 (10 * j + 2) < 0 → ∀ i, i < 6 → rbuy (A 22) (6 * j) lim 6 = nI i → ∀ h1, WI E x o ou (rpF (upd F 0 0) (rseA A j i) (A 22 (6 * j + i))) (rpA (upd F 0 0) (rseA A j i) (10 * j) (A 22 (6 * j + i))) n m Fm Am h1 → P (.int (nI i)) h1) : Mx l E yX10_sell cX10_sell 5 (some .int) 7 111 4 24 [.ref x, .int s, .int lim] (h) P PX := by
  refine Mx.of (by decide) (Nat.le_of_ble_eq_true rfl) ?_
  intro K hK hR htab C
  obtain ⟨ad, R, z, N, f, O, W, X, rfl, rfl, rfl⟩ := I9
  have hx : h (ad 0 0) = some (.inr (10, [.ref (ad 1 0), .ref (ad 3 0), .ref (ad 10 0), .ref (ad 20 0), .int (F 19)])) := W.at 0 0 rfl
  have hmk : h (ad 10 0) = some (.inr (4, [.ref (ad 11 0), .ref (ad 13 0), .ref (ad 14 0), .int (F 24), .int (z 3)])) := W.at 10 0 rfl
  have hhd : h (ad 13 0) = some (.inl (E.2.2 1, 6, .inl (R 13 0))) := W.at 13 0 rfl
  have hag : h (ad 14 0) = some (.inr (1, [.ref (ad 15 0), .int (A 11 0), .int (A 11 6)])) := W.at 14 0 rfl
  have hu : h (ad 15 0) = some (.inl (E.2.2 1, 6, .inl (R 15 0))) := W.at 15 0 rfl
  obtain ⟨hd2, hmN, hN2, hst, hal2⟩ := w_list2 W X
  refine g_aload_n (n := 1) C dX10_sell_0 rfl rfl ?_
  refine g_iload_n (n := 2) C dX10_sell_1 rfl rfl ?_
  refine g_callVx (n := 5) (As := [.int _]) C dX10_sell_2 rfl mw_X10_stoneOf w_1008 (g_recv C hx rfl) rfl rfl (room hR rfl) (cw_stoneOf W X (by rw [hK]; exact hl9) (fun j hj ej => ?_) (fun zx2 => ?_))
  · --k2.0
    subst ej
    have hsb := (hst j hj).2.1
    have hhs := (hst j hj).2.2.1
    have hsh := (hst j hj).2.2.2
    refine g_astore_n (n := 6) C dX10_sell_5 rfl (by decide) ?_
    refine g_iload_n (n := 7) C dX10_sell_6 rfl rfl ?_
    refine g_callSx (n := 10) (As := [.int _]) C dX10_sell_7 rfl mw_X10_checkMoney w_1019 rfl rfl (room hR rfl) (cw_money (by rw [hK]; exact hl9) (fun zm1 => ?_) (fun zm2 => ?_))
    · --k7.0
      refine g_aload_n (n := 11) C dX10_sell_10 rfl rfl ?_
      refine g_callV (n := 14) (As := []) C dX10_sell_11 rfl mw_X8_isSold w_1039 (g_recv C hsb rfl) rfl rfl (room hR rfl) (cc_isSold hsb (fun za11 => ?_) (fun zb11 => ?_))
      · --k11.0
        refine g_if_eq (n := 17) (t := 19) C dX10_sell_14 rfl (by decide) (fun zc14 => ?_) (fun zc14 => ?_)
        · exact absurd zc14 (by decide)
        refine g_iconst (n := 18) (v := (-1)) C dX10_sell_17 rfl (by decide) ?_
        refine g_x ?_
        refine g_iret C dX10_sell_18 (by decide) (by decide) ?_
        exact k3 j hj rfl zm1 (fun q => za11 ((m1_or (X.2.2.2.2.2.2.2.2.2.1 j hj).2.2.1).mp q))
      · --k11.1
        refine g_if_eq (n := 17) (t := 19) C dX10_sell_14 rfl (by decide) (fun zc14 => ?_) (fun zc14 => ?_)
        rotate_left
        · exact absurd zc14 (by decide)
        refine g_aload_n (n := 20) C dX10_sell_19 rfl rfl ?_
        refine g_iload_n (n := 21) C dX10_sell_20 rfl rfl ?_
        refine g_callV (n := 24) (As := [.int _]) C dX10_sell_21 rfl mw_X8_buyerFor w_1040 (g_recv C hsb rfl) rfl rfl (room hR rfl) (cc_buyerFor hsb hhs ?_)
        refine g_istore (n := 26) C dX10_sell_24 rfl (by decide) ?_
        refine g_iload (n := 28) C dX10_sell_26 rfl rfl ?_
        refine g_iconst (n := 29) (v := (-1)) C dX10_sell_28 rfl (by decide) ?_
        refine g_icmp_eq (n := 32) (t := 42) C dX10_sell_29 rfl (by decide) (fun zc29 => ?_) (fun zc29 => ?_)
        · --t29
          refine g_iload (n := 44) C dX10_sell_42 rfl rfl ?_
          refine g_x ?_
          refine g_iret C dX10_sell_44 (by decide) (by decide) ?_
          have hbuy := buy_r (G := R 17 j) (H9 := A 22) (c := 6 * j) (lim := lim) (fun q => zm1 (Or.inl q)) (fun b hb => ((X.2.2.2.2.2.2.2.2.2.1 j hj).1 b hb).1) 6 (Nat.le_refl _)
          have hm1 : rbuy (A 22) (6 * j) lim 6 = -1 := hbuy.1.symm.trans zc29
          rw [zc29]
          exact k4 j hj rfl zm1 ((m1_or (X.2.2.2.2.2.2.2.2.2.1 j hj).2.2.1).mpr zb11) hm1
        · --f29
          have hlim0 : ¬ lim < 0 := fun q => zm1 (Or.inl q)
          have hbuy := buy_r (G := R 17 j) (H9 := A 22) (c := 6 * j) (lim := lim) hlim0 (fun b hb => ((X.2.2.2.2.2.2.2.2.2.1 j hj).1 b hb).1) 6 (Nat.le_refl _)
          have hsome : ∃ i, i < 6 ∧ rbuy (A 22) (6 * j) lim 6 = nI i ∧ ¬ A 22 (6 * j + i) < lim := by
            rcases hbuy.2 with ⟨q, -⟩ | ⟨i, hi, h1, -, h3⟩
            · exact absurd (hbuy.1.trans q) zc29
            · exact ⟨i, hi, h1, h3⟩
          obtain ⟨i, hi, hri, hnl⟩ := hsome
          have hbi : (cbuy (R 17 j) lim 6).1 = nI i := hbuy.1.trans hri
          rw [hbi]
          refine g_aload_n (n := 33) C dX10_sell_32 rfl rfl ?_
          refine g_get (n := 36) (T := TX10) C 2 dX10_sell_33 rfl hx rfl rfl (by decide) inX10 w_236 rfl ?_
          refine g_aload_n (n := 37) C dX10_sell_36 rfl rfl ?_
          refine g_iload (n := 39) C dX10_sell_37 rfl rfl ?_
          refine g_callV (n := 42) (As := [.ref _, .int _]) C dX10_sell_39 rfl mw_X4_sellTo w_1044 (g_recv C hmk rfl) rfl rfl (room hR rfl) (cc_sellTo hmk hhd hsb hhs hsh hag hu (lA_three (List.not_mem_cons_of_ne_of_not_mem (W.ne (c := 10) (i := 0) (d := 13) (j := 0) rfl rfl (fun q _ => absurd q (by decide))) (List.not_mem_cons_of_ne_of_not_mem (W.ne (c := 10) (i := 0) (d := 16) (j := j) rfl (show wV (wL E ad F A R z N f n m Fm Am O) 16 j = some (stE A ad j) from many_at (g := stE A ad) hj) (fun q _ => absurd q (by decide))) List.not_mem_nil)) (W.ne (c := 13) (i := 0) (d := 16) (j := j) rfl (show wV (wL E ad F A R z N f n m Fm Am O) 16 j = some (stE A ad j) from many_at (g := stE A ad) hj) (fun q _ => absurd q (by decide)))) (List.not_mem_cons_of_ne_of_not_mem (W.ne (c := 18) (i := j) (d := 10) (j := 0) (show wV (wL E ad F A R z N f n m Fm Am O) 18 j = some (rwE E R 18 j) from many_at (g := rwE E R 18) hj) rfl (fun q _ => absurd q (by decide))) (List.not_mem_cons_of_ne_of_not_mem (W.ne (c := 18) (i := j) (d := 13) (j := 0) (show wV (wL E ad F A R z N f n m Fm Am O) 18 j = some (rwE E R 18 j) from many_at (g := rwE E R 18) hj) rfl (fun q _ => absurd q (by decide))) (List.not_mem_cons_of_ne_of_not_mem (W.ne (c := 18) (i := j) (d := 16) (j := j) (show wV (wL E ad F A R z N f n m Fm Am O) 18 j = some (rwE E R 18 j) from many_at (g := rwE E R 18) hj) (show wV (wL E ad F A R z N f n m Fm Am O) 16 j = some (stE A ad j) from many_at (g := stE A ad) hj) (fun q _ => absurd q (by decide))) List.not_mem_nil))) (List.not_mem_cons_of_ne_of_not_mem (W.ne (c := 17) (i := j) (d := 10) (j := 0) (show wV (wL E ad F A R z N f n m Fm Am O) 17 j = some (rwE E R 17 j) from many_at (g := rwE E R 17) hj) rfl (fun q _ => absurd q (by decide))) (List.not_mem_cons_of_ne_of_not_mem (W.ne (c := 17) (i := j) (d := 13) (j := 0) (show wV (wL E ad F A R z N f n m Fm Am O) 17 j = some (rwE E R 17 j) from many_at (g := rwE E R 17) hj) rfl (fun q _ => absurd q (by decide))) (List.not_mem_cons_of_ne_of_not_mem (W.ne (c := 17) (i := j) (d := 16) (j := j) (show wV (wL E ad F A R z N f n m Fm Am O) 17 j = some (rwE E R 17 j) from many_at (g := rwE E R 17) hj) (show wV (wL E ad F A R z N f n m Fm Am O) 16 j = some (stE A ad j) from many_at (g := stE A ad) hj) (fun q _ => absurd q (by decide))) List.not_mem_nil))) (List.not_mem_cons_of_ne_of_not_mem (W.ne (c := 14) (i := 0) (d := 10) (j := 0) rfl rfl (fun q _ => absurd q (by decide))) (List.not_mem_cons_of_ne_of_not_mem (W.ne (c := 14) (i := 0) (d := 13) (j := 0) rfl rfl (fun q _ => absurd q (by decide))) (List.not_mem_cons_of_ne_of_not_mem (W.ne (c := 14) (i := 0) (d := 16) (j := j) rfl (show wV (wL E ad F A R z N f n m Fm Am O) 16 j = some (stE A ad j) from many_at (g := stE A ad) hj) (fun q _ => absurd q (by decide))) List.not_mem_nil))) (List.not_mem_cons_of_ne_of_not_mem (W.ne (c := 15) (i := 0) (d := 10) (j := 0) rfl rfl (fun q _ => absurd q (by decide))) (List.not_mem_cons_of_ne_of_not_mem (W.ne (c := 15) (i := 0) (d := 13) (j := 0) rfl rfl (fun q _ => absurd q (by decide))) (List.not_mem_cons_of_ne_of_not_mem (W.ne (c := 15) (i := 0) (d := 16) (j := j) rfl (show wV (wL E ad F A R z N f n m Fm Am O) 16 j = some (stE A ad j) from many_at (g := stE A ad) hj) (fun q _ => absurd q (by decide))) List.not_mem_nil))) (List.not_mem_cons_of_ne_of_not_mem (W.ne (c := 14) (i := 0) (d := 18) (j := j) rfl (show wV (wL E ad F A R z N f n m Fm Am O) 18 j = some (rwE E R 18 j) from many_at (g := rwE E R 18) hj) (fun q _ => absurd q (by decide))) List.not_mem_nil) (List.not_mem_cons_of_ne_of_not_mem (W.ne (c := 15) (i := 0) (d := 18) (j := j) rfl (show wV (wL E ad F A R z N f n m Fm Am O) 18 j = some (rwE E R 18 j) from many_at (g := rwE E R 18) hj) (fun q _ => absurd q (by decide))) List.not_mem_nil) hi (fun S9 hS9 => ?_))
          refine g_iload (n := 44) C dX10_sell_42 rfl rfl ?_
          refine g_x ?_
          refine g_iret C dX10_sell_44 (by decide) (by decide) ?_
          have hb9 := X.2.2.2.2.2.2.2.2.2.1 j hj
          have hx := (hb9.1 i hi)
          have hxe : R 17 j i = A 22 (6 * j + i) := hx.1
          have hlim : 0 ≤ lim.toInt := by
            have := Int32.le_iff_toInt_le.mp (Int32.not_lt.mp hlim0)
            rw [i_0] at this
            exact this
          have hx0 : 0 ≤ (A 22 (6 * j + i)).toInt := by
            have := Int32.le_iff_toInt_le.mp (Int32.not_lt.mp hnl)
            omega
          have hx1 : (A 22 (6 * j + i)).toInt ≤ 1000000 := by
            rcases hx.2 with q | q
            · rw [q, show (-1 : Int32).toInt = -1 from by decide] at hx0
              omega
            · have := Int32.le_iff_toInt_le.mp q.2
              rw [show (1000000 : Int32).toInt = 1000000 from by decide] at this
              exact this
          have hF24 := X.2.2.2.2.2.2.2.2.2.2.2.2.2
          have hF0 : 0 ≤ (F 24).toInt := by
            have := Int32.le_iff_toInt_le.mp hF24.2.2.1
            rw [i_0] at this
            exact this
          have hF1 : (F 24).toInt ≤ 10000000 := by
            have := Int32.le_iff_toInt_le.mp hF24.2.2.2
            rw [show (10000000 : Int32).toInt = 10000000 from by decide] at this
            exact this
          rw [hxe] at hS9
          have hsp : ∀ k, k < 6 → S9 k = rsp F A (A 22 (6 * j + i)) k := fun k hk => (hS9 k hk).trans (cpr_r (X.2.2.2.2.2.2.2.1).2 (X.2.2.2.2.2.2.2.2.1).2.1 (X.2.2.2.2.2.2.2.2.1).2.2.1 (X.2.2.2.2.2.2.1 3 (by decide) (by decide)) hx0 hx1 hF0 k hk)
          have hS0 : S9 0 = rco F A (A 22 (6 * j + i)) := hsp 0 (by decide)
          have hco : 0 ≤ (rco F A (A 22 (6 * j + i))).toInt ∧ (rco F A (A 22 (6 * j + i))).toInt ≤ (F 24).toInt := by
            unfold rco
            split
            · rw [imin_i]; omega
            · rw [i_0]; omega
          have hFs : (F 24 - rco F A (A 22 (6 * j + i))).toInt = (F 24).toInt - (rco F A (A 22 (6 * j + i))).toInt := by
            rw [Int32.toInt_sub]
            exact Int.bmod_eq_of_le (by omega) (by omega)
          have h24a : 0 ≤ F 24 - rco F A (A 22 (6 * j + i)) := Int32.le_iff_toInt_le.mpr (by rw [hFs, i_0]; omega)
          have h24b : F 24 - rco F A (A 22 (6 * j + i)) ≤ 10000000 := Int32.le_iff_toInt_le.mpr (by rw [hFs, show (10000000 : Int32).toInt = 10000000 from by decide]; omega)
          rw [LW_cons, LW_cons, LW_cons, LW_cons, LW_nil, hxe, hS0]
          dsimp only
          obtain ⟨Aq, hAq⟩ : ∃ Aq, Aq = (rqA F A j i (A 22 (6 * j + i))) := ⟨_, rfl⟩
          have hrow : ∀ k, k ≠ 21 → k ≠ 25 → Aq k = A k := fun k h1 h2 => by rw [hAq]; exact rq_row h1 h2
          have ho : ∀ b, b < 10 * j + 2 ∨ 10 * j + 10 ≤ b → Aq 21 b = A 21 b := fun b hb => by rw [hAq]; exact rq_o hb
          have h2q : Aq 21 (10 * j + 2) = nI i := by rw [hAq]; exact rq_2
          have h3q : Aq 21 (10 * j + 3) = (A 22 (6 * j + i)) := by rw [hAq]; exact rq_3
          have hsq : ∀ k, k < 6 → Aq 21 (10 * j + 4 + k) = S9 k := fun k hk => by rw [hAq, hsp k hk]; exact rq_s k hk
          have hhq : ∀ k, 1 ≤ k → k < 6 → Aq 25 k = A 25 k + S9 k := fun k h1 hk => by rw [hAq, hsp k hk]; exact rq_h k h1 hk
          have hni : ¬ nI i < 0 := Int32.not_lt.mpr (nI_le (a := 0) (Nat.zero_le _) (by omega))
          have W1 := (((W.many 18 (g := rwE E R 18) (rwE E (rset (rset R 18 j S9) 13 0 (hadd (R 13 0) S9 6)) 18) (.inl (E.2.2 1, 6, .inl S9)) rfl hj (fun a ha hne => by simp [rset, hne]) (by simp [rset])).many 16 (g := stE A ad) (stE Aq ad) (.inr (8, [.int (A 21 (10 * j)), .int (A 21 (10 * j + 1)), .ref (ad 17 j), .ref (ad 18 j), .int (nI i), .int (A 22 (6 * j + i))])) rfl hj (fun a ha hne => by
            unfold stE
            rw [ho _ (by omega), ho _ (by omega), ho _ (by omega), ho _ (by omega)]) (by
            unfold stE
            rw [ho _ (by omega), ho _ (by omega), h2q, h3q])).one 13 (.inl (E.2.2 1, 6, .inl (hadd (R 13 0) S9 6))) rfl).one 10 (.inr (4, [.ref (ad 11 0), .ref (ad 13 0), .ref (ad 14 0), .int (F 24 - rco F A (A 22 (6 * j + i))), .int (z 3 + 1)])) rfl
          refine k5 j hj rfl zm1 ((m1_or hb9.2.2.1).mpr zb11) i hi hri _ ?_
          rw [show rpA (upd F 0 0) (rseA A j i) (10 * j) (A 22 (6 * j + i)) = Aq from hAq.symm]
          have hL : wL E ad (rpF (upd F 0 0) (rseA A j i) (A 22 (6 * j + i))) Aq (rset (rset R 18 j S9) 13 0 (hadd (R 13 0) S9 6)) (nset z 3 (z 3 + 1)) N f n m Fm Am O = wL E ad (rpF (upd F 0 0) (rseA A j i) (A 22 (6 * j + i))) (fun k => if k = 21 then Aq 21 else if k = 25 then Aq 25 else A k) (rset (rset R 18 j S9) 13 0 (hadd (R 13 0) S9 6)) (nset z 3 (z 3 + 1)) N f n m Fm Am O := by
            rw [show (fun k => if k = 21 then Aq 21 else if k = 25 then Aq 25 else A k) = Aq from by
              funext k
              by_cases c1 : k = 21
              · rw [if_pos c1, c1]
              · by_cases c2 : k = 25
                · rw [if_neg c1, if_pos c2, c2]
                · rw [if_neg c1, if_neg c2, hrow k c1 c2]]
          have X1 : CR E ad (rpF (upd F 0 0) (rseA A j i) (A 22 (6 * j + i))) Aq (rset (rset R 18 j S9) 13 0 (hadd (R 13 0) S9 6)) (nset z 3 (z 3 + 1)) N f n m := by
            unfold CR
            rw [hrow 14 (by decide) (by decide), hrow 11 (by decide) (by decide), hrow 22 (by decide) (by decide), hrow 28 (by decide) (by decide), hrow 5 (by decide) (by decide), hrow 6 (by decide) (by decide)]
            exact ⟨X.1, X.2.1, X.2.2.1, fun q hq => ⟨(X.2.2.2.1 q hq).1.trans (rlow_c n (fun a _ => ⟨by rw [hrow 5 (by decide) (by decide)], by rw [hrow 3 (by decide) (by decide)]⟩)), (X.2.2.2.1 q hq).2.trans (rhigh_c n (fun a _ => ⟨by rw [hrow 5 (by decide) (by decide)], by rw [hrow 3 (by decide) (by decide)]⟩))⟩, X.2.2.2.2.1, X.2.2.2.2.2.1, fun k h1 h2 => by
              rw [hhq k h1 h2, ← X.2.2.2.2.2.2.1 k h1 h2]
              exact if_pos ⟨h1, h2⟩, X.2.2.2.2.2.2.2.1, X.2.2.2.2.2.2.2.2.1, fun a ha => by
              by_cases c : a = j
              · subst c
                refine ⟨hb9.1, fun k hk => ?_, Or.inr ?_, fun h => ?_⟩
                · rw [hsq k hk]
                  simp [rset]
                · rw [h2q]; exact Int32.not_lt.mp hni
                · rw [h2q] at h; exact absurd h hni
              · obtain ⟨g1, g2, g3, g4⟩ := X.2.2.2.2.2.2.2.2.2.1 a ha
                refine ⟨g1, fun k hk => ?_, ?_, fun h k hk => ?_⟩
                · rw [ho _ (by omega), ← g2 k hk]
                  simp [rset, c]
                · rw [ho _ (by omega)]; exact g3
                · rw [ho _ (by omega)] at h ⊢
                  exact g4 h k hk, ⟨by
              show z 3 + 1 = _
              rw [X.2.2.2.2.2.2.2.2.2.2.1.1]
              exact rcnt_flip (fun q => q ((m1_or hb9.2.2.1).mpr zb11)) (by rw [h2q]; exact hni) m hj (fun a ha hne => by rw [ho _ (by omega)]), fun b hb => by rw [ho _ (by omega)]; exact X.2.2.2.2.2.2.2.2.2.2.1.2 b hb⟩, X.2.2.2.2.2.2.2.2.2.2.2.1, X.2.2.2.2.2.2.2.2.2.2.2.2.1, ⟨hF24.1, hF24.2.1, h24a, h24b⟩⟩
          exact ⟨ad, (rset (rset R 18 j S9) 13 0 (hadd (R 13 0) S9 6)), nset z 3 (z 3 + 1), N, f, O, W1.cast (by rw [hL]; rfl), X1, rfl, rfl, rfl⟩
    · --k7.1
      exact g_out C htab (by decide) (by decide) (kx2 j hj rfl zm2)
  · --k2.1
    exact g_out C htab (by decide) (by decide) (kx1 zx2)
